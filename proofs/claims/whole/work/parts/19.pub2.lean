/-! contracts: the council's own methods, second part -/
theorem cHo_congr {h h' : HP} {a o : Nat} {now : Int64} (e1 : vI h' a = vI h a) (e2 : vL h' a = vL h a) (e3 : vL h' o = vL h o) : cHo h' a o now = cHo h a o now := by unfold cHo; rw [cLo_congr e1 e2 e3, cHi_congr e1 e2 e3]
set_option maxRecDepth 100000 in
set_option maxHeartbeats 4000000 in
theorem ct_ask0a {g : GG} {h : HP} {Post : Option Value → HP → Prop} (nm : Nat) (x : Int32) (y : Int32)  (hr : SR h) (hM : SM h nm) (hx : ¬ inR x nm) (hy : ¬ inR y nm) (hp : Post (some (.long (-9000000000000000000))) h) : CT g mX6_ask [.ref 1, .int x, .int y] h Post := by
  show WP g mX6_ask 0 [(0, .ref 1), (1, .int x), (2, .int y)] [] h 0 0 Post
  have hnm := hM.1
  have hc2 := hM.2.1
  refine wp_aload_n dX6_ask_0 rfl 0 rfl ?_
  refine wp_iload_n dX6_ask_1 rfl 1 rfl ?_
  refine wp_callV mX6_findMember 1 [.int x] [] (c := 6) dX6_ask_2 iX6_findMember (fun _ => trivial) mlX6_64 imX6_findMember seX6_findMember (by decide) rfl rfl ⟨by decide, by decide⟩ rfl rfl (Nat.le_of_ble_eq_true rfl) (Nat.le_of_ble_eq_true rfl) (by decide) (by decide) ?_
  refine ct_findMember0 nm x hr hM.2.1 (by have := hM.1; omega) hx ?_
  show WP g mX6_ask 5 [(0, .ref 1), (1, .int x), (2, .int y)] [.null] _ 0 0 _
  refine wp_astore_nN (lv' := [(3, .null), (0, .ref 1), (1, .int x), (2, .int y)]) dX6_ask_5 rfl (by decide) rfl ?_
  refine wp_aload_n dX6_ask_6 rfl 1 rfl ?_
  refine wp_iload_n dX6_ask_7 rfl 3 rfl ?_
  refine wp_callV mX6_findMember 1 [.int y] [] (c := 6) dX6_ask_8 iX6_findMember (fun _ => trivial) mlX6_64 imX6_findMember seX6_findMember (by decide) rfl rfl ⟨by decide, by decide⟩ rfl rfl (Nat.le_of_ble_eq_true rfl) (Nat.le_of_ble_eq_true rfl) (by decide) (by decide) ?_
  refine ct_findMember0 nm y hr hM.2.1 (by have := hM.1; omega) hy ?_
  show WP g mX6_ask 11 [(3, .null), (0, .ref 1), (1, .int x), (2, .int y)] [.null] _ 0 0 _
  refine wp_astoreN (lv' := [(4, .null), (3, .null), (0, .ref 1), (1, .int x), (2, .int y)]) dX6_ask_11 (by decide) rfl ?_
  refine wp_aload_nN dX6_ask_13 rfl 1 rfl ?_
  refine wp_ifnullN (tgt := 27) dX6_ask_14 (by decide) ?_
  refine wp_ldc2 dX6_ask_27 cnX6_58 ?_
  refine wp_lret dX6_ask_30 rfl (by decide) (by decide) ?_
  exact hp
set_option maxRecDepth 100000 in
set_option maxHeartbeats 4000000 in
theorem ct_ask0b {g : GG} {h : HP} {Post : Option Value → HP → Prop} (nm : Nat) (x : Int32)  (hr : SR h) (hM : SM h nm) (hx : ¬ inR x nm) (j : Nat) (hj : j < nm) (hp : Post (some (.long (-9000000000000000000))) h) : CT g mX6_ask [.ref 1, .int x, .int (nI j)] h Post := by
  show WP g mX6_ask 0 [(0, .ref 1), (1, .int x), (2, .int (nI j))] [] h 0 0 Post
  have hnm := hM.1
  have hc2 := hM.2.1
  obtain ⟨hej, hlj, -⟩ := hM.2.2.1 j hj
  have hkj : kd (1000 + j) = 2 := kd_mem (by omega)
  refine wp_aload_n dX6_ask_0 rfl 0 rfl ?_
  refine wp_iload_n dX6_ask_1 rfl 1 rfl ?_
  refine wp_callV mX6_findMember 1 [.int x] [] (c := 6) dX6_ask_2 iX6_findMember (fun _ => trivial) mlX6_64 imX6_findMember seX6_findMember (by decide) rfl rfl ⟨by decide, by decide⟩ rfl rfl (Nat.le_of_ble_eq_true rfl) (Nat.le_of_ble_eq_true rfl) (by decide) (by decide) ?_
  refine ct_findMember0 nm x hr hM.2.1 (by have := hM.1; omega) hx ?_
  show WP g mX6_ask 5 [(0, .ref 1), (1, .int x), (2, .int (nI j))] [.null] _ 0 0 _
  refine wp_astore_nN (lv' := [(3, .null), (0, .ref 1), (1, .int x), (2, .int (nI j))]) dX6_ask_5 rfl (by decide) rfl ?_
  refine wp_aload_n dX6_ask_6 rfl 1 rfl ?_
  refine wp_iload_n dX6_ask_7 rfl 3 rfl ?_
  refine wp_callV mX6_findMember 1 [.int (nI j)] [] (c := 6) dX6_ask_8 iX6_findMember (fun _ => trivial) mlX6_64 imX6_findMember seX6_findMember (by decide) rfl rfl ⟨by decide, by decide⟩ rfl rfl (Nat.le_of_ble_eq_true rfl) (Nat.le_of_ble_eq_true rfl) (by decide) (by decide) ?_
  refine ct_findMember nm j hr hc2 hnm hj hej ?_
  show WP g mX6_ask 11 [(3, .null), (0, .ref 1), (1, .int x), (2, .int (nI j))] [.ref (1000 + j)] _ 0 0 _
  refine wp_astore (lv' := [(4, .ref (1000 + j)), (3, .null), (0, .ref 1), (1, .int x), (2, .int (nI j))]) dX6_ask_11 (by decide) rfl ?_
  refine wp_aload_nN dX6_ask_13 rfl 1 rfl ?_
  refine wp_ifnullN (tgt := 27) dX6_ask_14 (by decide) ?_
  refine wp_ldc2 dX6_ask_27 cnX6_58 ?_
  refine wp_lret dX6_ask_30 rfl (by decide) (by decide) ?_
  exact hp
set_option maxRecDepth 100000 in
set_option maxHeartbeats 4000000 in
theorem ct_ask1 {g : GG} {h : HP} {Post : Option Value → HP → Prop} (nm i : Nat) (hr : SR h) (hM : SM h nm) (hi : i < nm) (y : Int32)  (hy : ¬ inR y nm) (hp : Post (some (.long (-9000000000000000000))) h) : CT g mX6_ask [.ref 1, .int (nI i), .int y] h Post := by
  show WP g mX6_ask 0 [(0, .ref 1), (1, .int (nI i)), (2, .int y)] [] h 0 0 Post
  have hnm := hM.1
  have hc2 := hM.2.1
  obtain ⟨he, hl, hlo, hlr, ho, h9, hnum, hbs, hbn⟩ := hM.2.2.1 i hi
  have hk : kd (1000 + i) = 2 := kd_mem (by omega)
  have hko : kd (2000 + i) = 4 := kd_own (by omega)
  have hkr : kd (3000 + i) = 14 := kd_arr (by omega)
  refine wp_aload_n dX6_ask_0 rfl 0 rfl ?_
  refine wp_iload_n dX6_ask_1 rfl 1 rfl ?_
  refine wp_callV mX6_findMember 1 [.int (nI i)] [] (c := 6) dX6_ask_2 iX6_findMember (fun _ => trivial) mlX6_64 imX6_findMember seX6_findMember (by decide) rfl rfl ⟨by decide, by decide⟩ rfl rfl (Nat.le_of_ble_eq_true rfl) (Nat.le_of_ble_eq_true rfl) (by decide) (by decide) ?_
  refine ct_findMember nm i hr hc2 hnm hi he ?_
  show WP g mX6_ask 5 [(0, .ref 1), (1, .int (nI i)), (2, .int y)] [.ref (1000 + i)] _ 0 0 _
  refine wp_astore_n (lv' := [(3, .ref (1000 + i)), (0, .ref 1), (1, .int (nI i)), (2, .int y)]) dX6_ask_5 rfl (by decide) rfl ?_
  refine wp_aload_n dX6_ask_6 rfl 1 rfl ?_
  refine wp_iload_n dX6_ask_7 rfl 3 rfl ?_
  refine wp_callV mX6_findMember 1 [.int y] [] (c := 6) dX6_ask_8 iX6_findMember (fun _ => trivial) mlX6_64 imX6_findMember seX6_findMember (by decide) rfl rfl ⟨by decide, by decide⟩ rfl rfl (Nat.le_of_ble_eq_true rfl) (Nat.le_of_ble_eq_true rfl) (by decide) (by decide) ?_
  refine ct_findMember0 nm y hr hM.2.1 (by have := hM.1; omega) hy ?_
  show WP g mX6_ask 11 [(3, .ref (1000 + i)), (0, .ref 1), (1, .int (nI i)), (2, .int y)] [.null] _ 0 0 _
  refine wp_astoreN (lv' := [(4, .null), (3, .ref (1000 + i)), (0, .ref 1), (1, .int (nI i)), (2, .int y)]) dX6_ask_11 (by decide) rfl ?_
  refine wp_aload_n dX6_ask_13 rfl 1 rfl ?_
  refine wp_ifnull dX6_ask_14 ?_
  refine wp_aloadN dX6_ask_17 0 rfl ?_
  refine wp_ifnullN (tgt := 27) dX6_ask_19 (by decide) ?_
  refine wp_ldc2 dX6_ask_27 cnX6_58 ?_
  refine wp_lret dX6_ask_30 rfl (by decide) (by decide) ?_
  exact hp
def okAs (h : HP) (i j : Nat) : Prop := i ≠ j ∧ ¬ (vI h (1000 + i) 1).toInt = 0 ∧ (vI h (1000 + i) 7).toInt = 0
def asH (h : HP) (nl i j : Nat) : HP := alH (ltN (sN h (5000 + nl)) (5000 + nl) (1000 + i) (1000 + j) (cCn h (1000 + i) (vL h 1 0))) nl (5000 + nl)
/-- the root stands over a letter made new -/
theorem SR_lt {h : HP} {b m n : Nat} {t : Int64} (hb : 5000 ≤ b) (hr : SR h) : SR (ltN (sN h b) b m n t) := by
  obtain ⟨h1, h2, h3, h4, h5, p1, p2, p3, p4, p5, g1, g2, g3, g4, q1, q2, q3⟩ := hr
  have e : ∀ a, a < 100 → vP (ltN (sN h b) b m n t) a = vP h a := by
    intro a ha
    unfold ltN
    show vP (sP (sP (sN h b) b 0 _) b 1 _) a = _
    rw [vPn (by omega), vPn (by omega), vP_N (by omega)]
  refine ⟨livN h1, livN h2, livN h3, livN h4, livN h5, ?_, ?_, ?_, ?_, ?_, livN g1, livN g2, livN g3, livN g4, ?_, ?_, ?_⟩ <;> rw [e _ (by omega)] <;> assumption
theorem vI_lt {h : HP} {b m n : Nat} {t : Int64} {a : Nat} (ha : a ≠ b) : vI (ltN (sN h b) b m n t) a = vI h a := by
  unfold ltN; rw [vIn ha]; show vI (sN h b) a = _; exact vI_N ha
theorem vL_lt {h : HP} {b m n : Nat} {t : Int64} {a : Nat} (ha : a ≠ b) : vL (ltN (sN h b) b m n t) a = vL h a := by
  unfold ltN; show vL (sL _ b 2 t) a = _; rw [vLn ha]; show vL (sN h b) a = _; exact vL_N ha
set_option maxRecDepth 100000 in
set_option maxHeartbeats 4000000 in
theorem ct_ask {g : GG} {h : HP} {Post : Option Value → HP → Prop} (nm i : Nat) (hr : SR h) (hM : SM h nm) (hi : i < nm) (nl j : Nat) (hL : SL h nm nl) (hj : j < nm) (hno : ¬ okAs h i j → Post (some (.long (-9000000000000000000))) h) (hyes : okAs h i j → Post (some (.long (Int32.toInt64 (nI nl)))) (asH h nl i j)) : CT g mX6_ask [.ref 1, .int (nI i), .int (nI j)] h Post := by
  show WP g mX6_ask 0 [(0, .ref 1), (1, .int (nI i)), (2, .int (nI j))] [] h 0 0 Post
  have hnm := hM.1
  have hc2 := hM.2.1
  obtain ⟨he, hl, hlo, hlr, ho, h9, hnum, hbs, hbn⟩ := hM.2.2.1 i hi
  have hk : kd (1000 + i) = 2 := kd_mem (by omega)
  have hko : kd (2000 + i) = 4 := kd_own (by omega)
  have hkr : kd (3000 + i) = 14 := kd_arr (by omega)
  obtain ⟨hej, hlj, -⟩ := hM.2.2.1 j hj
  have hkj : kd (1000 + j) = 2 := kd_mem (by omega)
  have hnl := hL.1
  refine wp_aload_n dX6_ask_0 rfl 0 rfl ?_
  refine wp_iload_n dX6_ask_1 rfl 1 rfl ?_
  refine wp_callV mX6_findMember 1 [.int (nI i)] [] (c := 6) dX6_ask_2 iX6_findMember (fun _ => trivial) mlX6_64 imX6_findMember seX6_findMember (by decide) rfl rfl ⟨by decide, by decide⟩ rfl rfl (Nat.le_of_ble_eq_true rfl) (Nat.le_of_ble_eq_true rfl) (by decide) (by decide) ?_
  refine ct_findMember nm i hr hc2 hnm hi he ?_
  show WP g mX6_ask 5 [(0, .ref 1), (1, .int (nI i)), (2, .int (nI j))] [.ref (1000 + i)] _ 0 0 _
  refine wp_astore_n (lv' := [(3, .ref (1000 + i)), (0, .ref 1), (1, .int (nI i)), (2, .int (nI j))]) dX6_ask_5 rfl (by decide) rfl ?_
  refine wp_aload_n dX6_ask_6 rfl 1 rfl ?_
  refine wp_iload_n dX6_ask_7 rfl 3 rfl ?_
  refine wp_callV mX6_findMember 1 [.int (nI j)] [] (c := 6) dX6_ask_8 iX6_findMember (fun _ => trivial) mlX6_64 imX6_findMember seX6_findMember (by decide) rfl rfl ⟨by decide, by decide⟩ rfl rfl (Nat.le_of_ble_eq_true rfl) (Nat.le_of_ble_eq_true rfl) (by decide) (by decide) ?_
  refine ct_findMember nm j hr hc2 hnm hj hej ?_
  show WP g mX6_ask 11 [(3, .ref (1000 + i)), (0, .ref 1), (1, .int (nI i)), (2, .int (nI j))] [.ref (1000 + j)] _ 0 0 _
  refine wp_astore (lv' := [(4, .ref (1000 + j)), (3, .ref (1000 + i)), (0, .ref 1), (1, .int (nI i)), (2, .int (nI j))]) dX6_ask_11 (by decide) rfl ?_
  refine wp_aload_n dX6_ask_13 rfl 1 rfl ?_
  refine wp_ifnull dX6_ask_14 ?_
  refine wp_aload dX6_ask_17 0 rfl ?_
  refine wp_ifnull dX6_ask_19 ?_
  refine wp_iload_n dX6_ask_22 rfl 3 rfl ?_
  refine wp_iload_n dX6_ask_23 rfl 4 rfl ?_
  refine wi_icmp_ne (tgt := 31) ((i : Nat)) ((j : Nat)) (nIt (by omega)) (nIt (by omega)) dX6_ask_24 (by decide) (fun c_1 => ?_) (fun c_1 => ?_)
  · refine wp_aload_n dX6_ask_31 rfl 1 rfl ?_
    refine wp_getI dX6_ask_32 flX6_92 rfl hk hl ?_
    refine wi_if_eq (tgt := 55) (Int32.toInt (vI h (1000 + i) 1)) rfl dX6_ask_35 (by decide) (fun c_2 => ?_) (fun c_2 => ?_)
    · refine wp_ldc2 dX6_ask_55 cnX6_58 ?_
      refine wp_lret dX6_ask_58 rfl (by decide) (by decide) ?_
      exact hno (fun q => by unfold okAs at q; omega)
    · refine wp_aload_n dX6_ask_38 rfl 1 rfl ?_
      refine wp_getI dX6_ask_39 flX6_105 rfl hk hl ?_
      refine wi_if_ne (tgt := 55) (Int32.toInt (vI h (1000 + i) 7)) rfl dX6_ask_42 (by decide) (fun c_3 => ?_) (fun c_3 => ?_)
      · refine wp_ldc2 dX6_ask_55 cnX6_58 ?_
        refine wp_lret dX6_ask_58 rfl (by decide) (by decide) ?_
        exact hno (fun q => by unfold okAs at q; omega)
      · refine wp_aload_n dX6_ask_45 rfl 2 rfl ?_
        refine wv_getI (nI nl) dX6_ask_46 flX6_29 rfl rfl hr.1 hL.2.1 ?_
        refine wp_sipush (v := 200) dX6_ask_49 (by decide) ?_
        refine wi_icmp_lt (tgt := 59) ((nl : Nat)) (200) (nIt (by omega)) (by decide) dX6_ask_52 (by decide) (fun _ => ?_) (fun c_4 => absurd (by omega) c_4)
        refine wp_aload_n dX6_ask_59 rfl 2 rfl ?_
        refine wp_new (5000 + nl) (c := 1) dX6_ask_60 (by decide) clX6_23 nsX1 nzX1 (kd_let (by omega)) (hL.2.2.2 nl (by omega) (by omega)) (by decide) (by decide) ?_
        refine wp_dup dX6_ask_63 rfl ?_
        refine wp_aload_n dX6_ask_64 rfl 1 rfl ?_
        refine wp_aload dX6_ask_65 0 rfl ?_
        refine wp_aload_n dX6_ask_67 rfl 1 rfl ?_
        refine wp_aload_n dX6_ask_68 rfl 2 rfl ?_
        refine wv_getL (vL h 1 0) dX6_ask_69 flX6_7 rfl rfl (livN hr.1) (congrFun (vL_N (by omega)) 0) ?_
        refine wp_callV mX2_countedAt (1000 + i) [.long (vL h 1 0)] [.ref (1000 + j), .ref (1000 + i), .ref (5000 + nl), .ref (5000 + nl), .ref 1] (c := 2) dX6_ask_72 iX2_countedAt (fun _ => trivial) mlX6_109 imX2_countedAt seX2_countedAt (by decide) rfl hk ⟨by decide, by decide⟩ rfl rfl (Nat.le_of_ble_eq_true rfl) (Nat.le_of_ble_eq_true rfl) (by decide) (by decide) ?_
        refine ct_countedAt (1000 + i) (vL h 1 0) hk (livN hl) ?_
        rw [cCn_congr (h := h) (vI_N (by omega)) (vL_N (by omega))]
        show WP g mX6_ask 75 [(4, .ref (1000 + j)), (3, .ref (1000 + i)), (0, .ref 1), (1, .int (nI i)), (2, .int (nI j))] [.long (cCn h (1000 + i) (vL h 1 0)), .ref (1000 + j), .ref (1000 + i), .ref (5000 + nl), .ref (5000 + nl), .ref 1] _ 1 7 _
        refine wp_callI mX1_init (5000 + nl) [.ref (1000 + i), .ref (1000 + j), .long (cCn h (1000 + i) (vL h 1 0))] [.ref (5000 + nl), .ref 1] dX6_ask_75 iX1_init (fun _ => trivial) rfl rfl mlX6_135 imX1_init ⟨by decide, by decide⟩ rfl rfl (Nat.le_of_ble_eq_true rfl) (Nat.le_of_ble_eq_true rfl) (by decide) (by decide) ?_
        refine ct_Letter (5000 + nl) (1000 + i) (1000 + j) (cCn h (1000 + i) (vL h 1 0)) (kd_let (by have := hL.1; omega)) (liv_new _ _) ?_
        show WP g mX6_ask 78 [(4, .ref (1000 + j)), (3, .ref (1000 + i)), (0, .ref 1), (1, .int (nI i)), (2, .int (nI j))] [.ref (5000 + nl), .ref 1] _ 1 7 _
        refine wp_pc (pc' := 78) rfl ?_
        refine wp_callV mX6_addLetter 1 [.ref (5000 + nl)] [] (c := 6) dX6_ask_78 iX6_addLetter (fun _ => trivial) mlX6_138 imX6_addLetter seX6_addLetter (by decide) rfl rfl ⟨by decide, by decide⟩ rfl rfl (Nat.le_of_ble_eq_true rfl) (Nat.le_of_ble_eq_true rfl) (by decide) (by decide) ?_
        refine ct_addLetter nl (5000 + nl) (SR_lt (by omega) hr) ((congrFun (vI_lt (by omega)) 4).trans hL.2.1) hL.1 (kd_let (by have := hL.1; omega)) ?_
        show WP g mX6_ask 81 [(4, .ref (1000 + j)), (3, .ref (1000 + i)), (0, .ref 1), (1, .int (nI i)), (2, .int (nI j))] [.long (Int32.toInt64 (nI nl))] _ 1 7 _
        refine wp_lret dX6_ask_81 rfl (by decide) (by decide) ?_
        exact hyes (by unfold okAs; omega)
  · refine wp_ldc2 dX6_ask_27 cnX6_58 ?_
    refine wp_lret dX6_ask_30 rfl (by decide) (by decide) ?_
    exact hno (fun q => by unfold okAs at q; omega)
set_option maxRecDepth 100000 in
set_option maxHeartbeats 4000000 in
theorem ct_deliver0 {g : GG} {h : HP} {Post : Option Value → HP → Prop} (nm nl : Nat) (x : Int32) (hr : SR h) (hL : SL h nm nl) (hx : ¬ inR x nl) (hp : Post (some (.long (-9000000000000000000))) h) : CT g mX6_deliver [.ref 1, .int x] h Post := by
  show WP g mX6_deliver 0 [(0, .ref 1), (1, .int x)] [] h 0 0 Post
  refine wp_aload_n dX6_deliver_0 rfl 0 rfl ?_
  refine wp_iload_n dX6_deliver_1 rfl 1 rfl ?_
  refine wp_callV mX6_findUnderWay 1 [.int x] [] (c := 6) dX6_deliver_2 iX6_findUnderWay (fun _ => trivial) mlX6_142 imX6_findUnderWay seX6_findUnderWay (by decide) rfl rfl ⟨by decide, by decide⟩ rfl rfl (Nat.le_of_ble_eq_true rfl) (Nat.le_of_ble_eq_true rfl) (by decide) (by decide) ?_
  refine ct_findUW0 nl x hr hL.2.1 (by have := hL.1; omega) hx ?_
  show WP g mX6_deliver 5 [(0, .ref 1), (1, .int x)] [.null] _ 0 0 _
  refine wp_astore_nN (lv' := [(2, .null), (0, .ref 1), (1, .int x)]) dX6_deliver_5 rfl (by decide) rfl ?_
  refine wp_aload_nN dX6_deliver_6 rfl 0 rfl ?_
  refine wp_ifnonnullN dX6_deliver_7 ?_
  refine wp_ldc2 dX6_deliver_10 cnX6_58 ?_
  refine wp_lret dX6_deliver_13 rfl (by decide) (by decide) ?_
  exact hp
set_option maxRecDepth 100000 in
set_option maxHeartbeats 4000000 in
theorem ct_deliver1 {g : GG} {h : HP} {Post : Option Value → HP → Prop} (nm nl l : Nat) (hr : SR h) (hL : SL h nm nl) (hl0 : l < nl) (hu : ¬ uw h (5000 + l)) (hp : Post (some (.long (-9000000000000000000))) h) : CT g mX6_deliver [.ref 1, .int (nI l)] h Post := by
  show WP g mX6_deliver 0 [(0, .ref 1), (1, .int (nI l))] [] h 0 0 Post
  have hnl := hL.1
  obtain ⟨hel, hll, -⟩ := hL.2.2.1 l hl0
  have hkl : kd (5000 + l) = 1 := kd_let (by omega)
  refine wp_aload_n dX6_deliver_0 rfl 0 rfl ?_
  refine wp_iload_n dX6_deliver_1 rfl 1 rfl ?_
  refine wp_callV mX6_findUnderWay 1 [.int (nI l)] [] (c := 6) dX6_deliver_2 iX6_findUnderWay (fun _ => trivial) mlX6_142 imX6_findUnderWay seX6_findUnderWay (by decide) rfl rfl ⟨by decide, by decide⟩ rfl rfl (Nat.le_of_ble_eq_true rfl) (Nat.le_of_ble_eq_true rfl) (by decide) (by decide) ?_
  refine ct_findUW nl l hr hL.2.1 (by omega) hl0 hel hll (fun hz => absurd hz hu) (fun _ => ?_)
  show WP g mX6_deliver 5 [(0, .ref 1), (1, .int (nI l))] [.null] _ 0 0 _
  refine wp_astore_nN (lv' := [(2, .null), (0, .ref 1), (1, .int (nI l))]) dX6_deliver_5 rfl (by decide) rfl ?_
  refine wp_aload_nN dX6_deliver_6 rfl 0 rfl ?_
  refine wp_ifnonnullN dX6_deliver_7 ?_
  refine wp_ldc2 dX6_deliver_10 cnX6_58 ?_
  refine wp_lret dX6_deliver_13 rfl (by decide) (by decide) ?_
  exact hp
set_option maxRecDepth 100000 in
set_option maxHeartbeats 4000000 in
theorem ct_lose0 {g : GG} {h : HP} {Post : Option Value → HP → Prop} (nm nl : Nat) (x : Int32) (hr : SR h) (hL : SL h nm nl) (hx : ¬ inR x nl) (hp : Post (some (.long (-9000000000000000000))) h) : CT g mX6_lose [.ref 1, .int x] h Post := by
  show WP g mX6_lose 0 [(0, .ref 1), (1, .int x)] [] h 0 0 Post
  refine wp_aload_n dX6_lose_0 rfl 0 rfl ?_
  refine wp_iload_n dX6_lose_1 rfl 1 rfl ?_
  refine wp_callV mX6_findUnderWay 1 [.int x] [] (c := 6) dX6_lose_2 iX6_findUnderWay (fun _ => trivial) mlX6_142 imX6_findUnderWay seX6_findUnderWay (by decide) rfl rfl ⟨by decide, by decide⟩ rfl rfl (Nat.le_of_ble_eq_true rfl) (Nat.le_of_ble_eq_true rfl) (by decide) (by decide) ?_
  refine ct_findUW0 nl x hr hL.2.1 (by have := hL.1; omega) hx ?_
  show WP g mX6_lose 5 [(0, .ref 1), (1, .int x)] [.null] _ 0 0 _
  refine wp_astore_nN (lv' := [(2, .null), (0, .ref 1), (1, .int x)]) dX6_lose_5 rfl (by decide) rfl ?_
  refine wp_aload_nN dX6_lose_6 rfl 0 rfl ?_
  refine wp_ifnonnullN dX6_lose_7 ?_
  refine wp_ldc2 dX6_lose_10 cnX6_58 ?_
  refine wp_lret dX6_lose_13 rfl (by decide) (by decide) ?_
  exact hp
set_option maxRecDepth 100000 in
set_option maxHeartbeats 4000000 in
theorem ct_lose1 {g : GG} {h : HP} {Post : Option Value → HP → Prop} (nm nl l : Nat) (hr : SR h) (hL : SL h nm nl) (hl0 : l < nl) (hu : ¬ uw h (5000 + l)) (hp : Post (some (.long (-9000000000000000000))) h) : CT g mX6_lose [.ref 1, .int (nI l)] h Post := by
  show WP g mX6_lose 0 [(0, .ref 1), (1, .int (nI l))] [] h 0 0 Post
  have hnl := hL.1
  obtain ⟨hel, hll, -⟩ := hL.2.2.1 l hl0
  have hkl : kd (5000 + l) = 1 := kd_let (by omega)
  refine wp_aload_n dX6_lose_0 rfl 0 rfl ?_
  refine wp_iload_n dX6_lose_1 rfl 1 rfl ?_
  refine wp_callV mX6_findUnderWay 1 [.int (nI l)] [] (c := 6) dX6_lose_2 iX6_findUnderWay (fun _ => trivial) mlX6_142 imX6_findUnderWay seX6_findUnderWay (by decide) rfl rfl ⟨by decide, by decide⟩ rfl rfl (Nat.le_of_ble_eq_true rfl) (Nat.le_of_ble_eq_true rfl) (by decide) (by decide) ?_
  refine ct_findUW nl l hr hL.2.1 (by omega) hl0 hel hll (fun hz => absurd hz hu) (fun _ => ?_)
  show WP g mX6_lose 5 [(0, .ref 1), (1, .int (nI l))] [.null] _ 0 0 _
  refine wp_astore_nN (lv' := [(2, .null), (0, .ref 1), (1, .int (nI l))]) dX6_lose_5 rfl (by decide) rfl ?_
  refine wp_aload_nN dX6_lose_6 rfl 0 rfl ?_
  refine wp_ifnonnullN dX6_lose_7 ?_
  refine wp_ldc2 dX6_lose_10 cnX6_58 ?_
  refine wp_lret dX6_lose_13 rfl (by decide) (by decide) ?_
  exact hp
set_option maxRecDepth 100000 in
set_option maxHeartbeats 4000000 in
theorem ct_twice0 {g : GG} {h : HP} {Post : Option Value → HP → Prop} (nm nl : Nat) (x : Int32) (hr : SR h) (hL : SL h nm nl) (hx : ¬ inR x nl) (hp : Post (some (.long (-9000000000000000000))) h) : CT g mX6_twice [.ref 1, .int x] h Post := by
  show WP g mX6_twice 0 [(0, .ref 1), (1, .int x)] [] h 0 0 Post
  refine wp_aload_n dX6_twice_0 rfl 0 rfl ?_
  refine wp_iload_n dX6_twice_1 rfl 1 rfl ?_
  refine wp_callV mX6_findUnderWay 1 [.int x] [] (c := 6) dX6_twice_2 iX6_findUnderWay (fun _ => trivial) mlX6_142 imX6_findUnderWay seX6_findUnderWay (by decide) rfl rfl ⟨by decide, by decide⟩ rfl rfl (Nat.le_of_ble_eq_true rfl) (Nat.le_of_ble_eq_true rfl) (by decide) (by decide) ?_
  refine ct_findUW0 nl x hr hL.2.1 (by have := hL.1; omega) hx ?_
  show WP g mX6_twice 5 [(0, .ref 1), (1, .int x)] [.null] _ 0 0 _
  refine wp_astore_nN (lv' := [(2, .null), (0, .ref 1), (1, .int x)]) dX6_twice_5 rfl (by decide) rfl ?_
  refine wp_aload_nN dX6_twice_6 rfl 0 rfl ?_
  refine wp_ifnullN (tgt := 20) dX6_twice_7 (by decide) ?_
  refine wp_ldc2 dX6_twice_20 cnX6_58 ?_
  refine wp_lret dX6_twice_23 rfl (by decide) (by decide) ?_
  exact hp
set_option maxRecDepth 100000 in
set_option maxHeartbeats 4000000 in
theorem ct_twice1 {g : GG} {h : HP} {Post : Option Value → HP → Prop} (nm nl l : Nat) (hr : SR h) (hL : SL h nm nl) (hl0 : l < nl) (hu : ¬ uw h (5000 + l)) (hp : Post (some (.long (-9000000000000000000))) h) : CT g mX6_twice [.ref 1, .int (nI l)] h Post := by
  show WP g mX6_twice 0 [(0, .ref 1), (1, .int (nI l))] [] h 0 0 Post
  have hnl := hL.1
  obtain ⟨hel, hll, -⟩ := hL.2.2.1 l hl0
  have hkl : kd (5000 + l) = 1 := kd_let (by omega)
  refine wp_aload_n dX6_twice_0 rfl 0 rfl ?_
  refine wp_iload_n dX6_twice_1 rfl 1 rfl ?_
  refine wp_callV mX6_findUnderWay 1 [.int (nI l)] [] (c := 6) dX6_twice_2 iX6_findUnderWay (fun _ => trivial) mlX6_142 imX6_findUnderWay seX6_findUnderWay (by decide) rfl rfl ⟨by decide, by decide⟩ rfl rfl (Nat.le_of_ble_eq_true rfl) (Nat.le_of_ble_eq_true rfl) (by decide) (by decide) ?_
  refine ct_findUW nl l hr hL.2.1 (by omega) hl0 hel hll (fun hz => absurd hz hu) (fun _ => ?_)
  show WP g mX6_twice 5 [(0, .ref 1), (1, .int (nI l))] [.null] _ 0 0 _
  refine wp_astore_nN (lv' := [(2, .null), (0, .ref 1), (1, .int (nI l))]) dX6_twice_5 rfl (by decide) rfl ?_
  refine wp_aload_nN dX6_twice_6 rfl 0 rfl ?_
  refine wp_ifnullN (tgt := 20) dX6_twice_7 (by decide) ?_
  refine wp_ldc2 dX6_twice_20 cnX6_58 ?_
  refine wp_lret dX6_twice_23 rfl (by decide) (by decide) ?_
  exact hp
set_option maxRecDepth 100000 in
set_option maxHeartbeats 4000000 in
theorem ct_lose {g : GG} {h : HP} {Post : Option Value → HP → Prop} (nm nl l : Nat) (hr : SR h) (hL : SL h nm nl) (hl0 : l < nl) (hu : uw h (5000 + l)) (hp : Post (some (.long 1)) (sI h (5000 + l) 3 3)) : CT g mX6_lose [.ref 1, .int (nI l)] h Post := by
  show WP g mX6_lose 0 [(0, .ref 1), (1, .int (nI l))] [] h 0 0 Post
  have hnl := hL.1
  obtain ⟨hel, hll, -⟩ := hL.2.2.1 l hl0
  have hkl : kd (5000 + l) = 1 := kd_let (by omega)
  refine wp_aload_n dX6_lose_0 rfl 0 rfl ?_
  refine wp_iload_n dX6_lose_1 rfl 1 rfl ?_
  refine wp_callV mX6_findUnderWay 1 [.int (nI l)] [] (c := 6) dX6_lose_2 iX6_findUnderWay (fun _ => trivial) mlX6_142 imX6_findUnderWay seX6_findUnderWay (by decide) rfl rfl ⟨by decide, by decide⟩ rfl rfl (Nat.le_of_ble_eq_true rfl) (Nat.le_of_ble_eq_true rfl) (by decide) (by decide) ?_
  refine ct_findUW nl l hr hL.2.1 (by omega) hl0 hel hll (fun _ => ?_) (fun hz => absurd hu hz)
  show WP g mX6_lose 5 [(0, .ref 1), (1, .int (nI l))] [.ref (5000 + l)] _ 0 0 _
  refine wp_astore_n (lv' := [(2, .ref (5000 + l)), (0, .ref 1), (1, .int (nI l))]) dX6_lose_5 rfl (by decide) rfl ?_
  refine wp_aload_n dX6_lose_6 rfl 0 rfl ?_
  refine wp_ifnonnull (tgt := 14) dX6_lose_7 (by decide) ?_
  refine wp_aload_n dX6_lose_14 rfl 0 rfl ?_
  refine wp_iconst (v := 3) dX6_lose_15 (by decide) ?_
  refine wp_putI dX6_lose_16 flX6_146 (Or.inl rfl) rfl rfl rfl hkl hll ?_
  refine wp_lconst (v := 1) dX6_lose_19 rfl ?_
  refine wp_lret dX6_lose_20 rfl (by decide) (by decide) ?_
  exact hp
set_option maxRecDepth 100000 in
set_option maxHeartbeats 4000000 in
theorem ct_deliver {g : GG} {h : HP} {Post : Option Value → HP → Prop} (nm nl l : Nat) (hr : SR h) (hL : SL h nm nl) (hl0 : l < nl) (f t : Nat) (hf : vP h (5000 + l) 0 = some (1000 + f)) (ht : vP h (5000 + l) 1 = some (1000 + t)) (hM : SM h nm) (hfn : f < nm) (htn : t < nm) (hu : uw h (5000 + l)) (h00 : vI h (5000 + l) 3 = 0 → ¬ vI h (1000 + t) 7 = 0 → Post (some (.long 0)) (sI h (5000 + l) 3 3)) (h01 : vI h (5000 + l) 3 = 0 → vI h (1000 + t) 7 = 0 → Post (some (.long 1)) (tak h (5000 + l) (1000 + t) (2000 + t) (vL h 1 0))) (h10 : ¬ vI h (5000 + l) 3 = 0 → ¬ vI h (1000 + f) 7 = 0 → Post (some (.long 0)) (sI h (5000 + l) 3 3)) (h12 : ¬ vI h (5000 + l) 3 = 0 → vI h (1000 + f) 7 = 0 → Post (some (.long 2)) (brg h (5000 + l) (1000 + f) (3000 + f) t (4000 + (10 * f + t)) (vL h 1 0))) : CT g mX6_deliver [.ref 1, .int (nI l)] h Post := by
  show WP g mX6_deliver 0 [(0, .ref 1), (1, .int (nI l))] [] h 0 0 Post
  have hnl := hL.1
  obtain ⟨hel, hll, -⟩ := hL.2.2.1 l hl0
  have hkl : kd (5000 + l) = 1 := kd_let (by omega)
  obtain ⟨-, hlf, hlof, hlrf, hof, h9f, hnumf, hbsf, hbnf⟩ := hM.2.2.1 f hfn
  obtain ⟨-, hlt, hlot, hlrt, hot, h9t, hnumt, hbst, hbnt⟩ := hM.2.2.1 t htn
  have hnm := hM.1
  have hkf : kd (1000 + f) = 2 := kd_mem (by omega)
  have hkt : kd (1000 + t) = 2 := kd_mem (by omega)
  refine wp_aload_n dX6_deliver_0 rfl 0 rfl ?_
  refine wp_iload_n dX6_deliver_1 rfl 1 rfl ?_
  refine wp_callV mX6_findUnderWay 1 [.int (nI l)] [] (c := 6) dX6_deliver_2 iX6_findUnderWay (fun _ => trivial) mlX6_142 imX6_findUnderWay seX6_findUnderWay (by decide) rfl rfl ⟨by decide, by decide⟩ rfl rfl (Nat.le_of_ble_eq_true rfl) (Nat.le_of_ble_eq_true rfl) (by decide) (by decide) ?_
  refine ct_findUW nl l hr hL.2.1 (by omega) hl0 hel hll (fun _ => ?_) (fun hz => absurd hu hz)
  show WP g mX6_deliver 5 [(0, .ref 1), (1, .int (nI l))] [.ref (5000 + l)] _ 0 0 _
  refine wp_astore_n (lv' := [(2, .ref (5000 + l)), (0, .ref 1), (1, .int (nI l))]) dX6_deliver_5 rfl (by decide) rfl ?_
  refine wp_aload_n dX6_deliver_6 rfl 0 rfl ?_
  refine wp_ifnonnull (tgt := 14) dX6_deliver_7 (by decide) ?_
  refine wp_aload_n dX6_deliver_14 rfl 0 rfl ?_
  refine wp_getI dX6_deliver_15 flX6_146 rfl hkl hll ?_
  refine wp_if_ne (tgt := 28) dX6_deliver_18 (by decide) (fun c_1 => ?_) (fun c_1 => ?_)
  · refine wp_aload_n dX6_deliver_28 rfl 0 rfl ?_
    refine wp_getP (b := 1000 + f) dX6_deliver_29 flX6_153 rfl hkl hll hf ?_
    refine wp_astore_n (lv' := [(3, .ref (1000 + f)), (2, .ref (5000 + l)), (0, .ref 1), (1, .int (nI l))]) dX6_deliver_32 rfl (by decide) rfl ?_
    refine wp_aload_n dX6_deliver_33 rfl 0 rfl ?_
    refine wp_getI dX6_deliver_34 flX6_105 rfl hkf hlf ?_
    refine wp_if_eq (tgt := 47) dX6_deliver_37 (by decide) (fun c_2 => ?_) (fun c_2 => ?_)
    · refine wp_aload_n dX6_deliver_47 rfl 1 rfl ?_
      refine wp_getI dX6_deliver_48 flX6_146 rfl hkl hll ?_
      refine wp_if_ne (tgt := 64) dX6_deliver_51 (by decide) (fun _ => ?_) (fun c_3 => absurd c_3 c_1)
      refine wp_aload_n dX6_deliver_64 rfl 1 rfl ?_
      refine wp_aload_n dX6_deliver_65 rfl 2 rfl ?_
      refine wp_getL dX6_deliver_66 flX6_7 rfl rfl hr.1 ?_
      refine wp_callV mX1_bringBack (5000 + l) [.long (vL h 1 0)] [] (c := 1) dX6_deliver_69 iX1_bringBack (fun _ => trivial) mlX6_160 imX1_bringBack seX1_bringBack (by decide) rfl hkl ⟨by decide, by decide⟩ rfl rfl (Nat.le_of_ble_eq_true rfl) (Nat.le_of_ble_eq_true rfl) (by decide) (by decide) ?_
      refine ct_bringBack (5000 + l) (1000 + f) (1000 + t) (3000 + f) t (4000 + (10 * f + t)) (vL h 1 0) hkl hll hf ht hkt hlt hnumt hkf hlf h9f (kd_arr (by omega)) hlrf (ln_arr (by omega)) (by omega) (fun b q => ⟨by rw [(hbsf t b (by omega) q).1]; exact kd_hrd (by omega), (hbsf t b (by omega) q).2⟩) (fun q => ⟨kd_hrd (by omega), hbnf t (by omega) q⟩) ?_
      show WP g mX6_deliver 72 [(3, .ref (1000 + f)), (2, .ref (5000 + l)), (0, .ref 1), (1, .int (nI l))] [] _ 1 4 _
      refine wp_ldc2 dX6_deliver_72 cnX6_163 ?_
      refine wp_lret dX6_deliver_75 rfl (by decide) (by decide) ?_
      exact h12 c_1 c_2
    · refine wp_aload_n dX6_deliver_40 rfl 1 rfl ?_
      refine wp_iconst (v := 3) dX6_deliver_41 (by decide) ?_
      refine wp_putI dX6_deliver_42 flX6_146 (Or.inl rfl) rfl rfl rfl hkl hll ?_
      refine wp_lconst (v := 0) dX6_deliver_45 rfl ?_
      refine wp_lret dX6_deliver_46 rfl (by decide) (by decide) ?_
      exact h10 c_1 c_2
  · refine wp_aload_n dX6_deliver_21 rfl 0 rfl ?_
    refine wp_getP (b := 1000 + t) dX6_deliver_22 flX6_149 rfl hkl hll ht ?_
    refine wp_goto (tgt := 32) dX6_deliver_25 (by decide) ?_
    refine wp_astore_n (lv' := [(3, .ref (1000 + t)), (2, .ref (5000 + l)), (0, .ref 1), (1, .int (nI l))]) dX6_deliver_32 rfl (by decide) rfl ?_
    refine wp_aload_n dX6_deliver_33 rfl 0 rfl ?_
    refine wp_getI dX6_deliver_34 flX6_105 rfl hkt hlt ?_
    refine wp_if_eq (tgt := 47) dX6_deliver_37 (by decide) (fun c_4 => ?_) (fun c_4 => ?_)
    · refine wp_aload_n dX6_deliver_47 rfl 1 rfl ?_
      refine wp_getI dX6_deliver_48 flX6_146 rfl hkl hll ?_
      refine wp_if_ne (tgt := 64) dX6_deliver_51 (by decide) (fun c_5 => absurd c_1 c_5) (fun _ => ?_)
      refine wp_aload_n dX6_deliver_54 rfl 1 rfl ?_
      refine wp_aload_n dX6_deliver_55 rfl 2 rfl ?_
      refine wp_getL dX6_deliver_56 flX6_7 rfl rfl hr.1 ?_
      refine wp_callV mX1_takeAnswer (5000 + l) [.long (vL h 1 0)] [] (c := 1) dX6_deliver_59 iX1_takeAnswer (fun _ => trivial) mlX6_156 imX1_takeAnswer seX1_takeAnswer (by decide) rfl hkl ⟨by decide, by decide⟩ rfl rfl (Nat.le_of_ble_eq_true rfl) (Nat.le_of_ble_eq_true rfl) (by decide) (by decide) ?_
      refine ct_takeAnswer (5000 + l) (1000 + t) (2000 + t) (vL h 1 0) hkl hll ht hkt hlt hot (kd_own (by omega)) hlot ?_
      show WP g mX6_deliver 62 [(3, .ref (1000 + t)), (2, .ref (5000 + l)), (0, .ref 1), (1, .int (nI l))] [] _ 0 0 _
      refine wp_lconst (v := 1) dX6_deliver_62 rfl ?_
      refine wp_lret dX6_deliver_63 rfl (by decide) (by decide) ?_
      exact h01 c_1 c_4
    · refine wp_aload_n dX6_deliver_40 rfl 1 rfl ?_
      refine wp_iconst (v := 3) dX6_deliver_41 (by decide) ?_
      refine wp_putI dX6_deliver_42 flX6_146 (Or.inl rfl) rfl rfl rfl hkl hll ?_
      refine wp_lconst (v := 0) dX6_deliver_45 rfl ?_
      refine wp_lret dX6_deliver_46 rfl (by decide) (by decide) ?_
      exact h00 c_1 c_4
def twH (h : HP) (nl l f t : Nat) : HP := alH (sL (sL (sI (sI (ltN (sN h (5000 + nl)) (5000 + nl) (1000 + f) (1000 + t) (vL h (5000 + l) 2)) (5000 + nl) 3 (vI h (5000 + l) 3)) (5000 + nl) 4 (vI h (5000 + l) 4)) (5000 + nl) 5 (vL h (5000 + l) 5)) (5000 + nl) 6 (vL h (5000 + l) 6)) nl (5000 + nl)
set_option maxRecDepth 100000 in
set_option maxHeartbeats 4000000 in
theorem ct_twice {g : GG} {h : HP} {Post : Option Value → HP → Prop} (nm nl l : Nat) (hr : SR h) (hL : SL h nm nl) (hl0 : l < nl) (f t : Nat) (hf : vP h (5000 + l) 0 = some (1000 + f)) (ht : vP h (5000 + l) 1 = some (1000 + t)) (hu : uw h (5000 + l)) (hans : vI h (5000 + l) 4 = 0 ∨ vI h (5000 + l) 4 = 1) (hp : Post (some (.long (Int32.toInt64 (nI nl)))) (twH h nl l f t)) : CT g mX6_twice [.ref 1, .int (nI l)] h Post := by
  show WP g mX6_twice 0 [(0, .ref 1), (1, .int (nI l))] [] h 0 0 Post
  have hnl := hL.1
  obtain ⟨hel, hll, -⟩ := hL.2.2.1 l hl0
  have hkl : kd (5000 + l) = 1 := kd_let (by omega)
  refine wp_aload_n dX6_twice_0 rfl 0 rfl ?_
  refine wp_iload_n dX6_twice_1 rfl 1 rfl ?_
  refine wp_callV mX6_findUnderWay 1 [.int (nI l)] [] (c := 6) dX6_twice_2 iX6_findUnderWay (fun _ => trivial) mlX6_142 imX6_findUnderWay seX6_findUnderWay (by decide) rfl rfl ⟨by decide, by decide⟩ rfl rfl (Nat.le_of_ble_eq_true rfl) (Nat.le_of_ble_eq_true rfl) (by decide) (by decide) ?_
  refine ct_findUW nl l hr hL.2.1 (by omega) hl0 hel hll (fun _ => ?_) (fun hz => absurd hu hz)
  show WP g mX6_twice 5 [(0, .ref 1), (1, .int (nI l))] [.ref (5000 + l)] _ 0 0 _
  refine wp_astore_n (lv' := [(2, .ref (5000 + l)), (0, .ref 1), (1, .int (nI l))]) dX6_twice_5 rfl (by decide) rfl ?_
  refine wp_aload_n dX6_twice_6 rfl 0 rfl ?_
  refine wp_ifnull dX6_twice_7 ?_
  refine wp_aload_n dX6_twice_10 rfl 1 rfl ?_
  refine wv_getI (nI nl) dX6_twice_11 flX6_29 rfl rfl hr.1 hL.2.1 ?_
  refine wp_sipush (v := 200) dX6_twice_14 (by decide) ?_
  refine wp_icmp_lt (tgt := 24) dX6_twice_17 (by decide) (fun _ => ?_) (fun c_1 => absurd (nI_lt hL.1 (by omega)) c_1)
  refine wp_new (5000 + nl) (c := 1) dX6_twice_24 (by decide) clX6_23 nsX1 nzX1 (kd_let (by omega)) (hL.2.2.2 nl (by omega) (by omega)) (by decide) (by decide) ?_
  refine wp_dup dX6_twice_27 rfl ?_
  refine wp_aload_n dX6_twice_28 rfl 0 rfl ?_
  refine wp_getP (b := 1000 + f) dX6_twice_29 flX6_153 rfl hkl (livN hll) ((congrFun (vP_N (by omega)) 0).trans hf) ?_
  refine wp_aload_n dX6_twice_32 rfl 0 rfl ?_
  refine wp_pc (pc' := 33) rfl ?_
  refine wp_getP (b := 1000 + t) dX6_twice_33 flX6_149 rfl hkl (livN hll) ((congrFun (vP_N (by omega)) 1).trans ht) ?_
  refine wp_aload_n dX6_twice_36 rfl 0 rfl ?_
  refine wv_getL (vL h (5000 + l) 2) dX6_twice_37 flX6_165 rfl hkl (livN hll) (congrFun (vL_N (by omega)) 2) ?_
  refine wp_callI mX1_init (5000 + nl) [.ref (1000 + f), .ref (1000 + t), .long (vL h (5000 + l) 2)] [.ref (5000 + nl)] dX6_twice_40 iX1_init (fun _ => trivial) rfl rfl mlX6_135 imX1_init ⟨by decide, by decide⟩ rfl rfl (Nat.le_of_ble_eq_true rfl) (Nat.le_of_ble_eq_true rfl) (by decide) (by decide) ?_
  refine ct_Letter (5000 + nl) (1000 + f) (1000 + t) (vL h (5000 + l) 2) (kd_let (by have := hL.1; omega)) (liv_new _ _) ?_
  show WP g mX6_twice 43 [(2, .ref (5000 + l)), (0, .ref 1), (1, .int (nI l))] [.ref (5000 + nl)] _ 1 7 _
  refine wp_astore_n (lv' := [(3, .ref (5000 + nl)), (2, .ref (5000 + l)), (0, .ref 1), (1, .int (nI l))]) dX6_twice_43 rfl (by decide) rfl ?_
  refine wp_aload_n dX6_twice_44 rfl 0 rfl ?_
  refine wp_aload_n dX6_twice_45 rfl 1 rfl ?_
  refine wv_getI (vI h (5000 + l) 3) dX6_twice_46 flX6_146 rfl hkl (livN hll) (congrFun (vI_lt (by omega)) 3) ?_
  refine wp_putI dX6_twice_49 flX6_146 (Or.inl rfl) rfl rfl rfl (kd_let (by omega)) (liv_new _ _) ?_
  refine wp_aload_n dX6_twice_52 rfl 0 rfl ?_
  refine wp_aload_n dX6_twice_53 rfl 1 rfl ?_
  refine wv_getI (vI h (5000 + l) 4) dX6_twice_54 flX6_168 rfl hkl (livN hll) (by rw [vIn (by omega), vI_lt (by omega)]) ?_
  refine wp_putI dX6_twice_57 flX6_168 (Or.inl rfl) rfl (nb_n hans) (nb_f hans) (kd_let (by omega)) (liv_new _ _) ?_
  refine wp_aload_n dX6_twice_60 rfl 0 rfl ?_
  refine wp_aload_n dX6_twice_61 rfl 1 rfl ?_
  refine wp_pc (pc' := 62) rfl ?_
  refine wv_getL (vL h (5000 + l) 5) dX6_twice_62 flX6_171 rfl hkl (livN hll) (congrFun (vL_lt (by omega)) 5) ?_
  refine wp_putL dX6_twice_65 flX6_171 (Or.inl rfl) rfl (kd_let (by omega)) (liv_new _ _) ?_
  refine wp_aload_n dX6_twice_68 rfl 0 rfl ?_
  refine wp_aload_n dX6_twice_69 rfl 1 rfl ?_
  refine wv_getL (vL h (5000 + l) 6) dX6_twice_70 flX6_174 rfl hkl (livN hll) (by rw [vLn (by omega)]; exact congrFun (vL_lt (by omega)) 6) ?_
  refine wp_putL dX6_twice_73 flX6_174 (Or.inl rfl) rfl (kd_let (by omega)) (liv_new _ _) ?_
  refine wp_aload_n dX6_twice_76 rfl 2 rfl ?_
  refine wp_aload_n dX6_twice_77 rfl 0 rfl ?_
  refine wp_callV mX6_addLetter 1 [.ref (5000 + nl)] [] (c := 6) dX6_twice_78 iX6_addLetter (fun _ => trivial) mlX6_138 imX6_addLetter seX6_addLetter (by decide) rfl rfl ⟨by decide, by decide⟩ rfl rfl (Nat.le_of_ble_eq_true rfl) (Nat.le_of_ble_eq_true rfl) (by decide) (by decide) ?_
  refine ct_addLetter nl (5000 + nl) (SR_lt (t := vL h (5000 + l) 2) (by omega) hr) (by show vI (sI (sI _ _ _ _) _ _ _) 1 4 = _; rw [vIn (by omega), vIn (by omega), vI_lt (by omega)]; exact hL.2.1) hL.1 (kd_let (by have := hL.1; omega)) ?_
  show WP g mX6_twice 81 [(3, .ref (5000 + nl)), (2, .ref (5000 + l)), (0, .ref 1), (1, .int (nI l))] [.long (Int32.toInt64 (nI nl))] _ 1 7 _
  refine wp_lret dX6_twice_81 rfl (by decide) (by decide) ?_
  exact hp
set_option maxRecDepth 100000 in
set_option maxHeartbeats 4000000 in
theorem ct_letter0 {g : GG} {h : HP} {Post : Option Value → HP → Prop} (wh : Int32) (nm nl : Nat) (x : Int32) (hr : SR h) (hL : SL h nm nl) (hx : ¬ inR x nl) (hp : Post (some (.long (-9000000000000000000))) h) : CT g mX6_letter [.ref 1, .int x, .int wh] h Post := by
  show WP g mX6_letter 0 [(0, .ref 1), (1, .int x), (2, .int wh)] [] h 0 0 Post
  refine wp_aload_n dX6_letter_0 rfl 0 rfl ?_
  refine wp_iload_n dX6_letter_1 rfl 1 rfl ?_
  refine wp_callV mX6_findLetter 1 [.int x] [] (c := 6) dX6_letter_2 iX6_findLetter (fun _ => trivial) mlX6_177 imX6_findLetter seX6_findLetter (by decide) rfl rfl ⟨by decide, by decide⟩ rfl rfl (Nat.le_of_ble_eq_true rfl) (Nat.le_of_ble_eq_true rfl) (by decide) (by decide) ?_
  refine ct_findLetter0 nl x hr hL.2.1 (by have := hL.1; omega) hx ?_
  show WP g mX6_letter 5 [(0, .ref 1), (1, .int x), (2, .int wh)] [.null] _ 0 0 _
  refine wp_astore_nN (lv' := [(3, .null), (0, .ref 1), (1, .int x), (2, .int wh)]) dX6_letter_5 rfl (by decide) rfl ?_
  refine wp_aload_nN dX6_letter_6 rfl 0 rfl ?_
  refine wp_ifnonnullN dX6_letter_7 ?_
  refine wp_ldc2 dX6_letter_10 cnX6_58 ?_
  refine wp_lret dX6_letter_13 rfl (by decide) (by decide) ?_
  exact hp
set_option maxRecDepth 100000 in
set_option maxHeartbeats 4000000 in
theorem ct_letter_0 {g : GG} {h : HP} {Post : Option Value → HP → Prop} (nm nl l : Nat) (hr : SR h) (hL : SL h nm nl) (hl0 : l < nl) (f t : Nat) (hf : vP h (5000 + l) 0 = some (1000 + f)) (ht : vP h (5000 + l) 1 = some (1000 + t)) (hM : SM h nm) (hfn : f < nm) (htn : t < nm) (hp : Post (some (.long (Int32.toInt64 (nI f)))) h) : CT g mX6_letter [.ref 1, .int (nI l), .int 0] h Post := by
  show WP g mX6_letter 0 [(0, .ref 1), (1, .int (nI l)), (2, .int 0)] [] h 0 0 Post
  have hnl := hL.1
  obtain ⟨hel, hll, -⟩ := hL.2.2.1 l hl0
  have hkl : kd (5000 + l) = 1 := kd_let (by omega)
  obtain ⟨-, hlf, hlof, hlrf, hof, h9f, hnumf, hbsf, hbnf⟩ := hM.2.2.1 f hfn
  obtain ⟨-, hlt, hlot, hlrt, hot, h9t, hnumt, hbst, hbnt⟩ := hM.2.2.1 t htn
  have hnm := hM.1
  have hkf : kd (1000 + f) = 2 := kd_mem (by omega)
  have hkt : kd (1000 + t) = 2 := kd_mem (by omega)
  refine wp_aload_n dX6_letter_0 rfl 0 rfl ?_
  refine wp_iload_n dX6_letter_1 rfl 1 rfl ?_
  refine wp_callV mX6_findLetter 1 [.int (nI l)] [] (c := 6) dX6_letter_2 iX6_findLetter (fun _ => trivial) mlX6_177 imX6_findLetter seX6_findLetter (by decide) rfl rfl ⟨by decide, by decide⟩ rfl rfl (Nat.le_of_ble_eq_true rfl) (Nat.le_of_ble_eq_true rfl) (by decide) (by decide) ?_
  refine ct_findLetter nl l hr hL.2.1 (by omega) hl0 hel ?_
  show WP g mX6_letter 5 [(0, .ref 1), (1, .int (nI l)), (2, .int 0)] [.ref (5000 + l)] _ 0 0 _
  refine wp_astore_n (lv' := [(3, .ref (5000 + l)), (0, .ref 1), (1, .int (nI l)), (2, .int 0)]) dX6_letter_5 rfl (by decide) rfl ?_
  refine wp_aload_n dX6_letter_6 rfl 0 rfl ?_
  refine wp_ifnonnull (tgt := 14) dX6_letter_7 (by decide) ?_
  refine wp_iload_n dX6_letter_14 rfl 3 rfl ?_
  refine wp_tableIn (off := 33) (tgt := 48) dX6_letter_15 (by decide) (by decide) (by decide) (by decide) ?_
  refine wp_aload_n dX6_letter_48 rfl 0 rfl ?_
  refine wp_getP (b := 1000 + f) dX6_letter_49 flX6_153 rfl hkl hll hf ?_
  refine wv_getI (nI f) dX6_letter_52 flX6_180 rfl hkf hlf hnumf ?_
  refine wp_i2l dX6_letter_55 ?_
  refine wp_lret dX6_letter_56 rfl (by decide) (by decide) ?_
  exact hp
set_option maxRecDepth 100000 in
set_option maxHeartbeats 4000000 in
theorem ct_letter_1 {g : GG} {h : HP} {Post : Option Value → HP → Prop} (nm nl l : Nat) (hr : SR h) (hL : SL h nm nl) (hl0 : l < nl) (f t : Nat) (hf : vP h (5000 + l) 0 = some (1000 + f)) (ht : vP h (5000 + l) 1 = some (1000 + t)) (hM : SM h nm) (hfn : f < nm) (htn : t < nm) (hp : Post (some (.long (Int32.toInt64 (nI t)))) h) : CT g mX6_letter [.ref 1, .int (nI l), .int 1] h Post := by
  show WP g mX6_letter 0 [(0, .ref 1), (1, .int (nI l)), (2, .int 1)] [] h 0 0 Post
  have hnl := hL.1
  obtain ⟨hel, hll, -⟩ := hL.2.2.1 l hl0
  have hkl : kd (5000 + l) = 1 := kd_let (by omega)
  obtain ⟨-, hlf, hlof, hlrf, hof, h9f, hnumf, hbsf, hbnf⟩ := hM.2.2.1 f hfn
  obtain ⟨-, hlt, hlot, hlrt, hot, h9t, hnumt, hbst, hbnt⟩ := hM.2.2.1 t htn
  have hnm := hM.1
  have hkf : kd (1000 + f) = 2 := kd_mem (by omega)
  have hkt : kd (1000 + t) = 2 := kd_mem (by omega)
  refine wp_aload_n dX6_letter_0 rfl 0 rfl ?_
  refine wp_iload_n dX6_letter_1 rfl 1 rfl ?_
  refine wp_callV mX6_findLetter 1 [.int (nI l)] [] (c := 6) dX6_letter_2 iX6_findLetter (fun _ => trivial) mlX6_177 imX6_findLetter seX6_findLetter (by decide) rfl rfl ⟨by decide, by decide⟩ rfl rfl (Nat.le_of_ble_eq_true rfl) (Nat.le_of_ble_eq_true rfl) (by decide) (by decide) ?_
  refine ct_findLetter nl l hr hL.2.1 (by omega) hl0 hel ?_
  show WP g mX6_letter 5 [(0, .ref 1), (1, .int (nI l)), (2, .int 1)] [.ref (5000 + l)] _ 0 0 _
  refine wp_astore_n (lv' := [(3, .ref (5000 + l)), (0, .ref 1), (1, .int (nI l)), (2, .int 1)]) dX6_letter_5 rfl (by decide) rfl ?_
  refine wp_aload_n dX6_letter_6 rfl 0 rfl ?_
  refine wp_ifnonnull (tgt := 14) dX6_letter_7 (by decide) ?_
  refine wp_iload_n dX6_letter_14 rfl 3 rfl ?_
  refine wp_tableIn (off := 42) (tgt := 57) dX6_letter_15 (by decide) (by decide) (by decide) (by decide) ?_
  refine wp_aload_n dX6_letter_57 rfl 0 rfl ?_
  refine wp_getP (b := 1000 + t) dX6_letter_58 flX6_149 rfl hkl hll ht ?_
  refine wv_getI (nI t) dX6_letter_61 flX6_180 rfl hkt hlt hnumt ?_
  refine wp_i2l dX6_letter_64 ?_
  refine wp_lret dX6_letter_65 rfl (by decide) (by decide) ?_
  exact hp
set_option maxRecDepth 100000 in
set_option maxHeartbeats 4000000 in
theorem ct_letter_2 {g : GG} {h : HP} {Post : Option Value → HP → Prop} (nm nl l : Nat) (hr : SR h) (hL : SL h nm nl) (hl0 : l < nl) (f t : Nat) (hf : vP h (5000 + l) 0 = some (1000 + f)) (ht : vP h (5000 + l) 1 = some (1000 + t)) (hM : SM h nm) (hfn : f < nm) (htn : t < nm) (hp : Post (some (.long (Int32.toInt64 (vI h (5000 + l) 3)))) h) : CT g mX6_letter [.ref 1, .int (nI l), .int 2] h Post := by
  show WP g mX6_letter 0 [(0, .ref 1), (1, .int (nI l)), (2, .int 2)] [] h 0 0 Post
  have hnl := hL.1
  obtain ⟨hel, hll, -⟩ := hL.2.2.1 l hl0
  have hkl : kd (5000 + l) = 1 := kd_let (by omega)
  obtain ⟨-, hlf, hlof, hlrf, hof, h9f, hnumf, hbsf, hbnf⟩ := hM.2.2.1 f hfn
  obtain ⟨-, hlt, hlot, hlrt, hot, h9t, hnumt, hbst, hbnt⟩ := hM.2.2.1 t htn
  have hnm := hM.1
  have hkf : kd (1000 + f) = 2 := kd_mem (by omega)
  have hkt : kd (1000 + t) = 2 := kd_mem (by omega)
  refine wp_aload_n dX6_letter_0 rfl 0 rfl ?_
  refine wp_iload_n dX6_letter_1 rfl 1 rfl ?_
  refine wp_callV mX6_findLetter 1 [.int (nI l)] [] (c := 6) dX6_letter_2 iX6_findLetter (fun _ => trivial) mlX6_177 imX6_findLetter seX6_findLetter (by decide) rfl rfl ⟨by decide, by decide⟩ rfl rfl (Nat.le_of_ble_eq_true rfl) (Nat.le_of_ble_eq_true rfl) (by decide) (by decide) ?_
  refine ct_findLetter nl l hr hL.2.1 (by omega) hl0 hel ?_
  show WP g mX6_letter 5 [(0, .ref 1), (1, .int (nI l)), (2, .int 2)] [.ref (5000 + l)] _ 0 0 _
  refine wp_astore_n (lv' := [(3, .ref (5000 + l)), (0, .ref 1), (1, .int (nI l)), (2, .int 2)]) dX6_letter_5 rfl (by decide) rfl ?_
  refine wp_aload_n dX6_letter_6 rfl 0 rfl ?_
  refine wp_ifnonnull (tgt := 14) dX6_letter_7 (by decide) ?_
  refine wp_iload_n dX6_letter_14 rfl 3 rfl ?_
  refine wp_tableIn (off := 51) (tgt := 66) dX6_letter_15 (by decide) (by decide) (by decide) (by decide) ?_
  refine wp_aload_n dX6_letter_66 rfl 0 rfl ?_
  refine wp_getI dX6_letter_67 flX6_146 rfl hkl hll ?_
  refine wp_i2l dX6_letter_70 ?_
  refine wp_lret dX6_letter_71 rfl (by decide) (by decide) ?_
  exact hp
set_option maxRecDepth 100000 in
set_option maxHeartbeats 4000000 in
theorem ct_letter_3 {g : GG} {h : HP} {Post : Option Value → HP → Prop} (nm nl l : Nat) (hr : SR h) (hL : SL h nm nl) (hl0 : l < nl) (hno : vI h (5000 + l) 4 = 0 → Post (some (.long (-9000000000000000000))) h) (hyes : ¬ vI h (5000 + l) 4 = 0 → Post (some (.long (vL h (5000 + l) 5))) h) : CT g mX6_letter [.ref 1, .int (nI l), .int 3] h Post := by
  show WP g mX6_letter 0 [(0, .ref 1), (1, .int (nI l)), (2, .int 3)] [] h 0 0 Post
  have hnl := hL.1
  obtain ⟨hel, hll, -⟩ := hL.2.2.1 l hl0
  have hkl : kd (5000 + l) = 1 := kd_let (by omega)
  refine wp_aload_n dX6_letter_0 rfl 0 rfl ?_
  refine wp_iload_n dX6_letter_1 rfl 1 rfl ?_
  refine wp_callV mX6_findLetter 1 [.int (nI l)] [] (c := 6) dX6_letter_2 iX6_findLetter (fun _ => trivial) mlX6_177 imX6_findLetter seX6_findLetter (by decide) rfl rfl ⟨by decide, by decide⟩ rfl rfl (Nat.le_of_ble_eq_true rfl) (Nat.le_of_ble_eq_true rfl) (by decide) (by decide) ?_
  refine ct_findLetter nl l hr hL.2.1 (by omega) hl0 hel ?_
  show WP g mX6_letter 5 [(0, .ref 1), (1, .int (nI l)), (2, .int 3)] [.ref (5000 + l)] _ 0 0 _
  refine wp_astore_n (lv' := [(3, .ref (5000 + l)), (0, .ref 1), (1, .int (nI l)), (2, .int 3)]) dX6_letter_5 rfl (by decide) rfl ?_
  refine wp_aload_n dX6_letter_6 rfl 0 rfl ?_
  refine wp_ifnonnull (tgt := 14) dX6_letter_7 (by decide) ?_
  refine wp_iload_n dX6_letter_14 rfl 3 rfl ?_
  refine wp_tableIn (off := 57) (tgt := 72) dX6_letter_15 (by decide) (by decide) (by decide) (by decide) ?_
  refine wp_aload_n dX6_letter_72 rfl 0 rfl ?_
  refine wp_getI dX6_letter_73 flX6_168 rfl hkl hll ?_
  refine wp_if_eq (tgt := 86) dX6_letter_76 (by decide) (fun c_1 => ?_) (fun c_1 => ?_)
  · refine wp_ldc2 dX6_letter_86 cnX6_58 ?_
    refine wp_lret dX6_letter_89 rfl (by decide) (by decide) ?_
    exact hno c_1
  · refine wp_aload_n dX6_letter_79 rfl 0 rfl ?_
    refine wp_getL dX6_letter_80 flX6_171 rfl hkl hll ?_
    refine wp_goto (tgt := 89) dX6_letter_83 (by decide) ?_
    refine wp_lret dX6_letter_89 rfl (by decide) (by decide) ?_
    exact hyes c_1
set_option maxRecDepth 100000 in
set_option maxHeartbeats 4000000 in
theorem ct_letter_4 {g : GG} {h : HP} {Post : Option Value → HP → Prop} (nm nl l : Nat) (hr : SR h) (hL : SL h nm nl) (hl0 : l < nl) (hno : vI h (5000 + l) 4 = 0 → Post (some (.long (-9000000000000000000))) h) (hyes : ¬ vI h (5000 + l) 4 = 0 → Post (some (.long (vL h (5000 + l) 6))) h) : CT g mX6_letter [.ref 1, .int (nI l), .int 4] h Post := by
  show WP g mX6_letter 0 [(0, .ref 1), (1, .int (nI l)), (2, .int 4)] [] h 0 0 Post
  have hnl := hL.1
  obtain ⟨hel, hll, -⟩ := hL.2.2.1 l hl0
  have hkl : kd (5000 + l) = 1 := kd_let (by omega)
  refine wp_aload_n dX6_letter_0 rfl 0 rfl ?_
  refine wp_iload_n dX6_letter_1 rfl 1 rfl ?_
  refine wp_callV mX6_findLetter 1 [.int (nI l)] [] (c := 6) dX6_letter_2 iX6_findLetter (fun _ => trivial) mlX6_177 imX6_findLetter seX6_findLetter (by decide) rfl rfl ⟨by decide, by decide⟩ rfl rfl (Nat.le_of_ble_eq_true rfl) (Nat.le_of_ble_eq_true rfl) (by decide) (by decide) ?_
  refine ct_findLetter nl l hr hL.2.1 (by omega) hl0 hel ?_
  show WP g mX6_letter 5 [(0, .ref 1), (1, .int (nI l)), (2, .int 4)] [.ref (5000 + l)] _ 0 0 _
  refine wp_astore_n (lv' := [(3, .ref (5000 + l)), (0, .ref 1), (1, .int (nI l)), (2, .int 4)]) dX6_letter_5 rfl (by decide) rfl ?_
  refine wp_aload_n dX6_letter_6 rfl 0 rfl ?_
  refine wp_ifnonnull (tgt := 14) dX6_letter_7 (by decide) ?_
  refine wp_iload_n dX6_letter_14 rfl 3 rfl ?_
  refine wp_tableIn (off := 75) (tgt := 90) dX6_letter_15 (by decide) (by decide) (by decide) (by decide) ?_
  refine wp_aload_n dX6_letter_90 rfl 0 rfl ?_
  refine wp_getI dX6_letter_91 flX6_168 rfl hkl hll ?_
  refine wp_if_eq (tgt := 104) dX6_letter_94 (by decide) (fun c_1 => ?_) (fun c_1 => ?_)
  · refine wp_ldc2 dX6_letter_104 cnX6_58 ?_
    refine wp_lret dX6_letter_107 rfl (by decide) (by decide) ?_
    exact hno c_1
  · refine wp_aload_n dX6_letter_97 rfl 0 rfl ?_
    refine wp_getL dX6_letter_98 flX6_174 rfl hkl hll ?_
    refine wp_goto (tgt := 107) dX6_letter_101 (by decide) ?_
    refine wp_lret dX6_letter_107 rfl (by decide) (by decide) ?_
    exact hyes c_1
set_option maxRecDepth 100000 in
set_option maxHeartbeats 4000000 in
theorem ct_letter_x {g : GG} {h : HP} {Post : Option Value → HP → Prop} (nm nl l : Nat) (hr : SR h) (hL : SL h nm nl) (hl0 : l < nl) (wh : Int32) (hw : wh.toInt < 0 ∨ 4 < wh.toInt) (hp : Post (some (.long (-9000000000000000000))) h) : CT g mX6_letter [.ref 1, .int (nI l), .int wh] h Post := by
  show WP g mX6_letter 0 [(0, .ref 1), (1, .int (nI l)), (2, .int wh)] [] h 0 0 Post
  have hnl := hL.1
  obtain ⟨hel, hll, -⟩ := hL.2.2.1 l hl0
  have hkl : kd (5000 + l) = 1 := kd_let (by omega)
  refine wp_aload_n dX6_letter_0 rfl 0 rfl ?_
  refine wp_iload_n dX6_letter_1 rfl 1 rfl ?_
  refine wp_callV mX6_findLetter 1 [.int (nI l)] [] (c := 6) dX6_letter_2 iX6_findLetter (fun _ => trivial) mlX6_177 imX6_findLetter seX6_findLetter (by decide) rfl rfl ⟨by decide, by decide⟩ rfl rfl (Nat.le_of_ble_eq_true rfl) (Nat.le_of_ble_eq_true rfl) (by decide) (by decide) ?_
  refine ct_findLetter nl l hr hL.2.1 (by omega) hl0 hel ?_
  show WP g mX6_letter 5 [(0, .ref 1), (1, .int (nI l)), (2, .int wh)] [.ref (5000 + l)] _ 0 0 _
  refine wp_astore_n (lv' := [(3, .ref (5000 + l)), (0, .ref 1), (1, .int (nI l)), (2, .int wh)]) dX6_letter_5 rfl (by decide) rfl ?_
  refine wp_aload_n dX6_letter_6 rfl 0 rfl ?_
  refine wp_ifnonnull (tgt := 14) dX6_letter_7 (by decide) ?_
  refine wp_iload_n dX6_letter_14 rfl 3 rfl ?_
  refine wp_tableOut (tgt := 108) dX6_letter_15 hw (by decide) ?_
  refine wp_ldc2 dX6_letter_108 cnX6_58 ?_
  refine wp_lret dX6_letter_111 rfl (by decide) (by decide) ?_
  exact hp
set_option maxRecDepth 100000 in
set_option maxHeartbeats 4000000 in
theorem ct_heard0a {g : GG} {h : HP} {Post : Option Value → HP → Prop} (nm : Nat) (x : Int32) (y : Int32) (wh : Int32) (hr : SR h) (hM : SM h nm) (hx : ¬ inR x nm) (hy : ¬ inR y nm) (hp : Post (some (.long (-9000000000000000000))) h) : CT g mX6_heard [.ref 1, .int x, .int y, .int wh] h Post := by
  show WP g mX6_heard 0 [(0, .ref 1), (1, .int x), (2, .int y), (3, .int wh)] [] h 0 0 Post
  have hnm := hM.1
  have hc2 := hM.2.1
  refine wp_aload_n dX6_heard_0 rfl 0 rfl ?_
  refine wp_iload_n dX6_heard_1 rfl 1 rfl ?_
  refine wp_callV mX6_findMember 1 [.int x] [] (c := 6) dX6_heard_2 iX6_findMember (fun _ => trivial) mlX6_64 imX6_findMember seX6_findMember (by decide) rfl rfl ⟨by decide, by decide⟩ rfl rfl (Nat.le_of_ble_eq_true rfl) (Nat.le_of_ble_eq_true rfl) (by decide) (by decide) ?_
  refine ct_findMember0 nm x hr hM.2.1 (by have := hM.1; omega) hx ?_
  show WP g mX6_heard 5 [(0, .ref 1), (1, .int x), (2, .int y), (3, .int wh)] [.null] _ 0 0 _
  refine wp_astoreN (lv' := [(4, .null), (0, .ref 1), (1, .int x), (2, .int y), (3, .int wh)]) dX6_heard_5 (by decide) rfl ?_
  refine wp_aloadN dX6_heard_7 0 rfl ?_
  refine wp_ifnullN (tgt := 29) dX6_heard_9 (by decide) ?_
  refine wp_ldc2 dX6_heard_29 cnX6_58 ?_
  refine wp_lret dX6_heard_32 rfl (by decide) (by decide) ?_
  exact hp
set_option maxRecDepth 100000 in
set_option maxHeartbeats 4000000 in
theorem ct_heard0b {g : GG} {h : HP} {Post : Option Value → HP → Prop} (nm : Nat) (x : Int32) (wh : Int32) (hr : SR h) (hM : SM h nm) (hx : ¬ inR x nm) (j : Nat) (hj : j < nm) (hp : Post (some (.long (-9000000000000000000))) h) : CT g mX6_heard [.ref 1, .int x, .int (nI j), .int wh] h Post := by
  show WP g mX6_heard 0 [(0, .ref 1), (1, .int x), (2, .int (nI j)), (3, .int wh)] [] h 0 0 Post
  have hnm := hM.1
  have hc2 := hM.2.1
  obtain ⟨hej, hlj, -⟩ := hM.2.2.1 j hj
  have hkj : kd (1000 + j) = 2 := kd_mem (by omega)
  refine wp_aload_n dX6_heard_0 rfl 0 rfl ?_
  refine wp_iload_n dX6_heard_1 rfl 1 rfl ?_
  refine wp_callV mX6_findMember 1 [.int x] [] (c := 6) dX6_heard_2 iX6_findMember (fun _ => trivial) mlX6_64 imX6_findMember seX6_findMember (by decide) rfl rfl ⟨by decide, by decide⟩ rfl rfl (Nat.le_of_ble_eq_true rfl) (Nat.le_of_ble_eq_true rfl) (by decide) (by decide) ?_
  refine ct_findMember0 nm x hr hM.2.1 (by have := hM.1; omega) hx ?_
  show WP g mX6_heard 5 [(0, .ref 1), (1, .int x), (2, .int (nI j)), (3, .int wh)] [.null] _ 0 0 _
  refine wp_astoreN (lv' := [(4, .null), (0, .ref 1), (1, .int x), (2, .int (nI j)), (3, .int wh)]) dX6_heard_5 (by decide) rfl ?_
  refine wp_aloadN dX6_heard_7 0 rfl ?_
  refine wp_ifnullN (tgt := 29) dX6_heard_9 (by decide) ?_
  refine wp_ldc2 dX6_heard_29 cnX6_58 ?_
  refine wp_lret dX6_heard_32 rfl (by decide) (by decide) ?_
  exact hp
set_option maxRecDepth 100000 in
set_option maxHeartbeats 4000000 in
theorem ct_heard1 {g : GG} {h : HP} {Post : Option Value → HP → Prop} (nm i : Nat) (hr : SR h) (hM : SM h nm) (hi : i < nm) (y : Int32) (wh : Int32) (hy : ¬ inR y nm) (hp : Post (some (.long (-9000000000000000000))) h) : CT g mX6_heard [.ref 1, .int (nI i), .int y, .int wh] h Post := by
  show WP g mX6_heard 0 [(0, .ref 1), (1, .int (nI i)), (2, .int y), (3, .int wh)] [] h 0 0 Post
  have hnm := hM.1
  have hc2 := hM.2.1
  obtain ⟨he, hl, hlo, hlr, ho, h9, hnum, hbs, hbn⟩ := hM.2.2.1 i hi
  have hk : kd (1000 + i) = 2 := kd_mem (by omega)
  have hko : kd (2000 + i) = 4 := kd_own (by omega)
  have hkr : kd (3000 + i) = 14 := kd_arr (by omega)
  refine wp_aload_n dX6_heard_0 rfl 0 rfl ?_
  refine wp_iload_n dX6_heard_1 rfl 1 rfl ?_
  refine wp_callV mX6_findMember 1 [.int (nI i)] [] (c := 6) dX6_heard_2 iX6_findMember (fun _ => trivial) mlX6_64 imX6_findMember seX6_findMember (by decide) rfl rfl ⟨by decide, by decide⟩ rfl rfl (Nat.le_of_ble_eq_true rfl) (Nat.le_of_ble_eq_true rfl) (by decide) (by decide) ?_
  refine ct_findMember nm i hr hc2 hnm hi he ?_
  show WP g mX6_heard 5 [(0, .ref 1), (1, .int (nI i)), (2, .int y), (3, .int wh)] [.ref (1000 + i)] _ 0 0 _
  refine wp_astore (lv' := [(4, .ref (1000 + i)), (0, .ref 1), (1, .int (nI i)), (2, .int y), (3, .int wh)]) dX6_heard_5 (by decide) rfl ?_
  refine wp_aload dX6_heard_7 0 rfl ?_
  refine wp_ifnull dX6_heard_9 ?_
  refine wp_aload_n dX6_heard_12 rfl 1 rfl ?_
  refine wp_iload_n dX6_heard_13 rfl 3 rfl ?_
  refine wp_callV mX6_findMember 1 [.int y] [] (c := 6) dX6_heard_14 iX6_findMember (fun _ => trivial) mlX6_64 imX6_findMember seX6_findMember (by decide) rfl rfl ⟨by decide, by decide⟩ rfl rfl (Nat.le_of_ble_eq_true rfl) (Nat.le_of_ble_eq_true rfl) (by decide) (by decide) ?_
  refine ct_findMember0 nm y hr hM.2.1 (by have := hM.1; omega) hy ?_
  show WP g mX6_heard 17 [(4, .ref (1000 + i)), (0, .ref 1), (1, .int (nI i)), (2, .int y), (3, .int wh)] [.null] _ 0 0 _
  refine wp_ifnullN (tgt := 29) dX6_heard_17 (by decide) ?_
  refine wp_ldc2 dX6_heard_29 cnX6_58 ?_
  refine wp_lret dX6_heard_32 rfl (by decide) (by decide) ?_
  exact hp
set_option maxRecDepth 100000 in
set_option maxHeartbeats 4000000 in
theorem ct_heard_0 {g : GG} {h : HP} {Post : Option Value → HP → Prop} (nm i : Nat) (hr : SR h) (hM : SM h nm) (hi : i < nm) (j : Nat) (hj : j < nm) (hno : hsp h (3000 + i) j = none → Post (some (.long (-9000000000000000000))) h) (hyes : ∀ b, hsp h (3000 + i) j = some b → Post (some (.long (sLo h b (cCn h (1000 + i) (vL h 1 0)) (vI h (1000 + i) 2)))) h) : CT g mX6_heard [.ref 1, .int (nI i), .int (nI j), .int 0] h Post := by
  show WP g mX6_heard 0 [(0, .ref 1), (1, .int (nI i)), (2, .int (nI j)), (3, .int 0)] [] h 0 0 Post
  have hnm := hM.1
  have hc2 := hM.2.1
  obtain ⟨he, hl, hlo, hlr, ho, h9, hnum, hbs, hbn⟩ := hM.2.2.1 i hi
  have hk : kd (1000 + i) = 2 := kd_mem (by omega)
  have hko : kd (2000 + i) = 4 := kd_own (by omega)
  have hkr : kd (3000 + i) = 14 := kd_arr (by omega)
  obtain ⟨hej, hlj, -⟩ := hM.2.2.1 j hj
  have hkj : kd (1000 + j) = 2 := kd_mem (by omega)
  refine wp_aload_n dX6_heard_0 rfl 0 rfl ?_
  refine wp_iload_n dX6_heard_1 rfl 1 rfl ?_
  refine wp_callV mX6_findMember 1 [.int (nI i)] [] (c := 6) dX6_heard_2 iX6_findMember (fun _ => trivial) mlX6_64 imX6_findMember seX6_findMember (by decide) rfl rfl ⟨by decide, by decide⟩ rfl rfl (Nat.le_of_ble_eq_true rfl) (Nat.le_of_ble_eq_true rfl) (by decide) (by decide) ?_
  refine ct_findMember nm i hr hc2 hnm hi he ?_
  show WP g mX6_heard 5 [(0, .ref 1), (1, .int (nI i)), (2, .int (nI j)), (3, .int 0)] [.ref (1000 + i)] _ 0 0 _
  refine wp_astore (lv' := [(4, .ref (1000 + i)), (0, .ref 1), (1, .int (nI i)), (2, .int (nI j)), (3, .int 0)]) dX6_heard_5 (by decide) rfl ?_
  refine wp_aload dX6_heard_7 0 rfl ?_
  refine wp_ifnull dX6_heard_9 ?_
  refine wp_aload_n dX6_heard_12 rfl 1 rfl ?_
  refine wp_iload_n dX6_heard_13 rfl 3 rfl ?_
  refine wp_callV mX6_findMember 1 [.int (nI j)] [] (c := 6) dX6_heard_14 iX6_findMember (fun _ => trivial) mlX6_64 imX6_findMember seX6_findMember (by decide) rfl rfl ⟨by decide, by decide⟩ rfl rfl (Nat.le_of_ble_eq_true rfl) (Nat.le_of_ble_eq_true rfl) (by decide) (by decide) ?_
  refine ct_findMember nm j hr hc2 hnm hj hej ?_
  show WP g mX6_heard 17 [(4, .ref (1000 + i)), (0, .ref 1), (1, .int (nI i)), (2, .int (nI j)), (3, .int 0)] [.ref (1000 + j)] _ 0 0 _
  refine wp_ifnull dX6_heard_17 ?_
  refine wp_aload dX6_heard_20 0 rfl ?_
  refine wp_iload_n dX6_heard_22 rfl 3 rfl ?_
  refine wp_callV mX2_hasHeardOf (1000 + i) [.int (nI j)] [] (c := 2) dX6_heard_23 iX2_hasHeardOf (fun _ => trivial) mlX6_183 imX2_hasHeardOf seX2_hasHeardOf (by decide) rfl hk ⟨by decide, by decide⟩ rfl rfl (Nat.le_of_ble_eq_true rfl) (Nat.le_of_ble_eq_true rfl) (by decide) (by decide) ?_
  refine ct_hasHeardOf (1000 + i) (3000 + i) j hk hl h9 hkr hlr (ln_arr (by omega)) (by omega) (fun b q => ⟨by rw [(hbs j b (by omega) q).1]; exact kd_hrd (by omega), (hbs j b (by omega) q).2⟩) (fun hv => ?_) (fun b hv => ?_)
  · show WP g mX6_heard 26 [(4, .ref (1000 + i)), (0, .ref 1), (1, .int (nI i)), (2, .int (nI j)), (3, .int 0)] [.int 0] _ 0 0 _
    refine wp_if_ne (tgt := 33) dX6_heard_26 (by decide) (fun c_1 => absurd (by decide) c_1) (fun _ => ?_)
    refine wp_ldc2 dX6_heard_29 cnX6_58 ?_
    refine wp_lret dX6_heard_32 rfl (by decide) (by decide) ?_
    exact hno hv
  · show WP g mX6_heard 26 [(4, .ref (1000 + i)), (0, .ref 1), (1, .int (nI i)), (2, .int (nI j)), (3, .int 0)] [.int 1] _ 0 0 _
    refine wp_if_ne (tgt := 33) dX6_heard_26 (by decide) (fun _ => ?_) (fun c_2 => absurd c_2 (by decide))
    refine wp_iload_n dX6_heard_33 rfl 4 rfl ?_
    refine wp_lookup (off := 26) (tgt := 60) dX6_heard_34 (by decide) (by decide) (by decide) ?_
    refine wp_pc (pc' := 60) rfl ?_
    refine wp_aload dX6_heard_60 0 rfl ?_
    refine wp_iload_n dX6_heard_62 rfl 3 rfl ?_
    refine wp_aload_n dX6_heard_63 rfl 1 rfl ?_
    refine wp_getL dX6_heard_64 flX6_7 rfl rfl hr.1 ?_
    refine wp_callV mX2_heardLowAt (1000 + i) [.int (nI j), .long (vL h 1 0)] [] (c := 2) dX6_heard_67 iX2_heardLowAt (fun _ => trivial) mlX6_187 imX2_heardLowAt seX2_heardLowAt (by decide) rfl hk ⟨by decide, by decide⟩ rfl rfl (Nat.le_of_ble_eq_true rfl) (Nat.le_of_ble_eq_true rfl) (by decide) (by decide) ?_
    refine ct_heardLowAt (vL h 1 0) (1000 + i) (3000 + i) j hk hl h9 hkr hlr (ln_arr (by omega)) (by omega) (fun b q => ⟨by rw [(hbs j b (by omega) q).1]; exact kd_hrd (by omega), (hbs j b (by omega) q).2⟩) (fun hv2 => absurd (hv.symm.trans hv2) (by simp)) (fun b2 hv2 => ?_)
    obtain rfl : b = b2 := Option.some.inj (hv.symm.trans hv2)
    show WP g mX6_heard 70 [(4, .ref (1000 + i)), (0, .ref 1), (1, .int (nI i)), (2, .int (nI j)), (3, .int 0)] [.long (sLo h b (cCn h (1000 + i) (vL h 1 0)) (vI h (1000 + i) 2))] _ 0 0 _
    refine wp_lret dX6_heard_70 rfl (by decide) (by decide) ?_
    exact hyes b hv
set_option maxRecDepth 100000 in
set_option maxHeartbeats 4000000 in
theorem ct_heard_1 {g : GG} {h : HP} {Post : Option Value → HP → Prop} (nm i : Nat) (hr : SR h) (hM : SM h nm) (hi : i < nm) (j : Nat) (hj : j < nm) (hno : hsp h (3000 + i) j = none → Post (some (.long (-9000000000000000000))) h) (hyes : ∀ b, hsp h (3000 + i) j = some b → Post (some (.long (sHi h b (cCn h (1000 + i) (vL h 1 0)) (vI h (1000 + i) 2)))) h) : CT g mX6_heard [.ref 1, .int (nI i), .int (nI j), .int 1] h Post := by
  show WP g mX6_heard 0 [(0, .ref 1), (1, .int (nI i)), (2, .int (nI j)), (3, .int 1)] [] h 0 0 Post
  have hnm := hM.1
  have hc2 := hM.2.1
  obtain ⟨he, hl, hlo, hlr, ho, h9, hnum, hbs, hbn⟩ := hM.2.2.1 i hi
  have hk : kd (1000 + i) = 2 := kd_mem (by omega)
  have hko : kd (2000 + i) = 4 := kd_own (by omega)
  have hkr : kd (3000 + i) = 14 := kd_arr (by omega)
  obtain ⟨hej, hlj, -⟩ := hM.2.2.1 j hj
  have hkj : kd (1000 + j) = 2 := kd_mem (by omega)
  refine wp_aload_n dX6_heard_0 rfl 0 rfl ?_
  refine wp_iload_n dX6_heard_1 rfl 1 rfl ?_
  refine wp_callV mX6_findMember 1 [.int (nI i)] [] (c := 6) dX6_heard_2 iX6_findMember (fun _ => trivial) mlX6_64 imX6_findMember seX6_findMember (by decide) rfl rfl ⟨by decide, by decide⟩ rfl rfl (Nat.le_of_ble_eq_true rfl) (Nat.le_of_ble_eq_true rfl) (by decide) (by decide) ?_
  refine ct_findMember nm i hr hc2 hnm hi he ?_
  show WP g mX6_heard 5 [(0, .ref 1), (1, .int (nI i)), (2, .int (nI j)), (3, .int 1)] [.ref (1000 + i)] _ 0 0 _
  refine wp_astore (lv' := [(4, .ref (1000 + i)), (0, .ref 1), (1, .int (nI i)), (2, .int (nI j)), (3, .int 1)]) dX6_heard_5 (by decide) rfl ?_
  refine wp_aload dX6_heard_7 0 rfl ?_
  refine wp_ifnull dX6_heard_9 ?_
  refine wp_aload_n dX6_heard_12 rfl 1 rfl ?_
  refine wp_iload_n dX6_heard_13 rfl 3 rfl ?_
  refine wp_callV mX6_findMember 1 [.int (nI j)] [] (c := 6) dX6_heard_14 iX6_findMember (fun _ => trivial) mlX6_64 imX6_findMember seX6_findMember (by decide) rfl rfl ⟨by decide, by decide⟩ rfl rfl (Nat.le_of_ble_eq_true rfl) (Nat.le_of_ble_eq_true rfl) (by decide) (by decide) ?_
  refine ct_findMember nm j hr hc2 hnm hj hej ?_
  show WP g mX6_heard 17 [(4, .ref (1000 + i)), (0, .ref 1), (1, .int (nI i)), (2, .int (nI j)), (3, .int 1)] [.ref (1000 + j)] _ 0 0 _
  refine wp_ifnull dX6_heard_17 ?_
  refine wp_aload dX6_heard_20 0 rfl ?_
  refine wp_iload_n dX6_heard_22 rfl 3 rfl ?_
  refine wp_callV mX2_hasHeardOf (1000 + i) [.int (nI j)] [] (c := 2) dX6_heard_23 iX2_hasHeardOf (fun _ => trivial) mlX6_183 imX2_hasHeardOf seX2_hasHeardOf (by decide) rfl hk ⟨by decide, by decide⟩ rfl rfl (Nat.le_of_ble_eq_true rfl) (Nat.le_of_ble_eq_true rfl) (by decide) (by decide) ?_
  refine ct_hasHeardOf (1000 + i) (3000 + i) j hk hl h9 hkr hlr (ln_arr (by omega)) (by omega) (fun b q => ⟨by rw [(hbs j b (by omega) q).1]; exact kd_hrd (by omega), (hbs j b (by omega) q).2⟩) (fun hv => ?_) (fun b hv => ?_)
  · show WP g mX6_heard 26 [(4, .ref (1000 + i)), (0, .ref 1), (1, .int (nI i)), (2, .int (nI j)), (3, .int 1)] [.int 0] _ 0 0 _
    refine wp_if_ne (tgt := 33) dX6_heard_26 (by decide) (fun c_1 => absurd (by decide) c_1) (fun _ => ?_)
    refine wp_ldc2 dX6_heard_29 cnX6_58 ?_
    refine wp_lret dX6_heard_32 rfl (by decide) (by decide) ?_
    exact hno hv
  · show WP g mX6_heard 26 [(4, .ref (1000 + i)), (0, .ref 1), (1, .int (nI i)), (2, .int (nI j)), (3, .int 1)] [.int 1] _ 0 0 _
    refine wp_if_ne (tgt := 33) dX6_heard_26 (by decide) (fun _ => ?_) (fun c_2 => absurd c_2 (by decide))
    refine wp_iload_n dX6_heard_33 rfl 4 rfl ?_
    refine wp_lookup (off := 37) (tgt := 71) dX6_heard_34 (by decide) (by decide) (by decide) ?_
    refine wp_pc (pc' := 71) rfl ?_
    refine wp_aload dX6_heard_71 0 rfl ?_
    refine wp_iload_n dX6_heard_73 rfl 3 rfl ?_
    refine wp_aload_n dX6_heard_74 rfl 1 rfl ?_
    refine wp_getL dX6_heard_75 flX6_7 rfl rfl hr.1 ?_
    refine wp_callV mX2_heardHighAt (1000 + i) [.int (nI j), .long (vL h 1 0)] [] (c := 2) dX6_heard_78 iX2_heardHighAt (fun _ => trivial) mlX6_191 imX2_heardHighAt seX2_heardHighAt (by decide) rfl hk ⟨by decide, by decide⟩ rfl rfl (Nat.le_of_ble_eq_true rfl) (Nat.le_of_ble_eq_true rfl) (by decide) (by decide) ?_
    refine ct_heardHighAt (vL h 1 0) (1000 + i) (3000 + i) j hk hl h9 hkr hlr (ln_arr (by omega)) (by omega) (fun b q => ⟨by rw [(hbs j b (by omega) q).1]; exact kd_hrd (by omega), (hbs j b (by omega) q).2⟩) (fun hv2 => absurd (hv.symm.trans hv2) (by simp)) (fun b2 hv2 => ?_)
    obtain rfl : b = b2 := Option.some.inj (hv.symm.trans hv2)
    show WP g mX6_heard 81 [(4, .ref (1000 + i)), (0, .ref 1), (1, .int (nI i)), (2, .int (nI j)), (3, .int 1)] [.long (sHi h b (cCn h (1000 + i) (vL h 1 0)) (vI h (1000 + i) 2))] _ 0 0 _
    refine wp_lret dX6_heard_81 rfl (by decide) (by decide) ?_
    exact hyes b hv
set_option maxRecDepth 100000 in
set_option maxHeartbeats 4000000 in
theorem ct_heard_x {g : GG} {h : HP} {Post : Option Value → HP → Prop} (nm i : Nat) (hr : SR h) (hM : SM h nm) (hi : i < nm) (j : Nat) (hj : j < nm) (wh : Int32) (hw : ¬ wh.toInt = 0 ∧ ¬ wh.toInt = 1) (hp : Post (some (.long (-9000000000000000000))) h) : CT g mX6_heard [.ref 1, .int (nI i), .int (nI j), .int wh] h Post := by
  show WP g mX6_heard 0 [(0, .ref 1), (1, .int (nI i)), (2, .int (nI j)), (3, .int wh)] [] h 0 0 Post
  have hnm := hM.1
  have hc2 := hM.2.1
  obtain ⟨he, hl, hlo, hlr, ho, h9, hnum, hbs, hbn⟩ := hM.2.2.1 i hi
  have hk : kd (1000 + i) = 2 := kd_mem (by omega)
  have hko : kd (2000 + i) = 4 := kd_own (by omega)
  have hkr : kd (3000 + i) = 14 := kd_arr (by omega)
  obtain ⟨hej, hlj, -⟩ := hM.2.2.1 j hj
  have hkj : kd (1000 + j) = 2 := kd_mem (by omega)
  refine wp_aload_n dX6_heard_0 rfl 0 rfl ?_
  refine wp_iload_n dX6_heard_1 rfl 1 rfl ?_
  refine wp_callV mX6_findMember 1 [.int (nI i)] [] (c := 6) dX6_heard_2 iX6_findMember (fun _ => trivial) mlX6_64 imX6_findMember seX6_findMember (by decide) rfl rfl ⟨by decide, by decide⟩ rfl rfl (Nat.le_of_ble_eq_true rfl) (Nat.le_of_ble_eq_true rfl) (by decide) (by decide) ?_
  refine ct_findMember nm i hr hc2 hnm hi he ?_
  show WP g mX6_heard 5 [(0, .ref 1), (1, .int (nI i)), (2, .int (nI j)), (3, .int wh)] [.ref (1000 + i)] _ 0 0 _
  refine wp_astore (lv' := [(4, .ref (1000 + i)), (0, .ref 1), (1, .int (nI i)), (2, .int (nI j)), (3, .int wh)]) dX6_heard_5 (by decide) rfl ?_
  refine wp_aload dX6_heard_7 0 rfl ?_
  refine wp_ifnull dX6_heard_9 ?_
  refine wp_aload_n dX6_heard_12 rfl 1 rfl ?_
  refine wp_iload_n dX6_heard_13 rfl 3 rfl ?_
  refine wp_callV mX6_findMember 1 [.int (nI j)] [] (c := 6) dX6_heard_14 iX6_findMember (fun _ => trivial) mlX6_64 imX6_findMember seX6_findMember (by decide) rfl rfl ⟨by decide, by decide⟩ rfl rfl (Nat.le_of_ble_eq_true rfl) (Nat.le_of_ble_eq_true rfl) (by decide) (by decide) ?_
  refine ct_findMember nm j hr hc2 hnm hj hej ?_
  show WP g mX6_heard 17 [(4, .ref (1000 + i)), (0, .ref 1), (1, .int (nI i)), (2, .int (nI j)), (3, .int wh)] [.ref (1000 + j)] _ 0 0 _
  refine wp_ifnull dX6_heard_17 ?_
  refine wp_aload dX6_heard_20 0 rfl ?_
  refine wp_iload_n dX6_heard_22 rfl 3 rfl ?_
  refine wp_callV mX2_hasHeardOf (1000 + i) [.int (nI j)] [] (c := 2) dX6_heard_23 iX2_hasHeardOf (fun _ => trivial) mlX6_183 imX2_hasHeardOf seX2_hasHeardOf (by decide) rfl hk ⟨by decide, by decide⟩ rfl rfl (Nat.le_of_ble_eq_true rfl) (Nat.le_of_ble_eq_true rfl) (by decide) (by decide) ?_
  refine ct_hasHeardOf (1000 + i) (3000 + i) j hk hl h9 hkr hlr (ln_arr (by omega)) (by omega) (fun b q => ⟨by rw [(hbs j b (by omega) q).1]; exact kd_hrd (by omega), (hbs j b (by omega) q).2⟩) (fun hv => ?_) (fun b hv => ?_)
  · show WP g mX6_heard 26 [(4, .ref (1000 + i)), (0, .ref 1), (1, .int (nI i)), (2, .int (nI j)), (3, .int wh)] [.int 0] _ 0 0 _
    refine wp_if_ne (tgt := 33) dX6_heard_26 (by decide) (fun c_1 => absurd (by decide) c_1) (fun _ => ?_)
    refine wp_ldc2 dX6_heard_29 cnX6_58 ?_
    refine wp_lret dX6_heard_32 rfl (by decide) (by decide) ?_
    exact hp
  · show WP g mX6_heard 26 [(4, .ref (1000 + i)), (0, .ref 1), (1, .int (nI i)), (2, .int (nI j)), (3, .int wh)] [.int 1] _ 0 0 _
    refine wp_if_ne (tgt := 33) dX6_heard_26 (by decide) (fun _ => ?_) (fun c_2 => absurd c_2 (by decide))
    refine wp_iload_n dX6_heard_33 rfl 4 rfl ?_
    refine wp_lookup (off := 48) (tgt := 82) dX6_heard_34 (by decide) (show (if (0 : Int) = wh.toInt then (26 : Int) else (if (1 : Int) = wh.toInt then 37 else 48)) = 48 by rw [if_neg (by omega), if_neg (by omega)]) (by decide) ?_
    refine wp_pc (pc' := 82) rfl ?_
    refine wp_ldc2 dX6_heard_82 cnX6_58 ?_
    refine wp_lret dX6_heard_85 rfl (by decide) (by decide) ?_
    exact hp
