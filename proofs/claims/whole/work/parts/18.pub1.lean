/-! contracts: the council's own methods, first part -/
theorem ct_asBit1 {g : GG} {h : HP} {Post : Option Value → HP → Prop} (hp : Post (some (.long 1)) h) : CT g mX6_asBit [.int 1] h Post := ct_asBit 1 hp
theorem ct_asBit0 {g : GG} {h : HP} {Post : Option Value → HP → Prop} (hp : Post (some (.long 0)) h) : CT g mX6_asBit [.int 0] h Post := ct_asBit 0 hp
def bitL (x : Int32) : Int64 := if x = 0 then 0 else 1
theorem mbN_far {h : HP} {a o r : Nat} {num kind p e : Int32} {now : Int64} {b : Nat} (h1 : b ≠ a) (h2 : b ≠ o) (h3 : b ≠ r) : vI (mbN h a o r num kind p e now) b = vI h b ∧ vL (mbN h a o r num kind p e now) b = vL h b ∧ vP (mbN h a o r num kind p e now) b = vP h b ∧ liv (mbN h a o r num kind p e now) b = liv h b := by
  refine ⟨?_, ?_, ?_, ?_⟩
  · unfold mbN; show vI (sN (mb2 _ _ _ _ _) r) b = _; rw [vI_N h3]; unfold mb2 spP; show vI (sI (sP (sN _ o) a 8 _) o 0 1) b = _; rw [vIn h2]; show vI (sN _ o) b = _; rw [vI_N h2]; unfold mb1; simp only [vIn h1]; show vI (sL _ a 4 _) b = _; show vI (sI _ _ _ _) b = _; simp only [vIn h1]
  · unfold mbN; show vL (sN (mb2 _ _ _ _ _) r) b = _; rw [vL_N h3]; unfold mb2 spP; rw [vLn h1, vLn h2, vLn h2, vLn h2]; show vL (sN _ o) b = _; rw [vL_N h2]; unfold mb1; show vL (sL _ a 4 _) b = _; rw [vLn h1]; rfl
  · unfold mbN; rw [vPn h1, vP_N h3]; unfold mb2 spP; show vP (sP (sN _ o) a 8 _) b = _; rw [vPn h1, vP_N h2]; rfl
  · unfold mbN; show liv (sN (mb2 _ _ _ _ _) r) b = _; rw [liv_other h3]; show liv (sN _ o) b = _; rw [liv_other h2]; rfl
def okGo (h : HP) (n : Int32) : Prop := 1 ≤ n.toInt ∧ n.toInt ≤ 1000000 ∧ (vL h 1 0 + Int32.toInt64 n).toInt ≤ 1000000000
set_option maxRecDepth 100000 in
set_option maxHeartbeats 4000000 in
theorem ct_go {g : GG} {h : HP} {Post : Option Value → HP → Prop} (n : Int32) (hr : SR h) (hno : ¬ okGo h n → Post (some (.long (-9000000000000000000))) h) (hyes : okGo h n → Post (some (.long (vL h 1 0 + Int32.toInt64 n))) (sL h 1 0 (vL h 1 0 + Int32.toInt64 n))) : CT g mX6_go [.ref 1, .int n] h Post := by
  show WP g mX6_go 0 [(0, .ref 1), (1, .int n)] [] h 0 0 Post
  refine wp_iload_n dX6_go_0 rfl 1 rfl ?_
  refine wp_iconst (v := 1) dX6_go_1 (by decide) ?_
  refine wi_icmp_lt (tgt := 25) (Int32.toInt n) (1) rfl (by decide) dX6_go_2 (by decide) (fun c_1 => ?_) (fun c_1 => ?_)
  · refine wp_ldc2 dX6_go_25 cnX6_58 ?_
    refine wp_lret dX6_go_28 rfl (by decide) (by decide) ?_
    exact hno (fun q => by unfold okGo at q; omega)
  · refine wp_iload_n dX6_go_5 rfl 1 rfl ?_
    refine wp_ldc dX6_go_6 cnX6_55 ?_
    refine wi_icmp_gt (tgt := 25) (Int32.toInt n) (1000000) rfl (by decide) dX6_go_8 (by decide) (fun c_2 => ?_) (fun c_2 => ?_)
    · refine wp_ldc2 dX6_go_25 cnX6_58 ?_
      refine wp_lret dX6_go_28 rfl (by decide) (by decide) ?_
      exact hno (fun q => by unfold okGo at q; omega)
    · refine wp_aload_n dX6_go_11 rfl 0 rfl ?_
      refine wp_getL dX6_go_12 flX6_7 rfl rfl hr.1 ?_
      refine wp_iload_n dX6_go_15 rfl 1 rfl ?_
      refine wp_i2l dX6_go_16 ?_
      refine wp_ladd dX6_go_17 ?_
      refine wp_ldc2 dX6_go_18 cnX6_56 ?_
      refine wil_le (tgt := 29) (Int64.toInt ((vL h 1 0) + (Int32.toInt64 n))) (1000000000) rfl (by decide) dX6_go_21 dX6_go_22 (by decide) (fun c_3 => ?_) (fun c_3 => ?_)
      · refine wp_aload_n dX6_go_29 rfl 0 rfl ?_
        refine wp_dup dX6_go_30 rfl ?_
        refine wp_getL dX6_go_31 flX6_7 rfl rfl hr.1 ?_
        refine wp_iload_n dX6_go_34 rfl 1 rfl ?_
        refine wp_i2l dX6_go_35 ?_
        refine wp_ladd dX6_go_36 ?_
        refine wp_putL dX6_go_37 flX6_7 (Or.inl rfl) rfl rfl hr.1 ?_
        refine wp_aload_n dX6_go_40 rfl 0 rfl ?_
        refine wv_getL ((vL h 1 0) + (Int32.toInt64 n)) dX6_go_41 flX6_7 rfl rfl hr.1 (by simp [vI, vL, vP, sI, sL, sP, up2]) ?_
        refine wp_lret dX6_go_44 rfl (by decide) (by decide) ?_
        exact hyes (by unfold okGo; omega)
      · refine wp_ldc2 dX6_go_25 cnX6_58 ?_
        refine wp_lret dX6_go_28 rfl (by decide) (by decide) ?_
        exact hno (fun q => by unfold okGo at q; omega)
def okMb (nm : Nat) (kind p e : Int32) : Prop := 0 ≤ kind.toInt ∧ kind.toInt ≤ 4 ∧ 0 ≤ p.toInt ∧ p.toInt ≤ 200 ∧ 0 ≤ e.toInt ∧ e.toInt ≤ 100000 ∧ nm < 10
def mbH (h : HP) (nm : Nat) (kind p e : Int32) : HP := sI (sP (mbN (sN h (1000 + nm)) (1000 + nm) (2000 + nm) (3000 + nm) (nI nm) kind p e (vL h 1 0)) 2 nm (some (1000 + nm))) 1 2 (nI (nm + 1))
theorem mbN_own {h : HP} {a o r : Nat} {num kind p e : Int32} {now : Int64} (hl : liv h a = true) : liv (mbN h a o r num kind p e now) a = true := by
  unfold mbN
  exact livN (livN hl)
set_option maxRecDepth 100000 in
set_option maxHeartbeats 4000000 in
theorem ct_member {g : GG} {h : HP} {Post : Option Value → HP → Prop} (nm : Nat) (kind p e : Int32) (hr : SR h) (hM : SM h nm) (hno : ¬ okMb nm kind p e → Post (some (.long (-9000000000000000000))) h) (hyes : okMb nm kind p e → Post (some (.long (Int32.toInt64 (nI nm)))) (mbH h nm kind p e)) : CT g mX6_member [.ref 1, .int kind, .int p, .int e] h Post := by
  show WP g mX6_member 0 [(0, .ref 1), (1, .int kind), (2, .int p), (3, .int e)] [] h 0 0 Post
  have hnm := hM.1
  refine wp_iload_n dX6_member_0 rfl 1 rfl ?_
  refine wi_if_lt (tgt := 30) (Int32.toInt kind) rfl dX6_member_1 (by decide) (fun c_1 => ?_) (fun c_1 => ?_)
  · refine wp_ldc2 dX6_member_30 cnX6_58 ?_
    refine wp_lret dX6_member_33 rfl (by decide) (by decide) ?_
    exact hno (fun q => by unfold okMb at q; omega)
  · refine wp_iload_n dX6_member_4 rfl 1 rfl ?_
    refine wp_iconst (v := 4) dX6_member_5 (by decide) ?_
    refine wi_icmp_gt (tgt := 30) (Int32.toInt kind) (4) rfl (by decide) dX6_member_6 (by decide) (fun c_2 => ?_) (fun c_2 => ?_)
    · refine wp_ldc2 dX6_member_30 cnX6_58 ?_
      refine wp_lret dX6_member_33 rfl (by decide) (by decide) ?_
      exact hno (fun q => by unfold okMb at q; omega)
    · refine wp_iload_n dX6_member_9 rfl 2 rfl ?_
      refine wi_if_lt (tgt := 30) (Int32.toInt p) rfl dX6_member_10 (by decide) (fun c_3 => ?_) (fun c_3 => ?_)
      · refine wp_ldc2 dX6_member_30 cnX6_58 ?_
        refine wp_lret dX6_member_33 rfl (by decide) (by decide) ?_
        exact hno (fun q => by unfold okMb at q; omega)
      · refine wp_iload_n dX6_member_13 rfl 2 rfl ?_
        refine wp_sipush (v := 200) dX6_member_14 (by decide) ?_
        refine wi_icmp_gt (tgt := 30) (Int32.toInt p) (200) rfl (by decide) dX6_member_17 (by decide) (fun c_4 => ?_) (fun c_4 => ?_)
        · refine wp_ldc2 dX6_member_30 cnX6_58 ?_
          refine wp_lret dX6_member_33 rfl (by decide) (by decide) ?_
          exact hno (fun q => by unfold okMb at q; omega)
        · refine wp_iload_n dX6_member_20 rfl 3 rfl ?_
          refine wi_if_lt (tgt := 30) (Int32.toInt e) rfl dX6_member_21 (by decide) (fun c_5 => ?_) (fun c_5 => ?_)
          · refine wp_ldc2 dX6_member_30 cnX6_58 ?_
            refine wp_lret dX6_member_33 rfl (by decide) (by decide) ?_
            exact hno (fun q => by unfold okMb at q; omega)
          · refine wp_iload_n dX6_member_24 rfl 3 rfl ?_
            refine wp_ldc dX6_member_25 cnX6_60 ?_
            refine wi_icmp_le (tgt := 34) (Int32.toInt e) (100000) rfl (by decide) dX6_member_27 (by decide) (fun c_6 => ?_) (fun c_6 => ?_)
            · refine wp_aload_n dX6_member_34 rfl 0 rfl ?_
              refine wv_getI (nI nm) dX6_member_35 flX6_19 rfl rfl hr.1 hM.2.1 ?_
              refine wp_bipush (v := 10) dX6_member_38 (by decide) ?_
              refine wi_icmp_lt (tgt := 47) ((nm : Nat)) (10) (nIt (by omega)) (by decide) dX6_member_40 (by decide) (fun c_7 => ?_) (fun c_7 => ?_)
              · refine wp_aload_n dX6_member_47 rfl 0 rfl ?_
                refine wp_getP (b := 2) dX6_member_48 flX6_15 rfl rfl hr.1 hr.2.2.2.2.2.1 ?_
                refine wp_aload_n dX6_member_51 rfl 0 rfl ?_
                refine wv_getI (nI nm) dX6_member_52 flX6_19 rfl rfl hr.1 hM.2.1 ?_
                refine wp_new (1000 + nm) (c := 2) dX6_member_55 (by decide) clX6_13 nsX2 nzX2 (kd_mem (by omega)) (hM.2.2.2 nm (by omega) (by omega)).1 (by decide) (by decide) ?_
                refine wp_dup dX6_member_58 rfl ?_
                refine wp_aload_n dX6_member_59 rfl 0 rfl ?_
                refine wv_getI (nI nm) dX6_member_60 flX6_19 rfl rfl (livN hr.1) ((congrFun (vI_N (by omega)) 2).trans hM.2.1) ?_
                refine wp_iload_n dX6_member_63 rfl 1 rfl ?_
                refine wp_iload_n dX6_member_64 rfl 2 rfl ?_
                refine wp_iload_n dX6_member_65 rfl 3 rfl ?_
                refine wp_aload_n dX6_member_66 rfl 0 rfl ?_
                refine wv_getL (vL h 1 0) dX6_member_67 flX6_7 rfl rfl (livN hr.1) (congrFun (vL_N (by omega)) 0) ?_
                refine wp_callI mX2_init (1000 + nm) [.int (nI nm), .int kind, .int p, .int e, .long (vL h 1 0)] [.ref (1000 + nm), .int (nI nm), .ref 2] dX6_member_70 iX2_init (fun _ => trivial) rfl rfl mlX6_61 imX2_init ⟨by decide, by decide⟩ rfl rfl (Nat.le_of_ble_eq_true rfl) (Nat.le_of_ble_eq_true rfl) (by decide) (by decide) ?_
                refine ct_Member (1000 + nm) (2000 + nm) (3000 + nm) (nI nm) kind p e (vL h 1 0) (kd_mem (by omega)) (liv_new _ _) (kd_own (by omega)) (by rw [liv_other (by omega)]; exact (hM.2.2.2 nm (by omega) (by omega)).2.1) (kd_arr (by omega)) (by rw [liv_other (by omega)]; exact (hM.2.2.2 nm (by omega) (by omega)).2.2.1) (ln_arr (by omega)) ?_
                show WP g mX6_member 73 [(0, .ref 1), (1, .int kind), (2, .int p), (3, .int e)] [.ref (1000 + nm), .int (nI nm), .ref 2] _ 3 30 _
                refine wp_pc (pc' := 73) rfl ?_
                refine wv_aast nm dX6_member_73 rfl (by decide) (by decide) (by show liv (mbN _ _ _ _ _ _ _ _ _) 2 = true; rw [(mbN_far (by omega) (by omega) (by omega)).2.2.2, liv_other (by omega)]; exact hr.2.1) rfl (by show nm < 10; omega) (kd_mem (by omega)) ?_
                refine wp_aload_n dX6_member_74 rfl 0 rfl ?_
                refine wp_dup dX6_member_75 rfl ?_
                refine wv_getI (nI nm) dX6_member_76 flX6_19 rfl rfl (by show liv (mbN _ _ _ _ _ _ _ _ _) 1 = true; rw [(mbN_far (by omega) (by omega) (by omega)).2.2.2, liv_other (by omega)]; exact hr.1) (by show vI (mbN _ _ _ _ _ _ _ _ _) 1 2 = _; rw [(mbN_far (by omega) (by omega) (by omega)).1, vI_N (by omega)]; exact hM.2.1) ?_
                refine wp_iconst (v := 1) dX6_member_79 (by decide) ?_
                refine wv_iadd (nI (nm + 1)) (wN_add rfl rfl) dX6_member_80 ?_
                refine wp_putI dX6_member_81 flX6_19 (Or.inl rfl) rfl rfl rfl rfl (by show liv (mbN _ _ _ _ _ _ _ _ _) 1 = true; rw [(mbN_far (by omega) (by omega) (by omega)).2.2.2, liv_other (by omega)]; exact hr.1) ?_
                refine wp_aload_n dX6_member_84 rfl 0 rfl ?_
                refine wv_getI (nI (nm + 1)) dX6_member_85 flX6_19 rfl rfl (by show liv (mbN _ _ _ _ _ _ _ _ _) 1 = true; rw [(mbN_far (by omega) (by omega) (by omega)).2.2.2, liv_other (by omega)]; exact hr.1) vIs ?_
                refine wp_iconst (v := 1) dX6_member_88 (by decide) ?_
                refine wv_isub (nI nm) (nI_pred _) dX6_member_89 ?_
                refine wp_i2l dX6_member_90 ?_
                refine wp_lret dX6_member_91 rfl (by decide) (by decide) ?_
                exact hyes (by unfold okMb; omega)
              · refine wp_ldc2 dX6_member_43 cnX6_58 ?_
                refine wp_lret dX6_member_46 rfl (by decide) (by decide) ?_
                exact hno (fun q => by unfold okMb at q; omega)
            · refine wp_ldc2 dX6_member_30 cnX6_58 ?_
              refine wp_lret dX6_member_33 rfl (by decide) (by decide) ?_
              exact hno (fun q => by unfold okMb at q; omega)
def okRt (h : HP) (a : Nat) (up down : Int32) : Prop := 1 ≤ up.toInt ∧ up.toInt ≤ 100000 ∧ 1 ≤ down.toInt ∧ down.toInt ≤ 100000 ∧ (vL h a 4).toInt = (vL h 1 0).toInt
def inRt (p up down : Int64) : Prop := (ab64 (up - down) * 1000).toInt ≤ (p * down).toInt
set_option maxRecDepth 100000 in
set_option maxHeartbeats 4000000 in
theorem ct_rate0 {g : GG} {h : HP} {Post : Option Value → HP → Prop} (up down : Int32) (nm : Nat) (x : Int32) (hr : SR h) (hM : SM h nm) (hx : ¬ inR x nm) (hp : Post (some (.long (-9000000000000000000))) h) : CT g mX6_rate [.ref 1, .int x, .int up, .int down] h Post := by
  show WP g mX6_rate 0 [(0, .ref 1), (1, .int x), (2, .int up), (3, .int down)] [] h 0 0 Post
  refine wp_aload_n dX6_rate_0 rfl 0 rfl ?_
  refine wp_iload_n dX6_rate_1 rfl 1 rfl ?_
  refine wp_callV mX6_findMember 1 [.int x] [] (c := 6) dX6_rate_2 iX6_findMember (fun _ => trivial) mlX6_64 imX6_findMember seX6_findMember (by decide) rfl rfl ⟨by decide, by decide⟩ rfl rfl (Nat.le_of_ble_eq_true rfl) (Nat.le_of_ble_eq_true rfl) (by decide) (by decide) ?_
  refine ct_findMember0 nm x hr hM.2.1 (by have := hM.1; omega) hx ?_
  show WP g mX6_rate 5 [(0, .ref 1), (1, .int x), (2, .int up), (3, .int down)] [.null] _ 0 0 _
  refine wp_astoreN (lv' := [(4, .null), (0, .ref 1), (1, .int x), (2, .int up), (3, .int down)]) dX6_rate_5 (by decide) rfl ?_
  refine wp_aloadN dX6_rate_7 0 rfl ?_
  refine wp_ifnullN (tgt := 34) dX6_rate_9 (by decide) ?_
  refine wp_ldc2 dX6_rate_34 cnX6_58 ?_
  refine wp_lret dX6_rate_37 rfl (by decide) (by decide) ?_
  exact hp
set_option maxRecDepth 100000 in
set_option maxHeartbeats 4000000 in
theorem ct_rate {g : GG} {h : HP} {Post : Option Value → HP → Prop} (nm i : Nat) (hr : SR h) (hM : SM h nm) (hi : i < nm) (up down : Int32) (hno : ¬ okRt h (1000 + i) up down → Post (some (.long (-9000000000000000000))) h) (hin : okRt h (1000 + i) up down → inRt (Int32.toInt64 (vI h (1000 + i) 2)) (Int32.toInt64 up) (Int32.toInt64 down) → Post (some (.long 1)) (sI (sI h (1000 + i) 5 up) (1000 + i) 6 down)) (hout : okRt h (1000 + i) up down → ¬ inRt (Int32.toInt64 (vI h (1000 + i) 2)) (Int32.toInt64 up) (Int32.toInt64 down) → Post (some (.long 0)) (sI (sI h (1000 + i) 5 up) (1000 + i) 6 down)) : CT g mX6_rate [.ref 1, .int (nI i), .int up, .int down] h Post := by
  show WP g mX6_rate 0 [(0, .ref 1), (1, .int (nI i)), (2, .int up), (3, .int down)] [] h 0 0 Post
  have hnm := hM.1
  have hc2 := hM.2.1
  obtain ⟨he, hl, hlo, hlr, ho, h9, hnum, hbs, hbn⟩ := hM.2.2.1 i hi
  have hk : kd (1000 + i) = 2 := kd_mem (by omega)
  have hko : kd (2000 + i) = 4 := kd_own (by omega)
  have hkr : kd (3000 + i) = 14 := kd_arr (by omega)
  refine wp_aload_n dX6_rate_0 rfl 0 rfl ?_
  refine wp_iload_n dX6_rate_1 rfl 1 rfl ?_
  refine wp_callV mX6_findMember 1 [.int (nI i)] [] (c := 6) dX6_rate_2 iX6_findMember (fun _ => trivial) mlX6_64 imX6_findMember seX6_findMember (by decide) rfl rfl ⟨by decide, by decide⟩ rfl rfl (Nat.le_of_ble_eq_true rfl) (Nat.le_of_ble_eq_true rfl) (by decide) (by decide) ?_
  refine ct_findMember nm i hr hc2 hnm hi he ?_
  show WP g mX6_rate 5 [(0, .ref 1), (1, .int (nI i)), (2, .int up), (3, .int down)] [.ref (1000 + i)] _ 0 0 _
  refine wp_astore (lv' := [(4, .ref (1000 + i)), (0, .ref 1), (1, .int (nI i)), (2, .int up), (3, .int down)]) dX6_rate_5 (by decide) rfl ?_
  refine wp_aload dX6_rate_7 0 rfl ?_
  refine wp_ifnull dX6_rate_9 ?_
  refine wp_iload_n dX6_rate_12 rfl 3 rfl ?_
  refine wp_iconst (v := 1) dX6_rate_13 (by decide) ?_
  refine wi_icmp_lt (tgt := 34) (Int32.toInt up) (1) rfl (by decide) dX6_rate_14 (by decide) (fun c_1 => ?_) (fun c_1 => ?_)
  · refine wp_ldc2 dX6_rate_34 cnX6_58 ?_
    refine wp_lret dX6_rate_37 rfl (by decide) (by decide) ?_
    exact hno (fun q => by unfold okRt at q; omega)
  · refine wp_iload_n dX6_rate_17 rfl 3 rfl ?_
    refine wp_ldc dX6_rate_18 cnX6_60 ?_
    refine wi_icmp_gt (tgt := 34) (Int32.toInt up) (100000) rfl (by decide) dX6_rate_20 (by decide) (fun c_2 => ?_) (fun c_2 => ?_)
    · refine wp_ldc2 dX6_rate_34 cnX6_58 ?_
      refine wp_lret dX6_rate_37 rfl (by decide) (by decide) ?_
      exact hno (fun q => by unfold okRt at q; omega)
    · refine wp_iload_n dX6_rate_23 rfl 4 rfl ?_
      refine wp_iconst (v := 1) dX6_rate_24 (by decide) ?_
      refine wi_icmp_lt (tgt := 34) (Int32.toInt down) (1) rfl (by decide) dX6_rate_25 (by decide) (fun c_3 => ?_) (fun c_3 => ?_)
      · refine wp_ldc2 dX6_rate_34 cnX6_58 ?_
        refine wp_lret dX6_rate_37 rfl (by decide) (by decide) ?_
        exact hno (fun q => by unfold okRt at q; omega)
      · refine wp_iload_n dX6_rate_28 rfl 4 rfl ?_
        refine wp_ldc dX6_rate_29 cnX6_60 ?_
        refine wi_icmp_le (tgt := 38) (Int32.toInt down) (100000) rfl (by decide) dX6_rate_31 (by decide) (fun c_4 => ?_) (fun c_4 => ?_)
        · refine wp_aload dX6_rate_38 0 rfl ?_
          refine wp_getL dX6_rate_40 flX6_68 rfl hk hl ?_
          refine wp_aload_n dX6_rate_43 rfl 1 rfl ?_
          refine wp_getL dX6_rate_44 flX6_7 rfl rfl hr.1 ?_
          refine wil_eq (tgt := 55) (Int64.toInt (vL h (1000 + i) 4)) (Int64.toInt (vL h 1 0)) rfl rfl dX6_rate_47 dX6_rate_48 (by decide) (fun c_5 => ?_) (fun c_5 => ?_)
          · refine wp_aload dX6_rate_55 0 rfl ?_
            refine wp_iload_n dX6_rate_57 rfl 3 rfl ?_
            refine wp_putI dX6_rate_58 flX6_71 (Or.inl rfl) rfl rfl rfl hk hl ?_
            refine wp_aload dX6_rate_61 0 rfl ?_
            refine wp_iload_n dX6_rate_63 rfl 4 rfl ?_
            refine wp_putI dX6_rate_64 flX6_74 (Or.inl rfl) rfl rfl rfl hk hl ?_
            refine wp_iload_n dX6_rate_67 rfl 3 rfl ?_
            refine wp_i2l dX6_rate_68 ?_
            refine wp_iload_n dX6_rate_69 rfl 4 rfl ?_
            refine wp_i2l dX6_rate_70 ?_
            refine wp_lsub dX6_rate_71 ?_
            refine wp_callS mJ9_abs_067f4 [.long ((Int32.toInt64 up) - (Int32.toInt64 down))] [] dX6_rate_72 iJ9_abs_067f4 (fun _ => trivial) mlX6_77 stJ9_abs_067f4 ⟨by decide, by decide⟩ rfl rfl (Nat.le_of_ble_eq_true rfl) (Nat.le_of_ble_eq_true rfl) (by decide) (by decide) ?_
            refine ct_abs ((Int32.toInt64 up) - (Int32.toInt64 down))  ?_
            show WP g mX6_rate 75 [(4, .ref (1000 + i)), (0, .ref 1), (1, .int (nI i)), (2, .int up), (3, .int down)] [.long (ab64 ((Int32.toInt64 up) - (Int32.toInt64 down)))] _ 0 0 _
            refine wp_lstore (lv' := [(5, .long (ab64 ((Int32.toInt64 up) - (Int32.toInt64 down)))), (4, .ref (1000 + i)), (0, .ref 1), (1, .int (nI i)), (2, .int up), (3, .int down)]) dX6_rate_75 (by decide) rfl ?_
            refine wp_lload dX6_rate_77 0 rfl ?_
            refine wp_pc (pc' := 79) rfl ?_
            refine wp_ldc2 dX6_rate_79 cnX6_83 ?_
            refine wp_lmul dX6_rate_82 ?_
            refine wp_aload dX6_rate_83 1 rfl ?_
            refine wv_getI (vI h (1000 + i) 2) dX6_rate_85 flX6_85 rfl hk hl (by simp [vI, vL, vP, sI, sL, sP, up2]) ?_
            refine wp_i2l dX6_rate_88 ?_
            refine wp_iload_n dX6_rate_89 rfl 5 rfl ?_
            refine wp_i2l dX6_rate_90 ?_
            refine wp_lmul dX6_rate_91 ?_
            refine wil_gt (tgt := 100) (Int64.toInt ((ab64 ((Int32.toInt64 up) - (Int32.toInt64 down))) * 1000)) (Int64.toInt ((Int32.toInt64 (vI h (1000 + i) 2)) * (Int32.toInt64 down))) rfl rfl dX6_rate_92 dX6_rate_93 (by decide) (fun c_6 => ?_) (fun c_6 => ?_)
            · refine wp_iconst (v := 0) dX6_rate_100 (by decide) ?_
              refine wp_callS mX6_asBit [.int 0] [] dX6_rate_101 iX6_asBit (fun _ => trivial) mlX6_88 stX6_asBit ⟨by decide, by decide⟩ rfl rfl (Nat.le_of_ble_eq_true rfl) (Nat.le_of_ble_eq_true rfl) (by decide) (by decide) ?_
              refine ct_asBit0 ?_
              show WP g mX6_rate 104 [(5, .long (ab64 ((Int32.toInt64 up) - (Int32.toInt64 down)))), (4, .ref (1000 + i)), (0, .ref 1), (1, .int (nI i)), (2, .int up), (3, .int down)] [.long 0] _ 0 0 _
              refine wp_lret dX6_rate_104 rfl (by decide) (by decide) ?_
              exact hout (by unfold okRt; omega) (by unfold inRt; omega)
            · refine wp_iconst (v := 1) dX6_rate_96 (by decide) ?_
              refine wp_goto (tgt := 101) dX6_rate_97 (by decide) ?_
              refine wp_callS mX6_asBit [.int 1] [] dX6_rate_101 iX6_asBit (fun _ => trivial) mlX6_88 stX6_asBit ⟨by decide, by decide⟩ rfl rfl (Nat.le_of_ble_eq_true rfl) (Nat.le_of_ble_eq_true rfl) (by decide) (by decide) ?_
              refine ct_asBit1 ?_
              show WP g mX6_rate 104 [(5, .long (ab64 ((Int32.toInt64 up) - (Int32.toInt64 down)))), (4, .ref (1000 + i)), (0, .ref 1), (1, .int (nI i)), (2, .int up), (3, .int down)] [.long 1] _ 0 0 _
              refine wp_lret dX6_rate_104 rfl (by decide) (by decide) ?_
              exact hin (by unfold okRt; omega) (by unfold inRt; omega)
          · refine wp_ldc2 dX6_rate_51 cnX6_58 ?_
            refine wp_lret dX6_rate_54 rfl (by decide) (by decide) ?_
            exact hno (fun q => by unfold okRt at q; omega)
        · refine wp_ldc2 dX6_rate_34 cnX6_58 ?_
          refine wp_lret dX6_rate_37 rfl (by decide) (by decide) ?_
          exact hno (fun q => by unfold okRt at q; omega)
def okLi (h : HP) (a : Nat) (lo hi : Int64) : Prop := (vI h a 1).toInt = 4 ∧ lo.toInt ≤ hi.toInt ∧ -1000000000000 ≤ lo.toInt ∧ hi.toInt ≤ 1000000000000
set_option maxRecDepth 100000 in
set_option maxHeartbeats 4000000 in
theorem ct_lie0 {g : GG} {h : HP} {Post : Option Value → HP → Prop} (lo hi : Int64) (nm : Nat) (x : Int32) (hr : SR h) (hM : SM h nm) (hx : ¬ inR x nm) (hp : Post (some (.long (-9000000000000000000))) h) : CT g mX6_lie [.ref 1, .int x, .long lo, .long hi] h Post := by
  show WP g mX6_lie 0 [(0, .ref 1), (1, .int x), (2, .long lo), (4, .long hi)] [] h 0 0 Post
  refine wp_aload_n dX6_lie_0 rfl 0 rfl ?_
  refine wp_iload_n dX6_lie_1 rfl 1 rfl ?_
  refine wp_callV mX6_findMember 1 [.int x] [] (c := 6) dX6_lie_2 iX6_findMember (fun _ => trivial) mlX6_64 imX6_findMember seX6_findMember (by decide) rfl rfl ⟨by decide, by decide⟩ rfl rfl (Nat.le_of_ble_eq_true rfl) (Nat.le_of_ble_eq_true rfl) (by decide) (by decide) ?_
  refine ct_findMember0 nm x hr hM.2.1 (by have := hM.1; omega) hx ?_
  show WP g mX6_lie 5 [(0, .ref 1), (1, .int x), (2, .long lo), (4, .long hi)] [.null] _ 0 0 _
  refine wp_astoreN (lv' := [(6, .null), (0, .ref 1), (1, .int x), (2, .long lo), (4, .long hi)]) dX6_lie_5 (by decide) rfl ?_
  refine wp_aloadN dX6_lie_7 0 rfl ?_
  refine wp_ifnullN (tgt := 28) dX6_lie_9 (by decide) ?_
  refine wp_ldc2 dX6_lie_28 cnX6_58 ?_
  refine wp_lret dX6_lie_31 rfl (by decide) (by decide) ?_
  exact hp
set_option maxRecDepth 100000 in
set_option maxHeartbeats 4000000 in
theorem ct_lie {g : GG} {h : HP} {Post : Option Value → HP → Prop} (nm i : Nat) (hr : SR h) (hM : SM h nm) (hi : i < nm) (lo hi' : Int64) (hno : ¬ okLi h (1000 + i) lo hi' → Post (some (.long (-9000000000000000000))) h) (hyes : okLi h (1000 + i) lo hi' → Post (some (.long 1)) (sL (sL h (1000 + i) 10 lo) (1000 + i) 11 hi')) : CT g mX6_lie [.ref 1, .int (nI i), .long lo, .long (hi')] h Post := by
  show WP g mX6_lie 0 [(0, .ref 1), (1, .int (nI i)), (2, .long lo), (4, .long (hi'))] [] h 0 0 Post
  have hnm := hM.1
  have hc2 := hM.2.1
  obtain ⟨he, hl, hlo, hlr, ho, h9, hnum, hbs, hbn⟩ := hM.2.2.1 i hi
  have hk : kd (1000 + i) = 2 := kd_mem (by omega)
  have hko : kd (2000 + i) = 4 := kd_own (by omega)
  have hkr : kd (3000 + i) = 14 := kd_arr (by omega)
  refine wp_aload_n dX6_lie_0 rfl 0 rfl ?_
  refine wp_iload_n dX6_lie_1 rfl 1 rfl ?_
  refine wp_callV mX6_findMember 1 [.int (nI i)] [] (c := 6) dX6_lie_2 iX6_findMember (fun _ => trivial) mlX6_64 imX6_findMember seX6_findMember (by decide) rfl rfl ⟨by decide, by decide⟩ rfl rfl (Nat.le_of_ble_eq_true rfl) (Nat.le_of_ble_eq_true rfl) (by decide) (by decide) ?_
  refine ct_findMember nm i hr hc2 hnm hi he ?_
  show WP g mX6_lie 5 [(0, .ref 1), (1, .int (nI i)), (2, .long lo), (4, .long (hi'))] [.ref (1000 + i)] _ 0 0 _
  refine wp_astore (lv' := [(6, .ref (1000 + i)), (0, .ref 1), (1, .int (nI i)), (2, .long lo), (4, .long (hi'))]) dX6_lie_5 (by decide) rfl ?_
  refine wp_aload dX6_lie_7 0 rfl ?_
  refine wp_ifnull dX6_lie_9 ?_
  refine wp_aload dX6_lie_12 0 rfl ?_
  refine wp_getI dX6_lie_14 flX6_92 rfl hk hl ?_
  refine wp_iconst (v := 4) dX6_lie_17 (by decide) ?_
  refine wi_icmp_ne (tgt := 28) (Int32.toInt (vI h (1000 + i) 1)) (4) rfl (by decide) dX6_lie_18 (by decide) (fun c_1 => ?_) (fun c_1 => ?_)
  · refine wp_ldc2 dX6_lie_28 cnX6_58 ?_
    refine wp_lret dX6_lie_31 rfl (by decide) (by decide) ?_
    exact hno (fun q => by unfold okLi at q; omega)
  · refine wp_lload dX6_lie_21 4 rfl ?_
    refine wp_lload_n dX6_lie_23 rfl 3 rfl ?_
    refine wil_ge (tgt := 32) (Int64.toInt (hi')) (Int64.toInt lo) rfl rfl dX6_lie_24 dX6_lie_25 (by decide) (fun c_2 => ?_) (fun c_2 => ?_)
    · refine wp_lload_n dX6_lie_32 rfl 3 rfl ?_
      refine wp_ldc2 dX6_lie_33 cnX6_95 ?_
      refine wil_lt (tgt := 49) (Int64.toInt lo) ((-1000000000000)) rfl (by decide) dX6_lie_36 dX6_lie_37 (by decide) (fun c_3 => ?_) (fun c_3 => ?_)
      · refine wp_ldc2 dX6_lie_49 cnX6_58 ?_
        refine wp_lret dX6_lie_52 rfl (by decide) (by decide) ?_
        exact hno (fun q => by unfold okLi at q; omega)
      · refine wp_lload dX6_lie_40 4 rfl ?_
        refine wp_ldc2 dX6_lie_42 cnX6_97 ?_
        refine wil_le (tgt := 53) (Int64.toInt (hi')) (1000000000000) rfl (by decide) dX6_lie_45 dX6_lie_46 (by decide) (fun c_4 => ?_) (fun c_4 => ?_)
        · refine wp_aload dX6_lie_53 0 rfl ?_
          refine wp_lload_n dX6_lie_55 rfl 3 rfl ?_
          refine wp_putL dX6_lie_56 flX6_99 (Or.inl rfl) rfl hk hl ?_
          refine wp_aload dX6_lie_59 0 rfl ?_
          refine wp_lload dX6_lie_61 4 rfl ?_
          refine wp_putL dX6_lie_63 flX6_102 (Or.inl rfl) rfl hk hl ?_
          refine wp_lconst (v := 1) dX6_lie_66 rfl ?_
          refine wp_lret dX6_lie_67 rfl (by decide) (by decide) ?_
          exact hyes (by unfold okLi; omega)
        · refine wp_ldc2 dX6_lie_49 cnX6_58 ?_
          refine wp_lret dX6_lie_52 rfl (by decide) (by decide) ?_
          exact hno (fun q => by unfold okLi at q; omega)
    · refine wp_ldc2 dX6_lie_28 cnX6_58 ?_
      refine wp_lret dX6_lie_31 rfl (by decide) (by decide) ?_
      exact hno (fun q => by unfold okLi at q; omega)
set_option maxRecDepth 100000 in
set_option maxHeartbeats 4000000 in
theorem ct_rest0 {g : GG} {h : HP} {Post : Option Value → HP → Prop} (b : Int32) (nm : Nat) (x : Int32) (hr : SR h) (hM : SM h nm) (hx : ¬ inR x nm) (hp : Post (some (.long (-9000000000000000000))) h) : CT g mX6_rest [.ref 1, .int x, .int b] h Post := by
  show WP g mX6_rest 0 [(0, .ref 1), (1, .int x), (2, .int b)] [] h 0 0 Post
  refine wp_aload_n dX6_rest_0 rfl 0 rfl ?_
  refine wp_iload_n dX6_rest_1 rfl 1 rfl ?_
  refine wp_callV mX6_findMember 1 [.int x] [] (c := 6) dX6_rest_2 iX6_findMember (fun _ => trivial) mlX6_64 imX6_findMember seX6_findMember (by decide) rfl rfl ⟨by decide, by decide⟩ rfl rfl (Nat.le_of_ble_eq_true rfl) (Nat.le_of_ble_eq_true rfl) (by decide) (by decide) ?_
  refine ct_findMember0 nm x hr hM.2.1 (by have := hM.1; omega) hx ?_
  show WP g mX6_rest 5 [(0, .ref 1), (1, .int x), (2, .int b)] [.null] _ 0 0 _
  refine wp_astore_nN (lv' := [(3, .null), (0, .ref 1), (1, .int x), (2, .int b)]) dX6_rest_5 rfl (by decide) rfl ?_
  refine wp_aload_nN dX6_rest_6 rfl 0 rfl ?_
  refine wp_ifnullN (tgt := 17) dX6_rest_7 (by decide) ?_
  refine wp_ldc2 dX6_rest_17 cnX6_58 ?_
  refine wp_lret dX6_rest_20 rfl (by decide) (by decide) ?_
  exact hp
set_option maxRecDepth 100000 in
set_option maxHeartbeats 4000000 in
theorem ct_rest {g : GG} {h : HP} {Post : Option Value → HP → Prop} (nm i : Nat) (hr : SR h) (hM : SM h nm) (hi : i < nm) (b : Int32) (hb : b = 0 ∨ b = 1) (hno : (vI h (1000 + i) 1).toInt = 0 → Post (some (.long (-9000000000000000000))) h) (hyes : ¬ (vI h (1000 + i) 1).toInt = 0 → Post (some (.long (bitL (vI h (1000 + i) 7)))) (sI h (1000 + i) 7 b)) : CT g mX6_rest [.ref 1, .int (nI i), .int b] h Post := by
  show WP g mX6_rest 0 [(0, .ref 1), (1, .int (nI i)), (2, .int b)] [] h 0 0 Post
  have hnm := hM.1
  have hc2 := hM.2.1
  obtain ⟨he, hl, hlo, hlr, ho, h9, hnum, hbs, hbn⟩ := hM.2.2.1 i hi
  have hk : kd (1000 + i) = 2 := kd_mem (by omega)
  have hko : kd (2000 + i) = 4 := kd_own (by omega)
  have hkr : kd (3000 + i) = 14 := kd_arr (by omega)
  refine wp_aload_n dX6_rest_0 rfl 0 rfl ?_
  refine wp_iload_n dX6_rest_1 rfl 1 rfl ?_
  refine wp_callV mX6_findMember 1 [.int (nI i)] [] (c := 6) dX6_rest_2 iX6_findMember (fun _ => trivial) mlX6_64 imX6_findMember seX6_findMember (by decide) rfl rfl ⟨by decide, by decide⟩ rfl rfl (Nat.le_of_ble_eq_true rfl) (Nat.le_of_ble_eq_true rfl) (by decide) (by decide) ?_
  refine ct_findMember nm i hr hc2 hnm hi he ?_
  show WP g mX6_rest 5 [(0, .ref 1), (1, .int (nI i)), (2, .int b)] [.ref (1000 + i)] _ 0 0 _
  refine wp_astore_n (lv' := [(3, .ref (1000 + i)), (0, .ref 1), (1, .int (nI i)), (2, .int b)]) dX6_rest_5 rfl (by decide) rfl ?_
  refine wp_aload_n dX6_rest_6 rfl 0 rfl ?_
  refine wp_ifnull dX6_rest_7 ?_
  refine wp_aload_n dX6_rest_10 rfl 0 rfl ?_
  refine wp_getI dX6_rest_11 flX6_92 rfl hk hl ?_
  refine wi_if_ne (tgt := 21) (Int32.toInt (vI h (1000 + i) 1)) rfl dX6_rest_14 (by decide) (fun c_1 => ?_) (fun c_1 => ?_)
  · refine wp_aload_n dX6_rest_21 rfl 0 rfl ?_
    refine wp_getI dX6_rest_22 flX6_105 rfl hk hl ?_
    refine wp_istore (lv' := [(4, .int (vI h (1000 + i) 7)), (3, .ref (1000 + i)), (0, .ref 1), (1, .int (nI i)), (2, .int b)]) dX6_rest_25 (by decide) rfl ?_
    refine wp_aload_n dX6_rest_27 rfl 1 rfl ?_
    refine wp_iload_n dX6_rest_28 rfl 4 rfl ?_
    refine wp_putI dX6_rest_29 flX6_105 (Or.inl rfl) rfl (nb_n hb) (nb_f hb) hk hl ?_
    refine wp_iload dX6_rest_32 0 rfl ?_
    refine wp_callS mX6_asBit [.int (vI h (1000 + i) 7)] [] dX6_rest_34 iX6_asBit (fun _ => trivial) mlX6_88 stX6_asBit ⟨by decide, by decide⟩ rfl rfl (Nat.le_of_ble_eq_true rfl) (Nat.le_of_ble_eq_true rfl) (by decide) (by decide) ?_
    refine ct_asBit (vI h (1000 + i) 7) ?_
    show WP g mX6_rest 37 [(4, .int (vI h (1000 + i) 7)), (3, .ref (1000 + i)), (0, .ref 1), (1, .int (nI i)), (2, .int b)] [.long (bitL (vI h (1000 + i) 7))] _ 0 0 _
    refine wp_lret dX6_rest_37 rfl (by decide) (by decide) ?_
    exact hyes (by omega)
  · refine wp_ldc2 dX6_rest_17 cnX6_58 ?_
    refine wp_lret dX6_rest_20 rfl (by decide) (by decide) ?_
    exact hno (by omega)
set_option maxRecDepth 100000 in
set_option maxHeartbeats 4000000 in
theorem ct_counter0 {g : GG} {h : HP} {Post : Option Value → HP → Prop}  (nm : Nat) (x : Int32) (hr : SR h) (hM : SM h nm) (hx : ¬ inR x nm) (hp : Post (some (.long (-9000000000000000000))) h) : CT g mX6_counter [.ref 1, .int x] h Post := by
  show WP g mX6_counter 0 [(0, .ref 1), (1, .int x)] [] h 0 0 Post
  refine wp_aload_n dX6_counter_0 rfl 0 rfl ?_
  refine wp_iload_n dX6_counter_1 rfl 1 rfl ?_
  refine wp_callV mX6_findMember 1 [.int x] [] (c := 6) dX6_counter_2 iX6_findMember (fun _ => trivial) mlX6_64 imX6_findMember seX6_findMember (by decide) rfl rfl ⟨by decide, by decide⟩ rfl rfl (Nat.le_of_ble_eq_true rfl) (Nat.le_of_ble_eq_true rfl) (by decide) (by decide) ?_
  refine ct_findMember0 nm x hr hM.2.1 (by have := hM.1; omega) hx ?_
  show WP g mX6_counter 5 [(0, .ref 1), (1, .int x)] [.null] _ 0 0 _
  refine wp_astore_nN (lv' := [(2, .null), (0, .ref 1), (1, .int x)]) dX6_counter_5 rfl (by decide) rfl ?_
  refine wp_aload_nN dX6_counter_6 rfl 0 rfl ?_
  refine wp_ifnonnullN dX6_counter_7 ?_
  refine wp_ldc2 dX6_counter_10 cnX6_58 ?_
  refine wp_goto (tgt := 24) dX6_counter_13 (by decide) ?_
  refine wp_lret dX6_counter_24 rfl (by decide) (by decide) ?_
  exact hp
set_option maxRecDepth 100000 in
set_option maxHeartbeats 4000000 in
theorem ct_counter {g : GG} {h : HP} {Post : Option Value → HP → Prop} (nm i : Nat) (hr : SR h) (hM : SM h nm) (hi : i < nm) (hp : Post (some (.long (cCn h (1000 + i) (vL h 1 0)))) h) : CT g mX6_counter [.ref 1, .int (nI i)] h Post := by
  show WP g mX6_counter 0 [(0, .ref 1), (1, .int (nI i))] [] h 0 0 Post
  have hnm := hM.1
  have hc2 := hM.2.1
  obtain ⟨he, hl, hlo, hlr, ho, h9, hnum, hbs, hbn⟩ := hM.2.2.1 i hi
  have hk : kd (1000 + i) = 2 := kd_mem (by omega)
  have hko : kd (2000 + i) = 4 := kd_own (by omega)
  have hkr : kd (3000 + i) = 14 := kd_arr (by omega)
  refine wp_aload_n dX6_counter_0 rfl 0 rfl ?_
  refine wp_iload_n dX6_counter_1 rfl 1 rfl ?_
  refine wp_callV mX6_findMember 1 [.int (nI i)] [] (c := 6) dX6_counter_2 iX6_findMember (fun _ => trivial) mlX6_64 imX6_findMember seX6_findMember (by decide) rfl rfl ⟨by decide, by decide⟩ rfl rfl (Nat.le_of_ble_eq_true rfl) (Nat.le_of_ble_eq_true rfl) (by decide) (by decide) ?_
  refine ct_findMember nm i hr hc2 hnm hi he ?_
  show WP g mX6_counter 5 [(0, .ref 1), (1, .int (nI i))] [.ref (1000 + i)] _ 0 0 _
  refine wp_astore_n (lv' := [(2, .ref (1000 + i)), (0, .ref 1), (1, .int (nI i))]) dX6_counter_5 rfl (by decide) rfl ?_
  refine wp_aload_n dX6_counter_6 rfl 0 rfl ?_
  refine wp_ifnonnull (tgt := 16) dX6_counter_7 (by decide) ?_
  refine wp_aload_n dX6_counter_16 rfl 0 rfl ?_
  refine wp_aload_n dX6_counter_17 rfl 1 rfl ?_
  refine wp_getL dX6_counter_18 flX6_7 rfl rfl hr.1 ?_
  refine wp_callV mX2_countedAt (1000 + i) [.long (vL h 1 0)] [] (c := 2) dX6_counter_21 iX2_countedAt (fun _ => trivial) mlX6_109 imX2_countedAt seX2_countedAt (by decide) rfl hk ⟨by decide, by decide⟩ rfl rfl (Nat.le_of_ble_eq_true rfl) (Nat.le_of_ble_eq_true rfl) (by decide) (by decide) ?_
  refine ct_countedAt (1000 + i) (vL h 1 0) hk hl ?_
  show WP g mX6_counter 24 [(2, .ref (1000 + i)), (0, .ref 1), (1, .int (nI i))] [.long (cCn h (1000 + i) (vL h 1 0))] _ 0 0 _
  refine wp_lret dX6_counter_24 rfl (by decide) (by decide) ?_
  exact hp
set_option maxRecDepth 100000 in
set_option maxHeartbeats 4000000 in
theorem ct_of0 {g : GG} {h : HP} {Post : Option Value → HP → Prop} (wh : Int32) (nm : Nat) (x : Int32) (hr : SR h) (hM : SM h nm) (hx : ¬ inR x nm) (hp : Post (some (.long (-9000000000000000000))) h) : CT g mX6_of [.ref 1, .int x, .int wh] h Post := by
  show WP g mX6_of 0 [(0, .ref 1), (1, .int x), (2, .int wh)] [] h 0 0 Post
  refine wp_aload_n dX6_of_0 rfl 0 rfl ?_
  refine wp_iload_n dX6_of_1 rfl 1 rfl ?_
  refine wp_callV mX6_findMember 1 [.int x] [] (c := 6) dX6_of_2 iX6_findMember (fun _ => trivial) mlX6_64 imX6_findMember seX6_findMember (by decide) rfl rfl ⟨by decide, by decide⟩ rfl rfl (Nat.le_of_ble_eq_true rfl) (Nat.le_of_ble_eq_true rfl) (by decide) (by decide) ?_
  refine ct_findMember0 nm x hr hM.2.1 (by have := hM.1; omega) hx ?_
  show WP g mX6_of 5 [(0, .ref 1), (1, .int x), (2, .int wh)] [.null] _ 0 0 _
  refine wp_astore_nN (lv' := [(3, .null), (0, .ref 1), (1, .int x), (2, .int wh)]) dX6_of_5 rfl (by decide) rfl ?_
  refine wp_aload_nN dX6_of_6 rfl 0 rfl ?_
  refine wp_ifnonnullN dX6_of_7 ?_
  refine wp_ldc2 dX6_of_10 cnX6_58 ?_
  refine wp_lret dX6_of_13 rfl (by decide) (by decide) ?_
  exact hp
set_option maxRecDepth 100000 in
set_option maxHeartbeats 4000000 in
theorem ct_of_0 {g : GG} {h : HP} {Post : Option Value → HP → Prop} (nm i : Nat) (hr : SR h) (hM : SM h nm) (hi : i < nm) (hp : Post (some (.long (cLo h (1000 + i) (2000 + i) (vL h 1 0)))) h) : CT g mX6_of [.ref 1, .int (nI i), .int 0] h Post := by
  show WP g mX6_of 0 [(0, .ref 1), (1, .int (nI i)), (2, .int 0)] [] h 0 0 Post
  have hnm := hM.1
  have hc2 := hM.2.1
  obtain ⟨he, hl, hlo, hlr, ho, h9, hnum, hbs, hbn⟩ := hM.2.2.1 i hi
  have hk : kd (1000 + i) = 2 := kd_mem (by omega)
  have hko : kd (2000 + i) = 4 := kd_own (by omega)
  have hkr : kd (3000 + i) = 14 := kd_arr (by omega)
  refine wp_aload_n dX6_of_0 rfl 0 rfl ?_
  refine wp_iload_n dX6_of_1 rfl 1 rfl ?_
  refine wp_callV mX6_findMember 1 [.int (nI i)] [] (c := 6) dX6_of_2 iX6_findMember (fun _ => trivial) mlX6_64 imX6_findMember seX6_findMember (by decide) rfl rfl ⟨by decide, by decide⟩ rfl rfl (Nat.le_of_ble_eq_true rfl) (Nat.le_of_ble_eq_true rfl) (by decide) (by decide) ?_
  refine ct_findMember nm i hr hc2 hnm hi he ?_
  show WP g mX6_of 5 [(0, .ref 1), (1, .int (nI i)), (2, .int 0)] [.ref (1000 + i)] _ 0 0 _
  refine wp_astore_n (lv' := [(3, .ref (1000 + i)), (0, .ref 1), (1, .int (nI i)), (2, .int 0)]) dX6_of_5 rfl (by decide) rfl ?_
  refine wp_aload_n dX6_of_6 rfl 0 rfl ?_
  refine wp_ifnonnull (tgt := 14) dX6_of_7 (by decide) ?_
  refine wp_iload_n dX6_of_14 rfl 3 rfl ?_
  refine wp_tableIn (off := 49) (tgt := 64) dX6_of_15 (by decide) (by decide) (by decide) (by decide) ?_
  refine wp_aload_n dX6_of_64 rfl 0 rfl ?_
  refine wp_aload_n dX6_of_65 rfl 1 rfl ?_
  refine wp_getL dX6_of_66 flX6_7 rfl rfl hr.1 ?_
  refine wp_callV mX2_lowAt (1000 + i) [.long (vL h 1 0)] [] (c := 2) dX6_of_69 iX2_lowAt (fun _ => trivial) mlX6_112 imX2_lowAt seX2_lowAt (by decide) rfl hk ⟨by decide, by decide⟩ rfl rfl (Nat.le_of_ble_eq_true rfl) (Nat.le_of_ble_eq_true rfl) (by decide) (by decide) ?_
  refine ct_lowAt (1000 + i) (2000 + i) (vL h 1 0) hk hl ho hko hlo ?_
  show WP g mX6_of 72 [(3, .ref (1000 + i)), (0, .ref 1), (1, .int (nI i)), (2, .int 0)] [.long (cLo h (1000 + i) (2000 + i) (vL h 1 0))] _ 0 0 _
  refine wp_lret dX6_of_72 rfl (by decide) (by decide) ?_
  exact hp
set_option maxRecDepth 100000 in
set_option maxHeartbeats 4000000 in
theorem ct_of_1 {g : GG} {h : HP} {Post : Option Value → HP → Prop} (nm i : Nat) (hr : SR h) (hM : SM h nm) (hi : i < nm) (hp : Post (some (.long (cHi h (1000 + i) (2000 + i) (vL h 1 0)))) h) : CT g mX6_of [.ref 1, .int (nI i), .int 1] h Post := by
  show WP g mX6_of 0 [(0, .ref 1), (1, .int (nI i)), (2, .int 1)] [] h 0 0 Post
  have hnm := hM.1
  have hc2 := hM.2.1
  obtain ⟨he, hl, hlo, hlr, ho, h9, hnum, hbs, hbn⟩ := hM.2.2.1 i hi
  have hk : kd (1000 + i) = 2 := kd_mem (by omega)
  have hko : kd (2000 + i) = 4 := kd_own (by omega)
  have hkr : kd (3000 + i) = 14 := kd_arr (by omega)
  refine wp_aload_n dX6_of_0 rfl 0 rfl ?_
  refine wp_iload_n dX6_of_1 rfl 1 rfl ?_
  refine wp_callV mX6_findMember 1 [.int (nI i)] [] (c := 6) dX6_of_2 iX6_findMember (fun _ => trivial) mlX6_64 imX6_findMember seX6_findMember (by decide) rfl rfl ⟨by decide, by decide⟩ rfl rfl (Nat.le_of_ble_eq_true rfl) (Nat.le_of_ble_eq_true rfl) (by decide) (by decide) ?_
  refine ct_findMember nm i hr hc2 hnm hi he ?_
  show WP g mX6_of 5 [(0, .ref 1), (1, .int (nI i)), (2, .int 1)] [.ref (1000 + i)] _ 0 0 _
  refine wp_astore_n (lv' := [(3, .ref (1000 + i)), (0, .ref 1), (1, .int (nI i)), (2, .int 1)]) dX6_of_5 rfl (by decide) rfl ?_
  refine wp_aload_n dX6_of_6 rfl 0 rfl ?_
  refine wp_ifnonnull (tgt := 14) dX6_of_7 (by decide) ?_
  refine wp_iload_n dX6_of_14 rfl 3 rfl ?_
  refine wp_tableIn (off := 58) (tgt := 73) dX6_of_15 (by decide) (by decide) (by decide) (by decide) ?_
  refine wp_aload_n dX6_of_73 rfl 0 rfl ?_
  refine wp_aload_n dX6_of_74 rfl 1 rfl ?_
  refine wp_getL dX6_of_75 flX6_7 rfl rfl hr.1 ?_
  refine wp_callV mX2_highAt (1000 + i) [.long (vL h 1 0)] [] (c := 2) dX6_of_78 iX2_highAt (fun _ => trivial) mlX6_115 imX2_highAt seX2_highAt (by decide) rfl hk ⟨by decide, by decide⟩ rfl rfl (Nat.le_of_ble_eq_true rfl) (Nat.le_of_ble_eq_true rfl) (by decide) (by decide) ?_
  refine ct_highAt (1000 + i) (2000 + i) (vL h 1 0) hk hl ho hko hlo ?_
  show WP g mX6_of 81 [(3, .ref (1000 + i)), (0, .ref 1), (1, .int (nI i)), (2, .int 1)] [.long (cHi h (1000 + i) (2000 + i) (vL h 1 0))] _ 0 0 _
  refine wp_lret dX6_of_81 rfl (by decide) (by decide) ?_
  exact hp
set_option maxRecDepth 100000 in
set_option maxHeartbeats 4000000 in
theorem ct_of_2 {g : GG} {h : HP} {Post : Option Value → HP → Prop} (nm i : Nat) (hr : SR h) (hM : SM h nm) (hi : i < nm) (hp : Post (some (.long (Int32.toInt64 (vI h (1000 + i) 1)))) h) : CT g mX6_of [.ref 1, .int (nI i), .int 2] h Post := by
  show WP g mX6_of 0 [(0, .ref 1), (1, .int (nI i)), (2, .int 2)] [] h 0 0 Post
  have hnm := hM.1
  have hc2 := hM.2.1
  obtain ⟨he, hl, hlo, hlr, ho, h9, hnum, hbs, hbn⟩ := hM.2.2.1 i hi
  have hk : kd (1000 + i) = 2 := kd_mem (by omega)
  have hko : kd (2000 + i) = 4 := kd_own (by omega)
  have hkr : kd (3000 + i) = 14 := kd_arr (by omega)
  refine wp_aload_n dX6_of_0 rfl 0 rfl ?_
  refine wp_iload_n dX6_of_1 rfl 1 rfl ?_
  refine wp_callV mX6_findMember 1 [.int (nI i)] [] (c := 6) dX6_of_2 iX6_findMember (fun _ => trivial) mlX6_64 imX6_findMember seX6_findMember (by decide) rfl rfl ⟨by decide, by decide⟩ rfl rfl (Nat.le_of_ble_eq_true rfl) (Nat.le_of_ble_eq_true rfl) (by decide) (by decide) ?_
  refine ct_findMember nm i hr hc2 hnm hi he ?_
  show WP g mX6_of 5 [(0, .ref 1), (1, .int (nI i)), (2, .int 2)] [.ref (1000 + i)] _ 0 0 _
  refine wp_astore_n (lv' := [(3, .ref (1000 + i)), (0, .ref 1), (1, .int (nI i)), (2, .int 2)]) dX6_of_5 rfl (by decide) rfl ?_
  refine wp_aload_n dX6_of_6 rfl 0 rfl ?_
  refine wp_ifnonnull (tgt := 14) dX6_of_7 (by decide) ?_
  refine wp_iload_n dX6_of_14 rfl 3 rfl ?_
  refine wp_tableIn (off := 67) (tgt := 82) dX6_of_15 (by decide) (by decide) (by decide) (by decide) ?_
  refine wp_aload_n dX6_of_82 rfl 0 rfl ?_
  refine wp_getI dX6_of_83 flX6_92 rfl hk hl ?_
  refine wp_i2l dX6_of_86 ?_
  refine wp_lret dX6_of_87 rfl (by decide) (by decide) ?_
  exact hp
set_option maxRecDepth 100000 in
set_option maxHeartbeats 4000000 in
theorem ct_of_3 {g : GG} {h : HP} {Post : Option Value → HP → Prop} (nm i : Nat) (hr : SR h) (hM : SM h nm) (hi : i < nm) (hp : Post (some (.long (bitL (vI h (1000 + i) 7)))) h) : CT g mX6_of [.ref 1, .int (nI i), .int 3] h Post := by
  show WP g mX6_of 0 [(0, .ref 1), (1, .int (nI i)), (2, .int 3)] [] h 0 0 Post
  have hnm := hM.1
  have hc2 := hM.2.1
  obtain ⟨he, hl, hlo, hlr, ho, h9, hnum, hbs, hbn⟩ := hM.2.2.1 i hi
  have hk : kd (1000 + i) = 2 := kd_mem (by omega)
  have hko : kd (2000 + i) = 4 := kd_own (by omega)
  have hkr : kd (3000 + i) = 14 := kd_arr (by omega)
  refine wp_aload_n dX6_of_0 rfl 0 rfl ?_
  refine wp_iload_n dX6_of_1 rfl 1 rfl ?_
  refine wp_callV mX6_findMember 1 [.int (nI i)] [] (c := 6) dX6_of_2 iX6_findMember (fun _ => trivial) mlX6_64 imX6_findMember seX6_findMember (by decide) rfl rfl ⟨by decide, by decide⟩ rfl rfl (Nat.le_of_ble_eq_true rfl) (Nat.le_of_ble_eq_true rfl) (by decide) (by decide) ?_
  refine ct_findMember nm i hr hc2 hnm hi he ?_
  show WP g mX6_of 5 [(0, .ref 1), (1, .int (nI i)), (2, .int 3)] [.ref (1000 + i)] _ 0 0 _
  refine wp_astore_n (lv' := [(3, .ref (1000 + i)), (0, .ref 1), (1, .int (nI i)), (2, .int 3)]) dX6_of_5 rfl (by decide) rfl ?_
  refine wp_aload_n dX6_of_6 rfl 0 rfl ?_
  refine wp_ifnonnull (tgt := 14) dX6_of_7 (by decide) ?_
  refine wp_iload_n dX6_of_14 rfl 3 rfl ?_
  refine wp_tableIn (off := 73) (tgt := 88) dX6_of_15 (by decide) (by decide) (by decide) (by decide) ?_
  refine wp_aload_n dX6_of_88 rfl 0 rfl ?_
  refine wp_getI dX6_of_89 flX6_105 rfl hk hl ?_
  refine wp_callS mX6_asBit [.int (vI h (1000 + i) 7)] [] dX6_of_92 iX6_asBit (fun _ => trivial) mlX6_88 stX6_asBit ⟨by decide, by decide⟩ rfl rfl (Nat.le_of_ble_eq_true rfl) (Nat.le_of_ble_eq_true rfl) (by decide) (by decide) ?_
  refine ct_asBit (vI h (1000 + i) 7) ?_
  show WP g mX6_of 95 [(3, .ref (1000 + i)), (0, .ref 1), (1, .int (nI i)), (2, .int 3)] [.long (bitL (vI h (1000 + i) 7))] _ 0 0 _
  refine wp_lret dX6_of_95 rfl (by decide) (by decide) ?_
  exact hp
set_option maxRecDepth 100000 in
set_option maxHeartbeats 4000000 in
theorem ct_of_4 {g : GG} {h : HP} {Post : Option Value → HP → Prop} (nm i : Nat) (hr : SR h) (hM : SM h nm) (hi : i < nm) (hp : Post (some (.long (vL h (1000 + i) 12))) h) : CT g mX6_of [.ref 1, .int (nI i), .int 4] h Post := by
  show WP g mX6_of 0 [(0, .ref 1), (1, .int (nI i)), (2, .int 4)] [] h 0 0 Post
  have hnm := hM.1
  have hc2 := hM.2.1
  obtain ⟨he, hl, hlo, hlr, ho, h9, hnum, hbs, hbn⟩ := hM.2.2.1 i hi
  have hk : kd (1000 + i) = 2 := kd_mem (by omega)
  have hko : kd (2000 + i) = 4 := kd_own (by omega)
  have hkr : kd (3000 + i) = 14 := kd_arr (by omega)
  refine wp_aload_n dX6_of_0 rfl 0 rfl ?_
  refine wp_iload_n dX6_of_1 rfl 1 rfl ?_
  refine wp_callV mX6_findMember 1 [.int (nI i)] [] (c := 6) dX6_of_2 iX6_findMember (fun _ => trivial) mlX6_64 imX6_findMember seX6_findMember (by decide) rfl rfl ⟨by decide, by decide⟩ rfl rfl (Nat.le_of_ble_eq_true rfl) (Nat.le_of_ble_eq_true rfl) (by decide) (by decide) ?_
  refine ct_findMember nm i hr hc2 hnm hi he ?_
  show WP g mX6_of 5 [(0, .ref 1), (1, .int (nI i)), (2, .int 4)] [.ref (1000 + i)] _ 0 0 _
  refine wp_astore_n (lv' := [(3, .ref (1000 + i)), (0, .ref 1), (1, .int (nI i)), (2, .int 4)]) dX6_of_5 rfl (by decide) rfl ?_
  refine wp_aload_n dX6_of_6 rfl 0 rfl ?_
  refine wp_ifnonnull (tgt := 14) dX6_of_7 (by decide) ?_
  refine wp_iload_n dX6_of_14 rfl 3 rfl ?_
  refine wp_tableIn (off := 81) (tgt := 96) dX6_of_15 (by decide) (by decide) (by decide) (by decide) ?_
  refine wp_aload_n dX6_of_96 rfl 0 rfl ?_
  refine wp_getL dX6_of_97 flX6_118 rfl hk hl ?_
  refine wp_lret dX6_of_100 rfl (by decide) (by decide) ?_
  exact hp
set_option maxRecDepth 100000 in
set_option maxHeartbeats 4000000 in
theorem ct_of_6 {g : GG} {h : HP} {Post : Option Value → HP → Prop} (nm i : Nat) (hr : SR h) (hM : SM h nm) (hi : i < nm) (hp : Post (some (.long (Int32.toInt64 (vI h (1000 + i) 14)))) h) : CT g mX6_of [.ref 1, .int (nI i), .int 6] h Post := by
  show WP g mX6_of 0 [(0, .ref 1), (1, .int (nI i)), (2, .int 6)] [] h 0 0 Post
  have hnm := hM.1
  have hc2 := hM.2.1
  obtain ⟨he, hl, hlo, hlr, ho, h9, hnum, hbs, hbn⟩ := hM.2.2.1 i hi
  have hk : kd (1000 + i) = 2 := kd_mem (by omega)
  have hko : kd (2000 + i) = 4 := kd_own (by omega)
  have hkr : kd (3000 + i) = 14 := kd_arr (by omega)
  refine wp_aload_n dX6_of_0 rfl 0 rfl ?_
  refine wp_iload_n dX6_of_1 rfl 1 rfl ?_
  refine wp_callV mX6_findMember 1 [.int (nI i)] [] (c := 6) dX6_of_2 iX6_findMember (fun _ => trivial) mlX6_64 imX6_findMember seX6_findMember (by decide) rfl rfl ⟨by decide, by decide⟩ rfl rfl (Nat.le_of_ble_eq_true rfl) (Nat.le_of_ble_eq_true rfl) (by decide) (by decide) ?_
  refine ct_findMember nm i hr hc2 hnm hi he ?_
  show WP g mX6_of 5 [(0, .ref 1), (1, .int (nI i)), (2, .int 6)] [.ref (1000 + i)] _ 0 0 _
  refine wp_astore_n (lv' := [(3, .ref (1000 + i)), (0, .ref 1), (1, .int (nI i)), (2, .int 6)]) dX6_of_5 rfl (by decide) rfl ?_
  refine wp_aload_n dX6_of_6 rfl 0 rfl ?_
  refine wp_ifnonnull (tgt := 14) dX6_of_7 (by decide) ?_
  refine wp_iload_n dX6_of_14 rfl 3 rfl ?_
  refine wp_tableIn (off := 98) (tgt := 113) dX6_of_15 (by decide) (by decide) (by decide) (by decide) ?_
  refine wp_aload_n dX6_of_113 rfl 0 rfl ?_
  refine wp_getI dX6_of_114 flX6_125 rfl hk hl ?_
  refine wp_i2l dX6_of_117 ?_
  refine wp_lret dX6_of_118 rfl (by decide) (by decide) ?_
  exact hp
set_option maxRecDepth 100000 in
set_option maxHeartbeats 4000000 in
theorem ct_of_7 {g : GG} {h : HP} {Post : Option Value → HP → Prop} (nm i : Nat) (hr : SR h) (hM : SM h nm) (hi : i < nm) (hp : Post (some (.long (Int32.toInt64 (vI h (1000 + i) 15)))) h) : CT g mX6_of [.ref 1, .int (nI i), .int 7] h Post := by
  show WP g mX6_of 0 [(0, .ref 1), (1, .int (nI i)), (2, .int 7)] [] h 0 0 Post
  have hnm := hM.1
  have hc2 := hM.2.1
  obtain ⟨he, hl, hlo, hlr, ho, h9, hnum, hbs, hbn⟩ := hM.2.2.1 i hi
  have hk : kd (1000 + i) = 2 := kd_mem (by omega)
  have hko : kd (2000 + i) = 4 := kd_own (by omega)
  have hkr : kd (3000 + i) = 14 := kd_arr (by omega)
  refine wp_aload_n dX6_of_0 rfl 0 rfl ?_
  refine wp_iload_n dX6_of_1 rfl 1 rfl ?_
  refine wp_callV mX6_findMember 1 [.int (nI i)] [] (c := 6) dX6_of_2 iX6_findMember (fun _ => trivial) mlX6_64 imX6_findMember seX6_findMember (by decide) rfl rfl ⟨by decide, by decide⟩ rfl rfl (Nat.le_of_ble_eq_true rfl) (Nat.le_of_ble_eq_true rfl) (by decide) (by decide) ?_
  refine ct_findMember nm i hr hc2 hnm hi he ?_
  show WP g mX6_of 5 [(0, .ref 1), (1, .int (nI i)), (2, .int 7)] [.ref (1000 + i)] _ 0 0 _
  refine wp_astore_n (lv' := [(3, .ref (1000 + i)), (0, .ref 1), (1, .int (nI i)), (2, .int 7)]) dX6_of_5 rfl (by decide) rfl ?_
  refine wp_aload_n dX6_of_6 rfl 0 rfl ?_
  refine wp_ifnonnull (tgt := 14) dX6_of_7 (by decide) ?_
  refine wp_iload_n dX6_of_14 rfl 3 rfl ?_
  refine wp_tableIn (off := 104) (tgt := 119) dX6_of_15 (by decide) (by decide) (by decide) (by decide) ?_
  refine wp_aload_n dX6_of_119 rfl 0 rfl ?_
  refine wp_getI dX6_of_120 flX6_128 rfl hk hl ?_
  refine wp_i2l dX6_of_123 ?_
  refine wp_lret dX6_of_124 rfl (by decide) (by decide) ?_
  exact hp
set_option maxRecDepth 100000 in
set_option maxHeartbeats 4000000 in
theorem ct_of_8 {g : GG} {h : HP} {Post : Option Value → HP → Prop} (nm i : Nat) (hr : SR h) (hM : SM h nm) (hi : i < nm) (hp : Post (some (.long (Int32.toInt64 (nI (cntH h (3000 + i) 10))))) h) : CT g mX6_of [.ref 1, .int (nI i), .int 8] h Post := by
  show WP g mX6_of 0 [(0, .ref 1), (1, .int (nI i)), (2, .int 8)] [] h 0 0 Post
  have hnm := hM.1
  have hc2 := hM.2.1
  obtain ⟨he, hl, hlo, hlr, ho, h9, hnum, hbs, hbn⟩ := hM.2.2.1 i hi
  have hk : kd (1000 + i) = 2 := kd_mem (by omega)
  have hko : kd (2000 + i) = 4 := kd_own (by omega)
  have hkr : kd (3000 + i) = 14 := kd_arr (by omega)
  refine wp_aload_n dX6_of_0 rfl 0 rfl ?_
  refine wp_iload_n dX6_of_1 rfl 1 rfl ?_
  refine wp_callV mX6_findMember 1 [.int (nI i)] [] (c := 6) dX6_of_2 iX6_findMember (fun _ => trivial) mlX6_64 imX6_findMember seX6_findMember (by decide) rfl rfl ⟨by decide, by decide⟩ rfl rfl (Nat.le_of_ble_eq_true rfl) (Nat.le_of_ble_eq_true rfl) (by decide) (by decide) ?_
  refine ct_findMember nm i hr hc2 hnm hi he ?_
  show WP g mX6_of 5 [(0, .ref 1), (1, .int (nI i)), (2, .int 8)] [.ref (1000 + i)] _ 0 0 _
  refine wp_astore_n (lv' := [(3, .ref (1000 + i)), (0, .ref 1), (1, .int (nI i)), (2, .int 8)]) dX6_of_5 rfl (by decide) rfl ?_
  refine wp_aload_n dX6_of_6 rfl 0 rfl ?_
  refine wp_ifnonnull (tgt := 14) dX6_of_7 (by decide) ?_
  refine wp_iload_n dX6_of_14 rfl 3 rfl ?_
  refine wp_tableIn (off := 110) (tgt := 125) dX6_of_15 (by decide) (by decide) (by decide) (by decide) ?_
  refine wp_aload_n dX6_of_125 rfl 0 rfl ?_
  refine wp_callV mX2_howManyHeard (1000 + i) [] [] (c := 2) dX6_of_126 iX2_howManyHeard (fun _ => trivial) mlX6_131 imX2_howManyHeard seX2_howManyHeard (by decide) rfl hk ⟨by decide, by decide⟩ rfl rfl (Nat.le_of_ble_eq_true rfl) (Nat.le_of_ble_eq_true rfl) (by decide) (by decide) ?_
  refine ct_howManyHeard (1000 + i) (3000 + i) hk hl h9 hkr hlr (ln_arr (by omega)) (fun j b hj q => ⟨by rw [(hbs j b hj q).1]; exact kd_hrd (by omega), (hbs j b hj q).2⟩) ?_
  show WP g mX6_of 129 [(3, .ref (1000 + i)), (0, .ref 1), (1, .int (nI i)), (2, .int 8)] [.int (nI (cntH h (3000 + i) 10))] _ 0 0 _
  refine wp_i2l dX6_of_129 ?_
  refine wp_lret dX6_of_130 rfl (by decide) (by decide) ?_
  exact hp
set_option maxRecDepth 100000 in
set_option maxHeartbeats 4000000 in
theorem ct_of_5 {g : GG} {h : HP} {Post : Option Value → HP → Prop} (nm i : Nat) (hr : SR h) (hM : SM h nm) (hi : i < nm) (hy : cHo h (1000 + i) (2000 + i) (vL h 1 0) → Post (some (.long 1)) h) (hn : ¬ cHo h (1000 + i) (2000 + i) (vL h 1 0) → Post (some (.long 0)) h) : CT g mX6_of [.ref 1, .int (nI i), .int 5] h Post := by
  show WP g mX6_of 0 [(0, .ref 1), (1, .int (nI i)), (2, .int 5)] [] h 0 0 Post
  have hnm := hM.1
  have hc2 := hM.2.1
  obtain ⟨he, hl, hlo, hlr, ho, h9, hnum, hbs, hbn⟩ := hM.2.2.1 i hi
  have hk : kd (1000 + i) = 2 := kd_mem (by omega)
  have hko : kd (2000 + i) = 4 := kd_own (by omega)
  have hkr : kd (3000 + i) = 14 := kd_arr (by omega)
  refine wp_aload_n dX6_of_0 rfl 0 rfl ?_
  refine wp_iload_n dX6_of_1 rfl 1 rfl ?_
  refine wp_callV mX6_findMember 1 [.int (nI i)] [] (c := 6) dX6_of_2 iX6_findMember (fun _ => trivial) mlX6_64 imX6_findMember seX6_findMember (by decide) rfl rfl ⟨by decide, by decide⟩ rfl rfl (Nat.le_of_ble_eq_true rfl) (Nat.le_of_ble_eq_true rfl) (by decide) (by decide) ?_
  refine ct_findMember nm i hr hc2 hnm hi he ?_
  show WP g mX6_of 5 [(0, .ref 1), (1, .int (nI i)), (2, .int 5)] [.ref (1000 + i)] _ 0 0 _
  refine wp_astore_n (lv' := [(3, .ref (1000 + i)), (0, .ref 1), (1, .int (nI i)), (2, .int 5)]) dX6_of_5 rfl (by decide) rfl ?_
  refine wp_aload_n dX6_of_6 rfl 0 rfl ?_
  refine wp_ifnonnull (tgt := 14) dX6_of_7 (by decide) ?_
  refine wp_iload_n dX6_of_14 rfl 3 rfl ?_
  refine wp_tableIn (off := 86) (tgt := 101) dX6_of_15 (by decide) (by decide) (by decide) (by decide) ?_
  refine wp_aload_n dX6_of_101 rfl 0 rfl ?_
  refine wp_aload_n dX6_of_102 rfl 1 rfl ?_
  refine wp_getL dX6_of_103 flX6_7 rfl rfl hr.1 ?_
  refine wp_callV mX2_holds (1000 + i) [.long (vL h 1 0)] [] (c := 2) dX6_of_106 iX2_holds (fun _ => trivial) mlX6_121 imX2_holds seX2_holds (by decide) rfl hk ⟨by decide, by decide⟩ rfl rfl (Nat.le_of_ble_eq_true rfl) (Nat.le_of_ble_eq_true rfl) (by decide) (by decide) ?_
  refine ct_holds (1000 + i) (2000 + i) (vL h 1 0) hk hl ho hko hlo (fun hz => ?_) (fun hz => ?_)
  · show WP g mX6_of 109 [(3, .ref (1000 + i)), (0, .ref 1), (1, .int (nI i)), (2, .int 5)] [.int 1] _ 0 0 _
    refine wp_callS mX6_asBit [.int 1] [] dX6_of_109 iX6_asBit (fun _ => trivial) mlX6_88 stX6_asBit ⟨by decide, by decide⟩ rfl rfl (Nat.le_of_ble_eq_true rfl) (Nat.le_of_ble_eq_true rfl) (by decide) (by decide) ?_
    refine ct_asBit1 ?_
    show WP g mX6_of 112 [(3, .ref (1000 + i)), (0, .ref 1), (1, .int (nI i)), (2, .int 5)] [.long 1] _ 0 0 _
    refine wp_lret dX6_of_112 rfl (by decide) (by decide) ?_
    exact hy hz
  · show WP g mX6_of 109 [(3, .ref (1000 + i)), (0, .ref 1), (1, .int (nI i)), (2, .int 5)] [.int 0] _ 0 0 _
    refine wp_callS mX6_asBit [.int 0] [] dX6_of_109 iX6_asBit (fun _ => trivial) mlX6_88 stX6_asBit ⟨by decide, by decide⟩ rfl rfl (Nat.le_of_ble_eq_true rfl) (Nat.le_of_ble_eq_true rfl) (by decide) (by decide) ?_
    refine ct_asBit0 ?_
    show WP g mX6_of 112 [(3, .ref (1000 + i)), (0, .ref 1), (1, .int (nI i)), (2, .int 5)] [.long 0] _ 0 0 _
    refine wp_lret dX6_of_112 rfl (by decide) (by decide) ?_
    exact hn hz
set_option maxRecDepth 100000 in
set_option maxHeartbeats 4000000 in
theorem ct_of_x {g : GG} {h : HP} {Post : Option Value → HP → Prop} (nm i : Nat) (hr : SR h) (hM : SM h nm) (hi : i < nm) (wh : Int32) (hw : wh.toInt < 0 ∨ 8 < wh.toInt) (hp : Post (some (.long (-9000000000000000000))) h) : CT g mX6_of [.ref 1, .int (nI i), .int wh] h Post := by
  show WP g mX6_of 0 [(0, .ref 1), (1, .int (nI i)), (2, .int wh)] [] h 0 0 Post
  have hnm := hM.1
  have hc2 := hM.2.1
  obtain ⟨he, hl, hlo, hlr, ho, h9, hnum, hbs, hbn⟩ := hM.2.2.1 i hi
  have hk : kd (1000 + i) = 2 := kd_mem (by omega)
  have hko : kd (2000 + i) = 4 := kd_own (by omega)
  have hkr : kd (3000 + i) = 14 := kd_arr (by omega)
  refine wp_aload_n dX6_of_0 rfl 0 rfl ?_
  refine wp_iload_n dX6_of_1 rfl 1 rfl ?_
  refine wp_callV mX6_findMember 1 [.int (nI i)] [] (c := 6) dX6_of_2 iX6_findMember (fun _ => trivial) mlX6_64 imX6_findMember seX6_findMember (by decide) rfl rfl ⟨by decide, by decide⟩ rfl rfl (Nat.le_of_ble_eq_true rfl) (Nat.le_of_ble_eq_true rfl) (by decide) (by decide) ?_
  refine ct_findMember nm i hr hc2 hnm hi he ?_
  show WP g mX6_of 5 [(0, .ref 1), (1, .int (nI i)), (2, .int wh)] [.ref (1000 + i)] _ 0 0 _
  refine wp_astore_n (lv' := [(3, .ref (1000 + i)), (0, .ref 1), (1, .int (nI i)), (2, .int wh)]) dX6_of_5 rfl (by decide) rfl ?_
  refine wp_aload_n dX6_of_6 rfl 0 rfl ?_
  refine wp_ifnonnull (tgt := 14) dX6_of_7 (by decide) ?_
  refine wp_iload_n dX6_of_14 rfl 3 rfl ?_
  refine wp_tableOut (tgt := 131) dX6_of_15 hw (by decide) ?_
  refine wp_ldc2 dX6_of_131 cnX6_58 ?_
  refine wp_lret dX6_of_134 rfl (by decide) (by decide) ?_
  exact hp
