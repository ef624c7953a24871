/-! contracts: noting a meeting, council, meet -/
def ntH (h : HP) (l : Int32) (w : Nat → Nat) : Nat → HP
  | 0 => h
  | k + 1 => sI (sI (ntH h l w k) (1000 + w k) 15 (vI (ntH h l w k) (1000 + w k) 15 + 1)) (1000 + w k) 14 (vI (ntH h l w k) (1000 + w k) 14 + (l >>> (nI (w k) &&& 31) &&& 1))
theorem ntH_k (h : HP) (l : Int32) (w : Nat → Nat) : ∀ k, liv (ntH h l w k) = liv h ∧ vL (ntH h l w k) = vL h ∧ vP (ntH h l w k) = vP h ∧ (∀ a j, (a < 1000 ∨ (j ≠ 14 ∧ j ≠ 15)) → vI (ntH h l w k) a j = vI h a j)
  | 0 => ⟨rfl, rfl, rfl, fun _ _ _ => rfl⟩
  | k + 1 => by
    obtain ⟨h1, h2, h3, h4⟩ := ntH_k h l w k
    refine ⟨h1, h2, h3, fun a j q => ?_⟩
    show vI (sI (sI _ _ 15 _) _ 14 _) a j = _
    rcases q with q | ⟨q1, q2⟩
    · rw [congrFun (vIn (by omega)) j, congrFun (vIn (by omega)) j]; exact h4 a j (Or.inl q)
    · rw [vIj q1, vIj q2]; exact h4 a j (Or.inr ⟨q1, q2⟩)
set_option maxRecDepth 100000 in
set_option maxHeartbeats 4000000 in
theorem lp_note {g : GG} {h : HP} {Post : Option Value → HP → Prop} (nm s : Nat) (l : Int32) (w : Nat → Nat) (hr : SR h) (hnm : nm ≤ 10) (hc2 : vI h 1 2 = nI nm) (hs : s ≤ 10) (hsz : vI h 5 3 = nI s) (hw : ∀ k, k < s → w k < nm ∧ vI h 6 k = nI (w k)) (hm : ∀ i, i < nm → vP h 2 i = some (1000 + i) ∧ liv h (1000 + i) = true ∧ vI h (1000 + i) 0 = nI i) (hp : Post none (ntH h l w s)) : ∀ (k n : Nat), n + k = s → WP g mX6_noteMeeting 2 [(0, .ref 1), (1, .int l), (2, .int (nI n))] [] (ntH h l w n) 0 0 Post := by
  intro k
  induction k with
  | zero =>
    intro n e0
    refine wp_iload_n dX6_noteMeeting_2 rfl 2 rfl ?_
    refine wp_aload_n dX6_noteMeeting_3 rfl 0 rfl ?_
    refine wp_getP (b := 5) dX6_noteMeeting_4 flX6_44 rfl rfl (by show liv (ntH h l w n) _ = true; rw [(ntH_k h l w n).1]; exact hr.1) (by rw [(ntH_k h l w n).2.2.1]; exact hr.2.2.2.2.2.2.2.2.1) ?_
    refine wv_getI (nI s) dX6_noteMeeting_7 flX6_202 rfl rfl (by show liv (ntH h l w n) _ = true; rw [(ntH_k h l w n).1]; exact hr.2.2.2.2.2.2.2.2.2.2.1) (by rw [(ntH_k h l w n).2.2.2 5 3 (Or.inl (by omega))]; exact hsz) ?_
    refine wp_icmp_ge (tgt := 64) dX6_noteMeeting_10 (by decide) (fun _ => ?_) (fun c_1 => absurd (nI_le (by omega) (by omega)) c_1)
    refine wp_vret dX6_noteMeeting_64 rfl (by decide) (by decide) ?_
    rw [show n = s by omega]
    exact hp
  | succ k ih =>
    intro n e0
    refine wp_iload_n dX6_noteMeeting_2 rfl 2 rfl ?_
    refine wp_aload_n dX6_noteMeeting_3 rfl 0 rfl ?_
    refine wp_getP (b := 5) dX6_noteMeeting_4 flX6_44 rfl rfl (by show liv (ntH h l w n) _ = true; rw [(ntH_k h l w n).1]; exact hr.1) (by rw [(ntH_k h l w n).2.2.1]; exact hr.2.2.2.2.2.2.2.2.1) ?_
    refine wv_getI (nI s) dX6_noteMeeting_7 flX6_202 rfl rfl (by show liv (ntH h l w n) _ = true; rw [(ntH_k h l w n).1]; exact hr.2.2.2.2.2.2.2.2.2.2.1) (by rw [(ntH_k h l w n).2.2.2 5 3 (Or.inl (by omega))]; exact hsz) ?_
    refine wp_icmp_ge (tgt := 64) dX6_noteMeeting_10 (by decide) (fun c_1 => absurd c_1 (nI_ge (by omega) (by omega))) (fun _ => ?_)
    refine wp_aload_n dX6_noteMeeting_13 rfl 0 rfl ?_
    refine wp_aload_n dX6_noteMeeting_14 rfl 0 rfl ?_
    refine wp_getP (b := 5) dX6_noteMeeting_15 flX6_44 rfl rfl (by show liv (ntH h l w n) _ = true; rw [(ntH_k h l w n).1]; exact hr.1) (by rw [(ntH_k h l w n).2.2.1]; exact hr.2.2.2.2.2.2.2.2.1) ?_
    refine wp_getP (b := 6) dX6_noteMeeting_18 flX6_329 rfl rfl (by show liv (ntH h l w n) _ = true; rw [(ntH_k h l w n).1]; exact hr.2.2.2.2.2.2.2.2.2.2.1) (by rw [(ntH_k h l w n).2.2.1]; exact hr.2.2.2.2.2.2.2.2.2.2.2.2.2.2.1) ?_
    refine wp_iload_n dX6_noteMeeting_21 rfl 2 rfl ?_
    refine wv_iald n (nI (w n)) dX6_noteMeeting_22 rfl (by show liv (ntH h l w n) _ = true; rw [(ntH_k h l w n).1]; exact hr.2.2.2.2.2.2.2.2.2.2.2.1) rfl (by show n < 10; omega) (by rw [(ntH_k h l w n).2.2.2 6 n (Or.inl (by omega))]; exact (hw n (by omega)).2) ?_
    refine wp_callV mX6_findMember 1 [.int (nI (w n))] [] (c := 6) dX6_noteMeeting_23 iX6_findMember (fun _ => trivial) mlX6_64 imX6_findMember seX6_findMember (by decide) rfl rfl ⟨by decide, by decide⟩ rfl rfl (Nat.le_of_ble_eq_true rfl) (Nat.le_of_ble_eq_true rfl) (by decide) (by decide) ?_
    refine ct_findMember nm (w n) (SR_eq (ntH_k h l w n).1 (ntH_k h l w n).2.2.1 hr) (by rw [(ntH_k h l w n).2.2.2 1 2 (Or.inl (by omega))]; exact hc2) hnm (hw n (by omega)).1 (by rw [(ntH_k h l w n).2.2.1]; exact (hm (w n) (hw n (by omega)).1).1) ?_
    show WP g mX6_noteMeeting 26 [(0, .ref 1), (1, .int l), (2, .int (nI n))] [.ref (1000 + w n)] _ 0 0 _
    refine wp_astore_n (lv' := [(3, .ref (1000 + w n)), (0, .ref 1), (1, .int l), (2, .int (nI n))]) dX6_noteMeeting_26 rfl (by decide) rfl ?_
    refine wp_aload_n dX6_noteMeeting_27 rfl 0 rfl ?_
    refine wp_ifnull dX6_noteMeeting_28 ?_
    refine wp_pc (pc' := 31) rfl ?_
    refine wp_aload_n dX6_noteMeeting_31 rfl 0 rfl ?_
    refine wp_dup dX6_noteMeeting_32 rfl ?_
    refine wv_getI (vI (ntH h l w n) (1000 + w n) 15) dX6_noteMeeting_33 flX6_128 rfl (kd_mem (by have := (hw n (by omega)).1; omega)) (by show liv (ntH h l w n) _ = true; rw [(ntH_k h l w n).1]; exact (hm (w n) (hw n (by omega)).1).2.1) rfl ?_
    refine wp_iconst (v := 1) dX6_noteMeeting_36 (by decide) ?_
    refine wp_iadd dX6_noteMeeting_37 ?_
    refine wp_putI dX6_noteMeeting_38 flX6_128 (Or.inl rfl) rfl rfl rfl (kd_mem (by have := (hw n (by omega)).1; omega)) (by show liv (ntH h l w n) _ = true; rw [(ntH_k h l w n).1]; exact (hm (w n) (hw n (by omega)).1).2.1) ?_
    refine wp_aload_n dX6_noteMeeting_41 rfl 0 rfl ?_
    refine wp_dup dX6_noteMeeting_42 rfl ?_
    refine wv_getI (vI (ntH h l w n) (1000 + w n) 14) dX6_noteMeeting_43 flX6_125 rfl (kd_mem (by have := (hw n (by omega)).1; omega)) (by show liv (ntH h l w n) _ = true; rw [(ntH_k h l w n).1]; exact (hm (w n) (hw n (by omega)).1).2.1) (vIj (by decide)) ?_
    refine wp_iload_n dX6_noteMeeting_46 rfl 2 rfl ?_
    refine wp_aload_n dX6_noteMeeting_47 rfl 0 rfl ?_
    refine wv_getI (nI (w n)) dX6_noteMeeting_48 flX6_180 rfl (kd_mem (by have := (hw n (by omega)).1; omega)) (by show liv (ntH h l w n) _ = true; rw [(ntH_k h l w n).1]; exact (hm (w n) (hw n (by omega)).1).2.1) (by rw [vIj (by decide), (ntH_k h l w n).2.2.2 _ 0 (Or.inr ⟨by decide, by decide⟩)]; exact (hm (w n) (hw n (by omega)).1).2.2) ?_
    refine wp_ishr dX6_noteMeeting_51 ?_
    refine wp_iconst (v := 1) dX6_noteMeeting_52 (by decide) ?_
    refine wp_iand dX6_noteMeeting_53 ?_
    refine wp_pc (pc' := 54) rfl ?_
    refine wp_iadd dX6_noteMeeting_54 ?_
    refine wp_putI dX6_noteMeeting_55 flX6_125 (Or.inl rfl) rfl rfl rfl (kd_mem (by have := (hw n (by omega)).1; omega)) (by show liv (ntH h l w n) _ = true; rw [(ntH_k h l w n).1]; exact (hm (w n) (hw n (by omega)).1).2.1) ?_
    refine wp_iinc (q := 3) (x := nI n) (v := nI (n + 1)) (lv' := [(2, .int (nI (n + 1))), (3, .ref (1000 + w n)), (0, .ref 1), (1, .int l)]) dX6_noteMeeting_58 rfl (nI_1 _) (by decide) rfl ?_
    refine wp_goto (tgt := 2) dX6_noteMeeting_61 (by decide) ?_
    refine wp_sub [2, 3, 0] rfl ?_
    exact ih (n + 1) (by omega)
set_option maxRecDepth 100000 in
set_option maxHeartbeats 4000000 in
theorem ct_note {g : GG} {h : HP} {Post : Option Value → HP → Prop} (nm s : Nat) (l : Int32) (w : Nat → Nat) (hr : SR h) (hnm : nm ≤ 10) (hc2 : vI h 1 2 = nI nm) (hs : s ≤ 10) (hsz : vI h 5 3 = nI s) (hw : ∀ k, k < s → w k < nm ∧ vI h 6 k = nI (w k)) (hm : ∀ i, i < nm → vP h 2 i = some (1000 + i) ∧ liv h (1000 + i) = true ∧ vI h (1000 + i) 0 = nI i) (hp : Post none (ntH h l w s)) : CT g mX6_noteMeeting [.ref 1, .int l] h Post := by
  show WP g mX6_noteMeeting 0 [(0, .ref 1), (1, .int l)] [] h 0 0 Post
  refine wp_iconst (v := 0) dX6_noteMeeting_0 (by decide) ?_
  refine wp_istore_n (lv' := [(2, .int 0), (0, .ref 1), (1, .int l)]) dX6_noteMeeting_1 rfl (by decide) rfl ?_
  refine wp_sub [1, 2, 0] rfl ?_
  exact lp_note nm s l w hr hnm hc2 hs hsz hw hm hp s 0 (by omega)
theorem gtH_who (h : HP) (i : Nat) : ∀ n k, k < gz h i n → ∃ m, (m = i ∨ m < n) ∧ vI (gtH h i n) 6 k = nI m
  | 0, k, hk => by
    have e : k = 0 := by have : gz h i 0 = 1 := rfl; omega
    subst e
    exact ⟨i, Or.inl rfl, by show vI (sI (sI _ 6 0 (nI i)) 5 3 _) 6 0 = _; rw [congrFun (vIn (by decide)) 0]; exact vIs⟩
  | n + 1, k, hk => by
    cases hv : hsp h (3000 + i) n with
    | none =>
      rw [gz_no hv] at hk
      obtain ⟨m, h1, h2⟩ := gtH_who h i n k hk
      exact ⟨m, h1.elim Or.inl (fun q => Or.inr (by omega)), by rw [gtH_no hv]; exact h2⟩
    | some b =>
      rw [gz_yes hv] at hk
      rw [gtH_yes hv]
      by_cases e : k = gz h i n
      · subst e
        exact ⟨n, Or.inr (by omega), by show vI (sI (sI _ 6 _ (nI n)) 5 3 _) 6 _ = _; rw [congrFun (vIn (by decide)) _]; exact vIs⟩
      · obtain ⟨m, h1, h2⟩ := gtH_who h i n k (by omega)
        exact ⟨m, h1.elim Or.inl (fun q => Or.inr (by omega)), by show vI (sI (sI _ 6 _ (nI n)) 5 3 _) 6 _ = _; rw [congrFun (vIn (by decide)) _, vIj e]; exact h2⟩
def gwh (h : HP) (i n : Nat) (k : Nat) : Nat := (vI (gtH h i n) 6 k).toNatClampNeg
theorem gwh_ok {h : HP} {i nm : Nat} (hi : i < nm) (hnm : nm ≤ 10) {k : Nat} (hk : k < gz h i nm) : gwh h i nm k < nm ∧ vI (gtH h i nm) 6 k = nI (gwh h i nm k) := by
  obtain ⟨m, h1, h2⟩ := gtH_who h i nm k hk
  have hm : m < nm := by omega
  have e : gwh h i nm k = m := by unfold gwh; rw [h2]; exact nI_clamp (by omega)
  rw [e]
  exact ⟨hm, h2⟩
def cLs (h : HP) (i nm ff : Nat) : Int64 := lsN (vL (gtH h i nm) 7) (vL (gtH h i nm) 8) (gz h i nm) (nI (gz h i nm - ff)) (gz h i nm)
def cGr (h : HP) (i nm ff : Nat) : Int64 := grN (vL (gtH h i nm) 7) (vL (gtH h i nm) 8) (gz h i nm) (nI (gz h i nm - ff)) (gz h i nm)
noncomputable def cPc (h : HP) (i nm ff : Nat) : Nat := pcN (vL (gtH h i nm) 7) (vL (gtH h i nm) 8) (gz h i nm) (nI (gz h i nm - ff)) (gz h i nm)
def cAp (h : HP) (i nm ff : Nat) : Int32 := apN (vI (gtH h i nm) 6) (vL (gtH h i nm) 7) (vL (gtH h i nm) 8) (cLs h i nm ff) (cGr h i nm ff) (gz h i nm)
set_option maxRecDepth 100000 in
set_option maxHeartbeats 4000000 in
theorem ct_council0 {g : GG} {h : HP} {Post : Option Value → HP → Prop} (f wh : Int32) (nm : Nat) (x : Int32) (hr : SR h) (hM : SM h nm) (hx : ¬ inR x nm) (hp : Post (some (.long (-9000000000000000000))) h) : CT g mX6_council [.ref 1, .int x, .int f, .int wh] h Post := by
  show WP g mX6_council 0 [(0, .ref 1), (1, .int x), (2, .int f), (3, .int wh)] [] h 0 0 Post
  refine wp_aload_n dX6_council_0 rfl 0 rfl ?_
  refine wp_iload_n dX6_council_1 rfl 1 rfl ?_
  refine wp_callV mX6_findMember 1 [.int x] [] (c := 6) dX6_council_2 iX6_findMember (fun _ => trivial) mlX6_64 imX6_findMember seX6_findMember (by decide) rfl rfl ⟨by decide, by decide⟩ rfl rfl (Nat.le_of_ble_eq_true rfl) (Nat.le_of_ble_eq_true rfl) (by decide) (by decide) ?_
  refine ct_findMember0 nm x hr hM.2.1 (by have := hM.1; omega) hx ?_
  show WP g mX6_council 5 [(0, .ref 1), (1, .int x), (2, .int f), (3, .int wh)] [.null] _ 0 0 _
  refine wp_astoreN (lv' := [(4, .null), (0, .ref 1), (1, .int x), (2, .int f), (3, .int wh)]) dX6_council_5 (by decide) rfl ?_
  refine wp_aloadN dX6_council_7 0 rfl ?_
  refine wp_ifnullN (tgt := 21) dX6_council_9 (by decide) ?_
  refine wp_ldc2 dX6_council_21 cnX6_58 ?_
  refine wp_lret dX6_council_24 rfl (by decide) (by decide) ?_
  exact hp
set_option maxRecDepth 100000 in
set_option maxHeartbeats 4000000 in
theorem ct_council_x {g : GG} {h : HP} {Post : Option Value → HP → Prop} (nm i : Nat) (hr : SR h) (hM : SM h nm) (hi : i < nm) (hself : hsp h (3000 + i) i = none) (f wh : Int32) (hw : ¬ inR wh 5) (hp : Post (some (.long (-9000000000000000000))) h) : CT g mX6_council [.ref 1, .int (nI i), .int f, .int wh] h Post := by
  show WP g mX6_council 0 [(0, .ref 1), (1, .int (nI i)), (2, .int f), (3, .int wh)] [] h 0 0 Post
  have hnm := hM.1
  have hc2 := hM.2.1
  obtain ⟨he, hl, hlo, hlr, ho, h9, hnum, hbs, hbn⟩ := hM.2.2.1 i hi
  have hk : kd (1000 + i) = 2 := kd_mem (by omega)
  have hko : kd (2000 + i) = 4 := kd_own (by omega)
  have hkr : kd (3000 + i) = 14 := kd_arr (by omega)
  refine wp_aload_n dX6_council_0 rfl 0 rfl ?_
  refine wp_iload_n dX6_council_1 rfl 1 rfl ?_
  refine wp_callV mX6_findMember 1 [.int (nI i)] [] (c := 6) dX6_council_2 iX6_findMember (fun _ => trivial) mlX6_64 imX6_findMember seX6_findMember (by decide) rfl rfl ⟨by decide, by decide⟩ rfl rfl (Nat.le_of_ble_eq_true rfl) (Nat.le_of_ble_eq_true rfl) (by decide) (by decide) ?_
  refine ct_findMember nm i hr hc2 hnm hi he ?_
  show WP g mX6_council 5 [(0, .ref 1), (1, .int (nI i)), (2, .int f), (3, .int wh)] [.ref (1000 + i)] _ 0 0 _
  refine wp_astore (lv' := [(4, .ref (1000 + i)), (0, .ref 1), (1, .int (nI i)), (2, .int f), (3, .int wh)]) dX6_council_5 (by decide) rfl ?_
  refine wp_aload dX6_council_7 0 rfl ?_
  refine wp_ifnull dX6_council_9 ?_
  refine wp_iload_n dX6_council_12 rfl 4 rfl ?_
  refine wi_if_lt (tgt := 21) (Int32.toInt wh) rfl dX6_council_13 (by decide) (fun c_1 => ?_) (fun c_1 => ?_)
  · refine wp_ldc2 dX6_council_21 cnX6_58 ?_
    refine wp_lret dX6_council_24 rfl (by decide) (by decide) ?_
    exact hp
  · refine wp_iload_n dX6_council_16 rfl 4 rfl ?_
    refine wp_iconst (v := 4) dX6_council_17 (by decide) ?_
    refine wi_icmp_le (tgt := 25) (Int32.toInt wh) (4) rfl (by decide) dX6_council_18 (by decide) (fun c_2 => ?_) (fun c_2 => ?_)
    · exact absurd (show inR wh 5 from ⟨by omega, by omega⟩) hw
    · refine wp_ldc2 dX6_council_21 cnX6_58 ?_
      refine wp_lret dX6_council_24 rfl (by decide) (by decide) ?_
      exact hp
set_option maxRecDepth 100000 in
set_option maxHeartbeats 4000000 in
theorem ct_council_f {g : GG} {h : HP} {Post : Option Value → HP → Prop} (nm i : Nat) (hr : SR h) (hM : SM h nm) (hi : i < nm) (hself : hsp h (3000 + i) i = none) (f wh : Int32) (hw : inR wh 5) (hf : ¬ inR f (gz h i nm)) (hp : Post (some (.long (-9000000000000000000))) (gtH h i nm)) : CT g mX6_council [.ref 1, .int (nI i), .int f, .int wh] h Post := by
  show WP g mX6_council 0 [(0, .ref 1), (1, .int (nI i)), (2, .int f), (3, .int wh)] [] h 0 0 Post
  have hnm := hM.1
  have hc2 := hM.2.1
  obtain ⟨he, hl, hlo, hlr, ho, h9, hnum, hbs, hbn⟩ := hM.2.2.1 i hi
  have hk : kd (1000 + i) = 2 := kd_mem (by omega)
  have hko : kd (2000 + i) = 4 := kd_own (by omega)
  have hkr : kd (3000 + i) = 14 := kd_arr (by omega)
  have hgz := gz10 hM hi hself
  have hw2 := id hw
  unfold inR at hw2
  refine wp_aload_n dX6_council_0 rfl 0 rfl ?_
  refine wp_iload_n dX6_council_1 rfl 1 rfl ?_
  refine wp_callV mX6_findMember 1 [.int (nI i)] [] (c := 6) dX6_council_2 iX6_findMember (fun _ => trivial) mlX6_64 imX6_findMember seX6_findMember (by decide) rfl rfl ⟨by decide, by decide⟩ rfl rfl (Nat.le_of_ble_eq_true rfl) (Nat.le_of_ble_eq_true rfl) (by decide) (by decide) ?_
  refine ct_findMember nm i hr hc2 hnm hi he ?_
  show WP g mX6_council 5 [(0, .ref 1), (1, .int (nI i)), (2, .int f), (3, .int wh)] [.ref (1000 + i)] _ 0 0 _
  refine wp_astore (lv' := [(4, .ref (1000 + i)), (0, .ref 1), (1, .int (nI i)), (2, .int f), (3, .int wh)]) dX6_council_5 (by decide) rfl ?_
  refine wp_aload dX6_council_7 0 rfl ?_
  refine wp_ifnull dX6_council_9 ?_
  refine wp_iload_n dX6_council_12 rfl 4 rfl ?_
  refine wi_if_lt (tgt := 21) (Int32.toInt wh) rfl dX6_council_13 (by decide) (fun c_1 => absurd c_1 (by omega)) (fun _ => ?_)
  refine wp_iload_n dX6_council_16 rfl 4 rfl ?_
  refine wp_iconst (v := 4) dX6_council_17 (by decide) ?_
  refine wi_icmp_le (tgt := 25) (Int32.toInt wh) (4) rfl (by decide) dX6_council_18 (by decide) (fun _ => ?_) (fun c_2 => absurd (by omega) c_2)
  refine wp_aload_n dX6_council_25 rfl 1 rfl ?_
  refine wp_aload dX6_council_26 0 rfl ?_
  refine wp_callV mX6_gather 1 [.ref (1000 + i)] [] (c := 6) dX6_council_28 iX6_gather (fun _ => trivial) mlX6_194 imX6_gather seX6_gather (by decide) rfl rfl ⟨by decide, by decide⟩ rfl rfl (Nat.le_of_ble_eq_true rfl) (Nat.le_of_ble_eq_true rfl) (by decide) (by decide) ?_
  refine ct_gather nm i hr hM hi hself ?_
  show WP g mX6_council 31 [(4, .ref (1000 + i)), (0, .ref 1), (1, .int (nI i)), (2, .int f), (3, .int wh)] [] _ 0 0 _
  refine wp_iload_n dX6_council_31 rfl 3 rfl ?_
  refine wp_pc (pc' := 32) rfl ?_
  refine wi_if_lt (tgt := 46) (Int32.toInt f) rfl dX6_council_32 (by decide) (fun c_3 => ?_) (fun c_3 => ?_)
  · refine wp_ldc2 dX6_council_46 cnX6_58 ?_
    refine wp_lret dX6_council_49 rfl (by decide) (by decide) ?_
    exact hp
  · refine wp_iload_n dX6_council_35 rfl 3 rfl ?_
    refine wp_aload_n dX6_council_36 rfl 1 rfl ?_
    refine wp_getP (b := 5) dX6_council_37 flX6_44 rfl rfl (by rw [(gtH_k h i nm).1]; exact hr.1) (by rw [(gtH_k h i nm).2.1]; exact hr.2.2.2.2.2.2.2.2.1) ?_
    refine wv_getI (nI (gz h i nm)) dX6_council_40 flX6_202 rfl rfl (by rw [(gtH_k h i nm).1]; exact hr.2.2.2.2.2.2.2.2.2.2.1) (gtH_k h i nm).2.2.2.2 ?_
    refine wi_icmp_lt (tgt := 50) (Int32.toInt f) ((gz h i nm : Nat)) rfl (nIt (by omega)) dX6_council_43 (by decide) (fun c_4 => ?_) (fun c_4 => ?_)
    · exact absurd (show inR f (gz h i nm) from ⟨by omega, by omega⟩) hf
    · refine wp_ldc2 dX6_council_46 cnX6_58 ?_
      refine wp_lret dX6_council_49 rfl (by decide) (by decide) ?_
      exact hp
set_option maxRecDepth 100000 in
set_option maxHeartbeats 4000000 in
theorem ct_council_0 {g : GG} {h : HP} {Post : Option Value → HP → Prop} (nm i : Nat) (hr : SR h) (hM : SM h nm) (hi : i < nm) (hself : hsp h (3000 + i) i = none) (ff : Nat) (hf : ff < gz h i nm) (hp : Post (some (.long (Int32.toInt64 (nI (gz h i nm))))) (gtH h i nm)) : CT g mX6_council [.ref 1, .int (nI i), .int (nI ff), .int 0] h Post := by
  show WP g mX6_council 0 [(0, .ref 1), (1, .int (nI i)), (2, .int (nI ff)), (3, .int 0)] [] h 0 0 Post
  have hnm := hM.1
  have hc2 := hM.2.1
  obtain ⟨he, hl, hlo, hlr, ho, h9, hnum, hbs, hbn⟩ := hM.2.2.1 i hi
  have hk : kd (1000 + i) = 2 := kd_mem (by omega)
  have hko : kd (2000 + i) = 4 := kd_own (by omega)
  have hkr : kd (3000 + i) = 14 := kd_arr (by omega)
  have hgz := gz10 hM hi hself
  refine wp_aload_n dX6_council_0 rfl 0 rfl ?_
  refine wp_iload_n dX6_council_1 rfl 1 rfl ?_
  refine wp_callV mX6_findMember 1 [.int (nI i)] [] (c := 6) dX6_council_2 iX6_findMember (fun _ => trivial) mlX6_64 imX6_findMember seX6_findMember (by decide) rfl rfl ⟨by decide, by decide⟩ rfl rfl (Nat.le_of_ble_eq_true rfl) (Nat.le_of_ble_eq_true rfl) (by decide) (by decide) ?_
  refine ct_findMember nm i hr hc2 hnm hi he ?_
  show WP g mX6_council 5 [(0, .ref 1), (1, .int (nI i)), (2, .int (nI ff)), (3, .int 0)] [.ref (1000 + i)] _ 0 0 _
  refine wp_astore (lv' := [(4, .ref (1000 + i)), (0, .ref 1), (1, .int (nI i)), (2, .int (nI ff)), (3, .int 0)]) dX6_council_5 (by decide) rfl ?_
  refine wp_aload dX6_council_7 0 rfl ?_
  refine wp_ifnull dX6_council_9 ?_
  refine wp_iload_n dX6_council_12 rfl 4 rfl ?_
  refine wp_if_lt (tgt := 21) dX6_council_13 (by decide) (fun c_1 => absurd c_1 (by decide)) (fun _ => ?_)
  refine wp_iload_n dX6_council_16 rfl 4 rfl ?_
  refine wp_iconst (v := 4) dX6_council_17 (by decide) ?_
  refine wp_icmp_le (tgt := 25) dX6_council_18 (by decide) (fun _ => ?_) (fun c_2 => absurd (by decide) c_2)
  refine wp_aload_n dX6_council_25 rfl 1 rfl ?_
  refine wp_aload dX6_council_26 0 rfl ?_
  refine wp_callV mX6_gather 1 [.ref (1000 + i)] [] (c := 6) dX6_council_28 iX6_gather (fun _ => trivial) mlX6_194 imX6_gather seX6_gather (by decide) rfl rfl ⟨by decide, by decide⟩ rfl rfl (Nat.le_of_ble_eq_true rfl) (Nat.le_of_ble_eq_true rfl) (by decide) (by decide) ?_
  refine ct_gather nm i hr hM hi hself ?_
  show WP g mX6_council 31 [(4, .ref (1000 + i)), (0, .ref 1), (1, .int (nI i)), (2, .int (nI ff)), (3, .int 0)] [] _ 0 0 _
  refine wp_iload_n dX6_council_31 rfl 3 rfl ?_
  refine wp_pc (pc' := 32) rfl ?_
  refine wp_if_lt (tgt := 46) dX6_council_32 (by decide) (fun c_3 => absurd c_3 (nI_pos (by omega))) (fun _ => ?_)
  refine wp_iload_n dX6_council_35 rfl 3 rfl ?_
  refine wp_aload_n dX6_council_36 rfl 1 rfl ?_
  refine wp_getP (b := 5) dX6_council_37 flX6_44 rfl rfl (by rw [(gtH_k h i nm).1]; exact hr.1) (by rw [(gtH_k h i nm).2.1]; exact hr.2.2.2.2.2.2.2.2.1) ?_
  refine wv_getI (nI (gz h i nm)) dX6_council_40 flX6_202 rfl rfl (by rw [(gtH_k h i nm).1]; exact hr.2.2.2.2.2.2.2.2.2.2.1) (gtH_k h i nm).2.2.2.2 ?_
  refine wp_icmp_lt (tgt := 50) dX6_council_43 (by decide) (fun _ => ?_) (fun c_4 => absurd (nI_lt hf (by omega)) c_4)
  refine wp_aload_n dX6_council_50 rfl 1 rfl ?_
  refine wp_getP (b := 5) dX6_council_51 flX6_44 rfl rfl (by rw [(gtH_k h i nm).1]; exact hr.1) (by rw [(gtH_k h i nm).2.1]; exact hr.2.2.2.2.2.2.2.2.1) ?_
  refine wv_getI (nI (gz h i nm)) dX6_council_54 flX6_202 rfl rfl (by rw [(gtH_k h i nm).1]; exact hr.2.2.2.2.2.2.2.2.2.2.1) (gtH_k h i nm).2.2.2.2 ?_
  refine wp_iload_n dX6_council_57 rfl 3 rfl ?_
  refine wv_isub (nI (gz h i nm - ff)) (pk_sub (by omega)) dX6_council_58 ?_
  refine wp_istore (lv' := [(5, .int (nI (gz h i nm - ff))), (4, .ref (1000 + i)), (0, .ref 1), (1, .int (nI i)), (2, .int (nI ff)), (3, .int 0)]) dX6_council_59 (by decide) rfl ?_
  refine wp_iload_n dX6_council_61 rfl 5 rfl ?_
  refine wp_if_ne (tgt := 74) dX6_council_62 (by decide) (fun c_5 => absurd (by decide) c_5) (fun _ => ?_)
  refine wp_aload_n dX6_council_65 rfl 2 rfl ?_
  refine wp_pc (pc' := 66) rfl ?_
  refine wp_getP (b := 5) dX6_council_66 flX6_44 rfl rfl (by rw [(gtH_k h i nm).1]; exact hr.1) (by rw [(gtH_k h i nm).2.1]; exact hr.2.2.2.2.2.2.2.2.1) ?_
  refine wv_getI (nI (gz h i nm)) dX6_council_69 flX6_202 rfl rfl (by rw [(gtH_k h i nm).1]; exact hr.2.2.2.2.2.2.2.2.2.2.1) (gtH_k h i nm).2.2.2.2 ?_
  refine wp_i2l dX6_council_72 ?_
  refine wp_lret dX6_council_73 rfl (by decide) (by decide) ?_
  exact hp
set_option maxRecDepth 100000 in
set_option maxHeartbeats 4000000 in
theorem ct_council_1 {g : GG} {h : HP} {Post : Option Value → HP → Prop} (nm i : Nat) (hr : SR h) (hM : SM h nm) (hi : i < nm) (hself : hsp h (3000 + i) i = none) (ff : Nat) (hf : ff < gz h i nm) (hp : Post (some (.long (Int32.toInt64 (nI (cPc h i nm ff))))) (gtH h i nm)) : CT g mX6_council [.ref 1, .int (nI i), .int (nI ff), .int 1] h Post := by
  show WP g mX6_council 0 [(0, .ref 1), (1, .int (nI i)), (2, .int (nI ff)), (3, .int 1)] [] h 0 0 Post
  have hnm := hM.1
  have hc2 := hM.2.1
  obtain ⟨he, hl, hlo, hlr, ho, h9, hnum, hbs, hbn⟩ := hM.2.2.1 i hi
  have hk : kd (1000 + i) = 2 := kd_mem (by omega)
  have hko : kd (2000 + i) = 4 := kd_own (by omega)
  have hkr : kd (3000 + i) = 14 := kd_arr (by omega)
  have hgz := gz10 hM hi hself
  refine wp_aload_n dX6_council_0 rfl 0 rfl ?_
  refine wp_iload_n dX6_council_1 rfl 1 rfl ?_
  refine wp_callV mX6_findMember 1 [.int (nI i)] [] (c := 6) dX6_council_2 iX6_findMember (fun _ => trivial) mlX6_64 imX6_findMember seX6_findMember (by decide) rfl rfl ⟨by decide, by decide⟩ rfl rfl (Nat.le_of_ble_eq_true rfl) (Nat.le_of_ble_eq_true rfl) (by decide) (by decide) ?_
  refine ct_findMember nm i hr hc2 hnm hi he ?_
  show WP g mX6_council 5 [(0, .ref 1), (1, .int (nI i)), (2, .int (nI ff)), (3, .int 1)] [.ref (1000 + i)] _ 0 0 _
  refine wp_astore (lv' := [(4, .ref (1000 + i)), (0, .ref 1), (1, .int (nI i)), (2, .int (nI ff)), (3, .int 1)]) dX6_council_5 (by decide) rfl ?_
  refine wp_aload dX6_council_7 0 rfl ?_
  refine wp_ifnull dX6_council_9 ?_
  refine wp_iload_n dX6_council_12 rfl 4 rfl ?_
  refine wp_if_lt (tgt := 21) dX6_council_13 (by decide) (fun c_1 => absurd c_1 (by decide)) (fun _ => ?_)
  refine wp_iload_n dX6_council_16 rfl 4 rfl ?_
  refine wp_iconst (v := 4) dX6_council_17 (by decide) ?_
  refine wp_icmp_le (tgt := 25) dX6_council_18 (by decide) (fun _ => ?_) (fun c_2 => absurd (by decide) c_2)
  refine wp_aload_n dX6_council_25 rfl 1 rfl ?_
  refine wp_aload dX6_council_26 0 rfl ?_
  refine wp_callV mX6_gather 1 [.ref (1000 + i)] [] (c := 6) dX6_council_28 iX6_gather (fun _ => trivial) mlX6_194 imX6_gather seX6_gather (by decide) rfl rfl ⟨by decide, by decide⟩ rfl rfl (Nat.le_of_ble_eq_true rfl) (Nat.le_of_ble_eq_true rfl) (by decide) (by decide) ?_
  refine ct_gather nm i hr hM hi hself ?_
  show WP g mX6_council 31 [(4, .ref (1000 + i)), (0, .ref 1), (1, .int (nI i)), (2, .int (nI ff)), (3, .int 1)] [] _ 0 0 _
  refine wp_iload_n dX6_council_31 rfl 3 rfl ?_
  refine wp_pc (pc' := 32) rfl ?_
  refine wp_if_lt (tgt := 46) dX6_council_32 (by decide) (fun c_3 => absurd c_3 (nI_pos (by omega))) (fun _ => ?_)
  refine wp_iload_n dX6_council_35 rfl 3 rfl ?_
  refine wp_aload_n dX6_council_36 rfl 1 rfl ?_
  refine wp_getP (b := 5) dX6_council_37 flX6_44 rfl rfl (by rw [(gtH_k h i nm).1]; exact hr.1) (by rw [(gtH_k h i nm).2.1]; exact hr.2.2.2.2.2.2.2.2.1) ?_
  refine wv_getI (nI (gz h i nm)) dX6_council_40 flX6_202 rfl rfl (by rw [(gtH_k h i nm).1]; exact hr.2.2.2.2.2.2.2.2.2.2.1) (gtH_k h i nm).2.2.2.2 ?_
  refine wp_icmp_lt (tgt := 50) dX6_council_43 (by decide) (fun _ => ?_) (fun c_4 => absurd (nI_lt hf (by omega)) c_4)
  refine wp_aload_n dX6_council_50 rfl 1 rfl ?_
  refine wp_getP (b := 5) dX6_council_51 flX6_44 rfl rfl (by rw [(gtH_k h i nm).1]; exact hr.1) (by rw [(gtH_k h i nm).2.1]; exact hr.2.2.2.2.2.2.2.2.1) ?_
  refine wv_getI (nI (gz h i nm)) dX6_council_54 flX6_202 rfl rfl (by rw [(gtH_k h i nm).1]; exact hr.2.2.2.2.2.2.2.2.2.2.1) (gtH_k h i nm).2.2.2.2 ?_
  refine wp_iload_n dX6_council_57 rfl 3 rfl ?_
  refine wv_isub (nI (gz h i nm - ff)) (pk_sub (by omega)) dX6_council_58 ?_
  refine wp_istore (lv' := [(5, .int (nI (gz h i nm - ff))), (4, .ref (1000 + i)), (0, .ref 1), (1, .int (nI i)), (2, .int (nI ff)), (3, .int 1)]) dX6_council_59 (by decide) rfl ?_
  refine wp_iload_n dX6_council_61 rfl 5 rfl ?_
  refine wp_if_ne (tgt := 74) dX6_council_62 (by decide) (fun _ => ?_) (fun c_5 => absurd c_5 (by decide))
  refine wp_iload_n dX6_council_74 rfl 5 rfl ?_
  refine wp_pc (pc' := 75) rfl ?_
  refine wp_iconst (v := 1) dX6_council_75 (by decide) ?_
  refine wp_icmp_ne (tgt := 90) dX6_council_76 (by decide) (fun c_6 => absurd (by decide) c_6) (fun _ => ?_)
  refine wp_aload_n dX6_council_79 rfl 2 rfl ?_
  refine wp_getP (b := 5) dX6_council_80 flX6_44 rfl rfl (by rw [(gtH_k h i nm).1]; exact hr.1) (by rw [(gtH_k h i nm).2.1]; exact hr.2.2.2.2.2.2.2.2.1) ?_
  refine wp_iload dX6_council_83 0 rfl ?_
  refine wp_callV mX0_pieces 5 [.int (nI (gz h i nm - ff))] [] (c := 0) dX6_council_85 iX0_pieces (fun _ => trivial) mlX6_205 imX0_pieces seX0_pieces (by decide) rfl rfl ⟨by decide, by decide⟩ rfl rfl (Nat.le_of_ble_eq_true rfl) (Nat.le_of_ble_eq_true rfl) (by decide) (by decide) ?_
  refine ct_pieces (gz h i nm) (gz10 hM hi hself) (GW_eq (gtH_k h i nm).1 (gtH_k h i nm).2.1 hr.2.2.2.2.2.2.2.2.2.2) (gtH_k h i nm).2.2.2.2 (nI (gz h i nm - ff)) ?_
  show WP g mX6_council 88 [(5, .int (nI (gz h i nm - ff))), (4, .ref (1000 + i)), (0, .ref 1), (1, .int (nI i)), (2, .int (nI ff)), (3, .int 1)] [.int (nI (cPc h i nm ff))] _ 0 0 _
  refine wp_i2l dX6_council_88 ?_
  refine wp_lret dX6_council_89 rfl (by decide) (by decide) ?_
  exact hp
set_option maxRecDepth 100000 in
set_option maxHeartbeats 4000000 in
theorem ct_council_2 {g : GG} {h : HP} {Post : Option Value → HP → Prop} (nm i : Nat) (hr : SR h) (hM : SM h nm) (hi : i < nm) (hself : hsp h (3000 + i) i = none) (ff : Nat) (hf : ff < gz h i nm) (hno : (cLs h i nm ff = NOv ∨ cGr h i nm ff = NOv) → Post (some (.long (-9000000000000000000))) (gtH h i nm)) (hyes : ¬ cLs h i nm ff = NOv → ¬ cGr h i nm ff = NOv → Post (some (.long (cLs h i nm ff))) (gtH h i nm)) : CT g mX6_council [.ref 1, .int (nI i), .int (nI ff), .int 2] h Post := by
  show WP g mX6_council 0 [(0, .ref 1), (1, .int (nI i)), (2, .int (nI ff)), (3, .int 2)] [] h 0 0 Post
  have hnm := hM.1
  have hc2 := hM.2.1
  obtain ⟨he, hl, hlo, hlr, ho, h9, hnum, hbs, hbn⟩ := hM.2.2.1 i hi
  have hk : kd (1000 + i) = 2 := kd_mem (by omega)
  have hko : kd (2000 + i) = 4 := kd_own (by omega)
  have hkr : kd (3000 + i) = 14 := kd_arr (by omega)
  have hgz := gz10 hM hi hself
  refine wp_aload_n dX6_council_0 rfl 0 rfl ?_
  refine wp_iload_n dX6_council_1 rfl 1 rfl ?_
  refine wp_callV mX6_findMember 1 [.int (nI i)] [] (c := 6) dX6_council_2 iX6_findMember (fun _ => trivial) mlX6_64 imX6_findMember seX6_findMember (by decide) rfl rfl ⟨by decide, by decide⟩ rfl rfl (Nat.le_of_ble_eq_true rfl) (Nat.le_of_ble_eq_true rfl) (by decide) (by decide) ?_
  refine ct_findMember nm i hr hc2 hnm hi he ?_
  show WP g mX6_council 5 [(0, .ref 1), (1, .int (nI i)), (2, .int (nI ff)), (3, .int 2)] [.ref (1000 + i)] _ 0 0 _
  refine wp_astore (lv' := [(4, .ref (1000 + i)), (0, .ref 1), (1, .int (nI i)), (2, .int (nI ff)), (3, .int 2)]) dX6_council_5 (by decide) rfl ?_
  refine wp_aload dX6_council_7 0 rfl ?_
  refine wp_ifnull dX6_council_9 ?_
  refine wp_iload_n dX6_council_12 rfl 4 rfl ?_
  refine wp_if_lt (tgt := 21) dX6_council_13 (by decide) (fun c_1 => absurd c_1 (by decide)) (fun _ => ?_)
  refine wp_iload_n dX6_council_16 rfl 4 rfl ?_
  refine wp_iconst (v := 4) dX6_council_17 (by decide) ?_
  refine wp_icmp_le (tgt := 25) dX6_council_18 (by decide) (fun _ => ?_) (fun c_2 => absurd (by decide) c_2)
  refine wp_aload_n dX6_council_25 rfl 1 rfl ?_
  refine wp_aload dX6_council_26 0 rfl ?_
  refine wp_callV mX6_gather 1 [.ref (1000 + i)] [] (c := 6) dX6_council_28 iX6_gather (fun _ => trivial) mlX6_194 imX6_gather seX6_gather (by decide) rfl rfl ⟨by decide, by decide⟩ rfl rfl (Nat.le_of_ble_eq_true rfl) (Nat.le_of_ble_eq_true rfl) (by decide) (by decide) ?_
  refine ct_gather nm i hr hM hi hself ?_
  show WP g mX6_council 31 [(4, .ref (1000 + i)), (0, .ref 1), (1, .int (nI i)), (2, .int (nI ff)), (3, .int 2)] [] _ 0 0 _
  refine wp_iload_n dX6_council_31 rfl 3 rfl ?_
  refine wp_pc (pc' := 32) rfl ?_
  refine wp_if_lt (tgt := 46) dX6_council_32 (by decide) (fun c_3 => absurd c_3 (nI_pos (by omega))) (fun _ => ?_)
  refine wp_iload_n dX6_council_35 rfl 3 rfl ?_
  refine wp_aload_n dX6_council_36 rfl 1 rfl ?_
  refine wp_getP (b := 5) dX6_council_37 flX6_44 rfl rfl (by rw [(gtH_k h i nm).1]; exact hr.1) (by rw [(gtH_k h i nm).2.1]; exact hr.2.2.2.2.2.2.2.2.1) ?_
  refine wv_getI (nI (gz h i nm)) dX6_council_40 flX6_202 rfl rfl (by rw [(gtH_k h i nm).1]; exact hr.2.2.2.2.2.2.2.2.2.2.1) (gtH_k h i nm).2.2.2.2 ?_
  refine wp_icmp_lt (tgt := 50) dX6_council_43 (by decide) (fun _ => ?_) (fun c_4 => absurd (nI_lt hf (by omega)) c_4)
  refine wp_aload_n dX6_council_50 rfl 1 rfl ?_
  refine wp_getP (b := 5) dX6_council_51 flX6_44 rfl rfl (by rw [(gtH_k h i nm).1]; exact hr.1) (by rw [(gtH_k h i nm).2.1]; exact hr.2.2.2.2.2.2.2.2.1) ?_
  refine wv_getI (nI (gz h i nm)) dX6_council_54 flX6_202 rfl rfl (by rw [(gtH_k h i nm).1]; exact hr.2.2.2.2.2.2.2.2.2.2.1) (gtH_k h i nm).2.2.2.2 ?_
  refine wp_iload_n dX6_council_57 rfl 3 rfl ?_
  refine wv_isub (nI (gz h i nm - ff)) (pk_sub (by omega)) dX6_council_58 ?_
  refine wp_istore (lv' := [(5, .int (nI (gz h i nm - ff))), (4, .ref (1000 + i)), (0, .ref 1), (1, .int (nI i)), (2, .int (nI ff)), (3, .int 2)]) dX6_council_59 (by decide) rfl ?_
  refine wp_iload_n dX6_council_61 rfl 5 rfl ?_
  refine wp_if_ne (tgt := 74) dX6_council_62 (by decide) (fun _ => ?_) (fun c_5 => absurd c_5 (by decide))
  refine wp_iload_n dX6_council_74 rfl 5 rfl ?_
  refine wp_pc (pc' := 75) rfl ?_
  refine wp_iconst (v := 1) dX6_council_75 (by decide) ?_
  refine wp_icmp_ne (tgt := 90) dX6_council_76 (by decide) (fun _ => ?_) (fun c_6 => absurd c_6 (by decide))
  refine wp_aload_n dX6_council_90 rfl 2 rfl ?_
  refine wp_getP (b := 5) dX6_council_91 flX6_44 rfl rfl (by rw [(gtH_k h i nm).1]; exact hr.1) (by rw [(gtH_k h i nm).2.1]; exact hr.2.2.2.2.2.2.2.2.1) ?_
  refine wp_iload dX6_council_94 0 rfl ?_
  refine wp_callV mX0_least 5 [.int (nI (gz h i nm - ff))] [] (c := 0) dX6_council_96 iX0_least (fun _ => trivial) mlX6_209 imX0_least seX0_least (by decide) rfl rfl ⟨by decide, by decide⟩ rfl rfl (Nat.le_of_ble_eq_true rfl) (Nat.le_of_ble_eq_true rfl) (by decide) (by decide) ?_
  refine ct_least (gz h i nm) (gz10 hM hi hself) (GW_eq (gtH_k h i nm).1 (gtH_k h i nm).2.1 hr.2.2.2.2.2.2.2.2.2.2) (gtH_k h i nm).2.2.2.2 (nI (gz h i nm - ff)) ?_
  show WP g mX6_council 99 [(5, .int (nI (gz h i nm - ff))), (4, .ref (1000 + i)), (0, .ref 1), (1, .int (nI i)), (2, .int (nI ff)), (3, .int 2)] [.long (cLs h i nm ff)] _ 0 0 _
  refine wp_lstore (lv' := [(6, .long (cLs h i nm ff)), (5, .int (nI (gz h i nm - ff))), (4, .ref (1000 + i)), (0, .ref 1), (1, .int (nI i)), (2, .int (nI ff)), (3, .int 2)]) dX6_council_99 (by decide) rfl ?_
  refine wp_aload_n dX6_council_101 rfl 3 rfl ?_
  refine wp_getP (b := 5) dX6_council_102 flX6_44 rfl rfl (by rw [(gtH_k h i nm).1]; exact hr.1) (by rw [(gtH_k h i nm).2.1]; exact hr.2.2.2.2.2.2.2.2.1) ?_
  refine wp_iload dX6_council_105 1 rfl ?_
  refine wp_callV mX0_greatest 5 [.int (nI (gz h i nm - ff))] [] (c := 0) dX6_council_107 iX0_greatest (fun _ => trivial) mlX6_213 imX0_greatest seX0_greatest (by decide) rfl rfl ⟨by decide, by decide⟩ rfl rfl (Nat.le_of_ble_eq_true rfl) (Nat.le_of_ble_eq_true rfl) (by decide) (by decide) ?_
  refine ct_greatest (gz h i nm) (gz10 hM hi hself) (GW_eq (gtH_k h i nm).1 (gtH_k h i nm).2.1 hr.2.2.2.2.2.2.2.2.2.2) (gtH_k h i nm).2.2.2.2 (nI (gz h i nm - ff)) ?_
  show WP g mX6_council 110 [(6, .long (cLs h i nm ff)), (5, .int (nI (gz h i nm - ff))), (4, .ref (1000 + i)), (0, .ref 1), (1, .int (nI i)), (2, .int (nI ff)), (3, .int 2)] [.long (cGr h i nm ff)] _ 0 0 _
  refine wp_lstore (lv' := [(8, .long (cGr h i nm ff)), (6, .long (cLs h i nm ff)), (5, .int (nI (gz h i nm - ff))), (4, .ref (1000 + i)), (0, .ref 1), (1, .int (nI i)), (2, .int (nI ff)), (3, .int 2)]) dX6_council_110 (by decide) rfl ?_
  refine wp_lload dX6_council_112 1 rfl ?_
  refine wp_ldc2 dX6_council_114 cnX6_58 ?_
  refine wl_eq (tgt := 130) dX6_council_117 dX6_council_118 (by decide) (fun c_7 => ?_) (fun c_7 => ?_)
  · refine wp_ldc2 dX6_council_130 cnX6_58 ?_
    refine wp_lret dX6_council_133 rfl (by decide) (by decide) ?_
    exact hno (Or.inl c_7)
  · refine wp_lload dX6_council_121 0 rfl ?_
    refine wp_ldc2 dX6_council_123 cnX6_58 ?_
    refine wl_ne (tgt := 134) dX6_council_126 dX6_council_127 (by decide) (fun c_8 => ?_) (fun c_8 => ?_)
    · refine wp_iload_n dX6_council_134 rfl 7 rfl ?_
      refine wp_iconst (v := 2) dX6_council_135 (by decide) ?_
      refine wp_icmp_ne (tgt := 142) dX6_council_136 (by decide) (fun c_9 => absurd (by decide) c_9) (fun _ => ?_)
      refine wp_lload dX6_council_139 1 rfl ?_
      refine wp_lret dX6_council_141 rfl (by decide) (by decide) ?_
      exact hyes c_7 c_8
    · refine wp_ldc2 dX6_council_130 cnX6_58 ?_
      refine wp_lret dX6_council_133 rfl (by decide) (by decide) ?_
      exact hno (Or.inr c_8)
set_option maxRecDepth 100000 in
set_option maxHeartbeats 4000000 in
theorem ct_council_3 {g : GG} {h : HP} {Post : Option Value → HP → Prop} (nm i : Nat) (hr : SR h) (hM : SM h nm) (hi : i < nm) (hself : hsp h (3000 + i) i = none) (ff : Nat) (hf : ff < gz h i nm) (hno : (cLs h i nm ff = NOv ∨ cGr h i nm ff = NOv) → Post (some (.long (-9000000000000000000))) (gtH h i nm)) (hyes : ¬ cLs h i nm ff = NOv → ¬ cGr h i nm ff = NOv → Post (some (.long (cGr h i nm ff))) (gtH h i nm)) : CT g mX6_council [.ref 1, .int (nI i), .int (nI ff), .int 3] h Post := by
  show WP g mX6_council 0 [(0, .ref 1), (1, .int (nI i)), (2, .int (nI ff)), (3, .int 3)] [] h 0 0 Post
  have hnm := hM.1
  have hc2 := hM.2.1
  obtain ⟨he, hl, hlo, hlr, ho, h9, hnum, hbs, hbn⟩ := hM.2.2.1 i hi
  have hk : kd (1000 + i) = 2 := kd_mem (by omega)
  have hko : kd (2000 + i) = 4 := kd_own (by omega)
  have hkr : kd (3000 + i) = 14 := kd_arr (by omega)
  have hgz := gz10 hM hi hself
  refine wp_aload_n dX6_council_0 rfl 0 rfl ?_
  refine wp_iload_n dX6_council_1 rfl 1 rfl ?_
  refine wp_callV mX6_findMember 1 [.int (nI i)] [] (c := 6) dX6_council_2 iX6_findMember (fun _ => trivial) mlX6_64 imX6_findMember seX6_findMember (by decide) rfl rfl ⟨by decide, by decide⟩ rfl rfl (Nat.le_of_ble_eq_true rfl) (Nat.le_of_ble_eq_true rfl) (by decide) (by decide) ?_
  refine ct_findMember nm i hr hc2 hnm hi he ?_
  show WP g mX6_council 5 [(0, .ref 1), (1, .int (nI i)), (2, .int (nI ff)), (3, .int 3)] [.ref (1000 + i)] _ 0 0 _
  refine wp_astore (lv' := [(4, .ref (1000 + i)), (0, .ref 1), (1, .int (nI i)), (2, .int (nI ff)), (3, .int 3)]) dX6_council_5 (by decide) rfl ?_
  refine wp_aload dX6_council_7 0 rfl ?_
  refine wp_ifnull dX6_council_9 ?_
  refine wp_iload_n dX6_council_12 rfl 4 rfl ?_
  refine wp_if_lt (tgt := 21) dX6_council_13 (by decide) (fun c_1 => absurd c_1 (by decide)) (fun _ => ?_)
  refine wp_iload_n dX6_council_16 rfl 4 rfl ?_
  refine wp_iconst (v := 4) dX6_council_17 (by decide) ?_
  refine wp_icmp_le (tgt := 25) dX6_council_18 (by decide) (fun _ => ?_) (fun c_2 => absurd (by decide) c_2)
  refine wp_aload_n dX6_council_25 rfl 1 rfl ?_
  refine wp_aload dX6_council_26 0 rfl ?_
  refine wp_callV mX6_gather 1 [.ref (1000 + i)] [] (c := 6) dX6_council_28 iX6_gather (fun _ => trivial) mlX6_194 imX6_gather seX6_gather (by decide) rfl rfl ⟨by decide, by decide⟩ rfl rfl (Nat.le_of_ble_eq_true rfl) (Nat.le_of_ble_eq_true rfl) (by decide) (by decide) ?_
  refine ct_gather nm i hr hM hi hself ?_
  show WP g mX6_council 31 [(4, .ref (1000 + i)), (0, .ref 1), (1, .int (nI i)), (2, .int (nI ff)), (3, .int 3)] [] _ 0 0 _
  refine wp_iload_n dX6_council_31 rfl 3 rfl ?_
  refine wp_pc (pc' := 32) rfl ?_
  refine wp_if_lt (tgt := 46) dX6_council_32 (by decide) (fun c_3 => absurd c_3 (nI_pos (by omega))) (fun _ => ?_)
  refine wp_iload_n dX6_council_35 rfl 3 rfl ?_
  refine wp_aload_n dX6_council_36 rfl 1 rfl ?_
  refine wp_getP (b := 5) dX6_council_37 flX6_44 rfl rfl (by rw [(gtH_k h i nm).1]; exact hr.1) (by rw [(gtH_k h i nm).2.1]; exact hr.2.2.2.2.2.2.2.2.1) ?_
  refine wv_getI (nI (gz h i nm)) dX6_council_40 flX6_202 rfl rfl (by rw [(gtH_k h i nm).1]; exact hr.2.2.2.2.2.2.2.2.2.2.1) (gtH_k h i nm).2.2.2.2 ?_
  refine wp_icmp_lt (tgt := 50) dX6_council_43 (by decide) (fun _ => ?_) (fun c_4 => absurd (nI_lt hf (by omega)) c_4)
  refine wp_aload_n dX6_council_50 rfl 1 rfl ?_
  refine wp_getP (b := 5) dX6_council_51 flX6_44 rfl rfl (by rw [(gtH_k h i nm).1]; exact hr.1) (by rw [(gtH_k h i nm).2.1]; exact hr.2.2.2.2.2.2.2.2.1) ?_
  refine wv_getI (nI (gz h i nm)) dX6_council_54 flX6_202 rfl rfl (by rw [(gtH_k h i nm).1]; exact hr.2.2.2.2.2.2.2.2.2.2.1) (gtH_k h i nm).2.2.2.2 ?_
  refine wp_iload_n dX6_council_57 rfl 3 rfl ?_
  refine wv_isub (nI (gz h i nm - ff)) (pk_sub (by omega)) dX6_council_58 ?_
  refine wp_istore (lv' := [(5, .int (nI (gz h i nm - ff))), (4, .ref (1000 + i)), (0, .ref 1), (1, .int (nI i)), (2, .int (nI ff)), (3, .int 3)]) dX6_council_59 (by decide) rfl ?_
  refine wp_iload_n dX6_council_61 rfl 5 rfl ?_
  refine wp_if_ne (tgt := 74) dX6_council_62 (by decide) (fun _ => ?_) (fun c_5 => absurd c_5 (by decide))
  refine wp_iload_n dX6_council_74 rfl 5 rfl ?_
  refine wp_pc (pc' := 75) rfl ?_
  refine wp_iconst (v := 1) dX6_council_75 (by decide) ?_
  refine wp_icmp_ne (tgt := 90) dX6_council_76 (by decide) (fun _ => ?_) (fun c_6 => absurd c_6 (by decide))
  refine wp_aload_n dX6_council_90 rfl 2 rfl ?_
  refine wp_getP (b := 5) dX6_council_91 flX6_44 rfl rfl (by rw [(gtH_k h i nm).1]; exact hr.1) (by rw [(gtH_k h i nm).2.1]; exact hr.2.2.2.2.2.2.2.2.1) ?_
  refine wp_iload dX6_council_94 0 rfl ?_
  refine wp_callV mX0_least 5 [.int (nI (gz h i nm - ff))] [] (c := 0) dX6_council_96 iX0_least (fun _ => trivial) mlX6_209 imX0_least seX0_least (by decide) rfl rfl ⟨by decide, by decide⟩ rfl rfl (Nat.le_of_ble_eq_true rfl) (Nat.le_of_ble_eq_true rfl) (by decide) (by decide) ?_
  refine ct_least (gz h i nm) (gz10 hM hi hself) (GW_eq (gtH_k h i nm).1 (gtH_k h i nm).2.1 hr.2.2.2.2.2.2.2.2.2.2) (gtH_k h i nm).2.2.2.2 (nI (gz h i nm - ff)) ?_
  show WP g mX6_council 99 [(5, .int (nI (gz h i nm - ff))), (4, .ref (1000 + i)), (0, .ref 1), (1, .int (nI i)), (2, .int (nI ff)), (3, .int 3)] [.long (cLs h i nm ff)] _ 0 0 _
  refine wp_lstore (lv' := [(6, .long (cLs h i nm ff)), (5, .int (nI (gz h i nm - ff))), (4, .ref (1000 + i)), (0, .ref 1), (1, .int (nI i)), (2, .int (nI ff)), (3, .int 3)]) dX6_council_99 (by decide) rfl ?_
  refine wp_aload_n dX6_council_101 rfl 3 rfl ?_
  refine wp_getP (b := 5) dX6_council_102 flX6_44 rfl rfl (by rw [(gtH_k h i nm).1]; exact hr.1) (by rw [(gtH_k h i nm).2.1]; exact hr.2.2.2.2.2.2.2.2.1) ?_
  refine wp_iload dX6_council_105 1 rfl ?_
  refine wp_callV mX0_greatest 5 [.int (nI (gz h i nm - ff))] [] (c := 0) dX6_council_107 iX0_greatest (fun _ => trivial) mlX6_213 imX0_greatest seX0_greatest (by decide) rfl rfl ⟨by decide, by decide⟩ rfl rfl (Nat.le_of_ble_eq_true rfl) (Nat.le_of_ble_eq_true rfl) (by decide) (by decide) ?_
  refine ct_greatest (gz h i nm) (gz10 hM hi hself) (GW_eq (gtH_k h i nm).1 (gtH_k h i nm).2.1 hr.2.2.2.2.2.2.2.2.2.2) (gtH_k h i nm).2.2.2.2 (nI (gz h i nm - ff)) ?_
  show WP g mX6_council 110 [(6, .long (cLs h i nm ff)), (5, .int (nI (gz h i nm - ff))), (4, .ref (1000 + i)), (0, .ref 1), (1, .int (nI i)), (2, .int (nI ff)), (3, .int 3)] [.long (cGr h i nm ff)] _ 0 0 _
  refine wp_lstore (lv' := [(8, .long (cGr h i nm ff)), (6, .long (cLs h i nm ff)), (5, .int (nI (gz h i nm - ff))), (4, .ref (1000 + i)), (0, .ref 1), (1, .int (nI i)), (2, .int (nI ff)), (3, .int 3)]) dX6_council_110 (by decide) rfl ?_
  refine wp_lload dX6_council_112 1 rfl ?_
  refine wp_ldc2 dX6_council_114 cnX6_58 ?_
  refine wl_eq (tgt := 130) dX6_council_117 dX6_council_118 (by decide) (fun c_7 => ?_) (fun c_7 => ?_)
  · refine wp_ldc2 dX6_council_130 cnX6_58 ?_
    refine wp_lret dX6_council_133 rfl (by decide) (by decide) ?_
    exact hno (Or.inl c_7)
  · refine wp_lload dX6_council_121 0 rfl ?_
    refine wp_ldc2 dX6_council_123 cnX6_58 ?_
    refine wl_ne (tgt := 134) dX6_council_126 dX6_council_127 (by decide) (fun c_8 => ?_) (fun c_8 => ?_)
    · refine wp_iload_n dX6_council_134 rfl 7 rfl ?_
      refine wp_iconst (v := 2) dX6_council_135 (by decide) ?_
      refine wp_icmp_ne (tgt := 142) dX6_council_136 (by decide) (fun _ => ?_) (fun c_9 => absurd c_9 (by decide))
      refine wp_iload_n dX6_council_142 rfl 7 rfl ?_
      refine wp_iconst (v := 3) dX6_council_143 (by decide) ?_
      refine wp_icmp_ne (tgt := 152) dX6_council_144 (by decide) (fun c_10 => absurd (by decide) c_10) (fun _ => ?_)
      refine wp_lload dX6_council_147 0 rfl ?_
      refine wp_goto (tgt := 164) dX6_council_149 (by decide) ?_
      refine wp_lret dX6_council_164 rfl (by decide) (by decide) ?_
      exact hyes c_7 c_8
    · refine wp_ldc2 dX6_council_130 cnX6_58 ?_
      refine wp_lret dX6_council_133 rfl (by decide) (by decide) ?_
      exact hno (Or.inr c_8)
set_option maxRecDepth 100000 in
set_option maxHeartbeats 4000000 in
theorem ct_council_4 {g : GG} {h : HP} {Post : Option Value → HP → Prop} (nm i : Nat) (hr : SR h) (hM : SM h nm) (hi : i < nm) (hself : hsp h (3000 + i) i = none) (ff : Nat) (hf : ff < gz h i nm) (hno : (cLs h i nm ff = NOv ∨ cGr h i nm ff = NOv) → Post (some (.long (-9000000000000000000))) (gtH h i nm)) (hyes : ¬ cLs h i nm ff = NOv → ¬ cGr h i nm ff = NOv → Post (some (.long (Int32.toInt64 (cAp h i nm ff)))) (gtH h i nm)) : CT g mX6_council [.ref 1, .int (nI i), .int (nI ff), .int 4] h Post := by
  show WP g mX6_council 0 [(0, .ref 1), (1, .int (nI i)), (2, .int (nI ff)), (3, .int 4)] [] h 0 0 Post
  have hnm := hM.1
  have hc2 := hM.2.1
  obtain ⟨he, hl, hlo, hlr, ho, h9, hnum, hbs, hbn⟩ := hM.2.2.1 i hi
  have hk : kd (1000 + i) = 2 := kd_mem (by omega)
  have hko : kd (2000 + i) = 4 := kd_own (by omega)
  have hkr : kd (3000 + i) = 14 := kd_arr (by omega)
  have hgz := gz10 hM hi hself
  refine wp_aload_n dX6_council_0 rfl 0 rfl ?_
  refine wp_iload_n dX6_council_1 rfl 1 rfl ?_
  refine wp_callV mX6_findMember 1 [.int (nI i)] [] (c := 6) dX6_council_2 iX6_findMember (fun _ => trivial) mlX6_64 imX6_findMember seX6_findMember (by decide) rfl rfl ⟨by decide, by decide⟩ rfl rfl (Nat.le_of_ble_eq_true rfl) (Nat.le_of_ble_eq_true rfl) (by decide) (by decide) ?_
  refine ct_findMember nm i hr hc2 hnm hi he ?_
  show WP g mX6_council 5 [(0, .ref 1), (1, .int (nI i)), (2, .int (nI ff)), (3, .int 4)] [.ref (1000 + i)] _ 0 0 _
  refine wp_astore (lv' := [(4, .ref (1000 + i)), (0, .ref 1), (1, .int (nI i)), (2, .int (nI ff)), (3, .int 4)]) dX6_council_5 (by decide) rfl ?_
  refine wp_aload dX6_council_7 0 rfl ?_
  refine wp_ifnull dX6_council_9 ?_
  refine wp_iload_n dX6_council_12 rfl 4 rfl ?_
  refine wp_if_lt (tgt := 21) dX6_council_13 (by decide) (fun c_1 => absurd c_1 (by decide)) (fun _ => ?_)
  refine wp_iload_n dX6_council_16 rfl 4 rfl ?_
  refine wp_iconst (v := 4) dX6_council_17 (by decide) ?_
  refine wp_icmp_le (tgt := 25) dX6_council_18 (by decide) (fun _ => ?_) (fun c_2 => absurd (by decide) c_2)
  refine wp_aload_n dX6_council_25 rfl 1 rfl ?_
  refine wp_aload dX6_council_26 0 rfl ?_
  refine wp_callV mX6_gather 1 [.ref (1000 + i)] [] (c := 6) dX6_council_28 iX6_gather (fun _ => trivial) mlX6_194 imX6_gather seX6_gather (by decide) rfl rfl ⟨by decide, by decide⟩ rfl rfl (Nat.le_of_ble_eq_true rfl) (Nat.le_of_ble_eq_true rfl) (by decide) (by decide) ?_
  refine ct_gather nm i hr hM hi hself ?_
  show WP g mX6_council 31 [(4, .ref (1000 + i)), (0, .ref 1), (1, .int (nI i)), (2, .int (nI ff)), (3, .int 4)] [] _ 0 0 _
  refine wp_iload_n dX6_council_31 rfl 3 rfl ?_
  refine wp_pc (pc' := 32) rfl ?_
  refine wp_if_lt (tgt := 46) dX6_council_32 (by decide) (fun c_3 => absurd c_3 (nI_pos (by omega))) (fun _ => ?_)
  refine wp_iload_n dX6_council_35 rfl 3 rfl ?_
  refine wp_aload_n dX6_council_36 rfl 1 rfl ?_
  refine wp_getP (b := 5) dX6_council_37 flX6_44 rfl rfl (by rw [(gtH_k h i nm).1]; exact hr.1) (by rw [(gtH_k h i nm).2.1]; exact hr.2.2.2.2.2.2.2.2.1) ?_
  refine wv_getI (nI (gz h i nm)) dX6_council_40 flX6_202 rfl rfl (by rw [(gtH_k h i nm).1]; exact hr.2.2.2.2.2.2.2.2.2.2.1) (gtH_k h i nm).2.2.2.2 ?_
  refine wp_icmp_lt (tgt := 50) dX6_council_43 (by decide) (fun _ => ?_) (fun c_4 => absurd (nI_lt hf (by omega)) c_4)
  refine wp_aload_n dX6_council_50 rfl 1 rfl ?_
  refine wp_getP (b := 5) dX6_council_51 flX6_44 rfl rfl (by rw [(gtH_k h i nm).1]; exact hr.1) (by rw [(gtH_k h i nm).2.1]; exact hr.2.2.2.2.2.2.2.2.1) ?_
  refine wv_getI (nI (gz h i nm)) dX6_council_54 flX6_202 rfl rfl (by rw [(gtH_k h i nm).1]; exact hr.2.2.2.2.2.2.2.2.2.2.1) (gtH_k h i nm).2.2.2.2 ?_
  refine wp_iload_n dX6_council_57 rfl 3 rfl ?_
  refine wv_isub (nI (gz h i nm - ff)) (pk_sub (by omega)) dX6_council_58 ?_
  refine wp_istore (lv' := [(5, .int (nI (gz h i nm - ff))), (4, .ref (1000 + i)), (0, .ref 1), (1, .int (nI i)), (2, .int (nI ff)), (3, .int 4)]) dX6_council_59 (by decide) rfl ?_
  refine wp_iload_n dX6_council_61 rfl 5 rfl ?_
  refine wp_if_ne (tgt := 74) dX6_council_62 (by decide) (fun _ => ?_) (fun c_5 => absurd c_5 (by decide))
  refine wp_iload_n dX6_council_74 rfl 5 rfl ?_
  refine wp_pc (pc' := 75) rfl ?_
  refine wp_iconst (v := 1) dX6_council_75 (by decide) ?_
  refine wp_icmp_ne (tgt := 90) dX6_council_76 (by decide) (fun _ => ?_) (fun c_6 => absurd c_6 (by decide))
  refine wp_aload_n dX6_council_90 rfl 2 rfl ?_
  refine wp_getP (b := 5) dX6_council_91 flX6_44 rfl rfl (by rw [(gtH_k h i nm).1]; exact hr.1) (by rw [(gtH_k h i nm).2.1]; exact hr.2.2.2.2.2.2.2.2.1) ?_
  refine wp_iload dX6_council_94 0 rfl ?_
  refine wp_callV mX0_least 5 [.int (nI (gz h i nm - ff))] [] (c := 0) dX6_council_96 iX0_least (fun _ => trivial) mlX6_209 imX0_least seX0_least (by decide) rfl rfl ⟨by decide, by decide⟩ rfl rfl (Nat.le_of_ble_eq_true rfl) (Nat.le_of_ble_eq_true rfl) (by decide) (by decide) ?_
  refine ct_least (gz h i nm) (gz10 hM hi hself) (GW_eq (gtH_k h i nm).1 (gtH_k h i nm).2.1 hr.2.2.2.2.2.2.2.2.2.2) (gtH_k h i nm).2.2.2.2 (nI (gz h i nm - ff)) ?_
  show WP g mX6_council 99 [(5, .int (nI (gz h i nm - ff))), (4, .ref (1000 + i)), (0, .ref 1), (1, .int (nI i)), (2, .int (nI ff)), (3, .int 4)] [.long (cLs h i nm ff)] _ 0 0 _
  refine wp_lstore (lv' := [(6, .long (cLs h i nm ff)), (5, .int (nI (gz h i nm - ff))), (4, .ref (1000 + i)), (0, .ref 1), (1, .int (nI i)), (2, .int (nI ff)), (3, .int 4)]) dX6_council_99 (by decide) rfl ?_
  refine wp_aload_n dX6_council_101 rfl 3 rfl ?_
  refine wp_getP (b := 5) dX6_council_102 flX6_44 rfl rfl (by rw [(gtH_k h i nm).1]; exact hr.1) (by rw [(gtH_k h i nm).2.1]; exact hr.2.2.2.2.2.2.2.2.1) ?_
  refine wp_iload dX6_council_105 1 rfl ?_
  refine wp_callV mX0_greatest 5 [.int (nI (gz h i nm - ff))] [] (c := 0) dX6_council_107 iX0_greatest (fun _ => trivial) mlX6_213 imX0_greatest seX0_greatest (by decide) rfl rfl ⟨by decide, by decide⟩ rfl rfl (Nat.le_of_ble_eq_true rfl) (Nat.le_of_ble_eq_true rfl) (by decide) (by decide) ?_
  refine ct_greatest (gz h i nm) (gz10 hM hi hself) (GW_eq (gtH_k h i nm).1 (gtH_k h i nm).2.1 hr.2.2.2.2.2.2.2.2.2.2) (gtH_k h i nm).2.2.2.2 (nI (gz h i nm - ff)) ?_
  show WP g mX6_council 110 [(6, .long (cLs h i nm ff)), (5, .int (nI (gz h i nm - ff))), (4, .ref (1000 + i)), (0, .ref 1), (1, .int (nI i)), (2, .int (nI ff)), (3, .int 4)] [.long (cGr h i nm ff)] _ 0 0 _
  refine wp_lstore (lv' := [(8, .long (cGr h i nm ff)), (6, .long (cLs h i nm ff)), (5, .int (nI (gz h i nm - ff))), (4, .ref (1000 + i)), (0, .ref 1), (1, .int (nI i)), (2, .int (nI ff)), (3, .int 4)]) dX6_council_110 (by decide) rfl ?_
  refine wp_lload dX6_council_112 1 rfl ?_
  refine wp_ldc2 dX6_council_114 cnX6_58 ?_
  refine wl_eq (tgt := 130) dX6_council_117 dX6_council_118 (by decide) (fun c_7 => ?_) (fun c_7 => ?_)
  · refine wp_ldc2 dX6_council_130 cnX6_58 ?_
    refine wp_lret dX6_council_133 rfl (by decide) (by decide) ?_
    exact hno (Or.inl c_7)
  · refine wp_lload dX6_council_121 0 rfl ?_
    refine wp_ldc2 dX6_council_123 cnX6_58 ?_
    refine wl_ne (tgt := 134) dX6_council_126 dX6_council_127 (by decide) (fun c_8 => ?_) (fun c_8 => ?_)
    · refine wp_iload_n dX6_council_134 rfl 7 rfl ?_
      refine wp_iconst (v := 2) dX6_council_135 (by decide) ?_
      refine wp_icmp_ne (tgt := 142) dX6_council_136 (by decide) (fun _ => ?_) (fun c_9 => absurd c_9 (by decide))
      refine wp_iload_n dX6_council_142 rfl 7 rfl ?_
      refine wp_iconst (v := 3) dX6_council_143 (by decide) ?_
      refine wp_icmp_ne (tgt := 152) dX6_council_144 (by decide) (fun _ => ?_) (fun c_10 => absurd c_10 (by decide))
      refine wp_aload_n dX6_council_152 rfl 4 rfl ?_
      refine wp_getP (b := 5) dX6_council_153 flX6_44 rfl rfl (by rw [(gtH_k h i nm).1]; exact hr.1) (by rw [(gtH_k h i nm).2.1]; exact hr.2.2.2.2.2.2.2.2.1) ?_
      refine wp_lload dX6_council_156 1 rfl ?_
      refine wp_lload dX6_council_158 0 rfl ?_
      refine wp_callV mX0_apartFrom 5 [.long (cLs h i nm ff), .long (cGr h i nm ff)] [] (c := 0) dX6_council_160 iX0_apartFrom (fun _ => trivial) mlX6_216 imX0_apartFrom seX0_apartFrom (by decide) rfl rfl ⟨by decide, by decide⟩ rfl rfl (Nat.le_of_ble_eq_true rfl) (Nat.le_of_ble_eq_true rfl) (by decide) (by decide) ?_
      refine ct_apart (gz h i nm) (gz10 hM hi hself) (GW_eq (gtH_k h i nm).1 (gtH_k h i nm).2.1 hr.2.2.2.2.2.2.2.2.2.2) (gtH_k h i nm).2.2.2.2 (cLs h i nm ff) (cGr h i nm ff) ?_
      show WP g mX6_council 163 [(8, .long (cGr h i nm ff)), (6, .long (cLs h i nm ff)), (5, .int (nI (gz h i nm - ff))), (4, .ref (1000 + i)), (0, .ref 1), (1, .int (nI i)), (2, .int (nI ff)), (3, .int 4)] [.int (cAp h i nm ff)] _ 0 0 _
      refine wp_i2l dX6_council_163 ?_
      refine wp_lret dX6_council_164 rfl (by decide) (by decide) ?_
      exact hyes c_7 c_8
    · refine wp_ldc2 dX6_council_130 cnX6_58 ?_
      refine wp_lret dX6_council_133 rfl (by decide) (by decide) ?_
      exact hno (Or.inr c_8)
set_option maxRecDepth 100000 in
set_option maxHeartbeats 4000000 in
theorem ct_meet0 {g : GG} {h : HP} {Post : Option Value → HP → Prop} (f : Int32) (nm : Nat) (x : Int32) (hr : SR h) (hM : SM h nm) (hx : ¬ inR x nm) (hp : Post (some (.long (-9000000000000000000))) h) : CT g mX6_meet [.ref 1, .int x, .int f] h Post := by
  show WP g mX6_meet 0 [(0, .ref 1), (1, .int x), (2, .int f)] [] h 0 0 Post
  refine wp_aload_n dX6_meet_0 rfl 0 rfl ?_
  refine wp_iload_n dX6_meet_1 rfl 1 rfl ?_
  refine wp_callV mX6_findMember 1 [.int x] [] (c := 6) dX6_meet_2 iX6_findMember (fun _ => trivial) mlX6_64 imX6_findMember seX6_findMember (by decide) rfl rfl ⟨by decide, by decide⟩ rfl rfl (Nat.le_of_ble_eq_true rfl) (Nat.le_of_ble_eq_true rfl) (by decide) (by decide) ?_
  refine ct_findMember0 nm x hr hM.2.1 (by have := hM.1; omega) hx ?_
  show WP g mX6_meet 5 [(0, .ref 1), (1, .int x), (2, .int f)] [.null] _ 0 0 _
  refine wp_astore_nN (lv' := [(3, .null), (0, .ref 1), (1, .int x), (2, .int f)]) dX6_meet_5 rfl (by decide) rfl ?_
  refine wp_aload_nN dX6_meet_6 rfl 0 rfl ?_
  refine wp_ifnullN (tgt := 32) dX6_meet_7 (by decide) ?_
  refine wp_ldc2 dX6_meet_32 cnX6_58 ?_
  refine wp_lret dX6_meet_35 rfl (by decide) (by decide) ?_
  exact hp
def okMt (h : HP) (a : Nat) : Prop := ¬ (vI h a 1).toInt = 0 ∧ ¬ (vI h a 1).toInt = 1 ∧ (vI h a 7).toInt = 0
def mtN (h : HP) (i nm ff : Nat) : HP := fgt (ntH (gtH h i nm) (cAp h i nm ff) (gwh h i nm) (gz h i nm)) (3000 + i) 10
def mtH (h : HP) (i nm ff : Nat) : HP := if vI h (1000 + i) 1 = 3 then mtN h i nm ff else spP (mtN h i nm ff) (2000 + i) (cLs h i nm ff) (cGr h i nm ff) (cCn h (1000 + i) (vL h 1 0))
set_option maxRecDepth 100000 in
set_option maxHeartbeats 4000000 in
theorem ct_meet_k {g : GG} {h : HP} {Post : Option Value → HP → Prop} (nm i : Nat) (hr : SR h) (hM : SM h nm) (hi : i < nm) (hself : hsp h (3000 + i) i = none) (f : Int32) (hk0 : ¬ okMt h (1000 + i)) (hp : Post (some (.long (-9000000000000000000))) h) : CT g mX6_meet [.ref 1, .int (nI i), .int f] h Post := by
  show WP g mX6_meet 0 [(0, .ref 1), (1, .int (nI i)), (2, .int f)] [] h 0 0 Post
  have hnm := hM.1
  have hc2 := hM.2.1
  obtain ⟨he, hl, hlo, hlr, ho, h9, hnum, hbs, hbn⟩ := hM.2.2.1 i hi
  have hk : kd (1000 + i) = 2 := kd_mem (by omega)
  have hko : kd (2000 + i) = 4 := kd_own (by omega)
  have hkr : kd (3000 + i) = 14 := kd_arr (by omega)
  refine wp_aload_n dX6_meet_0 rfl 0 rfl ?_
  refine wp_iload_n dX6_meet_1 rfl 1 rfl ?_
  refine wp_callV mX6_findMember 1 [.int (nI i)] [] (c := 6) dX6_meet_2 iX6_findMember (fun _ => trivial) mlX6_64 imX6_findMember seX6_findMember (by decide) rfl rfl ⟨by decide, by decide⟩ rfl rfl (Nat.le_of_ble_eq_true rfl) (Nat.le_of_ble_eq_true rfl) (by decide) (by decide) ?_
  refine ct_findMember nm i hr hc2 hnm hi he ?_
  show WP g mX6_meet 5 [(0, .ref 1), (1, .int (nI i)), (2, .int f)] [.ref (1000 + i)] _ 0 0 _
  refine wp_astore_n (lv' := [(3, .ref (1000 + i)), (0, .ref 1), (1, .int (nI i)), (2, .int f)]) dX6_meet_5 rfl (by decide) rfl ?_
  refine wp_aload_n dX6_meet_6 rfl 0 rfl ?_
  refine wp_ifnull dX6_meet_7 ?_
  refine wp_aload_n dX6_meet_10 rfl 0 rfl ?_
  refine wp_getI dX6_meet_11 flX6_92 rfl hk hl ?_
  refine wi_if_eq (tgt := 32) (Int32.toInt (vI h (1000 + i) 1)) rfl dX6_meet_14 (by decide) (fun c_1 => ?_) (fun c_1 => ?_)
  · refine wp_ldc2 dX6_meet_32 cnX6_58 ?_
    refine wp_lret dX6_meet_35 rfl (by decide) (by decide) ?_
    exact hp
  · refine wp_aload_n dX6_meet_17 rfl 0 rfl ?_
    refine wp_getI dX6_meet_18 flX6_92 rfl hk hl ?_
    refine wp_iconst (v := 1) dX6_meet_21 (by decide) ?_
    refine wi_icmp_eq (tgt := 32) (Int32.toInt (vI h (1000 + i) 1)) (1) rfl (by decide) dX6_meet_22 (by decide) (fun c_2 => ?_) (fun c_2 => ?_)
    · refine wp_ldc2 dX6_meet_32 cnX6_58 ?_
      refine wp_lret dX6_meet_35 rfl (by decide) (by decide) ?_
      exact hp
    · refine wp_aload_n dX6_meet_25 rfl 0 rfl ?_
      refine wp_getI dX6_meet_26 flX6_105 rfl hk hl ?_
      refine wi_if_eq (tgt := 36) (Int32.toInt (vI h (1000 + i) 7)) rfl dX6_meet_29 (by decide) (fun c_3 => ?_) (fun c_3 => ?_)
      · exact absurd (show okMt h (1000 + i) from ⟨by omega, by omega, by omega⟩) hk0
      · refine wp_ldc2 dX6_meet_32 cnX6_58 ?_
        refine wp_lret dX6_meet_35 rfl (by decide) (by decide) ?_
        exact hp
set_option maxRecDepth 100000 in
set_option maxHeartbeats 4000000 in
theorem ct_meet_f {g : GG} {h : HP} {Post : Option Value → HP → Prop} (nm i : Nat) (hr : SR h) (hM : SM h nm) (hi : i < nm) (hself : hsp h (3000 + i) i = none) (f : Int32) (hk0 : okMt h (1000 + i)) (hf : ¬ inR f (gz h i nm)) (hp : Post (some (.long (-9000000000000000000))) (gtH h i nm)) : CT g mX6_meet [.ref 1, .int (nI i), .int f] h Post := by
  show WP g mX6_meet 0 [(0, .ref 1), (1, .int (nI i)), (2, .int f)] [] h 0 0 Post
  have hnm := hM.1
  have hc2 := hM.2.1
  obtain ⟨he, hl, hlo, hlr, ho, h9, hnum, hbs, hbn⟩ := hM.2.2.1 i hi
  have hk : kd (1000 + i) = 2 := kd_mem (by omega)
  have hko : kd (2000 + i) = 4 := kd_own (by omega)
  have hkr : kd (3000 + i) = 14 := kd_arr (by omega)
  have hgz := gz10 hM hi hself
  refine wp_aload_n dX6_meet_0 rfl 0 rfl ?_
  refine wp_iload_n dX6_meet_1 rfl 1 rfl ?_
  refine wp_callV mX6_findMember 1 [.int (nI i)] [] (c := 6) dX6_meet_2 iX6_findMember (fun _ => trivial) mlX6_64 imX6_findMember seX6_findMember (by decide) rfl rfl ⟨by decide, by decide⟩ rfl rfl (Nat.le_of_ble_eq_true rfl) (Nat.le_of_ble_eq_true rfl) (by decide) (by decide) ?_
  refine ct_findMember nm i hr hc2 hnm hi he ?_
  show WP g mX6_meet 5 [(0, .ref 1), (1, .int (nI i)), (2, .int f)] [.ref (1000 + i)] _ 0 0 _
  refine wp_astore_n (lv' := [(3, .ref (1000 + i)), (0, .ref 1), (1, .int (nI i)), (2, .int f)]) dX6_meet_5 rfl (by decide) rfl ?_
  refine wp_aload_n dX6_meet_6 rfl 0 rfl ?_
  refine wp_ifnull dX6_meet_7 ?_
  refine wp_aload_n dX6_meet_10 rfl 0 rfl ?_
  refine wp_getI dX6_meet_11 flX6_92 rfl hk hl ?_
  refine wi_if_eq (tgt := 32) (Int32.toInt (vI h (1000 + i) 1)) rfl dX6_meet_14 (by decide) (fun c_1 => absurd c_1 hk0.1) (fun _ => ?_)
  refine wp_aload_n dX6_meet_17 rfl 0 rfl ?_
  refine wp_getI dX6_meet_18 flX6_92 rfl hk hl ?_
  refine wp_iconst (v := 1) dX6_meet_21 (by decide) ?_
  refine wi_icmp_eq (tgt := 32) (Int32.toInt (vI h (1000 + i) 1)) (1) rfl (by decide) dX6_meet_22 (by decide) (fun c_2 => absurd c_2 hk0.2.1) (fun _ => ?_)
  refine wp_aload_n dX6_meet_25 rfl 0 rfl ?_
  refine wp_getI dX6_meet_26 flX6_105 rfl hk hl ?_
  refine wp_pc (pc' := 29) rfl ?_
  refine wi_if_eq (tgt := 36) (Int32.toInt (vI h (1000 + i) 7)) rfl dX6_meet_29 (by decide) (fun _ => ?_) (fun c_3 => absurd hk0.2.2 c_3)
  refine wp_aload_n dX6_meet_36 rfl 1 rfl ?_
  refine wp_aload_n dX6_meet_37 rfl 0 rfl ?_
  refine wp_callV mX6_gather 1 [.ref (1000 + i)] [] (c := 6) dX6_meet_38 iX6_gather (fun _ => trivial) mlX6_194 imX6_gather seX6_gather (by decide) rfl rfl ⟨by decide, by decide⟩ rfl rfl (Nat.le_of_ble_eq_true rfl) (Nat.le_of_ble_eq_true rfl) (by decide) (by decide) ?_
  refine ct_gather nm i hr hM hi hself ?_
  show WP g mX6_meet 41 [(3, .ref (1000 + i)), (0, .ref 1), (1, .int (nI i)), (2, .int f)] [] _ 0 0 _
  refine wp_iload_n dX6_meet_41 rfl 3 rfl ?_
  refine wi_if_lt (tgt := 56) (Int32.toInt f) rfl dX6_meet_42 (by decide) (fun c_4 => ?_) (fun c_4 => ?_)
  · refine wp_ldc2 dX6_meet_56 cnX6_58 ?_
    refine wp_lret dX6_meet_59 rfl (by decide) (by decide) ?_
    exact hp
  · refine wp_iload_n dX6_meet_45 rfl 3 rfl ?_
    refine wp_aload_n dX6_meet_46 rfl 1 rfl ?_
    refine wp_getP (b := 5) dX6_meet_47 flX6_44 rfl rfl (by rw [(gtH_k h i nm).1]; exact hr.1) (by rw [(gtH_k h i nm).2.1]; exact hr.2.2.2.2.2.2.2.2.1) ?_
    refine wv_getI (nI (gz h i nm)) dX6_meet_50 flX6_202 rfl rfl (by rw [(gtH_k h i nm).1]; exact hr.2.2.2.2.2.2.2.2.2.2.1) (gtH_k h i nm).2.2.2.2 ?_
    refine wi_icmp_lt (tgt := 60) (Int32.toInt f) ((gz h i nm : Nat)) rfl (nIt (by omega)) dX6_meet_53 (by decide) (fun c_5 => ?_) (fun c_5 => ?_)
    · exact absurd (show inR f (gz h i nm) from ⟨by omega, by omega⟩) hf
    · refine wp_ldc2 dX6_meet_56 cnX6_58 ?_
      refine wp_lret dX6_meet_59 rfl (by decide) (by decide) ?_
      exact hp
theorem fgt_I {h : HP} {r : Nat} {a k : Nat} : ∀ n, (∀ j b, j < n → vP h r j = some b → b ≠ a) → vI (fgt h r n) a k = vI h a k
  | 0, _ => rfl
  | n + 1, hb => by
    have ih := fgt_I (h := h) (r := r) (a := a) (k := k) n (fun j b hj => hb j b (by omega))
    cases hv : vP h r n with
    | none => rw [fgt_no hv]; exact ih
    | some b => rw [fgt_yes hv, congrFun (vIn (hb n b (by omega) hv).symm) k]; exact ih
theorem mt_L {h : HP} {i nm ff a : Nat} (h1 : a ≠ 7) (h2 : a ≠ 8) {k : Nat} : vL (mtN h i nm ff) a k = vL h a k := by
  unfold mtN
  rw [(fgt_k _ _ 10).2.1, (ntH_k _ _ _ _).2.1, (gtH_k h i nm).2.2.2.1 a h1 h2]
theorem mt_I {h : HP} {i nm ff a k : Nat} (hk : k ≠ 14 ∧ k ≠ 15) (ha : a ≠ 5 ∧ a ≠ 6 ∧ a < 4000) (hbs : ∀ j b, j < 10 → vP h (3000 + i) j = some b → b = 4000 + (10 * i + j) ∧ liv h b = true) : vI (mtN h i nm ff) a k = vI h a k := by
  unfold mtN
  rw [fgt_I 10 (fun j b hj q => by rw [(ntH_k _ _ _ _).2.2.1, (gtH_k h i nm).2.1] at q; have := (hbs j b hj q).1; omega), (ntH_k _ _ _ _).2.2.2 a k (Or.inr hk), (gtH_k h i nm).2.2.1 a ha.1 ha.2.1]
theorem mt_C {h : HP} {i nm ff : Nat} {now : Int64} (hbs : ∀ j b, j < 10 → vP h (3000 + i) j = some b → b = 4000 + (10 * i + j) ∧ liv h b = true) : cCn (mtN h i nm ff) (1000 + i) now = cCn h (1000 + i) now := by
  by_cases hi : i < 1000
  · unfold cCn
    rw [mt_L (by omega) (by omega), mt_I (by omega) (by omega) hbs, mt_I (by omega) (by omega) hbs]
  · unfold cCn
    have hz : ∀ a k, a ≠ 5 → a ≠ 6 → k ≠ 14 → k ≠ 15 → (∀ j b, j < 10 → vP h (3000 + i) j = some b → b ≠ a) → vI (mtN h i nm ff) a k = vI h a k := by
      intro a k h1 h2 h3 h4 h5
      unfold mtN
      rw [fgt_I 10 (fun j b hj q => by rw [(ntH_k _ _ _ _).2.2.1, (gtH_k h i nm).2.1] at q; exact h5 j b hj q), (ntH_k _ _ _ _).2.2.2 a k (Or.inr ⟨h3, h4⟩), (gtH_k h i nm).2.2.1 a h1 h2]
    rw [mt_L (by omega) (by omega), hz _ 5 (by omega) (by omega) (by decide) (by decide) (fun j b hj q => by have := (hbs j b hj q).1; omega), hz _ 6 (by omega) (by omega) (by decide) (by decide) (fun j b hj q => by have := (hbs j b hj q).1; omega)]
set_option maxRecDepth 100000 in
set_option maxHeartbeats 4000000 in
theorem ct_meet {g : GG} {h : HP} {Post : Option Value → HP → Prop} (nm i : Nat) (hr : SR h) (hM : SM h nm) (hi : i < nm) (hself : hsp h (3000 + i) i = none) (ff : Nat) (hf : ff < gz h i nm) (hk0 : okMt h (1000 + i)) (hno : (cLs h i nm ff = NOv ∨ cGr h i nm ff = NOv) → Post (some (.long (-9000000000000000000))) (gtH h i nm)) (hyes : ¬ cLs h i nm ff = NOv → ¬ cGr h i nm ff = NOv → Post (some (.long (Int32.toInt64 (cAp h i nm ff)))) (mtH h i nm ff)) : CT g mX6_meet [.ref 1, .int (nI i), .int (nI ff)] h Post := by
  show WP g mX6_meet 0 [(0, .ref 1), (1, .int (nI i)), (2, .int (nI ff))] [] h 0 0 Post
  have hnm := hM.1
  have hc2 := hM.2.1
  obtain ⟨he, hl, hlo, hlr, ho, h9, hnum, hbs, hbn⟩ := hM.2.2.1 i hi
  have hk : kd (1000 + i) = 2 := kd_mem (by omega)
  have hko : kd (2000 + i) = 4 := kd_own (by omega)
  have hkr : kd (3000 + i) = 14 := kd_arr (by omega)
  have hgz := gz10 hM hi hself
  have hk1 : ¬ vI h (1000 + i) 1 = 0 := fun z => hk0.1 (by rw [z]; rfl)
  have hk2 : ¬ vI h (1000 + i) 1 = 1 := fun z => hk0.2.1 (by rw [z]; rfl)
  have hk3 : vI h (1000 + i) 7 = 0 := by rw [i32_eq]; exact hk0.2.2
  refine wp_aload_n dX6_meet_0 rfl 0 rfl ?_
  refine wp_iload_n dX6_meet_1 rfl 1 rfl ?_
  refine wp_callV mX6_findMember 1 [.int (nI i)] [] (c := 6) dX6_meet_2 iX6_findMember (fun _ => trivial) mlX6_64 imX6_findMember seX6_findMember (by decide) rfl rfl ⟨by decide, by decide⟩ rfl rfl (Nat.le_of_ble_eq_true rfl) (Nat.le_of_ble_eq_true rfl) (by decide) (by decide) ?_
  refine ct_findMember nm i hr hc2 hnm hi he ?_
  show WP g mX6_meet 5 [(0, .ref 1), (1, .int (nI i)), (2, .int (nI ff))] [.ref (1000 + i)] _ 0 0 _
  refine wp_astore_n (lv' := [(3, .ref (1000 + i)), (0, .ref 1), (1, .int (nI i)), (2, .int (nI ff))]) dX6_meet_5 rfl (by decide) rfl ?_
  refine wp_aload_n dX6_meet_6 rfl 0 rfl ?_
  refine wp_ifnull dX6_meet_7 ?_
  refine wp_aload_n dX6_meet_10 rfl 0 rfl ?_
  refine wp_getI dX6_meet_11 flX6_92 rfl hk hl ?_
  refine wp_if_eq (tgt := 32) dX6_meet_14 (by decide) (fun c_1 => absurd c_1 hk1) (fun _ => ?_)
  refine wp_aload_n dX6_meet_17 rfl 0 rfl ?_
  refine wp_getI dX6_meet_18 flX6_92 rfl hk hl ?_
  refine wp_iconst (v := 1) dX6_meet_21 (by decide) ?_
  refine wp_icmp_eq (tgt := 32) dX6_meet_22 (by decide) (fun c_2 => absurd c_2 hk2) (fun _ => ?_)
  refine wp_aload_n dX6_meet_25 rfl 0 rfl ?_
  refine wp_getI dX6_meet_26 flX6_105 rfl hk hl ?_
  refine wp_pc (pc' := 29) rfl ?_
  refine wp_if_eq (tgt := 36) dX6_meet_29 (by decide) (fun _ => ?_) (fun c_3 => absurd hk3 c_3)
  refine wp_aload_n dX6_meet_36 rfl 1 rfl ?_
  refine wp_aload_n dX6_meet_37 rfl 0 rfl ?_
  refine wp_callV mX6_gather 1 [.ref (1000 + i)] [] (c := 6) dX6_meet_38 iX6_gather (fun _ => trivial) mlX6_194 imX6_gather seX6_gather (by decide) rfl rfl ⟨by decide, by decide⟩ rfl rfl (Nat.le_of_ble_eq_true rfl) (Nat.le_of_ble_eq_true rfl) (by decide) (by decide) ?_
  refine ct_gather nm i hr hM hi hself ?_
  show WP g mX6_meet 41 [(3, .ref (1000 + i)), (0, .ref 1), (1, .int (nI i)), (2, .int (nI ff))] [] _ 0 0 _
  refine wp_iload_n dX6_meet_41 rfl 3 rfl ?_
  refine wp_if_lt (tgt := 56) dX6_meet_42 (by decide) (fun c_4 => absurd c_4 (nI_pos (by omega))) (fun _ => ?_)
  refine wp_iload_n dX6_meet_45 rfl 3 rfl ?_
  refine wp_aload_n dX6_meet_46 rfl 1 rfl ?_
  refine wp_getP (b := 5) dX6_meet_47 flX6_44 rfl rfl (by rw [(gtH_k h i nm).1]; exact hr.1) (by rw [(gtH_k h i nm).2.1]; exact hr.2.2.2.2.2.2.2.2.1) ?_
  refine wv_getI (nI (gz h i nm)) dX6_meet_50 flX6_202 rfl rfl (by rw [(gtH_k h i nm).1]; exact hr.2.2.2.2.2.2.2.2.2.2.1) (gtH_k h i nm).2.2.2.2 ?_
  refine wp_icmp_lt (tgt := 60) dX6_meet_53 (by decide) (fun _ => ?_) (fun c_5 => absurd (nI_lt hf (by omega)) c_5)
  refine wp_aload_n dX6_meet_60 rfl 1 rfl ?_
  refine wp_getP (b := 5) dX6_meet_61 flX6_44 rfl rfl (by rw [(gtH_k h i nm).1]; exact hr.1) (by rw [(gtH_k h i nm).2.1]; exact hr.2.2.2.2.2.2.2.2.1) ?_
  refine wp_aload_n dX6_meet_64 rfl 1 rfl ?_
  refine wp_getP (b := 5) dX6_meet_65 flX6_44 rfl rfl (by rw [(gtH_k h i nm).1]; exact hr.1) (by rw [(gtH_k h i nm).2.1]; exact hr.2.2.2.2.2.2.2.2.1) ?_
  refine wp_pc (pc' := 68) rfl ?_
  refine wv_getI (nI (gz h i nm)) dX6_meet_68 flX6_202 rfl rfl (by rw [(gtH_k h i nm).1]; exact hr.2.2.2.2.2.2.2.2.2.2.1) (gtH_k h i nm).2.2.2.2 ?_
  refine wp_iload_n dX6_meet_71 rfl 3 rfl ?_
  refine wv_isub (nI (gz h i nm - ff)) (pk_sub (by omega)) dX6_meet_72 ?_
  refine wp_callV mX0_least 5 [.int (nI (gz h i nm - ff))] [] (c := 0) dX6_meet_73 iX0_least (fun _ => trivial) mlX6_209 imX0_least seX0_least (by decide) rfl rfl ⟨by decide, by decide⟩ rfl rfl (Nat.le_of_ble_eq_true rfl) (Nat.le_of_ble_eq_true rfl) (by decide) (by decide) ?_
  refine ct_least (gz h i nm) (gz10 hM hi hself) (GW_eq (gtH_k h i nm).1 (gtH_k h i nm).2.1 hr.2.2.2.2.2.2.2.2.2.2) (gtH_k h i nm).2.2.2.2 (nI (gz h i nm - ff)) ?_
  show WP g mX6_meet 76 [(3, .ref (1000 + i)), (0, .ref 1), (1, .int (nI i)), (2, .int (nI ff))] [.long (cLs h i nm ff)] _ 0 0 _
  refine wp_lstore (lv' := [(4, .long (cLs h i nm ff)), (3, .ref (1000 + i)), (0, .ref 1), (1, .int (nI i)), (2, .int (nI ff))]) dX6_meet_76 (by decide) rfl ?_
  refine wp_aload_n dX6_meet_78 rfl 2 rfl ?_
  refine wp_getP (b := 5) dX6_meet_79 flX6_44 rfl rfl (by rw [(gtH_k h i nm).1]; exact hr.1) (by rw [(gtH_k h i nm).2.1]; exact hr.2.2.2.2.2.2.2.2.1) ?_
  refine wp_aload_n dX6_meet_82 rfl 2 rfl ?_
  refine wp_getP (b := 5) dX6_meet_83 flX6_44 rfl rfl (by rw [(gtH_k h i nm).1]; exact hr.1) (by rw [(gtH_k h i nm).2.1]; exact hr.2.2.2.2.2.2.2.2.1) ?_
  refine wv_getI (nI (gz h i nm)) dX6_meet_86 flX6_202 rfl rfl (by rw [(gtH_k h i nm).1]; exact hr.2.2.2.2.2.2.2.2.2.2.1) (gtH_k h i nm).2.2.2.2 ?_
  refine wp_iload_n dX6_meet_89 rfl 4 rfl ?_
  refine wv_isub (nI (gz h i nm - ff)) (pk_sub (by omega)) dX6_meet_90 ?_
  refine wp_callV mX0_greatest 5 [.int (nI (gz h i nm - ff))] [] (c := 0) dX6_meet_91 iX0_greatest (fun _ => trivial) mlX6_213 imX0_greatest seX0_greatest (by decide) rfl rfl ⟨by decide, by decide⟩ rfl rfl (Nat.le_of_ble_eq_true rfl) (Nat.le_of_ble_eq_true rfl) (by decide) (by decide) ?_
  refine ct_greatest (gz h i nm) (gz10 hM hi hself) (GW_eq (gtH_k h i nm).1 (gtH_k h i nm).2.1 hr.2.2.2.2.2.2.2.2.2.2) (gtH_k h i nm).2.2.2.2 (nI (gz h i nm - ff)) ?_
  show WP g mX6_meet 94 [(4, .long (cLs h i nm ff)), (3, .ref (1000 + i)), (0, .ref 1), (1, .int (nI i)), (2, .int (nI ff))] [.long (cGr h i nm ff)] _ 0 0 _
  refine wp_lstore (lv' := [(6, .long (cGr h i nm ff)), (4, .long (cLs h i nm ff)), (3, .ref (1000 + i)), (0, .ref 1), (1, .int (nI i)), (2, .int (nI ff))]) dX6_meet_94 (by decide) rfl ?_
  refine wp_lload dX6_meet_96 1 rfl ?_
  refine wp_pc (pc' := 98) rfl ?_
  refine wp_ldc2 dX6_meet_98 cnX6_58 ?_
  refine wl_eq (tgt := 114) dX6_meet_101 dX6_meet_102 (by decide) (fun c_6 => ?_) (fun c_6 => ?_)
  · refine wp_ldc2 dX6_meet_114 cnX6_58 ?_
    refine wp_lret dX6_meet_117 rfl (by decide) (by decide) ?_
    exact hno (Or.inl c_6)
  · refine wp_lload dX6_meet_105 0 rfl ?_
    refine wp_ldc2 dX6_meet_107 cnX6_58 ?_
    refine wl_ne (tgt := 118) dX6_meet_110 dX6_meet_111 (by decide) (fun c_7 => ?_) (fun c_7 => ?_)
    · refine wp_aload_n dX6_meet_118 rfl 3 rfl ?_
      refine wp_getP (b := 5) dX6_meet_119 flX6_44 rfl rfl (by rw [(gtH_k h i nm).1]; exact hr.1) (by rw [(gtH_k h i nm).2.1]; exact hr.2.2.2.2.2.2.2.2.1) ?_
      refine wp_lload dX6_meet_122 1 rfl ?_
      refine wp_lload dX6_meet_124 0 rfl ?_
      refine wp_callV mX0_apartFrom 5 [.long (cLs h i nm ff), .long (cGr h i nm ff)] [] (c := 0) dX6_meet_126 iX0_apartFrom (fun _ => trivial) mlX6_216 imX0_apartFrom seX0_apartFrom (by decide) rfl rfl ⟨by decide, by decide⟩ rfl rfl (Nat.le_of_ble_eq_true rfl) (Nat.le_of_ble_eq_true rfl) (by decide) (by decide) ?_
      refine ct_apart (gz h i nm) (gz10 hM hi hself) (GW_eq (gtH_k h i nm).1 (gtH_k h i nm).2.1 hr.2.2.2.2.2.2.2.2.2.2) (gtH_k h i nm).2.2.2.2 (cLs h i nm ff) (cGr h i nm ff) ?_
      show WP g mX6_meet 129 [(6, .long (cGr h i nm ff)), (4, .long (cLs h i nm ff)), (3, .ref (1000 + i)), (0, .ref 1), (1, .int (nI i)), (2, .int (nI ff))] [.int (cAp h i nm ff)] _ 0 0 _
      refine wp_istore (lv' := [(8, .int (cAp h i nm ff)), (6, .long (cGr h i nm ff)), (4, .long (cLs h i nm ff)), (3, .ref (1000 + i)), (0, .ref 1), (1, .int (nI i)), (2, .int (nI ff))]) dX6_meet_129 (by decide) rfl ?_
      refine wp_aload_n dX6_meet_131 rfl 4 rfl ?_
      refine wp_iload dX6_meet_132 0 rfl ?_
      refine wp_callV mX6_noteMeeting 1 [.int (cAp h i nm ff)] [] (c := 6) dX6_meet_134 iX6_noteMeeting (fun _ => trivial) mlX6_220 imX6_noteMeeting seX6_noteMeeting (by decide) rfl rfl ⟨by decide, by decide⟩ rfl rfl (Nat.le_of_ble_eq_true rfl) (Nat.le_of_ble_eq_true rfl) (by decide) (by decide) ?_
      refine ct_note nm (gz h i nm) (cAp h i nm ff) (gwh h i nm) (SR_eq (gtH_k h i nm).1 (gtH_k h i nm).2.1 hr) hnm (by rw [(gtH_k h i nm).2.2.1 1 (by omega) (by omega)]; exact hc2) hgz (gtH_k h i nm).2.2.2.2 (fun k hk => gwh_ok hi hnm hk) (fun q hq => by rw [(gtH_k h i nm).2.1, (gtH_k h i nm).1, (gtH_k h i nm).2.2.1 _ (by omega) (by omega)]; obtain ⟨z1, z2, -, -, -, -, z3, -⟩ := hM.2.2.1 q hq; exact ⟨z1, z2, z3⟩) ?_
      show WP g mX6_meet 137 [(8, .int (cAp h i nm ff)), (6, .long (cGr h i nm ff)), (4, .long (cLs h i nm ff)), (3, .ref (1000 + i)), (0, .ref 1), (1, .int (nI i)), (2, .int (nI ff))] [] _ 0 0 _
      refine wp_aload_n dX6_meet_137 rfl 3 rfl ?_
      refine wp_callV mX2_forgetHeard (1000 + i) [] [] (c := 2) dX6_meet_138 iX2_forgetHeard (fun _ => trivial) mlX6_224 imX2_forgetHeard seX2_forgetHeard (by decide) rfl hk ⟨by decide, by decide⟩ rfl rfl (Nat.le_of_ble_eq_true rfl) (Nat.le_of_ble_eq_true rfl) (by decide) (by decide) ?_
      refine ct_forgetHeard (1000 + i) (3000 + i) hk (by rw [(ntH_k (gtH h i nm) (cAp h i nm ff) (gwh h i nm) (gz h i nm)).1, (gtH_k h i nm).1]; exact hl) (by rw [(ntH_k (gtH h i nm) (cAp h i nm ff) (gwh h i nm) (gz h i nm)).2.2.1, (gtH_k h i nm).2.1]; exact h9) hkr (by rw [(ntH_k (gtH h i nm) (cAp h i nm ff) (gwh h i nm) (gz h i nm)).1, (gtH_k h i nm).1]; exact hlr) (ln_arr (by omega)) (fun j b hj q => by rw [(ntH_k (gtH h i nm) (cAp h i nm ff) (gwh h i nm) (gz h i nm)).2.2.1, (gtH_k h i nm).2.1] at q; rw [(ntH_k (gtH h i nm) (cAp h i nm ff) (gwh h i nm) (gz h i nm)).1, (gtH_k h i nm).1]; exact ⟨by rw [(hbs j b hj q).1]; exact kd_hrd (by omega), (hbs j b hj q).2⟩) ?_
      show WP g mX6_meet 141 [(8, .int (cAp h i nm ff)), (6, .long (cGr h i nm ff)), (4, .long (cLs h i nm ff)), (3, .ref (1000 + i)), (0, .ref 1), (1, .int (nI i)), (2, .int (nI ff))] [] _ 0 0 _
      refine wp_aload_n dX6_meet_141 rfl 3 rfl ?_
      refine wv_getI (vI h (1000 + i) 1) dX6_meet_142 flX6_92 rfl hk (by rw [(fgt_k _ (3000 + i) 10).1, (ntH_k (gtH h i nm) (cAp h i nm ff) (gwh h i nm) (gz h i nm)).1, (gtH_k h i nm).1]; exact hl) (mt_I (by omega) (by omega) hbs) ?_
      refine wp_iconst (v := 3) dX6_meet_145 (by decide) ?_
      refine wp_pc (pc' := 146) rfl ?_
      refine wp_icmp_eq (tgt := 168) dX6_meet_146 (by decide) (fun c_8 => ?_) (fun c_8 => ?_)
      · refine wp_iload dX6_meet_168 0 rfl ?_
        refine wp_i2l dX6_meet_170 ?_
        refine wp_lret dX6_meet_171 rfl (by decide) (by decide) ?_
        have q := hyes c_6 c_7
        rw [show mtH h i nm ff = _ from if_pos c_8] at q
        exact q
      · refine wp_aload_n dX6_meet_149 rfl 3 rfl ?_
        refine wp_getP (b := 2000 + i) dX6_meet_150 flX6_227 rfl hk (by rw [(fgt_k _ (3000 + i) 10).1, (ntH_k (gtH h i nm) (cAp h i nm ff) (gwh h i nm) (gz h i nm)).1, (gtH_k h i nm).1]; exact hl) (by rw [(fgt_k _ (3000 + i) 10).2.2, (ntH_k (gtH h i nm) (cAp h i nm ff) (gwh h i nm) (gz h i nm)).2.2.1, (gtH_k h i nm).2.1]; exact ho) ?_
        refine wp_lload dX6_meet_153 2 rfl ?_
        refine wp_lload dX6_meet_155 1 rfl ?_
        refine wp_aload_n dX6_meet_157 rfl 3 rfl ?_
        refine wp_aload_n dX6_meet_158 rfl 4 rfl ?_
        refine wv_getL (vL h 1 0) dX6_meet_159 flX6_7 rfl rfl (by rw [(fgt_k _ (3000 + i) 10).1, (ntH_k (gtH h i nm) (cAp h i nm ff) (gwh h i nm) (gz h i nm)).1, (gtH_k h i nm).1]; exact hr.1) (mt_L (by omega) (by omega)) ?_
        refine wp_callV mX2_countedAt (1000 + i) [.long (vL h 1 0)] [.long (cGr h i nm ff), .long (cLs h i nm ff), .ref (2000 + i)] (c := 2) dX6_meet_162 iX2_countedAt (fun _ => trivial) mlX6_109 imX2_countedAt seX2_countedAt (by decide) rfl hk ⟨by decide, by decide⟩ rfl rfl (Nat.le_of_ble_eq_true rfl) (Nat.le_of_ble_eq_true rfl) (by decide) (by decide) ?_
        refine ct_countedAt (1000 + i) (vL h 1 0) hk (by rw [(fgt_k _ (3000 + i) 10).1, (ntH_k (gtH h i nm) (cAp h i nm ff) (gwh h i nm) (gz h i nm)).1, (gtH_k h i nm).1]; exact hl) ?_
        rw [show cCn (fgt _ (3000 + i) 10) (1000 + i) (vL h 1 0) = cCn h (1000 + i) (vL h 1 0) from mt_C hbs]
        show WP g mX6_meet 165 [(8, .int (cAp h i nm ff)), (6, .long (cGr h i nm ff)), (4, .long (cLs h i nm ff)), (3, .ref (1000 + i)), (0, .ref 1), (1, .int (nI i)), (2, .int (nI ff))] [.long (cCn h (1000 + i) (vL h 1 0)), .long (cGr h i nm ff), .long (cLs h i nm ff), .ref (2000 + i)] _ 0 0 _
        refine wp_callV mX4_put (2000 + i) [.long (cLs h i nm ff), .long (cGr h i nm ff), .long (cCn h (1000 + i) (vL h 1 0))] [] (c := 4) dX6_meet_165 iX4_put (fun _ => trivial) mlX6_231 imX4_put seX4_put (by decide) rfl hko ⟨by decide, by decide⟩ rfl rfl (Nat.le_of_ble_eq_true rfl) (Nat.le_of_ble_eq_true rfl) (by decide) (by decide) ?_
        refine ct_put (2000 + i) (cLs h i nm ff) (cGr h i nm ff) (cCn h (1000 + i) (vL h 1 0)) hko (by rw [(fgt_k _ (3000 + i) 10).1, (ntH_k (gtH h i nm) (cAp h i nm ff) (gwh h i nm) (gz h i nm)).1, (gtH_k h i nm).1]; exact hlo) ?_
        show WP g mX6_meet 168 [(8, .int (cAp h i nm ff)), (6, .long (cGr h i nm ff)), (4, .long (cLs h i nm ff)), (3, .ref (1000 + i)), (0, .ref 1), (1, .int (nI i)), (2, .int (nI ff))] [] _ 0 0 _
        refine wp_iload dX6_meet_168 0 rfl ?_
        refine wp_i2l dX6_meet_170 ?_
        refine wp_lret dX6_meet_171 rfl (by decide) (by decide) ?_
        have q := hyes c_6 c_7
        rw [show mtH h i nm ff = _ from if_neg c_8] at q
        exact q
    · refine wp_ldc2 dX6_meet_114 cnX6_58 ?_
      refine wp_lret dX6_meet_117 rfl (by decide) (by decide) ?_
      exact hno (Or.inr c_7)
