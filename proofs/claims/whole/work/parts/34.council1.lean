/-! contracts: the model's findCouncil -/
def AG (h h' : HP) : Prop := liv h' = liv h ∧ vP h' = vP h ∧ (∀ a, a ≠ 100 → vI h' a = vI h a) ∧ (∀ k, k ≠ 45 → vI h' 100 k = vI h 100 k) ∧ (∀ a, a ≠ 100 → a ≠ 145 → vL h' a = vL h a) ∧ (∀ k, k ≠ 46 → k ≠ 47 → k ≠ 48 → vL h' 100 k = vL h 100 k)
theorem AG_rf (h : HP) : AG h h := ⟨rfl, rfl, fun _ _ => rfl, fun _ _ => rfl, fun _ _ _ => rfl, fun _ _ _ _ => rfl⟩
theorem AG_pt {h h' : HP} {j : Nat} {v : Int64} (hA : AG h h') : AG h (sL h' 145 j v) := by
  obtain ⟨h1, h2, h3, h4, h5, h6⟩ := hA
  exact ⟨h1, h2, h3, h4, fun a q1 q2 => by rw [vLn q2]; exact h5 a q1 q2, fun k q1 q2 q3 => by rw [vLn (by decide)]; exact h6 k q1 q2 q3⟩
theorem AG_45 {h h' : HP} {v : Int32} (hA : AG h h') : AG h (sI h' 100 45 v) := by
  obtain ⟨h1, h2, h3, h4, h5, h6⟩ := hA
  exact ⟨h1, h2, fun a q => by rw [vIn q]; exact h3 a q, fun k q => by rw [vIj q]; exact h4 k q, h5, h6⟩
theorem AG_46 {h h' : HP} {v : Int64} {j : Nat} (hj : j = 46 ∨ j = 47 ∨ j = 48) (hA : AG h h') : AG h (sL h' 100 j v) := by
  obtain ⟨h1, h2, h3, h4, h5, h6⟩ := hA
  exact ⟨h1, h2, h3, h4, fun a q1 q2 => by rw [vLn q1]; exact h5 a q1 q2, fun k q1 q2 q3 => by rw [vLj (by omega)]; exact h6 k q1 q2 q3⟩
def vlP (L H : Nat → Int64) (s k : Nat) : Int64 := if k < s then L k else H (k - s) + 1
/-- the first n points: sorted, and just the first n ends -/
def Pts (L H : Nat → Int64) (s : Nat) (P : Nat → Int64) (n : Nat) : Prop := (∀ a b, a < b → b < n → P a ≤ P b) ∧ (∀ a, a < n → ∃ k, k < n ∧ P a = vlP L H s k) ∧ (∀ k, k < n → ∃ a, a < n ∧ P a = vlP L H s k)
theorem Pts_0 {L H : Nat → Int64} {s : Nat} {P : Nat → Int64} : Pts L H s P 0 := ⟨fun _ _ _ h => absurd h (Nat.not_lt_zero _), fun _ h => absurd h (Nat.not_lt_zero _), fun _ h => absurd h (Nat.not_lt_zero _)⟩
def Hol (P0 : Nat → Int64) (v : Int64) (n j : Nat) (P : Nat → Int64) : Prop := j ≤ n ∧ (∀ q, q < j → P q = P0 q) ∧ (∀ q, j ≤ q → q < n → P (q + 1) = P0 q ∧ v < P0 q)
theorem Hol_put {L H : Nat → Int64} {s : Nat} {P0 P : Nat → Int64} {v : Int64} {n j : Nat} (hv : v = vlP L H s n) (hP : Pts L H s P0 n) (hh : Hol P0 v n j P) (hj : ∀ q, q < j → P0 q ≤ v) {P1 : Nat → Int64} (e : P1 = fun q => if q = j then v else P q) : Pts L H s P1 (n + 1) := by
  obtain ⟨h0, h1, h2⟩ := hh
  obtain ⟨s1, s2, s3⟩ := hP
  have lo : ∀ q, q < j → P1 q = P0 q := fun q hq => by rw [e]; show (if q = j then v else P q) = _; rw [if_neg (by omega)]; exact h1 q hq
  have at' : P1 j = v := by rw [e]; show (if j = j then v else P j) = _; rw [if_pos rfl]
  have hi : ∀ q, j ≤ q → q < n → P1 (q + 1) = P0 q ∧ v < P0 q := fun q a b => ⟨by rw [e]; show (if q + 1 = j then v else P (q + 1)) = _; rw [if_neg (by omega)]; exact (h2 q a b).1, (h2 q a b).2⟩
  refine ⟨fun a b hab hb => ?_, fun a ha => ?_, fun k hk => ?_⟩
  · rcases Nat.lt_trichotomy b j with hbj | hbj | hbj
    · rw [lo a (by omega), lo b hbj]; exact s1 a b hab (by omega)
    · subst hbj; rw [at', lo a hab]; exact hj a hab
    · obtain ⟨b', rfl⟩ : ∃ b', b = b' + 1 := ⟨b - 1, by omega⟩
      have hb2 := hi b' (by omega) (by omega)
      rcases Nat.lt_trichotomy a j with haj | haj | haj
      · rw [lo a haj, hb2.1]
        exact Int64.le_trans (hj a haj) (Int64.le_of_lt hb2.2)
      · subst haj; rw [at', hb2.1]; exact Int64.le_of_lt hb2.2
      · obtain ⟨a', rfl⟩ : ∃ a', a = a' + 1 := ⟨a - 1, by omega⟩
        rw [(hi a' (by omega) (by omega)).1, hb2.1]; exact s1 a' b' (by omega) (by omega)
  · rcases Nat.lt_trichotomy a j with haj | haj | haj
    · obtain ⟨k, hk, ek⟩ := s2 a (by omega); exact ⟨k, by omega, by rw [lo a haj]; exact ek⟩
    · subst haj; exact ⟨n, by omega, by rw [at']; exact hv⟩
    · obtain ⟨a', rfl⟩ : ∃ a', a = a' + 1 := ⟨a - 1, by omega⟩
      obtain ⟨k, hk, ek⟩ := s2 a' (by omega); exact ⟨k, by omega, by rw [(hi a' (by omega) (by omega)).1]; exact ek⟩
  · rcases Nat.lt_succ_iff_lt_or_eq.mp hk with hk | hk
    · obtain ⟨a, ha, ea⟩ := s3 k hk
      rcases Nat.lt_or_ge a j with haj | haj
      · exact ⟨a, by omega, by rw [lo a haj]; exact ea⟩
      · exact ⟨a + 1, by omega, by rw [(hi a haj ha).1]; exact ea⟩
    · subst hk; exact ⟨j, by omega, by rw [at']; exact hv⟩
theorem vL_row (h : HP) (a k : Nat) (v : Int64) : vL (sL h a k v) a = fun q => if q = k then v else vL h a q := up2_row _ _ _ _
theorem up2_j_row {h : HP} {j k : Nat} {v : Int64} (hj : k ≠ j) : vL (sL h 145 j v) 145 k = vL h 145 k := vLj hj
theorem up2_at_row {h : HP} {j : Nat} {v : Int64} : vL (sL h 145 j v) 145 j = v := vLs
set_option maxRecDepth 100000 in
set_option maxHeartbeats 4000000 in
theorem lf_in {g : GG} {h : HP} {Post : Option Value → HP → Prop} (s ff : Nat) (hs1 : 1 ≤ s) (hs : s ≤ 10) (hW : MW h) (hc40 : vI h 100 40 = nI s) (n : Nat) (v : Int64) (P0 : Nat → Int64) (hn : n < 2 * s) (hv : v = vlP (vL h 143) (vL h 144) s n) (hP : Pts (vL h 143) (vL h 144) s P0 n) (hnext : ∀ h1, AG h h1 → Pts (vL h 143) (vL h 144) s (vL h1 145) (n + 1) → vL h1 100 = vL h 100 → WP g mX7_findCouncil 4 [(0, .ref 100), (1, .int (nI ff)), (2, .int (nI (n + 1))), (3, .int (nI (n + 1)))] [] h1 0 0 Post) : ∀ (j : Nat) (h' : HP), AG h h' → Hol P0 v n j (vL h' 145) → vL h' 100 = vL h 100 → WP g mX7_findCouncil 49 [(0, .ref 100), (1, .int (nI ff)), (2, .int (nI n)), (3, .int (nI n)), (4, .long v), (6, .int (nI j))] [] h' 0 0 Post := by
  intro j
  induction j with
  | zero =>
    intro h' hA hh h00
    refine wp_iload dX7_findCouncil_49 5 rfl ?_
    refine wp_if_le (tgt := 91) dX7_findCouncil_51 (by decide) (fun _ => ?_) (fun c_1 => absurd (by decide) c_1)
    refine wp_aload_n dX7_findCouncil_91 rfl 0 rfl ?_
    refine wp_getP (b := 145) dX7_findCouncil_92 flX7_123 rfl rfl (by (try simp only [liv_sI, liv_sL]); rw [hA.1]; exact hW.1) (by (try simp only [vP_sI, vP_sL]); rw [hA.2.1]; exact (hW.2 44 rfl).2) ?_
    refine wp_iload dX7_findCouncil_95 5 rfl ?_
    refine wp_lload dX7_findCouncil_97 4 rfl ?_
    refine wv_last 0 dX7_findCouncil_99 rfl (by (try simp only [liv_sI, liv_sL]); rw [hA.1]; exact (hW.2 44 rfl).1) rfl (by decide) ?_
    refine wp_iinc (q := 2) (x := nI n) (v := nI (n + 1)) (lv' := [(2, .int (nI (n + 1))), (0, .ref 100), (1, .int (nI ff)), (3, .int (nI n)), (4, .long v), (6, .int (nI 0))]) dX7_findCouncil_100 rfl (nI_1 _) (by decide) rfl ?_
    refine wp_iinc (q := 3) (x := nI n) (v := nI (n + 1)) (lv' := [(3, .int (nI (n + 1))), (2, .int (nI (n + 1))), (0, .ref 100), (1, .int (nI ff)), (4, .long v), (6, .int (nI 0))]) dX7_findCouncil_103 rfl (nI_1 _) (by decide) rfl ?_
    refine wp_goto (tgt := 4) dX7_findCouncil_106 (by decide) ?_
    refine wp_sub [2, 3, 1, 0] rfl ?_
    exact hnext _ (AG_pt hA) (Hol_put hv hP hh (fun q hq => absurd hq (Nat.not_lt_zero q)) (vL_row _ _ _ _)) (by rw [vLn (by decide)]; exact h00)
  | succ j ih =>
    intro h' hA hh h00
    have hjn := hh.1
    refine wp_iload dX7_findCouncil_49 5 rfl ?_
    refine wp_if_le (tgt := 91) dX7_findCouncil_51 (by decide) (fun c_1 => absurd c_1 (nI_nle (by omega) (by omega))) (fun _ => ?_)
    refine wp_aload_n dX7_findCouncil_54 rfl 0 rfl ?_
    refine wp_getP (b := 145) dX7_findCouncil_55 flX7_123 rfl rfl (by (try simp only [liv_sI, liv_sL]); rw [hA.1]; exact hW.1) (by (try simp only [vP_sI, vP_sL]); rw [hA.2.1]; exact (hW.2 44 rfl).2) ?_
    refine wp_iload dX7_findCouncil_58 5 rfl ?_
    refine wp_iconst (v := 1) dX7_findCouncil_60 (by decide) ?_
    refine wv_isub (nI j) (nI_pred _) dX7_findCouncil_61 ?_
    refine wv_lald j (vL h' 145 j) dX7_findCouncil_62 rfl (by (try simp only [liv_sI, liv_sL]); rw [hA.1]; exact (hW.2 44 rfl).1) rfl (by show j < 20; omega) rfl ?_
    refine wp_lload dX7_findCouncil_63 4 rfl ?_
    refine wl_le (tgt := 91) dX7_findCouncil_65 dX7_findCouncil_66 (by decide) (fun c_2 => ?_) (fun c_2 => ?_)
    · refine wp_aload_n dX7_findCouncil_91 rfl 0 rfl ?_
      refine wp_getP (b := 145) dX7_findCouncil_92 flX7_123 rfl rfl (by (try simp only [liv_sI, liv_sL]); rw [hA.1]; exact hW.1) (by (try simp only [vP_sI, vP_sL]); rw [hA.2.1]; exact (hW.2 44 rfl).2) ?_
      refine wp_iload dX7_findCouncil_95 5 rfl ?_
      refine wp_lload dX7_findCouncil_97 4 rfl ?_
      refine wv_last (j + 1) dX7_findCouncil_99 rfl (by (try simp only [liv_sI, liv_sL]); rw [hA.1]; exact (hW.2 44 rfl).1) rfl (by show j + 1 < 20; omega) ?_
      refine wp_iinc (q := 2) (x := nI n) (v := nI (n + 1)) (lv' := [(2, .int (nI (n + 1))), (0, .ref 100), (1, .int (nI ff)), (3, .int (nI n)), (4, .long v), (6, .int (nI (j + 1)))]) dX7_findCouncil_100 rfl (nI_1 _) (by decide) rfl ?_
      refine wp_iinc (q := 3) (x := nI n) (v := nI (n + 1)) (lv' := [(3, .int (nI (n + 1))), (2, .int (nI (n + 1))), (0, .ref 100), (1, .int (nI ff)), (4, .long v), (6, .int (nI (j + 1)))]) dX7_findCouncil_103 rfl (nI_1 _) (by decide) rfl ?_
      refine wp_goto (tgt := 4) dX7_findCouncil_106 (by decide) ?_
      refine wp_sub [2, 3, 1, 0] rfl ?_
      have hle : P0 j ≤ v := by rw [← hh.2.1 j (by omega)]; exact c_2
      exact hnext _ (AG_pt hA) (Hol_put hv hP hh (fun q hq => (Nat.lt_succ_iff_lt_or_eq.mp hq).elim (fun z => Int64.le_trans (hP.1 q j z (by have := hh.1; omega)) hle) (fun z => by rw [z]; exact hle)) (vL_row _ _ _ _)) (by rw [vLn (by decide)]; exact h00)
    · refine wp_aload_n dX7_findCouncil_69 rfl 0 rfl ?_
      refine wp_getP (b := 145) dX7_findCouncil_70 flX7_123 rfl rfl (by (try simp only [liv_sI, liv_sL]); rw [hA.1]; exact hW.1) (by (try simp only [vP_sI, vP_sL]); rw [hA.2.1]; exact (hW.2 44 rfl).2) ?_
      refine wp_iload dX7_findCouncil_73 5 rfl ?_
      refine wp_aload_n dX7_findCouncil_75 rfl 0 rfl ?_
      refine wp_getP (b := 145) dX7_findCouncil_76 flX7_123 rfl rfl (by (try simp only [liv_sI, liv_sL]); rw [hA.1]; exact hW.1) (by (try simp only [vP_sI, vP_sL]); rw [hA.2.1]; exact (hW.2 44 rfl).2) ?_
      refine wp_iload dX7_findCouncil_79 5 rfl ?_
      refine wp_iconst (v := 1) dX7_findCouncil_81 (by decide) ?_
      refine wv_isub (nI j) (nI_pred _) dX7_findCouncil_82 ?_
      refine wv_lald j (vL h' 145 j) dX7_findCouncil_83 rfl (by (try simp only [liv_sI, liv_sL]); rw [hA.1]; exact (hW.2 44 rfl).1) rfl (by show j < 20; omega) rfl ?_
      refine wv_last (j + 1) dX7_findCouncil_84 rfl (by (try simp only [liv_sI, liv_sL]); rw [hA.1]; exact (hW.2 44 rfl).1) rfl (by show j + 1 < 20; omega) ?_
      refine wp_iinc (q := 5) (x := nI (j + 1)) (v := nI j) (lv' := [(6, .int (nI j)), (0, .ref 100), (1, .int (nI ff)), (2, .int (nI n)), (3, .int (nI n)), (4, .long v)]) dX7_findCouncil_85 rfl (pk_m1 j) (by decide) rfl ?_
      refine wp_goto (tgt := 49) dX7_findCouncil_88 (by decide) ?_
      refine wp_sub [1, 2, 3, 4, 5, 0] rfl ?_
      refine ih _ (AG_pt hA) ⟨by have := hh.1; omega, fun q hq => ?_, fun q hq hq2 => ?_⟩ (by rw [vLn (by decide)]; exact h00)
      · rw [up2_j_row (by omega)]; exact hh.2.1 q (by omega)
      · rcases Nat.eq_or_lt_of_le hq with z | z
        · subst z; rw [up2_at_row, hh.2.1 j (by omega)]; exact ⟨rfl, by rw [← hh.2.1 j (by omega)]; exact Int64.not_le.mp c_2⟩
        · rw [up2_j_row (by omega)]; exact hh.2.2 q (by omega) hq2
set_option maxRecDepth 100000 in
set_option maxHeartbeats 4000000 in
theorem lf_out {g : GG} {h : HP} {Post : Option Value → HP → Prop} (s ff : Nat) (hs1 : 1 ≤ s) (hs : s ≤ 10) (hW : MW h) (hc40 : vI h 100 40 = nI s) (hnext : ∀ h1, AG h h1 → Pts (vL h 143) (vL h 144) s (vL h1 145) (2 * s) → vL h1 100 = vL h 100 → WP g mX7_findCouncil 109 [(0, .ref 100), (1, .int (nI ff)), (2, .int (nI (2 * s)))] [] h1 0 0 Post) : ∀ (k n : Nat), n + k = 2 * s → ∀ (h' : HP), AG h h' → Pts (vL h 143) (vL h 144) s (vL h' 145) n → vL h' 100 = vL h 100 → WP g mX7_findCouncil 4 [(0, .ref 100), (1, .int (nI ff)), (2, .int (nI n)), (3, .int (nI n))] [] h' 0 0 Post := by
  intro k
  induction k with
  | zero =>
    intro n e0 h' hA hP h00
    refine wp_iload_n dX7_findCouncil_4 rfl 3 rfl ?_
    refine wp_iconst (v := 2) dX7_findCouncil_5 (by decide) ?_
    refine wp_aload_n dX7_findCouncil_6 rfl 0 rfl ?_
    refine wv_getI (nI s) dX7_findCouncil_7 flX7_212 rfl rfl (by (try simp only [liv_sI, liv_sL]); rw [hA.1]; exact hW.1) (by rw [hA.2.2.2.1 40 (by decide)]; exact hc40) ?_
    refine wv_imul (nI (2 * s)) (wN_mul rfl rfl) dX7_findCouncil_10 ?_
    refine wi_icmp_ge (tgt := 109) ((n : Nat)) ((2 * s : Nat)) (nIt (by omega)) (nIt (by omega)) dX7_findCouncil_11 (by decide) (fun _ => ?_) (fun c_1 => absurd (by omega) c_1)
    refine wp_sub [0, 1, 2] rfl ?_
    obtain rfl : n = 2 * s := by omega
    exact hnext h' hA hP h00
  | succ k ih =>
    intro n e0 h' hA hP h00
    refine wp_iload_n dX7_findCouncil_4 rfl 3 rfl ?_
    refine wp_iconst (v := 2) dX7_findCouncil_5 (by decide) ?_
    refine wp_aload_n dX7_findCouncil_6 rfl 0 rfl ?_
    refine wv_getI (nI s) dX7_findCouncil_7 flX7_212 rfl rfl (by (try simp only [liv_sI, liv_sL]); rw [hA.1]; exact hW.1) (by rw [hA.2.2.2.1 40 (by decide)]; exact hc40) ?_
    refine wv_imul (nI (2 * s)) (wN_mul rfl rfl) dX7_findCouncil_10 ?_
    refine wi_icmp_ge (tgt := 109) ((n : Nat)) ((2 * s : Nat)) (nIt (by omega)) (nIt (by omega)) dX7_findCouncil_11 (by decide) (fun c_1 => absurd c_1 (by omega)) (fun _ => ?_)
    refine wp_iload_n dX7_findCouncil_14 rfl 3 rfl ?_
    refine wp_aload_n dX7_findCouncil_15 rfl 0 rfl ?_
    refine wv_getI (nI s) dX7_findCouncil_16 flX7_212 rfl rfl (by (try simp only [liv_sI, liv_sL]); rw [hA.1]; exact hW.1) (by rw [hA.2.2.2.1 40 (by decide)]; exact hc40) ?_
    refine wi_icmp_ge (tgt := 31) ((n : Nat)) ((s : Nat)) (nIt (by omega)) (nIt (by omega)) dX7_findCouncil_19 (by decide) (fun c_2 => ?_) (fun c_2 => ?_)
    · refine wp_aload_n dX7_findCouncil_31 rfl 0 rfl ?_
      refine wp_getP (b := 144) dX7_findCouncil_32 flX7_120 rfl rfl (by (try simp only [liv_sI, liv_sL]); rw [hA.1]; exact hW.1) (by (try simp only [vP_sI, vP_sL]); rw [hA.2.1]; exact (hW.2 43 rfl).2) ?_
      refine wp_iload_n dX7_findCouncil_35 rfl 3 rfl ?_
      refine wp_aload_n dX7_findCouncil_36 rfl 0 rfl ?_
      refine wv_getI (nI s) dX7_findCouncil_37 flX7_212 rfl rfl (by (try simp only [liv_sI, liv_sL]); rw [hA.1]; exact hW.1) (by rw [hA.2.2.2.1 40 (by decide)]; exact hc40) ?_
      refine wv_isub (nI (n - s)) (pk_sub (by omega)) dX7_findCouncil_40 ?_
      refine wv_lald (n - s) (vL h 144 (n - s)) dX7_findCouncil_41 rfl (by (try simp only [liv_sI, liv_sL]); rw [hA.1]; exact (hW.2 43 rfl).1) rfl (by show n - s < 10; omega) (by rw [hA.2.2.2.2.1 144 (by decide) (by decide)]) ?_
      refine wp_lconst (v := 1) dX7_findCouncil_42 rfl ?_
      refine wp_ladd dX7_findCouncil_43 ?_
      refine wp_lstore (lv' := [(4, .long ((vL h 144 (n - s)) + 1)), (0, .ref 100), (1, .int (nI ff)), (2, .int (nI n)), (3, .int (nI n))]) dX7_findCouncil_44 (by decide) rfl ?_
      refine wp_iload_n dX7_findCouncil_46 rfl 3 rfl ?_
      refine wp_istore (lv' := [(6, .int (nI n)), (4, .long ((vL h 144 (n - s)) + 1)), (0, .ref 100), (1, .int (nI ff)), (2, .int (nI n)), (3, .int (nI n))]) dX7_findCouncil_47 (by decide) rfl ?_
      refine wp_sub [2, 3, 4, 5, 1, 0] rfl ?_
      exact lf_in s ff hs1 hs hW hc40 n _ (vL h' 145) (by omega) (by unfold vlP; rw [if_neg (by omega)]) hP (fun h1 a b c => ih (n + 1) (by omega) h1 a b c) n h' hA ⟨Nat.le_refl n, fun q _ => rfl, fun q a b => absurd a (by omega)⟩ h00
    · refine wp_aload_n dX7_findCouncil_22 rfl 0 rfl ?_
      refine wp_getP (b := 143) dX7_findCouncil_23 flX7_117 rfl rfl (by (try simp only [liv_sI, liv_sL]); rw [hA.1]; exact hW.1) (by (try simp only [vP_sI, vP_sL]); rw [hA.2.1]; exact (hW.2 42 rfl).2) ?_
      refine wp_iload_n dX7_findCouncil_26 rfl 3 rfl ?_
      refine wv_lald n (vL h 143 n) dX7_findCouncil_27 rfl (by (try simp only [liv_sI, liv_sL]); rw [hA.1]; exact (hW.2 42 rfl).1) rfl (by show n < 10; omega) (by rw [hA.2.2.2.2.1 143 (by decide) (by decide)]) ?_
      refine wp_goto (tgt := 44) dX7_findCouncil_28 (by decide) ?_
      refine wp_lstore (lv' := [(4, .long (vL h 143 n)), (0, .ref 100), (1, .int (nI ff)), (2, .int (nI n)), (3, .int (nI n))]) dX7_findCouncil_44 (by decide) rfl ?_
      refine wp_iload_n dX7_findCouncil_46 rfl 3 rfl ?_
      refine wp_istore (lv' := [(6, .int (nI n)), (4, .long (vL h 143 n)), (0, .ref 100), (1, .int (nI ff)), (2, .int (nI n)), (3, .int (nI n))]) dX7_findCouncil_47 (by decide) rfl ?_
      refine wp_sub [2, 3, 4, 5, 1, 0] rfl ?_
      exact lf_in s ff hs1 hs hW hc40 n _ (vL h' 145) (by omega) (by unfold vlP; rw [if_pos (by omega)]) hP (fun h1 a b c => ih (n + 1) (by omega) h1 a b c) n h' hA ⟨Nat.le_refl n, fun q _ => rfl, fun q a b => absurd a (by omega)⟩ h00
