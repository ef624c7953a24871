/-! contracts: the class's Sorting: widening, rank -/
set_option maxRecDepth 100000 in
set_option maxHeartbeats 4000000 in
theorem lr_wd {g : GG} {h : HP} {Post : Option Value → HP → Prop} (ne nk : Nat) (fr to : Nat → Nat) (E : Nat → Nat → Prop) (hS : SO h ne nk fr to E) (hp : ∀ h', Al 10 h h' → vL h' 10 12 = wdN (vL h 16) (vL h 12) ne → Post none h') : ∀ (k n : Nat), n + k = ne → ∀ (h' : HP), Al 10 h h' → vL h' 10 12 = wdN (vL h 16) (vL h 12) n → WP g mX3_findWidening 7 [(0, .ref 10), (1, .int (nI n))] [] h' 0 0 Post := by
  intro k
  have hne := hS.2.2.1
  induction k with
  | zero =>
    intro n e0 h' hA hw
    refine wp_iload_n dX3_findWidening_7 rfl 1 rfl ?_
    refine wp_aload_n dX3_findWidening_8 rfl 0 rfl ?_
    refine wv_getI (nI ne) dX3_findWidening_9 flX3_40 rfl rfl (by (try simp only [liv_sI, liv_sL]); rw [hA.1]; exact hS.1.1) (by rw [hA.2.2.1]; exact hS.2.1) ?_
    refine wi_icmp_ge (tgt := 51) ((n : Nat)) ((ne : Nat)) (nIt (by omega)) (nIt (by omega)) dX3_findWidening_12 (by decide) (fun _ => ?_) (fun c_1 => absurd (by omega) c_1)
    refine wp_vret dX3_findWidening_51 rfl (by decide) (by decide) ?_
    obtain rfl : n = ne := by omega
    exact hp h' hA hw
  | succ k ih =>
    intro n e0 h' hA hw
    refine wp_iload_n dX3_findWidening_7 rfl 1 rfl ?_
    refine wp_aload_n dX3_findWidening_8 rfl 0 rfl ?_
    refine wv_getI (nI ne) dX3_findWidening_9 flX3_40 rfl rfl (by (try simp only [liv_sI, liv_sL]); rw [hA.1]; exact hS.1.1) (by rw [hA.2.2.1]; exact hS.2.1) ?_
    refine wi_icmp_ge (tgt := 51) ((n : Nat)) ((ne : Nat)) (nIt (by omega)) (nIt (by omega)) dX3_findWidening_12 (by decide) (fun c_1 => absurd c_1 (by omega)) (fun _ => ?_)
    refine wp_aload_n dX3_findWidening_15 rfl 0 rfl ?_
    refine wp_aload_n dX3_findWidening_16 rfl 0 rfl ?_
    refine wv_getL (wdN (vL h 16) (vL h 12) n) dX3_findWidening_17 flX3_66 rfl rfl (by (try simp only [liv_sI, liv_sL]); rw [hA.1]; exact hS.1.1) hw ?_
    refine wp_aload_n dX3_findWidening_20 rfl 0 rfl ?_
    refine wp_getP (b := 16) dX3_findWidening_21 flX3_28 rfl rfl (by (try simp only [liv_sI, liv_sL]); rw [hA.1]; exact hS.1.1) (by (try simp only [vP_sI, vP_sL]); rw [hA.2.1]; exact hS.1.2.2.2.2.2.2.2.1) ?_
    refine wp_iload_n dX3_findWidening_24 rfl 1 rfl ?_
    refine wv_lald n (vL h 16 n) dX3_findWidening_25 rfl (by (try simp only [liv_sI, liv_sL]); rw [hA.1]; exact hS.1.2.1.2.2.2.2.2.1) rfl (by show n < 30; omega) (by rw [hA.2.2.2 16 (by decide)]) ?_
    refine wp_aload_n dX3_findWidening_26 rfl 0 rfl ?_
    refine wp_getP (b := 12) dX3_findWidening_27 flX3_15 rfl rfl (by (try simp only [liv_sI, liv_sL]); rw [hA.1]; exact hS.1.1) (by (try simp only [vP_sI, vP_sL]); rw [hA.2.1]; exact hS.1.2.2.2.1) ?_
    refine wp_iload_n dX3_findWidening_30 rfl 1 rfl ?_
    refine wv_lald n (vL h 12 n) dX3_findWidening_31 rfl (by (try simp only [liv_sI, liv_sL]); rw [hA.1]; exact hS.1.2.1.2.1) rfl (by show n < 30; omega) (by rw [hA.2.2.2 12 (by decide)]) ?_
    refine wp_pc (pc' := 32) rfl ?_
    refine wp_lsub dX3_findWidening_32 ?_
    refine wp_ldc2 dX3_findWidening_33 cnX3_82 ?_
    refine wp_callSN mX6_ceilOf [.long ((vL h 16 n) - (vL h 12 n)), .long 2] [.long (wdN (vL h 16) (vL h 12) n), .ref 10] dX3_findWidening_36 iX6_ceilOf (fun _ => trivial) nlX3_84 stX6_ceilOf ⟨by decide, by decide⟩ rfl rfl (Nat.le_of_ble_eq_true rfl) (Nat.le_of_ble_eq_true rfl) (by decide) (by decide) ?_
    refine ct_ceilOf ((vL h 16 n) - (vL h 12 n)) 2  ?_
    show WP g mX3_findWidening 39 [(0, .ref 10), (1, .int (nI n))] [.long (ceiO ((vL h 16 n) - (vL h 12 n)) 2), .long (wdN (vL h 16) (vL h 12) n), .ref 10] _ 0 0 _
    refine wp_callS mJ9_max_f86c9 [.long (wdN (vL h 16) (vL h 12) n), .long (ceiO ((vL h 16 n) - (vL h 12 n)) 2)] [.ref 10] dX3_findWidening_39 iJ9_max_f86c9 (fun _ => trivial) mlX3_88 stJ9_max_f86c9 ⟨by decide, by decide⟩ rfl rfl (Nat.le_of_ble_eq_true rfl) (Nat.le_of_ble_eq_true rfl) (by decide) (by decide) ?_
    refine ct_max (wdN (vL h 16) (vL h 12) n) (ceiO ((vL h 16 n) - (vL h 12 n)) 2)  ?_
    show WP g mX3_findWidening 42 [(0, .ref 10), (1, .int (nI n))] [.long (mx64 (wdN (vL h 16) (vL h 12) n) (ceiO ((vL h 16 n) - (vL h 12 n)) 2)), .ref 10] _ 0 0 _
    refine wp_putL dX3_findWidening_42 flX3_66 (Or.inl rfl) rfl rfl (by (try simp only [liv_sI, liv_sL]); rw [hA.1]; exact hS.1.1) ?_
    refine wp_iinc (q := 1) (x := nI n) (v := nI (n + 1)) (lv' := [(1, .int (nI (n + 1))), (0, .ref 10)]) dX3_findWidening_45 rfl (nI_1 _) (by decide) rfl ?_
    refine wp_goto (tgt := 7) dX3_findWidening_48 (by decide) ?_
    refine wp_sub [1, 0] rfl ?_
    exact ih (n + 1) (by omega) _ (Al_put hA) vLs
set_option maxRecDepth 100000 in
set_option maxHeartbeats 4000000 in
theorem ct_findWidening {g : GG} {h : HP} {Post : Option Value → HP → Prop} (ne nk : Nat) (fr to : Nat → Nat) (E : Nat → Nat → Prop) (hS : SO h ne nk fr to E) (hp : ∀ h', Al 10 h h' → vL h' 10 12 = wdN (vL h 16) (vL h 12) ne → Post none h') : CT g mX3_findWidening [.ref 10] h Post := by
  show WP g mX3_findWidening 0 [(0, .ref 10)] [] h 0 0 Post
  refine wp_aload_n dX3_findWidening_0 rfl 0 rfl ?_
  refine wp_lconst (v := 0) dX3_findWidening_1 rfl ?_
  refine wp_putL dX3_findWidening_2 flX3_66 (Or.inl rfl) rfl rfl (by (try simp only [liv_sI, liv_sL]); rw [(Al_rf 10 h).1]; exact hS.1.1) ?_
  refine wp_iconst (v := 0) dX3_findWidening_5 (by decide) ?_
  refine wp_istore_n (lv' := [(1, .int 0), (0, .ref 10)]) dX3_findWidening_6 rfl (by decide) rfl ?_
  refine wp_sub [1, 0] rfl ?_
  exact lr_wd ne nk fr to E hS hp ne 0 (by omega) _ (Al_put (Al_rf 10 h)) vLs
def cntB (P : Nat → Bool) : Nat → Nat
  | 0 => 0
  | n + 1 => cntB P n + (if P n = true then 1 else 0)
theorem cntB_cg {P Q : Nat → Bool} : ∀ n, (∀ q, q < n → P q = Q q) → cntB P n = cntB Q n
  | 0, _ => rfl
  | n + 1, h => by unfold cntB; rw [cntB_cg n (fun q hq => h q (by omega)), h n (by omega)]
theorem cntB_ins (f : Nat → Bool) (v : Bool) (j : Nat) : ∀ n, j ≤ n → cntB (fun q => if q < j then f q else if q = j then v else f (q - 1)) (n + 1) = cntB f n + (if v = true then 1 else 0)
  | 0, hj => by
    have : j = 0 := by omega
    subst this
    simp [cntB]
  | n + 1, hj => by
    rw [show cntB (fun q => if q < j then f q else if q = j then v else f (q - 1)) (n + 1 + 1) = cntB (fun q => if q < j then f q else if q = j then v else f (q - 1)) (n + 1) + (if (if n + 1 < j then f (n + 1) else if n + 1 = j then v else f (n + 1 - 1)) = true then 1 else 0) from rfl]
    by_cases e : j = n + 1
    · subst e
      rw [cntB_cg (Q := f) (n + 1) (fun q hq => by simp only [hq, if_true])]
      simp
    · rw [cntB_ins f v j n (by omega), if_neg (show ¬ n + 1 < j by omega), if_neg (show ¬ n + 1 = j by omega)]
      show _ = cntB f n + (if f n = true then 1 else 0) + _
      rw [show n + 1 - 1 = n by omega]; omega
def lx (X : Nat → Int64) (a b : Nat) : Prop := (X a).toInt < (X b).toInt ∨ ((X a).toInt = (X b).toInt ∧ a < b)
/-- the first n places: the events below n, in order -/
def RkR (X : Nat → Int64) (n : Nat) (r : Nat → Nat) : Prop := (∀ j, j < n → r j < n) ∧ (∀ i j, i < j → j < n → lx X (r i) (r j)) ∧ ∀ P : Nat → Bool, cntB (fun j => P (r j)) n = cntB P n
def RkP (X : Nat → Int64) (n : Nat) (R : Nat → Int32) : Prop := ∃ r, RkR X n r ∧ ∀ j, j < n → R j = nI (r j)
def RkH (X : Nat → Int64) (n : Nat) (r : Nat → Nat) (j : Nat) (R : Nat → Int32) : Prop := j ≤ n ∧ (∀ q, q < j → R q = nI (r q)) ∧ ∀ q, j ≤ q → q < n → R (q + 1) = nI (r q) ∧ (X n).toInt < (X (r q)).toInt
theorem RkH_sh {X : Nat → Int64} {n : Nat} {r : Nat → Nat} {j : Nat} {R : Nat → Int32} (hH : RkH X n r (j + 1) R) (hc : (X n).toInt < (X (r j)).toInt) : RkH X n r j (fun q => if q = j + 1 then nI (r j) else R q) := by
  obtain ⟨h0, h1, h2⟩ := hH
  refine ⟨by omega, fun q hq => ?_, fun q h3 h4 => ?_⟩
  · show (if q = j + 1 then _ else _) = _
    rw [if_neg (by omega)]; exact h1 q (by omega)
  · show (if q + 1 = j + 1 then _ else _) = _ ∧ _
    rcases Nat.eq_or_lt_of_le h3 with z | z
    · subst z; rw [if_pos rfl]; exact ⟨rfl, hc⟩
    · rw [if_neg (by omega)]; exact h2 q (by omega) h4
theorem RkH_put {X : Nat → Int64} {n : Nat} {r : Nat → Nat} {j : Nat} {R : Nat → Int32} (hR : RkR X n r) (hH : RkH X n r j R) (hc : ∀ q, q < j → (X (r q)).toInt ≤ (X n).toInt) : RkP X (n + 1) (fun q => if q = j then nI n else R q) := by
  obtain ⟨h0, h1, h2⟩ := hH
  obtain ⟨r1, r2, r3⟩ := hR
  refine ⟨fun q => if q < j then r q else if q = j then n else r (q - 1), ⟨fun q hq => ?_, fun a b hab hbn => ?_, fun P => ?_⟩, fun q hq => ?_⟩
  · show (if q < j then r q else if q = j then n else r (q - 1)) < n + 1
    split
    · have := r1 q (by omega); omega
    · split
      · omega
      · have := r1 (q - 1) (by omega); omega
  · show lx X (if a < j then r a else if a = j then n else r (a - 1)) (if b < j then r b else if b = j then n else r (b - 1))
    rcases Nat.lt_trichotomy b j with hb | hb | hb
    · rw [if_pos (by omega), if_pos hb]; exact r2 a b hab (by omega)
    · rw [if_pos (by omega), if_neg (by omega), if_pos hb]
      have := hc a (by omega)
      have := r1 a (by omega)
      unfold lx; omega
    · rw [if_neg (show ¬ b < j by omega), if_neg (show ¬ b = j by omega)]
      have hb2 := (h2 (b - 1) (by omega) (by omega)).2
      rcases Nat.lt_trichotomy a j with ha | ha | ha
      · rw [if_pos ha]; exact r2 a (b - 1) (by omega) (by omega)
      · rw [if_neg (by omega), if_pos ha]; exact Or.inl hb2
      · rw [if_neg (by omega), if_neg (by omega)]; exact r2 (a - 1) (b - 1) (by omega) (by omega)
  · have e := cntB_ins (fun q => P (r q)) (P n) j n h0
    rw [cntB_cg (Q := fun q => if q < j then P (r q) else if q = j then P n else P (r (q - 1))) (n + 1) (fun q _ => by
      show P (if q < j then r q else if q = j then n else r (q - 1)) = _
      split
      · rfl
      · split <;> rfl), e, r3 P]
    rfl
  · show (if q = j then nI n else R q) = nI (if q < j then r q else if q = j then n else r (q - 1))
    rcases Nat.lt_trichotomy q j with hb | hb | hb
    · rw [if_neg (by omega), if_pos hb]; exact h1 q hb
    · rw [if_pos hb, if_neg (by omega), if_pos hb]
    · rw [if_neg (by omega), if_neg (by omega), if_neg (by omega)]
      obtain ⟨q', rfl⟩ : ∃ q', q = q' + 1 := ⟨q - 1, by omega⟩
      exact (h2 q' (by omega) (by omega)).1
set_option maxRecDepth 100000 in
set_option maxHeartbeats 4000000 in
theorem lr_rki {g : GG} {h : HP} {Post : Option Value → HP → Prop} (ne nk : Nat) (fr to : Nat → Nat) (E : Nat → Nat → Prop) (hS : SO h ne nk fr to E) (n : Nat) (hn : n < ne) (r : Nat → Nat) (hR : RkR (vL h 16) n r) (hnext : ∀ h1, Ai 17 h h1 → RkP (vL h 16) (n + 1) (vI h1 17) → WP g mX3_rank 2 [(0, .ref 10), (1, .int (nI (n + 1)))] [] h1 0 0 Post) : ∀ (j : Nat) (h' : HP), Ai 17 h h' → RkH (vL h 16) n r j (vI h' 17) → WP g mX3_rank 12 [(0, .ref 10), (1, .int (nI n)), (2, .int (nI j))] [] h' 0 0 Post := by
  intro j
  have hne := hS.2.2.1
  induction j with
  | zero =>
    intro h' hA hH
    refine wp_iload_n dX3_rank_12 rfl 2 rfl ?_
    refine wi_if_le (tgt := 59) (0) (by decide) dX3_rank_13 (by decide) (fun _ => ?_) (fun c_1 => absurd (by decide) c_1)
    refine wp_aload_n dX3_rank_59 rfl 0 rfl ?_
    refine wp_getP (b := 17) dX3_rank_60 flX3_31 rfl rfl (by (try simp only [liv_sI, liv_sL]); rw [hA.1]; exact hS.1.1) (by (try simp only [vP_sI, vP_sL]); rw [hA.2.1]; exact hS.1.2.2.2.2.2.2.2.2.1) ?_
    refine wp_iload_n dX3_rank_63 rfl 2 rfl ?_
    refine wp_iload_n dX3_rank_64 rfl 1 rfl ?_
    refine wv_iast 0 dX3_rank_65 rfl (by (try simp only [liv_sI, liv_sL]); rw [hA.1]; exact hS.1.2.1.2.2.2.2.2.2.1) rfl (by decide) ?_
    refine wp_iinc (q := 1) (x := nI n) (v := nI (n + 1)) (lv' := [(1, .int (nI (n + 1))), (0, .ref 10), (2, .int (nI 0))]) dX3_rank_66 rfl (nI_1 _) (by decide) rfl ?_
    refine wp_goto (tgt := 2) dX3_rank_69 (by decide) ?_
    refine wp_sub [1, 0] rfl ?_
    exact hnext _ (Ai_put hA) (by rw [vI_row]; exact RkH_put hR hH (fun q hq => absurd hq (Nat.not_lt_zero _)))
  | succ j ih =>
    intro h' hA hH
    have hjn := hH.1
    refine wp_iload_n dX3_rank_12 rfl 2 rfl ?_
    refine wi_if_le (tgt := 59) ((j + 1 : Nat)) (nIt (by omega)) dX3_rank_13 (by decide) (fun c_1 => absurd c_1 (by omega)) (fun _ => ?_)
    refine wp_aload_n dX3_rank_16 rfl 0 rfl ?_
    refine wp_getP (b := 16) dX3_rank_17 flX3_28 rfl rfl (by (try simp only [liv_sI, liv_sL]); rw [hA.1]; exact hS.1.1) (by (try simp only [vP_sI, vP_sL]); rw [hA.2.1]; exact hS.1.2.2.2.2.2.2.2.1) ?_
    refine wp_aload_n dX3_rank_20 rfl 0 rfl ?_
    refine wp_getP (b := 17) dX3_rank_21 flX3_31 rfl rfl (by (try simp only [liv_sI, liv_sL]); rw [hA.1]; exact hS.1.1) (by (try simp only [vP_sI, vP_sL]); rw [hA.2.1]; exact hS.1.2.2.2.2.2.2.2.2.1) ?_
    refine wp_iload_n dX3_rank_24 rfl 2 rfl ?_
    refine wp_iconst (v := 1) dX3_rank_25 (by decide) ?_
    refine wv_isub (nI j) (nI_pred _) dX3_rank_26 ?_
    refine wv_iald j (nI (r j)) dX3_rank_27 rfl (by (try simp only [liv_sI, liv_sL]); rw [hA.1]; exact hS.1.2.1.2.2.2.2.2.2.1) rfl (by show j < 30; omega) (hH.2.1 j (by omega)) ?_
    refine wv_lald (r j) (vL h 16 (r j)) dX3_rank_28 rfl (by (try simp only [liv_sI, liv_sL]); rw [hA.1]; exact hS.1.2.1.2.2.2.2.2.1) rfl (by have := hR.1 j (by omega); show r j < 30; omega) (by (try simp only [vL_sI]); rw [hA.2.2.1]) ?_
    refine wp_aload_n dX3_rank_29 rfl 0 rfl ?_
    refine wp_getP (b := 16) dX3_rank_30 flX3_28 rfl rfl (by (try simp only [liv_sI, liv_sL]); rw [hA.1]; exact hS.1.1) (by (try simp only [vP_sI, vP_sL]); rw [hA.2.1]; exact hS.1.2.2.2.2.2.2.2.1) ?_
    refine wp_iload_n dX3_rank_33 rfl 1 rfl ?_
    refine wv_lald n (vL h 16 n) dX3_rank_34 rfl (by (try simp only [liv_sI, liv_sL]); rw [hA.1]; exact hS.1.2.1.2.2.2.2.2.1) rfl (by show n < 30; omega) (by (try simp only [vL_sI]); rw [hA.2.2.1]) ?_
    refine wp_pc (pc' := 35) rfl ?_
    refine wil_le (tgt := 59) (Int64.toInt (vL h 16 (r j))) (Int64.toInt (vL h 16 n)) rfl rfl dX3_rank_35 dX3_rank_36 (by decide) (fun c_2 => ?_) (fun c_2 => ?_)
    · refine wp_aload_n dX3_rank_59 rfl 0 rfl ?_
      refine wp_getP (b := 17) dX3_rank_60 flX3_31 rfl rfl (by (try simp only [liv_sI, liv_sL]); rw [hA.1]; exact hS.1.1) (by (try simp only [vP_sI, vP_sL]); rw [hA.2.1]; exact hS.1.2.2.2.2.2.2.2.2.1) ?_
      refine wp_iload_n dX3_rank_63 rfl 2 rfl ?_
      refine wp_iload_n dX3_rank_64 rfl 1 rfl ?_
      refine wv_iast (j + 1) dX3_rank_65 rfl (by (try simp only [liv_sI, liv_sL]); rw [hA.1]; exact hS.1.2.1.2.2.2.2.2.2.1) rfl (by show j + 1 < 30; omega) ?_
      refine wp_iinc (q := 1) (x := nI n) (v := nI (n + 1)) (lv' := [(1, .int (nI (n + 1))), (0, .ref 10), (2, .int (nI (j + 1)))]) dX3_rank_66 rfl (nI_1 _) (by decide) rfl ?_
      refine wp_goto (tgt := 2) dX3_rank_69 (by decide) ?_
      refine wp_sub [1, 0] rfl ?_
      exact hnext _ (Ai_put hA) (by rw [vI_row]; exact RkH_put hR hH (fun q hq => by
        rcases Nat.lt_succ_iff_lt_or_eq.mp hq with z | z
        · have q1 := hR.2.1 q j z (by omega)
          unfold lx at q1; omega
        · subst z; omega))
    · refine wp_aload_n dX3_rank_39 rfl 0 rfl ?_
      refine wp_getP (b := 17) dX3_rank_40 flX3_31 rfl rfl (by (try simp only [liv_sI, liv_sL]); rw [hA.1]; exact hS.1.1) (by (try simp only [vP_sI, vP_sL]); rw [hA.2.1]; exact hS.1.2.2.2.2.2.2.2.2.1) ?_
      refine wp_iload_n dX3_rank_43 rfl 2 rfl ?_
      refine wp_aload_n dX3_rank_44 rfl 0 rfl ?_
      refine wp_getP (b := 17) dX3_rank_45 flX3_31 rfl rfl (by (try simp only [liv_sI, liv_sL]); rw [hA.1]; exact hS.1.1) (by (try simp only [vP_sI, vP_sL]); rw [hA.2.1]; exact hS.1.2.2.2.2.2.2.2.2.1) ?_
      refine wp_iload_n dX3_rank_48 rfl 2 rfl ?_
      refine wp_iconst (v := 1) dX3_rank_49 (by decide) ?_
      refine wv_isub (nI j) (nI_pred _) dX3_rank_50 ?_
      refine wv_iald j (nI (r j)) dX3_rank_51 rfl (by (try simp only [liv_sI, liv_sL]); rw [hA.1]; exact hS.1.2.1.2.2.2.2.2.2.1) rfl (by show j < 30; omega) (hH.2.1 j (by omega)) ?_
      refine wv_iast (j + 1) dX3_rank_52 rfl (by (try simp only [liv_sI, liv_sL]); rw [hA.1]; exact hS.1.2.1.2.2.2.2.2.2.1) rfl (by show j + 1 < 30; omega) ?_
      refine wp_iinc (q := 2) (x := nI (j + 1)) (v := nI j) (lv' := [(2, .int (nI j)), (0, .ref 10), (1, .int (nI n))]) dX3_rank_53 rfl (pk_m1 j) (by decide) rfl ?_
      refine wp_goto (tgt := 12) dX3_rank_56 (by decide) ?_
      refine wp_sub [1, 2, 0] rfl ?_
      exact ih _ (Ai_put hA) (by rw [vI_row]; exact RkH_sh hH (by omega))
set_option maxRecDepth 100000 in
set_option maxHeartbeats 4000000 in
theorem lr_rk {g : GG} {h : HP} {Post : Option Value → HP → Prop} (ne nk : Nat) (fr to : Nat → Nat) (E : Nat → Nat → Prop) (hS : SO h ne nk fr to E) (hp : ∀ h', Ai 17 h h' → RkP (vL h 16) ne (vI h' 17) → Post none h') : ∀ (k n : Nat), n + k = ne → ∀ (h' : HP), Ai 17 h h' → RkP (vL h 16) n (vI h' 17) → WP g mX3_rank 2 [(0, .ref 10), (1, .int (nI n))] [] h' 0 0 Post := by
  intro k
  have hne := hS.2.2.1
  induction k with
  | zero =>
    intro n e0 h' hA hR
    refine wp_iload_n dX3_rank_2 rfl 1 rfl ?_
    refine wp_aload_n dX3_rank_3 rfl 0 rfl ?_
    refine wv_getI (nI ne) dX3_rank_4 flX3_40 rfl rfl (by (try simp only [liv_sI, liv_sL]); rw [hA.1]; exact hS.1.1) (by rw [hA.2.2.2 10 (by decide)]; exact hS.2.1) ?_
    refine wi_icmp_ge (tgt := 72) ((n : Nat)) ((ne : Nat)) (nIt (by omega)) (nIt (by omega)) dX3_rank_7 (by decide) (fun _ => ?_) (fun c_1 => absurd (by omega) c_1)
    refine wp_vret dX3_rank_72 rfl (by decide) (by decide) ?_
    obtain rfl : n = ne := by omega
    exact hp h' hA hR
  | succ k ih =>
    intro n e0 h' hA hR
    refine wp_iload_n dX3_rank_2 rfl 1 rfl ?_
    refine wp_aload_n dX3_rank_3 rfl 0 rfl ?_
    refine wv_getI (nI ne) dX3_rank_4 flX3_40 rfl rfl (by (try simp only [liv_sI, liv_sL]); rw [hA.1]; exact hS.1.1) (by rw [hA.2.2.2 10 (by decide)]; exact hS.2.1) ?_
    refine wi_icmp_ge (tgt := 72) ((n : Nat)) ((ne : Nat)) (nIt (by omega)) (nIt (by omega)) dX3_rank_7 (by decide) (fun c_1 => absurd c_1 (by omega)) (fun _ => ?_)
    refine wp_iload_n dX3_rank_10 rfl 1 rfl ?_
    refine wp_istore_n (lv' := [(2, .int (nI n)), (0, .ref 10), (1, .int (nI n))]) dX3_rank_11 rfl (by decide) rfl ?_
    refine wp_sub [1, 2, 0] rfl ?_
    obtain ⟨r, hr1, hr2⟩ := hR
    exact lr_rki ne nk fr to E hS n (by omega) r hr1 (fun h1 a b => ih (n + 1) (by omega) h1 a b) n h' hA ⟨Nat.le_refl n, fun q hq => hr2 q hq, fun q a b => absurd a (by omega)⟩
set_option maxRecDepth 100000 in
set_option maxHeartbeats 4000000 in
theorem ct_rank {g : GG} {h : HP} {Post : Option Value → HP → Prop} (ne nk : Nat) (fr to : Nat → Nat) (E : Nat → Nat → Prop) (hS : SO h ne nk fr to E) (hp : ∀ h', Ai 17 h h' → RkP (vL h 16) ne (vI h' 17) → Post none h') : CT g mX3_rank [.ref 10] h Post := by
  show WP g mX3_rank 0 [(0, .ref 10)] [] h 0 0 Post
  refine wp_iconst (v := 0) dX3_rank_0 (by decide) ?_
  refine wp_istore_n (lv' := [(1, .int 0), (0, .ref 10)]) dX3_rank_1 rfl (by decide) rfl ?_
  refine wp_sub [1, 0] rfl ?_
  exact lr_rk ne nk fr to E hS hp ne 0 (by omega) h (Ai_rf 17 h) ⟨fun _ => 0, ⟨fun _ z => absurd z (Nat.not_lt_zero _), fun _ _ _ z => absurd z (Nat.not_lt_zero _), fun _ => rfl⟩, fun _ z => absurd z (Nat.not_lt_zero _)⟩
