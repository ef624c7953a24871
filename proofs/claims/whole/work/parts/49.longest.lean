/-! contracts: the model's findLongest and mend -/
def ML (h : HP) (ne : Nat) (E : Nat → Nat → Prop) : Prop := MW h ∧ vI h 100 35 = nI ne ∧ ne ≤ 30 ∧ (∀ a b, E a b → a < ne ∧ b < ne) ∧ ∀ a b, a < ne → b < ne → ((vI h 140 (30 * a + b)).toInt = 0 ↔ ¬ E a b)
theorem ML_ai {a : Nat} {h h' : HP} {ne : Nat} {E : Nat → Nat → Prop} (ha : 141 ≤ a) (hM : ML h ne E) (hA : Ai a h h') : ML h' ne E := ⟨MW_eq hA.1 hA.2.1 hM.1, by rw [hA.2.2.2 100 (by omega)]; exact hM.2.1, hM.2.2.1, hM.2.2.2.1, by rw [hA.2.2.2 140 (by omega)]; exact hM.2.2.2.2⟩
theorem ML_al {a : Nat} {h h' : HP} {ne : Nat} {E : Nat → Nat → Prop} (hM : ML h ne E) (hA : Al a h h') : ML h' ne E := ⟨MW_eq hA.1 hA.2.1 hM.1, by rw [hA.2.2.1]; exact hM.2.1, hM.2.2.1, hM.2.2.2.1, by rw [hA.2.2.1]; exact hM.2.2.2.2⟩
def xr (h : HP) (a : Nat) : Nat → Int := fun b => (vI h 150 (30 * a + b)).toInt
theorem xr_put {h : HP} {a j : Nat} {v : Int32} : xr (sI h 150 (30 * a + j) v) a = fun b => if b = j then v.toInt else xr h a b := by
  funext b
  unfold xr
  rw [vI_row]
  show (if 30 * a + b = 30 * a + j then v else vI h 150 (30 * a + b)).toInt = _
  by_cases e : b = j
  · rw [if_pos e, if_pos (by omega)]
  · rw [if_neg e, if_neg (by omega)]
theorem xr_put' {h : HP} {a a' j b : Nat} {v : Int32} (ha : a' < a) (hb : b < 30) : xr (sI h 150 (30 * a + j) v) a' b = xr h a' b := by
  unfold xr; rw [vIj (by omega)]
def LSat (E : Nat → Nat → Prop) (X : Nat → Int) : Prop := ∀ e g, E e g → 0 ≤ X e → X e + 1 ≤ X g
def JL (E : Nat → Nat → Prop) (ne a : Nat) (B : Int) (X X' : Nat → Int) (e n : Nat) (v : Int32) : Prop := (v = 0 ∧ X' = X ∨ v = 1 ∧ ¬ LSat E X) ∧ (∀ b, X b ≤ X' b) ∧ (∀ b, b < ne → X' b ≤ B + 30 * e + n) ∧ (∀ b, b < ne → LAtt E a b (X' b)) ∧ ∀ e' g', E e' g' → (e' < e ∨ e' = e ∧ g' < n) → 0 ≤ X e' → X e' + 1 ≤ X' g'
theorem JL_no {E : Nat → Nat → Prop} {ne a : Nat} {B : Int} {X X' : Nat → Int} {e n : Nat} {v : Int32} (h : JL E ne a B X X' e n v) (hc : 0 ≤ X' e → E e n → X' e + 1 ≤ X' n) : JL E ne a B X X' e (n + 1) v := by
  obtain ⟨h1, h2, h3, h4, h5⟩ := h
  refine ⟨h1, h2, fun b hb => by have := h3 b hb; omega, h4, fun e' g' hE hl h0 => ?_⟩
  rcases hl with z | ⟨z1, z2⟩
  · exact h5 e' g' hE (Or.inl z) h0
  · rcases Nat.lt_succ_iff_lt_or_eq.mp z2 with y | y
    · exact h5 e' g' hE (Or.inr ⟨z1, y⟩) h0
    · subst y; subst z1
      have := h2 e'
      have := hc (by omega) hE
      omega
theorem JL_yes {E : Nat → Nat → Prop} {ne a : Nat} {B : Int} {X X' : Nat → Int} {e n : Nat} {v : Int32} {w : Int} (hb : ∀ a b, E a b → a < ne ∧ b < ne) (hw : w = X' e + 1) (h : JL E ne a B X X' e n v) (h0 : 0 ≤ X' e) (hE : E e n) (hc : X' n < X' e + 1) : JL E ne a B X (fun b => if b = n then w else X' b) e (n + 1) 1 := by
  obtain ⟨h1, h2, h3, h4, h5⟩ := h
  subst hw
  have hge : ∀ b, X' b ≤ (if b = n then X' e + 1 else X' b) := by intro b; split <;> (try rename_i q; rw [q]) <;> omega
  refine ⟨Or.inr ⟨rfl, fun hs => ?_⟩, fun b => Int.le_trans (h2 b) (hge b), fun b hbn => ?_, fun b hbn => ?_, fun e' g' hE' hl h0' => ?_⟩
  · rcases h1 with ⟨_, z⟩ | ⟨_, z⟩
    · rw [z] at h0 hc; have := hs e n hE h0; omega
    · exact z hs
  · show (if b = n then X' e + 1 else X' b) ≤ _
    have := h3 e (hb _ _ hE).1
    have := h3 b hbn
    split <;> omega
  · show LAtt E a b (if b = n then X' e + 1 else X' b)
    split
    · rename_i q
      rcases h4 e (hb _ _ hE).1 with z | ⟨k, z1, z2⟩
      · omega
      · exact Or.inr ⟨k + 1, by omega, by rw [q]; exact Pth_snoc z2 hE⟩
    · exact h4 b hbn
  · show X e' + 1 ≤ (if g' = n then X' e + 1 else X' g')
    rcases hl with z | ⟨z1, z2⟩
    · exact Int.le_trans (h5 e' g' hE' (Or.inl z) h0') (hge g')
    · rcases Nat.lt_succ_iff_lt_or_eq.mp z2 with y | y
      · exact Int.le_trans (h5 e' g' hE' (Or.inr ⟨z1, y⟩) h0') (hge g')
      · rw [if_pos y, z1]; have := h2 e; omega
theorem JL_row {E : Nat → Nat → Prop} {ne a : Nat} {B : Int} {X X' : Nat → Int} {e : Nat} {v : Int32} (hb : ∀ a b, E a b → a < ne ∧ b < ne) (hne : ne ≤ 30) (h : JL E ne a B X X' e ne v) : JL E ne a B X X' (e + 1) 0 v := by
  obtain ⟨h1, h2, h3, h4, h5⟩ := h
  refine ⟨h1, h2, fun b hbn => by have := h3 b hbn; omega, h4, fun e' g' hE hl h0 => h5 e' g' hE ?_ h0⟩
  have := (hb _ _ hE).2
  omega
def QL (E : Nat → Nat → Prop) (ne a r : Nat) (X : Nat → Int) (v : Int32) : Prop := (∀ b, b < ne → LAtt E a b (X b)) ∧ 0 ≤ X a ∧ (∀ b, b < ne → X b ≤ 900 * r) ∧ (v = 0 ∧ LSat E X ∨ v = 1 ∧ (∀ n b, n ≤ r → Pth E n a b → (n : Int) ≤ X b) ∧ (r = ne + 1 → cyc E))
theorem QL_in {E : Nat → Nat → Prop} {ne a r : Nat} {X : Nat → Int} {v : Int32} (h : QL E ne a r X v) : JL E ne a (900 * r) X X 0 0 0 := ⟨Or.inl ⟨rfl, rfl⟩, fun _ => Int.le_refl _, fun b hb => by have := h.2.2.1 b hb; omega, h.1, fun _ _ _ hl => by omega⟩
theorem QL_st {E : Nat → Nat → Prop} {ne a r : Nat} {X X' : Nat → Int} {v v' : Int32} (hb : ∀ a b, E a b → a < ne ∧ b < ne) (hne : ne ≤ 30) (ha : a < ne) (hr : r ≤ ne) (hv : ¬ v = 0) (h : QL E ne a r X v) (hJ : JL E ne a (900 * r) X X' ne 0 v') : QL E ne a (r + 1) X' v' := by
  obtain ⟨k1, k2, k3, k4⟩ := h
  obtain ⟨j1, j2, j3, j4, j5⟩ := hJ
  refine ⟨j4, Int.le_trans k2 (j2 a), fun b hbn => by have := j3 b hbn; omega, ?_⟩
  rcases k4 with ⟨z, _⟩ | ⟨_, hc, _⟩
  · exact absurd z hv
  rcases j1 with ⟨a1, a2⟩ | ⟨a1, a2⟩
  · refine Or.inl ⟨a1, fun e g hE h0 => ?_⟩
    rw [a2] at h0 ⊢
    have := j5 e g hE (Or.inl (hb _ _ hE).1) h0
    rw [a2] at this
    exact this
  · refine Or.inr ⟨a1, fun n b hn hp => ?_, fun e => ?_⟩
    · cases n with
      | zero => rw [← show a = b from hp]; have := j2 a; omega
      | succ n =>
        obtain ⟨c, q1, q2⟩ := Pth_last hp
        have r1 := hc n c (by omega) q1
        have := j5 c b q2 (Or.inl (hb _ _ q2).1) (by omega)
        omega
    · apply Classical.byContradiction
      intro hcy
      apply a2
      intro e' g hE h0
      rcases k1 e' (hb _ _ hE).1 with z | ⟨n, z1, z2⟩
      · omega
      · have hp := Pth_snoc z2 hE
        have := hc (n + 1) g (by have := Pth_short hb hcy hp ha; omega) hp
        omega
theorem QL_0 {E : Nat → Nat → Prop} {ne a : Nat} {X : Nat → Int} (ha : a < ne) (h : ∀ b, b < ne → X b = if b = a then 0 else -1) : QL E ne a 0 X 1 := by
  refine ⟨fun b hb => ?_, by rw [h a ha, if_pos rfl]; omega, fun b hb => by rw [h b hb]; split <;> omega, Or.inr ⟨rfl, fun n b hn hp => ?_, fun e => by omega⟩⟩
  · rw [h b hb]
    split
    · rename_i e; exact Or.inr ⟨0, rfl, e.symm⟩
    · exact Or.inl rfl
  · have : n = 0 := by omega
    subst this
    rw [← show a = b from hp, h a ha, if_pos rfl]; omega
/-- the rows below n are done -/
def LoN (E : Nat → Nat → Prop) (ne : Nat) (h : HP) (n : Nat) : Prop := ∀ a b, a < n → b < ne → Lo E a b (xr h a b)
theorem LoN_put {E : Nat → Nat → Prop} {ne : Nat} {h : HP} {a j : Nat} {v : Int32} (hne : ne ≤ 30) (hL : LoN E ne h a) : LoN E ne (sI h 150 (30 * a + j) v) a := fun a' b h1 h2 => by rw [xr_put' h1 (by omega)]; exact hL a' b h1 h2
set_option maxRecDepth 100000 in
set_option maxHeartbeats 4000000 in
theorem lo_g {g : GG} {h : HP} {Post : Option Value → HP → Prop} (ne : Nat) (E : Nat → Nat → Prop) (hM : ML h ne E) (a : Nat) (ha : a < ne) (r : Nat) (hr : r ≤ ne) (X : Nat → Int) (e : Nat) (he : e < ne) (hnext : ∀ h1 v, Ai 150 h h1 → LoN E ne h1 a → JL E ne a (900 * r) X (xr h1 a) (e + 1) 0 v → WP g mX7_findLongest 70 [(0, .ref 100), (1, .int (nI a)), (2, .int v), (3, .int (nI r)), (4, .int (nI (e + 1)))] [] h1 0 0 Post) : ∀ (k n : Nat), n + k = ne → ∀ (h' : HP) (v : Int32), Ai 150 h h' → LoN E ne h' a → JL E ne a (900 * r) X (xr h' a) e n v → WP g mX7_findLongest 82 [(0, .ref 100), (1, .int (nI a)), (2, .int v), (3, .int (nI r)), (4, .int (nI e)), (5, .int (nI n))] [] h' 0 0 Post := by
  intro k
  have hne := hM.2.2.1
  have hb := hM.2.2.2.1
  induction k with
  | zero =>
    intro n e0 h' v hA hL hJ
    refine wp_iload dX7_findLongest_82 5 rfl ?_
    refine wp_aload_n dX7_findLongest_84 rfl 0 rfl ?_
    refine wv_getI (nI ne) dX7_findLongest_85 flX7_246 rfl rfl (by (try simp only [liv_sI, liv_sL]); rw [hA.1]; exact hM.1.1) (by rw [hA.2.2.2 100 (by decide)]; exact hM.2.1) ?_
    refine wi_icmp_ge (tgt := 169) ((n : Nat)) ((ne : Nat)) (nIt (by omega)) (nIt (by omega)) dX7_findLongest_88 (by decide) (fun _ => ?_) (fun c_1 => absurd (by omega) c_1)
    refine wp_iinc (q := 4) (x := nI e) (v := nI (e + 1)) (lv' := [(4, .int (nI (e + 1))), (0, .ref 100), (1, .int (nI a)), (2, .int v), (3, .int (nI r)), (5, .int (nI n))]) dX7_findLongest_169 rfl (nI_1 _) (by decide) rfl ?_
    refine wp_goto (tgt := 70) dX7_findLongest_172 (by decide) ?_
    refine wp_sub [1, 2, 3, 4, 0] rfl ?_
    obtain rfl : n = ne := by omega
    exact hnext h' v hA hL (JL_row hb hne hJ)
  | succ k ih =>
    intro n e0 h' v hA hL hJ
    have hby : (vI h' 150 (30 * a + e) + 1).toInt = (vI h' 150 (30 * a + e)).toInt + 1 := I_add1 (by have q : (vI h' 150 (30 * a + e)).toInt ≤ _ := hJ.2.2.1 e he; omega)
    refine wp_iload dX7_findLongest_82 5 rfl ?_
    refine wp_aload_n dX7_findLongest_84 rfl 0 rfl ?_
    refine wv_getI (nI ne) dX7_findLongest_85 flX7_246 rfl rfl (by (try simp only [liv_sI, liv_sL]); rw [hA.1]; exact hM.1.1) (by rw [hA.2.2.2 100 (by decide)]; exact hM.2.1) ?_
    refine wi_icmp_ge (tgt := 169) ((n : Nat)) ((ne : Nat)) (nIt (by omega)) (nIt (by omega)) dX7_findLongest_88 (by decide) (fun c_1 => absurd c_1 (by omega)) (fun _ => ?_)
    refine wp_aload_n dX7_findLongest_91 rfl 0 rfl ?_
    refine wp_getP (b := 150) dX7_findLongest_92 flX7_126 rfl rfl (by (try simp only [liv_sI, liv_sL]); rw [hA.1]; exact hM.1.1) (by (try simp only [vP_sI, vP_sL]); rw [hA.2.1]; exact (hM.1.2 49 rfl).2) ?_
    refine wp_bipush (v := 30) dX7_findLongest_95 (by decide) ?_
    refine wp_iload_n dX7_findLongest_97 rfl 1 rfl ?_
    refine wv_imul (nI (30 * a)) (wN_mul rfl rfl) dX7_findLongest_98 ?_
    refine wp_iload dX7_findLongest_99 4 rfl ?_
    refine wv_iadd (nI ((30 * a) + e)) (wN_add rfl rfl) dX7_findLongest_101 ?_
    refine wv_iald (30 * a + e) (vI h' 150 (30 * a + e)) dX7_findLongest_102 rfl (by (try simp only [liv_sI, liv_sL]); rw [hA.1]; exact (hM.1.2 49 rfl).1) rfl (by show 30 * a + e < 900; omega) rfl ?_
    refine wp_istore (lv' := [(6, .int (vI h' 150 (30 * a + e))), (0, .ref 100), (1, .int (nI a)), (2, .int v), (3, .int (nI r)), (4, .int (nI e)), (5, .int (nI n))]) dX7_findLongest_103 (by decide) rfl ?_
    refine wp_iload dX7_findLongest_105 0 rfl ?_
    refine wi_if_lt (tgt := 163) (Int32.toInt (vI h' 150 (30 * a + e))) rfl dX7_findLongest_107 (by decide) (fun c_2 => ?_) (fun c_2 => ?_)
    · refine wp_iinc (q := 6) (x := nI n) (v := nI (n + 1)) (lv' := [(5, .int (nI (n + 1))), (6, .int (vI h' 150 (30 * a + e))), (0, .ref 100), (1, .int (nI a)), (2, .int v), (3, .int (nI r)), (4, .int (nI e))]) dX7_findLongest_163 rfl (nI_1 _) (by decide) rfl ?_
      refine wp_goto (tgt := 82) dX7_findLongest_166 (by decide) ?_
      refine wp_sub [2, 3, 4, 5, 6, 0] rfl ?_
      exact ih (n + 1) (by omega) h' v hA hL (JL_no hJ (fun y _ => absurd y (by show ¬ 0 ≤ (vI h' 150 (30 * a + e)).toInt; omega)))
    · refine wp_aload_n dX7_findLongest_110 rfl 1 rfl ?_
      refine wp_getP (b := 140) dX7_findLongest_111 flX7_111 rfl rfl (by (try simp only [liv_sI, liv_sL]); rw [hA.1]; exact hM.1.1) (by (try simp only [vP_sI, vP_sL]); rw [hA.2.1]; exact (hM.1.2 39 rfl).2) ?_
      refine wp_bipush (v := 30) dX7_findLongest_114 (by decide) ?_
      refine wp_iload dX7_findLongest_116 5 rfl ?_
      refine wv_imul (nI (30 * e)) (wN_mul rfl rfl) dX7_findLongest_118 ?_
      refine wp_iload dX7_findLongest_119 6 rfl ?_
      refine wv_iadd (nI ((30 * e) + n)) (wN_add rfl rfl) dX7_findLongest_121 ?_
      refine wv_bald (30 * e + n) (vI h 140 (30 * e + n)) dX7_findLongest_122 rfl (by (try simp only [liv_sI, liv_sL]); rw [hA.1]; exact (hM.1.2 39 rfl).1) rfl (by show 30 * e + n < 900; omega) (by rw [hA.2.2.2 140 (by decide)]) ?_
      refine wi_if_eq (tgt := 163) (Int32.toInt (vI h 140 (30 * e + n))) rfl dX7_findLongest_123 (by decide) (fun c_3 => ?_) (fun c_3 => ?_)
      · refine wp_iinc (q := 6) (x := nI n) (v := nI (n + 1)) (lv' := [(5, .int (nI (n + 1))), (6, .int (vI h' 150 (30 * a + e))), (0, .ref 100), (1, .int (nI a)), (2, .int v), (3, .int (nI r)), (4, .int (nI e))]) dX7_findLongest_163 rfl (nI_1 _) (by decide) rfl ?_
        refine wp_goto (tgt := 82) dX7_findLongest_166 (by decide) ?_
        refine wp_sub [2, 3, 4, 5, 6, 0] rfl ?_
        exact ih (n + 1) (by omega) h' v hA hL (JL_no hJ (fun _ y => absurd y ((hM.2.2.2.2 e n (by omega) (by omega)).mp c_3)))
      · refine wp_iload dX7_findLongest_126 0 rfl ?_
        refine wp_iconst (v := 1) dX7_findLongest_128 (by decide) ?_
        refine wp_iadd dX7_findLongest_129 ?_
        refine wp_aload_n dX7_findLongest_130 rfl 1 rfl ?_
        refine wp_getP (b := 150) dX7_findLongest_131 flX7_126 rfl rfl (by (try simp only [liv_sI, liv_sL]); rw [hA.1]; exact hM.1.1) (by (try simp only [vP_sI, vP_sL]); rw [hA.2.1]; exact (hM.1.2 49 rfl).2) ?_
        refine wp_bipush (v := 30) dX7_findLongest_134 (by decide) ?_
        refine wp_iload_n dX7_findLongest_136 rfl 2 rfl ?_
        refine wv_imul (nI (30 * a)) (wN_mul rfl rfl) dX7_findLongest_137 ?_
        refine wp_iload dX7_findLongest_138 6 rfl ?_
        refine wv_iadd (nI ((30 * a) + n)) (wN_add rfl rfl) dX7_findLongest_140 ?_
        refine wv_iald (30 * a + n) (vI h' 150 (30 * a + n)) dX7_findLongest_141 rfl (by (try simp only [liv_sI, liv_sL]); rw [hA.1]; exact (hM.1.2 49 rfl).1) rfl (by show 30 * a + n < 900; omega) rfl ?_
        refine wi_icmp_le (tgt := 163) ((vI h' 150 (30 * a + e)).toInt + 1) (Int32.toInt (vI h' 150 (30 * a + n))) hby rfl dX7_findLongest_142 (by decide) (fun c_4 => ?_) (fun c_4 => ?_)
        · refine wp_iinc (q := 6) (x := nI n) (v := nI (n + 1)) (lv' := [(5, .int (nI (n + 1))), (6, .int (vI h' 150 (30 * a + e))), (0, .ref 100), (1, .int (nI a)), (2, .int v), (3, .int (nI r)), (4, .int (nI e))]) dX7_findLongest_163 rfl (nI_1 _) (by decide) rfl ?_
          refine wp_goto (tgt := 82) dX7_findLongest_166 (by decide) ?_
          refine wp_sub [2, 3, 4, 5, 6, 0] rfl ?_
          exact ih (n + 1) (by omega) h' v hA hL (JL_no hJ (fun _ _ => by have := hby; show (vI h' 150 (30 * a + e)).toInt + 1 ≤ (vI h' 150 (30 * a + n)).toInt; omega))
        · refine wp_aload_n dX7_findLongest_145 rfl 1 rfl ?_
          refine wp_getP (b := 150) dX7_findLongest_146 flX7_126 rfl rfl (by (try simp only [liv_sI, liv_sL]); rw [hA.1]; exact hM.1.1) (by (try simp only [vP_sI, vP_sL]); rw [hA.2.1]; exact (hM.1.2 49 rfl).2) ?_
          refine wp_bipush (v := 30) dX7_findLongest_149 (by decide) ?_
          refine wp_iload_n dX7_findLongest_151 rfl 2 rfl ?_
          refine wv_imul (nI (30 * a)) (wN_mul rfl rfl) dX7_findLongest_152 ?_
          refine wp_iload dX7_findLongest_153 6 rfl ?_
          refine wv_iadd (nI ((30 * a) + n)) (wN_add rfl rfl) dX7_findLongest_155 ?_
          refine wp_iload dX7_findLongest_156 0 rfl ?_
          refine wp_iconst (v := 1) dX7_findLongest_158 (by decide) ?_
          refine wp_iadd dX7_findLongest_159 ?_
          refine wv_iast (30 * a + n) dX7_findLongest_160 rfl (by (try simp only [liv_sI, liv_sL]); rw [hA.1]; exact (hM.1.2 49 rfl).1) rfl (by show 30 * a + n < 900; omega) ?_
          refine wp_iconst (v := 1) dX7_findLongest_161 (by decide) ?_
          refine wp_istore_n (lv' := [(2, .int 1), (6, .int (vI h' 150 (30 * a + e))), (0, .ref 100), (1, .int (nI a)), (3, .int (nI r)), (4, .int (nI e)), (5, .int (nI n))]) dX7_findLongest_162 rfl (by decide) rfl ?_
          refine wp_iinc (q := 6) (x := nI n) (v := nI (n + 1)) (lv' := [(5, .int (nI (n + 1))), (2, .int 1), (6, .int (vI h' 150 (30 * a + e))), (0, .ref 100), (1, .int (nI a)), (3, .int (nI r)), (4, .int (nI e))]) dX7_findLongest_163 rfl (nI_1 _) (by decide) rfl ?_
          refine wp_pc (pc' := 166) rfl ?_
          refine wp_goto (tgt := 82) dX7_findLongest_166 (by decide) ?_
          refine wp_sub [3, 4, 1, 5, 6, 0] rfl ?_
          exact ih (n + 1) (by omega) _ 1 (Ai_put hA) (LoN_put hne hL) (by rw [xr_put]; exact JL_yes hb (by rw [hby]; rfl) hJ (by show 0 ≤ (vI h' 150 (30 * a + e)).toInt; omega) (Classical.byContradiction (fun z => c_3 ((hM.2.2.2.2 e n (by omega) (by omega)).mpr z))) (by show (vI h' 150 (30 * a + n)).toInt < (vI h' 150 (30 * a + e)).toInt + 1; omega))
set_option maxRecDepth 100000 in
set_option maxHeartbeats 4000000 in
theorem lo_e {g : GG} {h : HP} {Post : Option Value → HP → Prop} (ne : Nat) (E : Nat → Nat → Prop) (hM : ML h ne E) (a : Nat) (ha : a < ne) (r : Nat) (hr : r ≤ ne) (X : Nat → Int) (hnext : ∀ h1 v, Ai 150 h h1 → LoN E ne h1 a → JL E ne a (900 * r) X (xr h1 a) ne 0 v → WP g mX7_findLongest 51 [(0, .ref 100), (1, .int (nI a)), (2, .int v), (3, .int (nI (r + 1)))] [] h1 0 0 Post) : ∀ (k n : Nat), n + k = ne → ∀ (h' : HP) (v : Int32), Ai 150 h h' → LoN E ne h' a → JL E ne a (900 * r) X (xr h' a) n 0 v → WP g mX7_findLongest 70 [(0, .ref 100), (1, .int (nI a)), (2, .int v), (3, .int (nI r)), (4, .int (nI n))] [] h' 0 0 Post := by
  intro k
  have hne := hM.2.2.1
  induction k with
  | zero =>
    intro n e0 h' v hA hL hJ
    refine wp_iload dX7_findLongest_70 4 rfl ?_
    refine wp_aload_n dX7_findLongest_72 rfl 0 rfl ?_
    refine wv_getI (nI ne) dX7_findLongest_73 flX7_246 rfl rfl (by (try simp only [liv_sI, liv_sL]); rw [hA.1]; exact hM.1.1) (by rw [hA.2.2.2 100 (by decide)]; exact hM.2.1) ?_
    refine wi_icmp_ge (tgt := 175) ((n : Nat)) ((ne : Nat)) (nIt (by omega)) (nIt (by omega)) dX7_findLongest_76 (by decide) (fun _ => ?_) (fun c_1 => absurd (by omega) c_1)
    refine wp_iinc (q := 3) (x := nI r) (v := nI (r + 1)) (lv' := [(3, .int (nI (r + 1))), (0, .ref 100), (1, .int (nI a)), (2, .int v), (4, .int (nI n))]) dX7_findLongest_175 rfl (nI_1 _) (by decide) rfl ?_
    refine wp_goto (tgt := 51) dX7_findLongest_178 (by decide) ?_
    refine wp_sub [1, 2, 3, 0] rfl ?_
    obtain rfl : n = ne := by omega
    exact hnext h' v hA hL hJ
  | succ k ih =>
    intro n e0 h' v hA hL hJ
    refine wp_iload dX7_findLongest_70 4 rfl ?_
    refine wp_aload_n dX7_findLongest_72 rfl 0 rfl ?_
    refine wv_getI (nI ne) dX7_findLongest_73 flX7_246 rfl rfl (by (try simp only [liv_sI, liv_sL]); rw [hA.1]; exact hM.1.1) (by rw [hA.2.2.2 100 (by decide)]; exact hM.2.1) ?_
    refine wi_icmp_ge (tgt := 175) ((n : Nat)) ((ne : Nat)) (nIt (by omega)) (nIt (by omega)) dX7_findLongest_76 (by decide) (fun c_1 => absurd c_1 (by omega)) (fun _ => ?_)
    refine wp_iconst (v := 0) dX7_findLongest_79 (by decide) ?_
    refine wp_istore (lv' := [(5, .int 0), (0, .ref 100), (1, .int (nI a)), (2, .int v), (3, .int (nI r)), (4, .int (nI n))]) dX7_findLongest_80 (by decide) rfl ?_
    refine wp_sub [1, 2, 3, 4, 5, 0] rfl ?_
    exact lo_g ne E hM a ha r hr X n (by omega) (fun h1 v1 q1 q2 q3 => ih (n + 1) (by omega) h1 v1 q1 q2 q3) ne 0 (by omega) h' v hA hL hJ
set_option maxRecDepth 100000 in
set_option maxHeartbeats 4000000 in
theorem lo_r {g : GG} {h : HP} {Post : Option Value → HP → Prop} (ne : Nat) (E : Nat → Nat → Prop) (hM : ML h ne E) (a : Nat) (ha : a < ne) (hnext : ∀ h1, Ai 150 h h1 → LoN E ne h1 (a + 1) → WP g mX7_findLongest 2 [(0, .ref 100), (1, .int (nI (a + 1)))] [] h1 0 0 Post) (hp0 : ∀ h', Ai 150 h h' → cyc E → Post (some (.int 0)) h') : ∀ (k n : Nat), n + k = ne + 1 → ∀ (h' : HP) (v : Int32), Ai 150 h h' → LoN E ne h' a → QL E ne a n (xr h' a) v → WP g mX7_findLongest 51 [(0, .ref 100), (1, .int (nI a)), (2, .int v), (3, .int (nI n))] [] h' 0 0 Post := by
  intro k
  have hne := hM.2.2.1
  have hb := hM.2.2.2.1
  induction k with
  | zero =>
    intro n e0 h' v hA hL hQ
    obtain rfl | rfl : v = 0 ∨ v = 1 := hQ.2.2.2.elim (fun z => Or.inl z.1) (fun z => Or.inr z.1)
    · skip
      refine wp_iload_n dX7_findLongest_51 rfl 2 rfl ?_
      refine wp_if_eq (tgt := 181) dX7_findLongest_52 (by decide) (fun _ => ?_) (fun c_1 => absurd (by decide) c_1)
      refine wp_iinc (q := 1) (x := nI a) (v := nI (a + 1)) (lv' := [(1, .int (nI (a + 1))), (0, .ref 100), (2, .int 0), (3, .int (nI n))]) dX7_findLongest_181 rfl (nI_1 _) (by decide) rfl ?_
      refine wp_goto (tgt := 2) dX7_findLongest_184 (by decide) ?_
      refine wp_sub [1, 0] rfl ?_
      exact hnext h' hA (fun a' b h1 h2 => by
      rcases Nat.lt_succ_iff_lt_or_eq.mp h1 with z | z
      · exact hL a' b z h2
      · subst z; exact Lo_of hb ha hQ.1 hQ.2.1 (hQ.2.2.2.elim (fun z => z.2) (fun z => absurd z.1 (by decide))) h2)
    · skip
      refine wp_iload_n dX7_findLongest_51 rfl 2 rfl ?_
      refine wp_if_eq (tgt := 181) dX7_findLongest_52 (by decide) (fun c_1 => absurd c_1 (by decide)) (fun _ => ?_)
      refine wp_iload_n dX7_findLongest_55 rfl 3 rfl ?_
      refine wp_aload_n dX7_findLongest_56 rfl 0 rfl ?_
      refine wv_getI (nI ne) dX7_findLongest_57 flX7_246 rfl rfl (by (try simp only [liv_sI, liv_sL]); rw [hA.1]; exact hM.1.1) (by rw [hA.2.2.2 100 (by decide)]; exact hM.2.1) ?_
      refine wi_icmp_le (tgt := 65) ((n : Nat)) ((ne : Nat)) (nIt (by omega)) (nIt (by omega)) dX7_findLongest_60 (by decide) (fun c_2 => absurd c_2 (by omega)) (fun _ => ?_)
      refine wp_iconst (v := 0) dX7_findLongest_63 (by decide) ?_
      refine wp_zret dX7_findLongest_64 rfl (by decide) (by decide) rfl ?_
      exact hp0 h' hA (hQ.2.2.2.elim (fun z => absurd z.1 (by decide)) (fun z => z.2.2 (by omega)))
  | succ k ih =>
    intro n e0 h' v hA hL hQ
    obtain rfl | rfl : v = 0 ∨ v = 1 := hQ.2.2.2.elim (fun z => Or.inl z.1) (fun z => Or.inr z.1)
    · skip
      refine wp_iload_n dX7_findLongest_51 rfl 2 rfl ?_
      refine wp_if_eq (tgt := 181) dX7_findLongest_52 (by decide) (fun _ => ?_) (fun c_1 => absurd (by decide) c_1)
      refine wp_iinc (q := 1) (x := nI a) (v := nI (a + 1)) (lv' := [(1, .int (nI (a + 1))), (0, .ref 100), (2, .int 0), (3, .int (nI n))]) dX7_findLongest_181 rfl (nI_1 _) (by decide) rfl ?_
      refine wp_goto (tgt := 2) dX7_findLongest_184 (by decide) ?_
      refine wp_sub [1, 0] rfl ?_
      exact hnext h' hA (fun a' b h1 h2 => by
      rcases Nat.lt_succ_iff_lt_or_eq.mp h1 with z | z
      · exact hL a' b z h2
      · subst z; exact Lo_of hb ha hQ.1 hQ.2.1 (hQ.2.2.2.elim (fun z => z.2) (fun z => absurd z.1 (by decide))) h2)
    · skip
      refine wp_iload_n dX7_findLongest_51 rfl 2 rfl ?_
      refine wp_if_eq (tgt := 181) dX7_findLongest_52 (by decide) (fun c_1 => absurd c_1 (by decide)) (fun _ => ?_)
      refine wp_iload_n dX7_findLongest_55 rfl 3 rfl ?_
      refine wp_aload_n dX7_findLongest_56 rfl 0 rfl ?_
      refine wv_getI (nI ne) dX7_findLongest_57 flX7_246 rfl rfl (by (try simp only [liv_sI, liv_sL]); rw [hA.1]; exact hM.1.1) (by rw [hA.2.2.2 100 (by decide)]; exact hM.2.1) ?_
      refine wi_icmp_le (tgt := 65) ((n : Nat)) ((ne : Nat)) (nIt (by omega)) (nIt (by omega)) dX7_findLongest_60 (by decide) (fun _ => ?_) (fun c_2 => absurd (by omega) c_2)
      refine wp_iconst (v := 0) dX7_findLongest_65 (by decide) ?_
      refine wp_istore_n (lv' := [(2, .int 0), (0, .ref 100), (1, .int (nI a)), (3, .int (nI n))]) dX7_findLongest_66 rfl (by decide) rfl ?_
      refine wp_iconst (v := 0) dX7_findLongest_67 (by decide) ?_
      refine wp_istore (lv' := [(4, .int 0), (2, .int 0), (0, .ref 100), (1, .int (nI a)), (3, .int (nI n))]) dX7_findLongest_68 (by decide) rfl ?_
      refine wp_sub [2, 3, 1, 4, 0] rfl ?_
      exact lo_e ne E hM a ha n (by omega) (xr h' a) (fun h1 v1 q1 q2 q3 => ih (n + 1) (by omega) h1 v1 q1 q2 (QL_st hb hne ha (by omega) (by decide) hQ q3)) ne 0 (by omega) h' 0 hA hL (QL_in hQ)
set_option maxRecDepth 100000 in
set_option maxHeartbeats 4000000 in
theorem lo_i {g : GG} {h : HP} {Post : Option Value → HP → Prop} (ne : Nat) (E : Nat → Nat → Prop) (hM : ML h ne E) (a : Nat) (ha : a < ne) (hnext : ∀ h1, Ai 150 h h1 → LoN E ne h1 (a + 1) → WP g mX7_findLongest 2 [(0, .ref 100), (1, .int (nI (a + 1)))] [] h1 0 0 Post) (hp0 : ∀ h', Ai 150 h h' → cyc E → Post (some (.int 0)) h') : ∀ (k n : Nat), n + k = ne → ∀ (h' : HP), Ai 150 h h' → LoN E ne h' a → (∀ b, b < n → xr h' a b = if b = a then 0 else -1) → WP g mX7_findLongest 12 [(0, .ref 100), (1, .int (nI a)), (2, .int (nI n))] [] h' 0 0 Post := by
  intro k
  have hne := hM.2.2.1
  induction k with
  | zero =>
    intro n e0 h' hA hL hI
    refine wp_iload_n dX7_findLongest_12 rfl 2 rfl ?_
    refine wp_aload_n dX7_findLongest_13 rfl 0 rfl ?_
    refine wv_getI (nI ne) dX7_findLongest_14 flX7_246 rfl rfl (by (try simp only [liv_sI, liv_sL]); rw [hA.1]; exact hM.1.1) (by rw [hA.2.2.2 100 (by decide)]; exact hM.2.1) ?_
    refine wi_icmp_ge (tgt := 47) ((n : Nat)) ((ne : Nat)) (nIt (by omega)) (nIt (by omega)) dX7_findLongest_17 (by decide) (fun _ => ?_) (fun c_1 => absurd (by omega) c_1)
    refine wp_iconst (v := 1) dX7_findLongest_47 (by decide) ?_
    refine wp_istore_n (lv' := [(2, .int 1), (0, .ref 100), (1, .int (nI a))]) dX7_findLongest_48 rfl (by decide) rfl ?_
    refine wp_iconst (v := 0) dX7_findLongest_49 (by decide) ?_
    refine wp_istore_n (lv' := [(3, .int 0), (2, .int 1), (0, .ref 100), (1, .int (nI a))]) dX7_findLongest_50 rfl (by decide) rfl ?_
    refine wp_sub [2, 3, 1, 0] rfl ?_
    obtain rfl : n = ne := by omega
    exact lo_r n E hM a ha hnext hp0 (n + 1) 0 (by omega) h' 1 hA hL (QL_0 ha hI)
  | succ k ih =>
    intro n e0 h' hA hL hI
    refine wp_iload_n dX7_findLongest_12 rfl 2 rfl ?_
    refine wp_aload_n dX7_findLongest_13 rfl 0 rfl ?_
    refine wv_getI (nI ne) dX7_findLongest_14 flX7_246 rfl rfl (by (try simp only [liv_sI, liv_sL]); rw [hA.1]; exact hM.1.1) (by rw [hA.2.2.2 100 (by decide)]; exact hM.2.1) ?_
    refine wi_icmp_ge (tgt := 47) ((n : Nat)) ((ne : Nat)) (nIt (by omega)) (nIt (by omega)) dX7_findLongest_17 (by decide) (fun c_1 => absurd c_1 (by omega)) (fun _ => ?_)
    refine wp_aload_n dX7_findLongest_20 rfl 0 rfl ?_
    refine wp_getP (b := 150) dX7_findLongest_21 flX7_126 rfl rfl (by (try simp only [liv_sI, liv_sL]); rw [hA.1]; exact hM.1.1) (by (try simp only [vP_sI, vP_sL]); rw [hA.2.1]; exact (hM.1.2 49 rfl).2) ?_
    refine wp_bipush (v := 30) dX7_findLongest_24 (by decide) ?_
    refine wp_iload_n dX7_findLongest_26 rfl 1 rfl ?_
    refine wv_imul (nI (30 * a)) (wN_mul rfl rfl) dX7_findLongest_27 ?_
    refine wp_iload_n dX7_findLongest_28 rfl 2 rfl ?_
    refine wv_iadd (nI ((30 * a) + n)) (wN_add rfl rfl) dX7_findLongest_29 ?_
    refine wp_iload_n dX7_findLongest_30 rfl 1 rfl ?_
    refine wp_iload_n dX7_findLongest_31 rfl 2 rfl ?_
    refine wi_icmp_ne (tgt := 39) ((a : Nat)) ((n : Nat)) (nIt (by omega)) (nIt (by omega)) dX7_findLongest_32 (by decide) (fun c_2 => ?_) (fun c_2 => ?_)
    · refine wp_iconst (v := -1) dX7_findLongest_39 (by decide) ?_
      refine wv_iast (30 * a + n) dX7_findLongest_40 rfl (by (try simp only [liv_sI, liv_sL]); rw [hA.1]; exact (hM.1.2 49 rfl).1) rfl (by show 30 * a + n < 900; omega) ?_
      refine wp_iinc (q := 2) (x := nI n) (v := nI (n + 1)) (lv' := [(2, .int (nI (n + 1))), (0, .ref 100), (1, .int (nI a))]) dX7_findLongest_41 rfl (nI_1 _) (by decide) rfl ?_
      refine wp_goto (tgt := 12) dX7_findLongest_44 (by decide) ?_
      refine wp_sub [1, 2, 0] rfl ?_
      exact ih (n + 1) (by omega) _ (Ai_put hA) (LoN_put hne hL) (fun b hb => by rw [xr_put]; show (if b = n then _ else _) = _; split; (next e => rw [e]; rw [if_neg (by omega)]; decide); (next e => exact hI b (by omega)))
    · refine wp_iconst (v := 0) dX7_findLongest_35 (by decide) ?_
      refine wp_goto (tgt := 40) dX7_findLongest_36 (by decide) ?_
      refine wv_iast (30 * a + n) dX7_findLongest_40 rfl (by (try simp only [liv_sI, liv_sL]); rw [hA.1]; exact (hM.1.2 49 rfl).1) rfl (by show 30 * a + n < 900; omega) ?_
      refine wp_iinc (q := 2) (x := nI n) (v := nI (n + 1)) (lv' := [(2, .int (nI (n + 1))), (0, .ref 100), (1, .int (nI a))]) dX7_findLongest_41 rfl (nI_1 _) (by decide) rfl ?_
      refine wp_goto (tgt := 12) dX7_findLongest_44 (by decide) ?_
      refine wp_sub [1, 2, 0] rfl ?_
      exact ih (n + 1) (by omega) _ (Ai_put hA) (LoN_put hne hL) (fun b hb => by rw [xr_put]; show (if b = n then _ else _) = _; split; (next e => rw [e]; rw [if_pos (by omega)]; decide); (next e => exact hI b (by omega)))
set_option maxRecDepth 100000 in
set_option maxHeartbeats 4000000 in
theorem lo_a {g : GG} {h : HP} {Post : Option Value → HP → Prop} (ne : Nat) (E : Nat → Nat → Prop) (hM : ML h ne E) (hp1 : ∀ h', Ai 150 h h' → LoN E ne h' ne → Post (some (.int 1)) h') (hp0 : ∀ h', Ai 150 h h' → cyc E → Post (some (.int 0)) h') : ∀ (k n : Nat), n + k = ne → ∀ (h' : HP), Ai 150 h h' → LoN E ne h' n → WP g mX7_findLongest 2 [(0, .ref 100), (1, .int (nI n))] [] h' 0 0 Post := by
  intro k
  have hne := hM.2.2.1
  induction k with
  | zero =>
    intro n e0 h' hA hL
    refine wp_iload_n dX7_findLongest_2 rfl 1 rfl ?_
    refine wp_aload_n dX7_findLongest_3 rfl 0 rfl ?_
    refine wv_getI (nI ne) dX7_findLongest_4 flX7_246 rfl rfl (by (try simp only [liv_sI, liv_sL]); rw [hA.1]; exact hM.1.1) (by rw [hA.2.2.2 100 (by decide)]; exact hM.2.1) ?_
    refine wi_icmp_ge (tgt := 187) ((n : Nat)) ((ne : Nat)) (nIt (by omega)) (nIt (by omega)) dX7_findLongest_7 (by decide) (fun _ => ?_) (fun c_1 => absurd (by omega) c_1)
    refine wp_iconst (v := 1) dX7_findLongest_187 (by decide) ?_
    refine wp_zret dX7_findLongest_188 rfl (by decide) (by decide) rfl ?_
    obtain rfl : n = ne := by omega
    exact hp1 h' hA hL
  | succ k ih =>
    intro n e0 h' hA hL
    refine wp_iload_n dX7_findLongest_2 rfl 1 rfl ?_
    refine wp_aload_n dX7_findLongest_3 rfl 0 rfl ?_
    refine wv_getI (nI ne) dX7_findLongest_4 flX7_246 rfl rfl (by (try simp only [liv_sI, liv_sL]); rw [hA.1]; exact hM.1.1) (by rw [hA.2.2.2 100 (by decide)]; exact hM.2.1) ?_
    refine wi_icmp_ge (tgt := 187) ((n : Nat)) ((ne : Nat)) (nIt (by omega)) (nIt (by omega)) dX7_findLongest_7 (by decide) (fun c_1 => absurd c_1 (by omega)) (fun _ => ?_)
    refine wp_iconst (v := 0) dX7_findLongest_10 (by decide) ?_
    refine wp_istore_n (lv' := [(2, .int 0), (0, .ref 100), (1, .int (nI n))]) dX7_findLongest_11 rfl (by decide) rfl ?_
    refine wp_sub [1, 2, 0] rfl ?_
    exact lo_i ne E hM n (by omega) (fun h1 q1 q2 => ih (n + 1) (by omega) h1 q1 q2) hp0 ne 0 (by omega) h' hA hL (fun _ z => absurd z (Nat.not_lt_zero _))
set_option maxRecDepth 100000 in
set_option maxHeartbeats 4000000 in
theorem cm_findLongest {g : GG} {h : HP} {Post : Option Value → HP → Prop} (ne : Nat) (E : Nat → Nat → Prop) (hM : ML h ne E) (hp1 : ∀ h', Ai 150 h h' → LoN E ne h' ne → Post (some (.int 1)) h') (hp0 : ∀ h', Ai 150 h h' → cyc E → Post (some (.int 0)) h') : CT g mX7_findLongest [.ref 100] h Post := by
  show WP g mX7_findLongest 0 [(0, .ref 100)] [] h 0 0 Post
  refine wp_iconst (v := 0) dX7_findLongest_0 (by decide) ?_
  refine wp_istore_n (lv' := [(1, .int 0), (0, .ref 100)]) dX7_findLongest_1 rfl (by decide) rfl ?_
  refine wp_sub [1, 0] rfl ?_
  exact lo_a ne E hM hp1 hp0 ne 0 (by omega) h (Ai_rf 150 h) (fun _ _ z => absurd z (Nat.not_lt_zero _))
