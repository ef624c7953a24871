/-! contracts: the class's Sorting: least times, widening -/
def SO (h : HP) (ne nk : Nat) (fr to : Nat → Nat) (E : Nat → Nat → Prop) : Prop := TW h ∧ vI h 10 2 = nI ne ∧ ne ≤ 30 ∧ vI h 10 5 = nI nk ∧ nk ≤ 60 ∧ (∀ i, i < nk → vI h 13 i = nI (fr i) ∧ vI h 14 i = nI (to i) ∧ E (fr i) (to i)) ∧ (∀ a b, E a b → a < ne ∧ b < ne) ∧ (∀ a b, E a b → ∃ i, i < nk ∧ fr i = a ∧ to i = b) ∧ (∀ e g, e < ne → g < 32 → (bt (vI h 15 e) g = true ↔ E e g))
theorem TW_eq {h h' : HP} (e1 : liv h' = liv h) (e2 : vP h' = vP h) (hT : TW h) : TW h' := by unfold TW at *; rw [e1, e2]; exact hT
theorem SO_eq {h h' : HP} {ne nk : Nat} {fr to : Nat → Nat} {E : Nat → Nat → Prop} (hS : SO h ne nk fr to E) (e1 : liv h' = liv h) (e2 : vP h' = vP h) (e3 : vI h' 10 2 = vI h 10 2) (e4 : vI h' 10 5 = vI h 10 5) (e5 : vI h' 13 = vI h 13) (e6 : vI h' 14 = vI h 14) (e7 : vI h' 15 = vI h 15) : SO h' ne nk fr to E := by
  obtain ⟨a1, a2, a3, a4, a5, a6, a7⟩ := hS
  exact ⟨TW_eq e1 e2 a1, e3.trans a2, a3, e4.trans a4, a5, by rw [e5, e6]; exact a6, by rw [e7]; exact a7⟩
theorem SO_al {a : Nat} {h h' : HP} {ne nk : Nat} {fr to : Nat → Nat} {E : Nat → Nat → Prop} (hS : SO h ne nk fr to E) (hA : Al a h h') : SO h' ne nk fr to E := SO_eq hS hA.1 hA.2.1 (by rw [hA.2.2.1]) (by rw [hA.2.2.1]) (by rw [hA.2.2.1]) (by rw [hA.2.2.1]) (by rw [hA.2.2.1])
theorem SO_ai {a : Nat} {h h' : HP} {ne nk : Nat} {fr to : Nat → Nat} {E : Nat → Nat → Prop} (hS : SO h ne nk fr to E) (ha : 16 ≤ a) (hA : Ai a h h') : SO h' ne nk fr to E := SO_eq hS hA.1 hA.2.1 (by rw [hA.2.2.2 10 (by omega)]) (by rw [hA.2.2.2 10 (by omega)]) (by rw [hA.2.2.2 13 (by omega)]) (by rw [hA.2.2.2 14 (by omega)]) (by rw [hA.2.2.2 15 (by omega)])
def tI (X : Nat → Int64) : Nat → Int := fun b => (X b).toInt
def satL (nk : Nat) (fr to : Nat → Nat) (X : Nat → Int64) : Prop := ∀ i, i < nk → (X (fr i)).toInt + 1 ≤ (X (to i)).toInt
def JR (E : Nat → Nat → Prop) (ne nk : Nat) (fr to : Nat → Nat) (lo : Nat → Int) (M : Int) (X X' : Nat → Int64) (n : Nat) (v : Int32) : Prop :=
  (v = 0 ∧ X' = X ∨ v = 1 ∧ ¬ satL nk fr to X) ∧ (∀ b, (X b).toInt ≤ (X' b).toInt) ∧ (∀ b, b < ne → (X' b).toInt ≤ M + n) ∧ Att E ne lo (tI X') ∧ (∀ i, i < n → (X (fr i)).toInt + 1 ≤ (X' (to i)).toInt)
theorem JR_no {E : Nat → Nat → Prop} {ne nk : Nat} {fr to : Nat → Nat} {lo : Nat → Int} {M : Int} {X X' : Nat → Int64} {n : Nat} {v : Int32} (hJ : JR E ne nk fr to lo M X X' n v) (hc : (X' (fr n)).toInt < (X' (to n)).toInt) : JR E ne nk fr to lo M X X' (n + 1) v := by
  obtain ⟨h1, h2, h3, h4, h5⟩ := hJ
  refine ⟨h1, h2, fun b hb => by have := h3 b hb; omega, h4, fun i hi => ?_⟩
  rcases Nat.lt_succ_iff_lt_or_eq.mp hi with z | z
  · exact h5 i z
  · subst z; have := h2 (fr i); omega
theorem JR_yes {E : Nat → Nat → Prop} {ne nk : Nat} {fr to : Nat → Nat} {lo : Nat → Int} {M : Int} {X X' : Nat → Int64} {n : Nat} {v : Int32} (hb : ∀ a b, E a b → a < ne ∧ b < ne) (hE : E (fr n) (to n)) (hM : M ≤ 4611686018427387904) (hn : n < 60) (hnk : n < nk) (hJ : JR E ne nk fr to lo M X X' n v) (hc : (X' (to n)).toInt ≤ (X' (fr n)).toInt) : JR E ne nk fr to lo M X (fun q => if q = to n then X' (fr n) + 1 else X' q) (n + 1) 1 := by
  obtain ⟨h1, h2, h3, h4, h5⟩ := hJ
  have ha := hb _ _ hE
  have e1 : (X' (fr n) + 1).toInt = (X' (fr n)).toInt + 1 := L_add1 (by have := h3 _ ha.1; omega)
  have hge : ∀ b, (X' b).toInt ≤ (if b = to n then X' (fr n) + 1 else X' b).toInt := by
    intro b
    split
    · rename_i e; rw [e1, e]; omega
    · exact Int.le_refl _
  refine ⟨Or.inr ⟨rfl, fun hs => ?_⟩, fun b => Int.le_trans (h2 b) (hge b), fun b hbn => ?_, fun b hbn => ?_, fun i hi => ?_⟩
  · rcases h1 with ⟨_, z⟩ | ⟨_, z⟩
    · have := hs n hnk; rw [z] at hc; omega
    · exact z hs
  · show (if b = to n then X' (fr n) + 1 else X' b).toInt ≤ _
    split
    · rw [e1]; have := h3 _ ha.1; omega
    · have := h3 b hbn; omega
  · show ∃ a k, a < ne ∧ Pth E k a b ∧ (if b = to n then X' (fr n) + 1 else X' b).toInt = lo a + k
    split
    · rename_i e
      obtain ⟨a, k, q1, q2, q3⟩ := h4 (fr n) ha.1
      refine ⟨a, k + 1, q1, by rw [e]; exact Pth_snoc q2 hE, ?_⟩
      have : (X' (fr n)).toInt = lo a + k := q3
      rw [e1]; omega
    · exact h4 b hbn
  · show _ ≤ (if to i = to n then X' (fr n) + 1 else X' (to i)).toInt
    rcases Nat.lt_succ_iff_lt_or_eq.mp hi with z | z
    · exact Int.le_trans (h5 i z) (hge (to i))
    · subst z; rw [if_pos rfl, e1]; have := h2 (fr i); omega
set_option maxRecDepth 100000 in
set_option maxHeartbeats 4000000 in
theorem lr_ro {g : GG} {h : HP} {Post : Option Value → HP → Prop} (ne nk : Nat) (fr to : Nat → Nat) (E : Nat → Nat → Prop) (hS : SO h ne nk fr to E) (lo : Nat → Int) (M : Int) (hM : M ≤ 4611686018427387904) (hp : ∀ h' v, Al 16 h h' → JR E ne nk fr to lo M (vL h 16) (vL h' 16) nk v → Post (some (.int v)) h') : ∀ (k n : Nat), n + k = nk → ∀ (h' : HP) (v : Int32), Al 16 h h' → JR E ne nk fr to lo M (vL h 16) (vL h' 16) n v → WP g mX3_raiseOnce 4 [(0, .ref 10), (1, .int v), (2, .int (nI n))] [] h' 0 0 Post := by
  intro k
  have hne := hS.2.2.1
  have hnk := hS.2.2.2.2.1
  induction k with
  | zero =>
    intro n e0 h' v hA hJ
    refine wp_iload_n dX3_raiseOnce_4 rfl 2 rfl ?_
    refine wp_aload_n dX3_raiseOnce_5 rfl 0 rfl ?_
    refine wv_getI (nI nk) dX3_raiseOnce_6 flX3_50 rfl rfl (by (try simp only [liv_sI, liv_sL]); rw [hA.1]; exact hS.1.1) (by rw [hA.2.2.1]; exact hS.2.2.2.1) ?_
    refine wi_icmp_ge (tgt := 70) ((n : Nat)) ((nk : Nat)) (nIt (by omega)) (nIt (by omega)) dX3_raiseOnce_9 (by decide) (fun _ => ?_) (fun c_1 => absurd (by omega) c_1)
    refine wp_iload_n dX3_raiseOnce_70 rfl 1 rfl ?_
    refine wp_zret dX3_raiseOnce_71 rfl (by decide) (by decide) (nb_n (hJ.1.elim (fun z => Or.inl z.1) (fun z => Or.inr z.1))) ?_
    obtain rfl : n = nk := by omega
    exact hp h' v hA hJ
  | succ k ih =>
    intro n e0 h' v hA hJ
    have hE := (hS.2.2.2.2.2.1 n (by omega)).2.2
    have hfb := hS.2.2.2.2.2.2.1 _ _ hE
    refine wp_iload_n dX3_raiseOnce_4 rfl 2 rfl ?_
    refine wp_aload_n dX3_raiseOnce_5 rfl 0 rfl ?_
    refine wv_getI (nI nk) dX3_raiseOnce_6 flX3_50 rfl rfl (by (try simp only [liv_sI, liv_sL]); rw [hA.1]; exact hS.1.1) (by rw [hA.2.2.1]; exact hS.2.2.2.1) ?_
    refine wi_icmp_ge (tgt := 70) ((n : Nat)) ((nk : Nat)) (nIt (by omega)) (nIt (by omega)) dX3_raiseOnce_9 (by decide) (fun c_1 => absurd c_1 (by omega)) (fun _ => ?_)
    refine wp_aload_n dX3_raiseOnce_12 rfl 0 rfl ?_
    refine wp_getP (b := 16) dX3_raiseOnce_13 flX3_28 rfl rfl (by (try simp only [liv_sI, liv_sL]); rw [hA.1]; exact hS.1.1) (by (try simp only [vP_sI, vP_sL]); rw [hA.2.1]; exact hS.1.2.2.2.2.2.2.2.1) ?_
    refine wp_aload_n dX3_raiseOnce_16 rfl 0 rfl ?_
    refine wp_getP (b := 14) dX3_raiseOnce_17 flX3_22 rfl rfl (by (try simp only [liv_sI, liv_sL]); rw [hA.1]; exact hS.1.1) (by (try simp only [vP_sI, vP_sL]); rw [hA.2.1]; exact hS.1.2.2.2.2.2.1) ?_
    refine wp_iload_n dX3_raiseOnce_20 rfl 2 rfl ?_
    refine wv_iald n (nI (to n)) dX3_raiseOnce_21 rfl (by (try simp only [liv_sI, liv_sL]); rw [hA.1]; exact hS.1.2.1.2.2.2.1) rfl (by show n < 60; omega) (by rw [hA.2.2.1]; exact (hS.2.2.2.2.2.1 n (by omega)).2.1) ?_
    refine wv_lald (to n) (vL h' 16 (to n)) dX3_raiseOnce_22 rfl (by (try simp only [liv_sI, liv_sL]); rw [hA.1]; exact hS.1.2.1.2.2.2.2.2.1) rfl (by show to n < 30; omega) rfl ?_
    refine wp_aload_n dX3_raiseOnce_23 rfl 0 rfl ?_
    refine wp_getP (b := 16) dX3_raiseOnce_24 flX3_28 rfl rfl (by (try simp only [liv_sI, liv_sL]); rw [hA.1]; exact hS.1.1) (by (try simp only [vP_sI, vP_sL]); rw [hA.2.1]; exact hS.1.2.2.2.2.2.2.2.1) ?_
    refine wp_aload_n dX3_raiseOnce_27 rfl 0 rfl ?_
    refine wp_getP (b := 13) dX3_raiseOnce_28 flX3_18 rfl rfl (by (try simp only [liv_sI, liv_sL]); rw [hA.1]; exact hS.1.1) (by (try simp only [vP_sI, vP_sL]); rw [hA.2.1]; exact hS.1.2.2.2.2.1) ?_
    refine wp_pc (pc' := 31) rfl ?_
    refine wp_iload_n dX3_raiseOnce_31 rfl 2 rfl ?_
    refine wv_iald n (nI (fr n)) dX3_raiseOnce_32 rfl (by (try simp only [liv_sI, liv_sL]); rw [hA.1]; exact hS.1.2.1.2.2.1) rfl (by show n < 60; omega) (by rw [hA.2.2.1]; exact (hS.2.2.2.2.2.1 n (by omega)).1) ?_
    refine wv_lald (fr n) (vL h' 16 (fr n)) dX3_raiseOnce_33 rfl (by (try simp only [liv_sI, liv_sL]); rw [hA.1]; exact hS.1.2.1.2.2.2.2.2.1) rfl (by show fr n < 30; omega) rfl ?_
    refine wil_gt (tgt := 64) (Int64.toInt (vL h' 16 (to n))) (Int64.toInt (vL h' 16 (fr n))) rfl rfl dX3_raiseOnce_34 dX3_raiseOnce_35 (by decide) (fun c_2 => ?_) (fun c_2 => ?_)
    · refine wp_iinc (q := 2) (x := nI n) (v := nI (n + 1)) (lv' := [(2, .int (nI (n + 1))), (0, .ref 10), (1, .int v)]) dX3_raiseOnce_64 rfl (nI_1 _) (by decide) rfl ?_
      refine wp_goto (tgt := 4) dX3_raiseOnce_67 (by decide) ?_
      refine wp_sub [1, 2, 0] rfl ?_
      exact ih (n + 1) (by omega) h' v hA (JR_no hJ c_2)
    · refine wp_aload_n dX3_raiseOnce_38 rfl 0 rfl ?_
      refine wp_getP (b := 16) dX3_raiseOnce_39 flX3_28 rfl rfl (by (try simp only [liv_sI, liv_sL]); rw [hA.1]; exact hS.1.1) (by (try simp only [vP_sI, vP_sL]); rw [hA.2.1]; exact hS.1.2.2.2.2.2.2.2.1) ?_
      refine wp_aload_n dX3_raiseOnce_42 rfl 0 rfl ?_
      refine wp_getP (b := 14) dX3_raiseOnce_43 flX3_22 rfl rfl (by (try simp only [liv_sI, liv_sL]); rw [hA.1]; exact hS.1.1) (by (try simp only [vP_sI, vP_sL]); rw [hA.2.1]; exact hS.1.2.2.2.2.2.1) ?_
      refine wp_iload_n dX3_raiseOnce_46 rfl 2 rfl ?_
      refine wv_iald n (nI (to n)) dX3_raiseOnce_47 rfl (by (try simp only [liv_sI, liv_sL]); rw [hA.1]; exact hS.1.2.1.2.2.2.1) rfl (by show n < 60; omega) (by rw [hA.2.2.1]; exact (hS.2.2.2.2.2.1 n (by omega)).2.1) ?_
      refine wp_aload_n dX3_raiseOnce_48 rfl 0 rfl ?_
      refine wp_getP (b := 16) dX3_raiseOnce_49 flX3_28 rfl rfl (by (try simp only [liv_sI, liv_sL]); rw [hA.1]; exact hS.1.1) (by (try simp only [vP_sI, vP_sL]); rw [hA.2.1]; exact hS.1.2.2.2.2.2.2.2.1) ?_
      refine wp_aload_n dX3_raiseOnce_52 rfl 0 rfl ?_
      refine wp_getP (b := 13) dX3_raiseOnce_53 flX3_18 rfl rfl (by (try simp only [liv_sI, liv_sL]); rw [hA.1]; exact hS.1.1) (by (try simp only [vP_sI, vP_sL]); rw [hA.2.1]; exact hS.1.2.2.2.2.1) ?_
      refine wp_iload_n dX3_raiseOnce_56 rfl 2 rfl ?_
      refine wv_iald n (nI (fr n)) dX3_raiseOnce_57 rfl (by (try simp only [liv_sI, liv_sL]); rw [hA.1]; exact hS.1.2.1.2.2.1) rfl (by show n < 60; omega) (by rw [hA.2.2.1]; exact (hS.2.2.2.2.2.1 n (by omega)).1) ?_
      refine wv_lald (fr n) (vL h' 16 (fr n)) dX3_raiseOnce_58 rfl (by (try simp only [liv_sI, liv_sL]); rw [hA.1]; exact hS.1.2.1.2.2.2.2.2.1) rfl (by show fr n < 30; omega) rfl ?_
      refine wp_lconst (v := 1) dX3_raiseOnce_59 rfl ?_
      refine wp_pc (pc' := 60) rfl ?_
      refine wp_ladd dX3_raiseOnce_60 ?_
      refine wv_last (to n) dX3_raiseOnce_61 rfl (by (try simp only [liv_sI, liv_sL]); rw [hA.1]; exact hS.1.2.1.2.2.2.2.2.1) rfl (by show to n < 30; omega) ?_
      refine wp_iconst (v := 1) dX3_raiseOnce_62 (by decide) ?_
      refine wp_istore_n (lv' := [(1, .int 1), (0, .ref 10), (2, .int (nI n))]) dX3_raiseOnce_63 rfl (by decide) rfl ?_
      refine wp_iinc (q := 2) (x := nI n) (v := nI (n + 1)) (lv' := [(2, .int (nI (n + 1))), (1, .int 1), (0, .ref 10)]) dX3_raiseOnce_64 rfl (nI_1 _) (by decide) rfl ?_
      refine wp_goto (tgt := 4) dX3_raiseOnce_67 (by decide) ?_
      refine wp_sub [2, 1, 0] rfl ?_
      exact ih (n + 1) (by omega) _ 1 (Al_put hA) (by rw [vL_row]; exact JR_yes hS.2.2.2.2.2.2.1 hE hM (by omega) (by omega) hJ (by omega))
set_option maxRecDepth 100000 in
set_option maxHeartbeats 4000000 in
theorem ct_raiseOnce {g : GG} {h : HP} {Post : Option Value → HP → Prop} (ne nk : Nat) (fr to : Nat → Nat) (E : Nat → Nat → Prop) (hS : SO h ne nk fr to E) (lo : Nat → Int) (M : Int) (hM : M ≤ 4611686018427387904) (hb0 : ∀ b, b < ne → (vL h 16 b).toInt ≤ M) (hat : Att E ne lo (tI (vL h 16))) (hp : ∀ h' v, Al 16 h h' → JR E ne nk fr to lo M (vL h 16) (vL h' 16) nk v → Post (some (.int v)) h') : CT g mX3_raiseOnce [.ref 10] h Post := by
  show WP g mX3_raiseOnce 0 [(0, .ref 10)] [] h 0 0 Post
  refine wp_iconst (v := 0) dX3_raiseOnce_0 (by decide) ?_
  refine wp_istore_n (lv' := [(1, .int 0), (0, .ref 10)]) dX3_raiseOnce_1 rfl (by decide) rfl ?_
  refine wp_iconst (v := 0) dX3_raiseOnce_2 (by decide) ?_
  refine wp_istore_n (lv' := [(2, .int 0), (1, .int 0), (0, .ref 10)]) dX3_raiseOnce_3 rfl (by decide) rfl ?_
  refine wp_sub [2, 1, 0] rfl ?_
  exact lr_ro ne nk fr to E hS lo M hM hp nk 0 (by omega) h 0 (Al_rf 16 h) ⟨Or.inl ⟨rfl, rfl⟩, fun _ => Int.le_refl _, fun b hb => by have := hb0 b hb; omega, hat, fun _ z => absurd z (Nat.not_lt_zero _)⟩
def KE (E : Nat → Nat → Prop) (ne : Nat) (lo : Nat → Int) (M : Int) (X : Nat → Int64) (p : Nat) (v : Int32) : Prop := (∀ b, b < ne → lo b ≤ (X b).toInt) ∧ (∀ b, b < ne → (X b).toInt ≤ M + 60 * p) ∧ Att E ne lo (tI X) ∧ (v = 0 ∧ Sat E (tI X) ∨ v = 1 ∧ Cov E ne p lo (tI X) ∧ (p = ne + 1 → cyc E))
theorem KE_st {E : Nat → Nat → Prop} {ne nk : Nat} {fr to : Nat → Nat} {lo : Nat → Int} {M : Int} {X X' : Nat → Int64} {p : Nat} {v v' : Int32} (hb : ∀ a b, E a b → a < ne ∧ b < ne) (hl : ∀ i, i < nk → E (fr i) (to i)) (hx : ∀ a b, E a b → ∃ i, i < nk ∧ fr i = a ∧ to i = b) (hnk : nk ≤ 60) (hp : p ≤ ne) (hv : ¬ v = 0) (hK : KE E ne lo M X p v) (hJ : JR E ne nk fr to lo (M + 60 * p) X X' nk v') : KE E ne lo M X' (p + 1) v' := by
  obtain ⟨k1, k2, k3, k4⟩ := hK
  obtain ⟨j1, j2, j3, j4, j5⟩ := hJ
  refine ⟨fun b hb' => Int.le_trans (k1 b hb') (j2 b), fun b hb' => by have := j3 b hb'; omega, j4, ?_⟩
  rcases k4 with ⟨z, _⟩ | ⟨_, hc, _⟩
  · exact absurd z hv
  rcases j1 with ⟨a1, a2⟩ | ⟨a1, a2⟩
  · refine Or.inl ⟨a1, fun a b he => ?_⟩
    obtain ⟨i, h1, h2, h3⟩ := hx a b he
    have q := j5 i h1
    rw [h2, h3] at q
    show (X' a).toInt + 1 ≤ (X' b).toInt
    rw [a2] at q ⊢; exact q
  · refine Or.inr ⟨a1, fun a b n ha hn hpt => ?_, fun e => ?_⟩
    · cases n with
      | zero => rw [← show a = b from hpt]; have := k1 a ha; have := j2 a; show lo a + ((0 : Nat) : Int) ≤ (X' a).toInt; omega
      | succ n =>
        obtain ⟨c, q1, q2⟩ := Pth_last hpt
        have r1 : lo a + (n : Int) ≤ (X c).toInt := hc a c n ha (by omega) q1
        obtain ⟨i, h1, h2, h3⟩ := hx c b q2
        have r2 := j5 i h1
        rw [h2, h3] at r2
        show lo a + ((n + 1 : Nat) : Int) ≤ (X' b).toInt
        omega
    · apply Classical.byContradiction
      intro hcy
      have e2 : p = ne := by omega
      rw [e2] at hc
      have hsat := Cov_sat hb hcy k3 hc
      exact a2 (fun i hi => hsat _ _ (hl i hi))
theorem KE_0 {E : Nat → Nat → Prop} {ne : Nat} {lo : Nat → Int} {M : Int} {X : Nat → Int64} (h1 : ∀ b, b < ne → (X b).toInt = lo b) (h2 : ∀ b, b < ne → lo b ≤ M) : KE E ne lo M X 0 1 := by
  refine ⟨fun b hb => by rw [h1 b hb]; exact Int.le_refl _, fun b hb => by rw [h1 b hb]; have := h2 b hb; omega, fun b hb => ⟨b, 0, hb, rfl, by show (X b).toInt = _; rw [h1 b hb]; omega⟩, Or.inr ⟨rfl, fun a b n ha hn hp => ?_, fun e => by omega⟩⟩
  have : n = 0 := by omega
  subst this
  rw [← show a = b from hp]
  show lo a + ((0 : Nat) : Int) ≤ (X a).toInt
  rw [h1 a ha]; omega
set_option maxRecDepth 100000 in
set_option maxHeartbeats 4000000 in
theorem lr_fe {g : GG} {h : HP} {Post : Option Value → HP → Prop} (ne nk : Nat) (fr to : Nat → Nat) (E : Nat → Nat → Prop) (hS : SO h ne nk fr to E) (lo : Nat → Int) (M : Int) (hM : M ≤ 2305843009213693952) (hlo : ∀ b, b < ne → (vL h 11 b).toInt = lo b ∧ lo b ≤ M) (hyes : ∀ h', Al 16 h h' → (∀ b, b < ne → lo b ≤ (vL h' 16 b).toInt) → Att E ne lo (tI (vL h' 16)) → Sat E (tI (vL h' 16)) → Post (some (.int 1)) h') (hno : ∀ h', Al 16 h h' → cyc E → Post (some (.int 0)) h') : ∀ (k n : Nat), n + k = ne + 1 → ∀ (h' : HP) (v : Int32), Al 16 h h' → KE E ne lo M (vL h' 16) n v → WP g mX3_findEarliest 32 [(0, .ref 10), (1, .int v), (2, .int (nI n))] [] h' 0 0 Post := by
  intro k
  have hne := hS.2.2.1
  have hnk := hS.2.2.2.2.1
  induction k with
  | zero =>
    intro n e0 h' v hA hK
    refine wp_iload_n dX3_findEarliest_32 rfl 2 rfl ?_
    refine wp_aload_n dX3_findEarliest_33 rfl 0 rfl ?_
    refine wv_getI (nI ne) dX3_findEarliest_34 flX3_40 rfl rfl (by (try simp only [liv_sI, liv_sL]); rw [hA.1]; exact hS.1.1) (by rw [hA.2.2.1]; exact hS.2.1) ?_
    refine wi_icmp_gt (tgt := 55) ((n : Nat)) ((ne : Nat)) (nIt (by omega)) (nIt (by omega)) dX3_findEarliest_37 (by decide) (fun _ => ?_) (fun c_1 => absurd (by omega) c_1)
    refine wp_iload_n dX3_findEarliest_55 rfl 1 rfl ?_
    refine wi_if_ne (tgt := 63) (Int32.toInt v) rfl dX3_findEarliest_56 (by decide) (fun c_2 => ?_) (fun c_2 => ?_)
    · refine wp_iconst (v := 0) dX3_findEarliest_63 (by decide) ?_
      refine wp_zret dX3_findEarliest_64 rfl (by decide) (by decide) rfl ?_
      exact hno h' hA (hK.2.2.2.elim (fun z => by have q := c_2; rw [z.1] at q; exact absurd q (by decide)) (fun z => z.2.2 (by omega)))
    · refine wp_iconst (v := 1) dX3_findEarliest_59 (by decide) ?_
      refine wp_goto (tgt := 64) dX3_findEarliest_60 (by decide) ?_
      refine wp_zret dX3_findEarliest_64 rfl (by decide) (by decide) rfl ?_
      exact hyes h' hA hK.1 hK.2.2.1 (hK.2.2.2.elim (fun z => z.2) (fun z => by have q := c_2; rw [z.1] at q; exact absurd q (by decide)))
  | succ k ih =>
    intro n e0 h' v hA hK
    refine wp_iload_n dX3_findEarliest_32 rfl 2 rfl ?_
    refine wp_aload_n dX3_findEarliest_33 rfl 0 rfl ?_
    refine wv_getI (nI ne) dX3_findEarliest_34 flX3_40 rfl rfl (by (try simp only [liv_sI, liv_sL]); rw [hA.1]; exact hS.1.1) (by rw [hA.2.2.1]; exact hS.2.1) ?_
    refine wi_icmp_gt (tgt := 55) ((n : Nat)) ((ne : Nat)) (nIt (by omega)) (nIt (by omega)) dX3_findEarliest_37 (by decide) (fun c_1 => absurd c_1 (by omega)) (fun _ => ?_)
    refine wp_iload_n dX3_findEarliest_40 rfl 1 rfl ?_
    refine wi_if_eq (tgt := 55) (Int32.toInt v) rfl dX3_findEarliest_41 (by decide) (fun c_2 => ?_) (fun c_2 => ?_)
    · refine wp_iload_n dX3_findEarliest_55 rfl 1 rfl ?_
      refine wi_if_ne (tgt := 63) (Int32.toInt v) rfl dX3_findEarliest_56 (by decide) (fun c_3 => ?_) (fun c_3 => ?_)
      · refine wp_iconst (v := 0) dX3_findEarliest_63 (by decide) ?_
        refine wp_zret dX3_findEarliest_64 rfl (by decide) (by decide) rfl ?_
        omega
      · refine wp_iconst (v := 1) dX3_findEarliest_59 (by decide) ?_
        refine wp_goto (tgt := 64) dX3_findEarliest_60 (by decide) ?_
        refine wp_zret dX3_findEarliest_64 rfl (by decide) (by decide) rfl ?_
        exact hyes h' hA hK.1 hK.2.2.1 (hK.2.2.2.elim (fun z => z.2) (fun z => by have q := c_3; rw [z.1] at q; exact absurd q (by decide)))
    · refine wp_aload_n dX3_findEarliest_44 rfl 0 rfl ?_
      refine wp_callV mX3_raiseOnce 10 [] [] (c := 3) dX3_findEarliest_45 iX3_raiseOnce (fun _ => trivial) mlX3_79 imX3_raiseOnce seX3_raiseOnce (by decide) rfl rfl ⟨by decide, by decide⟩ rfl rfl (Nat.le_of_ble_eq_true rfl) (Nat.le_of_ble_eq_true rfl) (by decide) (by decide) ?_
      refine ct_raiseOnce ne nk fr to E (SO_al hS hA) lo (M + 60 * n) (by omega) hK.2.1 hK.2.2.1 (fun h1 v1 hA1 hJ1 => ?_)
      have hv1 := c_2
      show WP g mX3_findEarliest 48 [(0, .ref 10), (1, .int v), (2, .int (nI n))] [.int v1] _ 0 0 _
      refine wp_istore_n (lv' := [(1, .int v1), (0, .ref 10), (2, .int (nI n))]) dX3_findEarliest_48 rfl (by decide) rfl ?_
      refine wp_iinc (q := 2) (x := nI n) (v := nI (n + 1)) (lv' := [(2, .int (nI (n + 1))), (1, .int v1), (0, .ref 10)]) dX3_findEarliest_49 rfl (nI_1 _) (by decide) rfl ?_
      refine wp_goto (tgt := 32) dX3_findEarliest_52 (by decide) ?_
      refine wp_sub [2, 1, 0] rfl ?_
      exact ih (n + 1) (by omega) h1 v1 (Al_tr hA hA1) (KE_st hS.2.2.2.2.2.2.1 (fun i hi => (hS.2.2.2.2.2.1 i hi).2.2) hS.2.2.2.2.2.2.2.1 hS.2.2.2.2.1 (by omega) (fun z => by rw [z] at hv1; exact absurd hv1 (by decide)) hK hJ1)
set_option maxRecDepth 100000 in
set_option maxHeartbeats 4000000 in
theorem lr_fi {g : GG} {h : HP} {Post : Option Value → HP → Prop} (ne nk : Nat) (fr to : Nat → Nat) (E : Nat → Nat → Prop) (hS : SO h ne nk fr to E) (lo : Nat → Int) (M : Int) (hM : M ≤ 2305843009213693952) (hlo : ∀ b, b < ne → (vL h 11 b).toInt = lo b ∧ lo b ≤ M) (hyes : ∀ h', Al 16 h h' → (∀ b, b < ne → lo b ≤ (vL h' 16 b).toInt) → Att E ne lo (tI (vL h' 16)) → Sat E (tI (vL h' 16)) → Post (some (.int 1)) h') (hno : ∀ h', Al 16 h h' → cyc E → Post (some (.int 0)) h') : ∀ (k n : Nat), n + k = ne → ∀ (h' : HP), Al 16 h h' → (∀ b, b < n → vL h' 16 b = vL h 11 b) → WP g mX3_findEarliest 2 [(0, .ref 10), (1, .int (nI n))] [] h' 0 0 Post := by
  intro k
  have hne := hS.2.2.1
  induction k with
  | zero =>
    intro n e0 h' hA hI
    refine wp_iload_n dX3_findEarliest_2 rfl 1 rfl ?_
    refine wp_aload_n dX3_findEarliest_3 rfl 0 rfl ?_
    refine wv_getI (nI ne) dX3_findEarliest_4 flX3_40 rfl rfl (by (try simp only [liv_sI, liv_sL]); rw [hA.1]; exact hS.1.1) (by rw [hA.2.2.1]; exact hS.2.1) ?_
    refine wi_icmp_ge (tgt := 28) ((n : Nat)) ((ne : Nat)) (nIt (by omega)) (nIt (by omega)) dX3_findEarliest_7 (by decide) (fun _ => ?_) (fun c_1 => absurd (by omega) c_1)
    refine wp_iconst (v := 1) dX3_findEarliest_28 (by decide) ?_
    refine wp_istore_n (lv' := [(1, .int 1), (0, .ref 10)]) dX3_findEarliest_29 rfl (by decide) rfl ?_
    refine wp_iconst (v := 0) dX3_findEarliest_30 (by decide) ?_
    refine wp_istore_n (lv' := [(2, .int 0), (1, .int 1), (0, .ref 10)]) dX3_findEarliest_31 rfl (by decide) rfl ?_
    refine wp_sub [2, 1, 0] rfl ?_
    obtain rfl : n = ne := by omega
    exact lr_fe n nk fr to E hS lo M hM hlo hyes hno (n + 1) 0 (by omega) h' 1 hA (KE_0 (fun b hb => by rw [hI b hb]; exact (hlo b hb).1) (fun b hb => (hlo b hb).2))
  | succ k ih =>
    intro n e0 h' hA hI
    refine wp_iload_n dX3_findEarliest_2 rfl 1 rfl ?_
    refine wp_aload_n dX3_findEarliest_3 rfl 0 rfl ?_
    refine wv_getI (nI ne) dX3_findEarliest_4 flX3_40 rfl rfl (by (try simp only [liv_sI, liv_sL]); rw [hA.1]; exact hS.1.1) (by rw [hA.2.2.1]; exact hS.2.1) ?_
    refine wi_icmp_ge (tgt := 28) ((n : Nat)) ((ne : Nat)) (nIt (by omega)) (nIt (by omega)) dX3_findEarliest_7 (by decide) (fun c_1 => absurd c_1 (by omega)) (fun _ => ?_)
    refine wp_aload_n dX3_findEarliest_10 rfl 0 rfl ?_
    refine wp_getP (b := 16) dX3_findEarliest_11 flX3_28 rfl rfl (by (try simp only [liv_sI, liv_sL]); rw [hA.1]; exact hS.1.1) (by (try simp only [vP_sI, vP_sL]); rw [hA.2.1]; exact hS.1.2.2.2.2.2.2.2.1) ?_
    refine wp_iload_n dX3_findEarliest_14 rfl 1 rfl ?_
    refine wp_aload_n dX3_findEarliest_15 rfl 0 rfl ?_
    refine wp_getP (b := 11) dX3_findEarliest_16 flX3_9 rfl rfl (by (try simp only [liv_sI, liv_sL]); rw [hA.1]; exact hS.1.1) (by (try simp only [vP_sI, vP_sL]); rw [hA.2.1]; exact hS.1.2.2.1) ?_
    refine wp_iload_n dX3_findEarliest_19 rfl 1 rfl ?_
    refine wv_lald n (vL h 11 n) dX3_findEarliest_20 rfl (by (try simp only [liv_sI, liv_sL]); rw [hA.1]; exact hS.1.2.1.1) rfl (by show n < 30; omega) (by rw [hA.2.2.2 11 (by decide)]) ?_
    refine wv_last n dX3_findEarliest_21 rfl (by (try simp only [liv_sI, liv_sL]); rw [hA.1]; exact hS.1.2.1.2.2.2.2.2.1) rfl (by show n < 30; omega) ?_
    refine wp_iinc (q := 1) (x := nI n) (v := nI (n + 1)) (lv' := [(1, .int (nI (n + 1))), (0, .ref 10)]) dX3_findEarliest_22 rfl (nI_1 _) (by decide) rfl ?_
    refine wp_goto (tgt := 2) dX3_findEarliest_25 (by decide) ?_
    refine wp_sub [1, 0] rfl ?_
    exact ih (n + 1) (by omega) _ (Al_put hA) (fun b hb => by rw [vL_row]; show (if b = n then _ else _ : Int64) = _; split; (next e => rw [e]); (next e => exact hI b (by omega)))
set_option maxRecDepth 100000 in
set_option maxHeartbeats 4000000 in
theorem ct_findEarliest {g : GG} {h : HP} {Post : Option Value → HP → Prop} (ne nk : Nat) (fr to : Nat → Nat) (E : Nat → Nat → Prop) (hS : SO h ne nk fr to E) (lo : Nat → Int) (M : Int) (hM : M ≤ 2305843009213693952) (hlo : ∀ b, b < ne → (vL h 11 b).toInt = lo b ∧ lo b ≤ M) (hyes : ∀ h', Al 16 h h' → (∀ b, b < ne → lo b ≤ (vL h' 16 b).toInt) → Att E ne lo (tI (vL h' 16)) → Sat E (tI (vL h' 16)) → Post (some (.int 1)) h') (hno : ∀ h', Al 16 h h' → cyc E → Post (some (.int 0)) h') : CT g mX3_findEarliest [.ref 10] h Post := by
  show WP g mX3_findEarliest 0 [(0, .ref 10)] [] h 0 0 Post
  refine wp_iconst (v := 0) dX3_findEarliest_0 (by decide) ?_
  refine wp_istore_n (lv' := [(1, .int 0), (0, .ref 10)]) dX3_findEarliest_1 rfl (by decide) rfl ?_
  refine wp_sub [1, 0] rfl ?_
  exact lr_fi ne nk fr to E hS lo M hM hlo hyes hno ne 0 (by omega) h (Al_rf 16 h) (fun b z => absurd z (Nat.not_lt_zero _))
def wdN (X Y : Nat → Int64) : Nat → Int64
  | 0 => 0
  | n + 1 => mx64 (wdN X Y n) (ceiO (X n - Y n) 2)
