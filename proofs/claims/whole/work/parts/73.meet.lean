/-! meet -/
theorem iv_meet {n : Nat} {h : HP} {nm nl ns ne nk : Nat} {fr to : Nat → Nat} {E : Nat → Nat → Prop} (hI : IV n h nm nl ns ne nk fr to E) (hn : n < 64) {H : HP} {i : Nat} (hi : i < nm) {lo hv : Int64} (hlo : inB (n + 1) lo) (hhi : inB (n + 1) hv) (fZ : ∀ b, True → liv H b = liv h b) (fP : ∀ b k, True → vP H b k = vP h b k) (fI : ∀ b k, (¬ (b = 5 ∨ b = 6 ∨ b = 19 ∨ (b = 100 ∧ (k = 40 ∨ k = 45)) ∨ b = 142 ∨ b = 150 ∨ b = 152) ∧ ¬ (1000 ≤ b ∧ b < 1010 ∧ (k = 14 ∨ k = 15)) ∧ ¬ (4000 ≤ b ∧ b < 4100 ∧ k = 0) ∧ ¬ (b = 2000 + i ∧ k = 0) ∧ b ≠ 117 ∧ b ≠ 118 ∧ ¬ (b = 119 ∧ 10 * i ≤ k ∧ k < 10 * i + 10)) → vI H b k = vI h b k) (fL : ∀ b k, (¬ (b = 7 ∨ b = 8 ∨ (b = 100 ∧ 46 ≤ k ∧ k ≤ 48) ∨ (143 ≤ b ∧ b ≤ 145) ∨ b = 151) ∧ b ≠ 2000 + i ∧ ¬ (109 ≤ b ∧ b ≤ 111 ∧ k = i)) → vL H b k = vL h b k) (hfo : ∀ i' j, i' < 10 → j < 10 → i' ≠ i → vI H (4000 + (10 * i' + j)) 0 = vI h (4000 + (10 * i' + j)) 0) (hfz : ∀ j b, j < 10 → vP h (3000 + i) j = some b → vI H b 0 = 0) (h119 : ∀ j, j < 10 → vI H 119 (10 * i + j) = 0) (h117 : ∀ j, j < nm → vI H (1000 + j) 14 = vI H 117 j) (h118 : ∀ j, j < nm → vI H (1000 + j) 15 = vI H 118 j) (hz : ∀ j, nm ≤ j → vI H 117 j = vI h 117 j ∧ vI H 118 j = vI h 118 j) (h109 : vL H 109 i = lo) (h110 : vL H 110 i = hv) (h111 : vL H 111 i = mCn h i) (how : vI h 103 i = 3 ∨ (vL H (2000 + i) 1 = lo ∧ vL H (2000 + i) 2 = hv ∧ vL H (2000 + i) 3 = mCn h i)) : IV (n + 1) H nm nl ns ne nk fr to E := by
  have hm := ivnm hI
  have hl : nl ≤ 200 := Nat.le_of_lt (ivSL hI).1
  have hn0 := Nat.le_succ n
  have eC : ∀ i, i < nm → (mCn h i).toInt ≤ (mCn H i).toInt := fun i hi => Int.le_of_eq (by rw [mCn_cg (h := h) (fun b k c => fL b k (by first | trivial | omega)) i])
  exact ⟨SR_cg (ivSR hI) (fun b c => fZ b (by first | trivial | omega)) (fun b k c => fP b k (by first | trivial | omega)),
    SM_cg (ivSM hI) (fun b c => fZ b (by first | trivial | omega)) (fun b k c => fP b k (by first | trivial | omega)) (fun b k c => fI b k (by first | trivial | omega)),
    SL_cg (ivSL hI) (fun b c => fZ b (by first | trivial | omega)) (fun b k c => fP b k (by first | trivial | omega)) (fun b k c => fI b k (by first | trivial | omega)),
    SS_cg (ivSS hI) (fun b c => fZ b (by first | trivial | omega)) (fun b k c => fP b k (by first | trivial | omega)) (fun b k c => fI b k (by first | trivial | omega)),
    SO_cg (ivSO hI) (fun b c => fZ b (by first | trivial | omega)) (fun b k c => fP b k (by first | trivial | omega)) (fun b k c => fI b k (by first | trivial | omega)),
    MW_cg (ivMW hI) (fun b c => fZ b (by first | trivial | omega)) (fun b k c => fP b k (by first | trivial | omega)),
    ML_cg (ivML hI) (fun b c => fZ b (by first | trivial | omega)) (fun b k c => fP b k (by first | trivial | omega)) (fun b k c => fI b k (by first | trivial | omega)),
    CN_cg (ivCN hI) (fun b k c => fI b k (by first | trivial | omega)),
    NW_cg (ivNW hI) hn0 (fun b k c => fL b k (by first | trivial | omega)),
    ⟨by have := (ivNC hI).1; omega, by have := (ivNC hI).2.1; omega, (ivNC hI).2.2⟩,
    PI_cg (iv103 hI) hm (fun b k c => fI b k (by first | trivial | omega)),
    PI_cg (iv114 hI) hm (fun b k c => fI b k (by first | trivial | omega)),
    h117,
    h118,
    PW_cg (iv104 hI) hm (fun b k c => fI b k (by first | trivial | omega)) (fun b k c => fL b k (by first | trivial | omega)),
    PW_cg (iv105 hI) hm (fun b k c => fI b k (by first | trivial | omega)) (fun b k c => fL b k (by first | trivial | omega)),
    PL_cg (iv106 hI) hm (fun b k c => fL b k (by first | trivial | omega)),
    PW_cg (iv107 hI) hm (fun b k c => fI b k (by first | trivial | omega)) (fun b k c => fL b k (by first | trivial | omega)),
    PW_cg (iv108 hI) hm (fun b k c => fI b k (by first | trivial | omega)) (fun b k c => fL b k (by first | trivial | omega)),
    PL_cg (iv112 hI) hm (fun b k c => fL b k (by first | trivial | omega)),
    PL_cg (iv113 hI) hm (fun b k c => fL b k (by first | trivial | omega)),
    PL_cg (iv115 hI) hm (fun b k c => fL b k (by first | trivial | omega)),
    PL_cg (iv116 hI) hm (fun b k c => fL b k (by first | trivial | omega)),
    (fun j hj => by
      by_cases e : j = i
      · subst e
        rw [fI 103 _ (by omega), h109, h110, h111]; exact how
      · rw [fI 103 _ (by omega), fL _ 1 (by omega), fL _ 2 (by omega), fL _ 3 (by omega), fL 109 _ (by omega), fL 110 _ (by omega), fL 111 _ (by omega)]; exact ivOW hI j hj),
    RG_cg (ivRG hI) (fun b k c => fI b k (by first | trivial | omega)) (fun b k c => fL b k (by first | trivial | omega)),
    (fun j hj => by
      obtain ⟨a1, a2, a3, a4, a5, a6, a7⟩ := RB_cg (n' := n + 1) (ivRB hI) hn0 (fun i hi => Int.le_refl _) (fun _ _ _ => rfl) j hj
      have ec := mCn_cg (h := h) (h' := H) (fun b k c => fL b k (by omega)) j
      by_cases e : j = i
      · subst e
        rw [ec, h109, h110, h111, fL 112 _ (by omega), fL 113 _ (by omega), fL 115 _ (by omega), fL 116 _ (by omega)]
        exact ⟨⟨(mCn_b (by omega) (ivNW hI) (ivRG hI) hj).1, Int.le_refl _⟩, a2, hlo, hhi, a5, a6, a7⟩
      · rw [ec, fL 109 _ (by omega), fL 110 _ (by omega), fL 111 _ (by omega), fL 112 _ (by omega), fL 113 _ (by omega), fL 115 _ (by omega), fL 116 _ (by omega)]
        exact ⟨a1, a2, a3, a4, a5, a6, a7⟩),
    (fun j hj hj2 => by
      rw [fI 114 _ (by omega), (hz j hj).1, (hz j hj).2, fL 111 _ (by omega), fL 112 _ (by omega), fL 113 _ (by omega), fL 116 _ (by omega)]; exact ivRZ hI j hj hj2),
    (fun a j ha hj => by
      by_cases e : a = i
      · subst e
        refine Or.inl ⟨h119 j hj, ?_⟩
        unfold hsp
        rw [fP _ _ trivial]
        cases q : vP h (3000 + a) j with
        | none => rfl
        | some b => show (if _ then _ else _) = _; rw [hfz j b hj q]; rfl
      · have eH := hsp_c2 (h := h) (h' := H) (SM_hc (ivSM hI) ha hj) (fP (3000 + a) j trivial) (hfo a j (by omega) hj e)
        rcases ivHD hI a j ha hj with ⟨z1, z2⟩ | z
        · exact Or.inl ⟨by rw [fI _ _ (by omega)]; exact z1, by rw [eH]; exact z2⟩
        · exact Or.inr (HH_cg z hn0 (Nat.le_refl _) (by omega) hj (eC a ha) (fI _ _ (by omega)) eH (fun b k c => fL b k (by omega)))),
    (fun a j ha ha2 hj => by rw [fI _ _ (by omega)]; exact ivHZ hI a j ha ha2 hj),
    LT_cg (ivLT hI) hn0 (Nat.le_refl _) hl eC (fun b k c => fP b k (by first | trivial | omega)) (fun b k c => fI b k (by first | trivial | omega)) (fun b k c => fL b k (by first | trivial | omega)),
    RS_cg (ivRS hI) hn0 (fun b k c => fI b k (by first | trivial | omega)) (fun b k c => fL b k (by first | trivial | omega)),
    EV_cg (ivEV hI) hn0 (fun b k c => fL b k (by first | trivial | omega)),
    EZ_cg (ivEZ hI) (fun b k c => fI b k (by first | trivial | omega)),
    DS_cg (ivDS hI) (fun b k c => fI b k (by first | trivial | omega)) (fun b k c => fL b k (by first | trivial | omega))⟩
theorem ntH_f {h : HP} {l : Int32} {w : Nat → Nat} {b j : Nat} : ∀ k, (∀ m, m < k → b ≠ 1000 + w m) → vI (ntH h l w k) b j = vI h b j
  | 0, _ => rfl
  | k + 1, hb => by
    have := hb k (by omega)
    show vI (sI (sI (ntH h l w k) (1000 + w k) 15 _) (1000 + w k) 14 _) b j = _
    rw [vI_ne (by omega), vI_ne (by omega)]
    exact ntH_f k (fun m hm => hb m (by omega))
theorem ntH_v {h : HP} {l : Int32} {w : Nat → Nat} {j : Nat} : ∀ k, (∀ a b, a < b → b < k → w a ≠ w b) → ((∃ m, m < k ∧ w m = j) → vI (ntH h l w k) (1000 + j) 15 = vI h (1000 + j) 15 + 1 ∧ vI (ntH h l w k) (1000 + j) 14 = vI h (1000 + j) 14 + (l >>> (nI j &&& 31) &&& 1)) ∧ ((¬ ∃ m, m < k ∧ w m = j) → vI (ntH h l w k) (1000 + j) 15 = vI h (1000 + j) 15 ∧ vI (ntH h l w k) (1000 + j) 14 = vI h (1000 + j) 14)
  | 0, _ => ⟨fun ⟨m, hm, _⟩ => absurd hm (Nat.not_lt_zero _), fun _ => ⟨rfl, rfl⟩⟩
  | k + 1, hi => by
    have ih := ntH_v (h := h) (l := l) (w := w) (j := j) k (fun a b h1 h2 => hi a b h1 (by omega))
    have e : ntH h l w (k + 1) = sI (sI (ntH h l w k) (1000 + w k) 15 (vI (ntH h l w k) (1000 + w k) 15 + 1)) (1000 + w k) 14 (vI (ntH h l w k) (1000 + w k) 14 + (l >>> (nI (w k) &&& 31) &&& 1)) := rfl
    rw [e]
    by_cases z : w k = j
    · subst z
      have no : ¬ ∃ m, m < k ∧ w m = w k := fun ⟨m, m1, m2⟩ => hi m k m1 (by omega) m2
      refine ⟨fun _ => ?_, fun q => absurd ⟨k, by omega, rfl⟩ q⟩
      rw [vI_ne (by omega), vIs, vIs, (ih.2 no).1, (ih.2 no).2]
      exact ⟨rfl, rfl⟩
    · rw [vI_ne (by omega), vI_ne (by omega), vI_ne (by omega), vI_ne (by omega)]
      refine ⟨fun ⟨m, m1, m2⟩ => ih.1 ⟨m, ?_, m2⟩, fun q => ih.2 (fun ⟨m, m1, m2⟩ => q ⟨m, by omega, m2⟩)⟩
      rcases Nat.lt_succ_iff_lt_or_eq.mp m1 with y | y
      · exact y
      · subst y; exact absurd m2 z
theorem mnt_v {h : HP} {l : Int64} {w : Nat → Nat} {j : Nat} : ∀ k, (∀ a b, a < b → b < k → w a ≠ w b) → ((∃ m, m < k ∧ w m = j) → vI (mnt h l w k) 118 j = vI h 118 j + 1 ∧ vI (mnt h l w k) 117 j = vI h 117 j + bt1 l j) ∧ ((¬ ∃ m, m < k ∧ w m = j) → vI (mnt h l w k) 118 j = vI h 118 j ∧ vI (mnt h l w k) 117 j = vI h 117 j)
  | 0, _ => ⟨fun ⟨m, hm, _⟩ => absurd hm (Nat.not_lt_zero _), fun _ => ⟨rfl, rfl⟩⟩
  | k + 1, hi => by
    have ih := mnt_v (h := h) (l := l) (w := w) (j := j) k (fun a b h1 h2 => hi a b h1 (by omega))
    have e : mnt h l w (k + 1) = sI (sI (mnt h l w k) 118 (w k) (vI (mnt h l w k) 118 (w k) + 1)) 117 (w k) (vI (mnt h l w k) 117 (w k) + bt1 l (w k)) := rfl
    rw [e]
    by_cases z : w k = j
    · subst z
      have no : ¬ ∃ m, m < k ∧ w m = w k := fun ⟨m, m1, m2⟩ => hi m k m1 (by omega) m2
      refine ⟨fun _ => ?_, fun q => absurd ⟨k, by omega, rfl⟩ q⟩
      rw [vI_ne (by omega), vIs, vIs, (ih.2 no).1, (ih.2 no).2]
      exact ⟨rfl, rfl⟩
    · rw [vI_ne (by omega), vI_ne (by omega), vI_ne (by omega), vI_ne (by omega)]
      refine ⟨fun ⟨m, m1, m2⟩ => ih.1 ⟨m, ?_, m2⟩, fun q => ih.2 (fun ⟨m, m1, m2⟩ => q ⟨m, by omega, m2⟩)⟩
      rcases Nat.lt_succ_iff_lt_or_eq.mp m1 with y | y
      · exact y
      · subst y; exact absurd m2 z
theorem fgt_n0 {h : HP} {r a k : Nat} (hk : k ≠ 0) : ∀ m, vI (fgt h r m) a k = vI h a k
  | 0 => rfl
  | m + 1 => by
    unfold fgt
    cases q : vP h r m with
    | none => exact fgt_n0 hk m
    | some b => show vI (sI (fgt h r m) b 0 0) a k = _; rw [vI_ne (by omega)]; exact fgt_n0 hk m
theorem fgt_0 {h : HP} {r : Nat} : ∀ m j b, j < m → vP h r j = some b → vI (fgt h r m) b 0 = 0
  | 0, j, b, hj, _ => absurd hj (Nat.not_lt_zero _)
  | m + 1, j, b, hj, hb => by
    unfold fgt
    rcases Nat.lt_succ_iff_lt_or_eq.mp hj with z | z
    · have ih := fgt_0 m j b z hb
      cases q : vP h r m with
      | none => exact ih
      | some c =>
        show vI (sI (fgt h r m) c 0 0) b 0 = 0
        by_cases e : b = c
        · subst e; exact vIs
        · rw [vI_ne (by omega)]; exact ih
    · subst z
      rw [hb]
      exact vIs
theorem clr_v {h : HP} {i : Nat} : ∀ m, (∀ j, j < m → vI (clr h i m) 119 (10 * i + j) = 0) ∧ ∀ b k, ¬ (b = 119 ∧ 10 * i ≤ k ∧ k < 10 * i + m) → vI (clr h i m) b k = vI h b k
  | 0 => ⟨fun _ z => absurd z (Nat.not_lt_zero _), fun _ _ _ => rfl⟩
  | m + 1 => by
    obtain ⟨i1, i2⟩ := clr_v (h := h) (i := i) m
    refine ⟨fun j hj => ?_, fun b k hc => ?_⟩
    · show vI (sI (clr h i m) 119 (10 * i + m) 0) 119 (10 * i + j) = 0
      by_cases e : j = m
      · subst e; exact vIs
      · rw [vI_ne (by omega)]; exact i1 j (by omega)
    · show vI (sI (clr h i m) 119 (10 * i + m) 0) b k = _
      rw [vI_ne (by omega)]; exact i2 b k (by omega)
section
variable {n : Nat} {h : HP} {nm nl ns ne nk : Nat} {fr to : Nat → Nat} {E : Nat → Nat → Prop}
theorem mtN_f (hI : IV n h nm nl ns ne nk fr to E) {i : Nat} (hi : i < nm) (ff : Nat) : liv (mtN h i nm ff) = liv h ∧ vP (mtN h i nm ff) = vP h ∧ (∀ b, b ≠ 7 → b ≠ 8 → vL (mtN h i nm ff) b = vL h b) ∧ (∀ b k, b ≠ 5 → b ≠ 6 → ¬ (1000 ≤ b ∧ b < 1010 ∧ (k = 14 ∨ k = 15)) → ¬ (4000 ≤ b ∧ b < 4100 ∧ k = 0) → vI (mtN h i nm ff) b k = vI h b k) ∧ (∀ a j, a < 10 → j < 10 → a ≠ i → vI (mtN h i nm ff) (4000 + (10 * a + j)) 0 = vI h (4000 + (10 * a + j)) 0) ∧ (∀ j b, j < 10 → vP h (3000 + i) j = some b → vI (mtN h i nm ff) b 0 = 0) ∧ ∀ j, j < 10 → ((∃ m, m < gz h i nm ∧ gwh h i nm m = j) → vI (mtN h i nm ff) (1000 + j) 15 = vI h (1000 + j) 15 + 1 ∧ vI (mtN h i nm ff) (1000 + j) 14 = vI h (1000 + j) 14 + (cAp h i nm ff >>> (nI j &&& 31) &&& 1)) ∧ ((¬ ∃ m, m < gz h i nm ∧ gwh h i nm m = j) → vI (mtN h i nm ff) (1000 + j) 15 = vI h (1000 + j) 15 ∧ vI (mtN h i nm ff) (1000 + j) 14 = vI h (1000 + j) 14) := by
  have hm := ivnm hI
  have G := gtH_k h i nm
  have hw : ∀ m, m < gz h i nm → gwh h i nm m < 10 := fun m hm2 => by have := (gwh_ok hi hm hm2).1; omega
  have hinj : ∀ a b, a < b → b < gz h i nm → gwh h i nm a ≠ gwh h i nm b := fun a b h1 h2 e => by
    refine ga_inj h i (hself hI hi) (by omega) nm hm a b h1 h2 ?_
    rw [(gwh_ok hi hm (show a < gz h i nm by omega)).2, (gwh_ok hi hm h2).2, e]
  unfold mtN
  have T := ntH_k (gtH h i nm) (cAp h i nm ff) (gwh h i nm) (gz h i nm)
  have Fk := fgt_k (ntH (gtH h i nm) (cAp h i nm ff) (gwh h i nm) (gz h i nm)) (3000 + i) 10
  have ePn : ∀ j, vP (ntH (gtH h i nm) (cAp h i nm ff) (gwh h i nm) (gz h i nm)) (3000 + i) j = vP h (3000 + i) j := fun j => by rw [T.2.2.1, G.2.1]
  have hbs : ∀ j, j < 10 → ∀ b, vP h (3000 + i) j = some b → b = 4000 + (10 * i + j) := fun j hj => SM_hc (ivSM hI) hi hj
  have eF : ∀ b k, (k ≠ 0 ∨ (∀ j, j < 10 → b ≠ 4000 + (10 * i + j))) → vI (fgt (ntH (gtH h i nm) (cAp h i nm ff) (gwh h i nm) (gz h i nm)) (3000 + i) 10) b k = vI (ntH (gtH h i nm) (cAp h i nm ff) (gwh h i nm) (gz h i nm)) b k := fun b k c => by
    rcases c with c | c
    · exact fgt_n0 c 10
    · refine fgt_I 10 (fun j b' hj hb => ?_)
      rw [ePn] at hb
      have := hbs j hj b' hb
      have := c j hj
      omega
  refine ⟨by rw [Fk.1, T.1, G.1], by rw [Fk.2.2, T.2.2.1, G.2.1], fun b h7 h8 => by rw [Fk.2.1, T.2.1, G.2.2.2.1 b h7 h8], fun b k h5 h6 c1 c2 => ?_, fun a j ha hj hne => ?_, fun j b hj hb => ?_, fun j hj => ?_⟩
  · rw [eF b k (by
      rcases Nat.eq_zero_or_pos k with q | q
      · exact Or.inr (fun j hj => by omega)
      · exact Or.inl (by omega))]
    by_cases z : 1000 ≤ b ∧ b < 1010
    · rw [T.2.2.2 b k (by omega), G.2.2.1 b h5 h6]
    · rw [ntH_f _ (fun m hm2 => by have := hw m hm2; omega), G.2.2.1 b h5 h6]
  · rw [eF _ 0 (Or.inr (fun j' hj' => by omega)), ntH_f _ (fun m hm2 => by have := hw m hm2; omega), G.2.2.1 _ (by omega) (by omega)]
  · exact fgt_0 10 j b hj (by rw [ePn]; exact hb)
  · have V := ntH_v (h := gtH h i nm) (l := cAp h i nm ff) (w := gwh h i nm) (j := j) (gz h i nm) hinj
    rw [eF _ 15 (by omega), eF _ 14 (by omega)]
    rw [G.2.2.1 (1000 + j) (by omega) (by omega)] at V
    exact V
theorem meet_inv (hI : IV n h nm nl ns ne nk fr to E) (hn : n < 64) {i ff : Nat} (hi : i < nm) (hff : ff < gz h i nm) (hME : ME h (mtH h i nm ff)) {h' : HP} {P : Nat → Int64} {r : Nat × Int32 × Int64 × Int64} (hF : FCq (mgH (mtH h i nm ff) i nm) (mz (mtH h i nm ff) i nm) ff h' P r) (hr : ¬ r.1 = 0) : Inv (n + 1) (mtM (mnt h' (vL h' 100 48) (mwh (mtH h i nm ff) i nm) (mz (mtH h i nm ff) i nm)) i r.2.2.1 r.2.2.2 (mCn (mtH h i nm ff) i)) := by
  have hm := ivnm hI
  obtain ⟨c0, c1⟩ := cou_eq hI hn hME hi hff hF
  obtain ⟨_, _, _, e1, e2, e3, e4, e5⟩ := c1.resolve_left (fun z => hr z.2.2)
  obtain ⟨n1, n2, n3, n4, n5, n6, n7⟩ := mtN_f hI hi ff
  rw [(ME_f hME i).1, ← e1, ← e2, ← e5]
  have hk3 := iv103 hI i hi
  -- the class's heap
  have cl : liv (mtH h i nm ff) = liv h := by unfold mtH; split <;> exact n1
  have cP : vP (mtH h i nm ff) = vP h := by unfold mtH; split <;> exact n2
  have cI : ∀ b k, ¬ (b = 2000 + i ∧ k = 0) → vI (mtH h i nm ff) b k = vI (mtN h i nm ff) b k := fun b k c => by
    unfold mtH
    split
    · rfl
    · unfold spP; rw [vI_sL, vI_sL, vI_sL, vI_ne c]
  have cL : ∀ b k, b ≠ 7 → b ≠ 8 → b ≠ 2000 + i → vL (mtH h i nm ff) b k = vL h b k := fun b k c7 c8 c => by
    unfold mtH
    split
    · rw [n3 b c7 c8]
    · unfold spP; rw [vL_ne (by omega), vL_ne (by omega), vL_ne (by omega), vL_sI, n3 b c7 c8]
  have how : vI h 103 i = 3 ∨ (vL (mtH h i nm ff) (2000 + i) 1 = cLs h i nm ff ∧ vL (mtH h i nm ff) (2000 + i) 2 = cGr h i nm ff ∧ vL (mtH h i nm ff) (2000 + i) 3 = mCn h i) := by
    by_cases z : vI h 103 i = 3
    · exact Or.inl z
    · right
      unfold mtH
      rw [if_neg (by rw [hk3]; exact z)]
      unfold spP
      refine ⟨by rw [vL_ne (by omega), vL_ne (by omega), vLs], by rw [vL_ne (by omega), vLs], by rw [vLs, cCn_eq hI hi]⟩
  have hp := PM_of hI hME hi
  generalize mtH h i nm ff = hc at *
  have M := mg_k hc i nm
  have A := hF.1
  have Tk := mnt_k h' (Int32.toInt64 (cAp h i nm ff)) (mwh hc i nm) (mz hc i nm)
  unfold mtM
  have Ck := clr_k (sL (sL (sL (mnt h' (Int32.toInt64 (cAp h i nm ff)) (mwh hc i nm) (mz hc i nm)) 109 i (cLs h i nm ff)) 110 i (cGr h i nm ff)) 111 i (mCn h i)) i 10
  have Cv := clr_v (h := sL (sL (sL (mnt h' (Int32.toInt64 (cAp h i nm ff)) (mwh hc i nm) (mz hc i nm)) 109 i (cLs h i nm ff)) 110 i (cGr h i nm ff)) 111 i (mCn h i)) (i := i) 10
  have hinj2 : ∀ a b, a < b → b < mz hc i nm → mwh hc i nm a ≠ mwh hc i nm b := fun a b h1 h2 e => by
    refine mg_inj hc i nm hm a b h1 h2 ?_
    rw [(mwh_ok hm (show a < mz hc i nm by omega)).2.2.1, (mwh_ok hm h2).2.2.1, e]
  have V2 : ∀ j, _ := fun j => mnt_v (h := h') (l := Int32.toInt64 (cAp h i nm ff)) (w := mwh hc i nm) (j := j) (mz hc i nm) hinj2
  generalize mnt h' (Int32.toInt64 (cAp h i nm ff)) (mwh hc i nm) (mz hc i nm) = ht at *
  have e117 : ∀ j, vI h' 117 j = vI h 117 j := fun j => by rw [A.2.2.1 117 (by omega), M.2.2.1 117 (by omega) (by omega), cI 117 j (by omega), n4 117 j (by omega) (by omega) (by omega) (by omega)]
  have e118 : ∀ j, vI h' 118 j = vI h 118 j := fun j => by rw [A.2.2.1 118 (by omega), M.2.2.1 118 (by omega) (by omega), cI 118 j (by omega), n4 118 j (by omega) (by omega) (by omega) (by omega)]
  have hex : ∀ j, j < 10 → ((∃ m, m < gz h i nm ∧ gwh h i nm m = j) ↔ (∃ m, m < mz hc i nm ∧ mwh hc i nm m = j)) := fun j hj => by
    constructor
    · rintro ⟨m, m1, m2⟩
      obtain ⟨q, q1, q2, _⟩ := hp.1.1 m m1
      have w1 := (gwh_ok hi hm m1).2
      have w2 := (mwh_ok hm q1).2.2.1
      have w3 := (mwh_ok hm q1).1
      rw [w1, w2] at q2
      exact ⟨q, q1, by rw [nI_inj (by omega) (by omega) q2]; exact m2⟩
    · rintro ⟨m, m1, m2⟩
      obtain ⟨q, q1, q2, _⟩ := hp.2.1 m m1
      have w1 := (gwh_ok hi hm q1).2
      have w2 := (mwh_ok hm m1).2.2.1
      have w3 := (mwh_ok hm m1).1
      have w4 := (gwh_ok hi hm q1).1
      rw [w1, w2] at q2
      exact ⟨q, q1, by rw [nI_inj (by omega) (by omega) q2]; exact m2⟩
  generalize hH : clr (sL (sL (sL ht 109 i (cLs h i nm ff)) 110 i (cGr h i nm ff)) 111 i (mCn h i)) i 10 = H at *
  have hv : ∀ b k, ¬ (b = 119 ∧ 10 * i ≤ k ∧ k < 10 * i + 10) → vI H b k = vI ht b k := fun b k c => by rw [Cv.2 b k c, vI_sL, vI_sL, vI_sL]
  have lv : ∀ b k, vL H b k = vL (sL (sL (sL ht 109 i (cLs h i nm ff)) 110 i (cGr h i nm ff)) 111 i (mCn h i)) b k := fun b k => by rw [Ck.2.1]
  have toc : ∀ b k, b ≠ 117 → b ≠ 118 → b ≠ 119 → b ≠ 142 → ¬ (b = 100 ∧ (k = 40 ∨ k = 45)) → vI H b k = vI hc b k := fun b k c1 c2 c3 c4 c5 => by
    rw [hv b k (by omega), Tk.2.2.2 b c1 c2]
    by_cases z : b = 100
    · subst z; rw [A.2.2.2.1 k (by omega), M.2.2.2.1 k (by omega)]
    · rw [A.2.2.1 b z, M.2.2.1 b z c4]
  refine iv_inv (iv_meet hI hn hi e3 e4 (fun b _ => ?_) (fun b k _ => ?_) (fun b k c => ?_) (fun b k c => ?_) (fun a j ha hj hne => ?_) (fun j b hj hb => ?_) (fun j hj => Cv.1 j hj) (fun j hj => ?_) (fun j hj => ?_) (fun j hj => ?_) ?_ ?_ ?_ ?_)
  · rw [Ck.1, liv_sL, liv_sL, liv_sL, Tk.1, A.1, M.1, cl]
  · rw [Ck.2.2.1, vP_sL, vP_sL, vP_sL, Tk.2.2.1, A.2.1, M.2.1, cP]
  · by_cases z : b = 119
    · subst z
      rw [hv 119 k (by omega), Tk.2.2.2 119 (by omega) (by omega), A.2.2.1 119 (by omega), M.2.2.1 119 (by omega) (by omega), cI 119 k (by omega), n4 119 k (by omega) (by omega) (by omega) (by omega)]
    · rw [toc b k (by omega) (by omega) z (by omega) (by omega), cI b k (by omega), n4 b k (by omega) (by omega) (by omega) (by omega)]
  · rw [lv, vL_ne (by omega), vL_ne (by omega), vL_ne (by omega), Tk.2.1]
    by_cases z : b = 100
    · subst z
      rw [A.2.2.2.2.2 k (by omega) (by omega) (by omega), M.2.2.2.2.1 100 (by omega) (by omega), cL 100 k (by omega) (by omega) (by omega)]
    · rw [A.2.2.2.2.1 b z (by omega), M.2.2.2.2.1 b (by omega) (by omega), cL b k (by omega) (by omega) (by omega)]
  · rw [toc _ 0 (by omega) (by omega) (by omega) (by omega) (by omega), cI _ 0 (by omega)]; exact n5 a j ha hj hne
  · have hb2 := SM_hc (ivSM hI) hi hj b hb
    rw [toc b 0 (by omega) (by omega) (by omega) (by omega) (by omega), cI b 0 (by omega)]; exact n6 j b hj hb
  · rw [toc _ 14 (by omega) (by omega) (by omega) (by omega) (by omega), cI _ 14 (by omega), hv 117 j (by omega)]
    by_cases z : ∃ m, m < gz h i nm ∧ gwh h i nm m = j
    · rw [((n7 j (by omega)).1 z).2, ((V2 j).1 ((hex j (by omega)).mp z)).2, e117, iv117 hI j hj, bt1_eq _ j (by omega)]
    · rw [((n7 j (by omega)).2 z).2, ((V2 j).2 (fun w => z ((hex j (by omega)).mpr w))).2, e117, iv117 hI j hj]
  · rw [toc _ 15 (by omega) (by omega) (by omega) (by omega) (by omega), cI _ 15 (by omega), hv 118 j (by omega)]
    by_cases z : ∃ m, m < gz h i nm ∧ gwh h i nm m = j
    · rw [((n7 j (by omega)).1 z).1, ((V2 j).1 ((hex j (by omega)).mp z)).1, e118, iv118 hI j hj]
    · rw [((n7 j (by omega)).2 z).1, ((V2 j).2 (fun w => z ((hex j (by omega)).mpr w))).1, e118, iv118 hI j hj]
  · have no : ¬ ∃ m, m < mz hc i nm ∧ mwh hc i nm m = j := fun ⟨m, m1, m2⟩ => by have := (mwh_ok hm m1).1; omega
    rw [hv 117 j (by omega), hv 118 j (by omega), ((V2 j).2 no).1, ((V2 j).2 no).2, e117, e118]
    exact ⟨rfl, rfl⟩
  · rw [lv, vL_ne (by omega), vL_ne (by omega), vLs]
  · rw [lv, vL_ne (by omega), vLs]
  · rw [lv, vLs]
  · rcases how with z | ⟨z1, z2, z3⟩
    · exact Or.inl z
    · have own : ∀ k, vL H (2000 + i) k = vL hc (2000 + i) k := fun k => by
        rw [lv, vL_ne (by omega), vL_ne (by omega), vL_ne (by omega), Tk.2.1, A.2.2.2.2.1 _ (by omega) (by omega), M.2.2.2.2.1 _ (by omega) (by omega)]
      rw [own, own, own]
      exact Or.inr ⟨z1, z2, z3⟩
theorem meet_ME (hI : IV n h nm nl ns ne nk fr to E) {i : Nat} (hi : i < nm) (ff : Nat) : ME h (mtH h i nm ff) := by
  obtain ⟨n1, n2, n3, n4, _⟩ := mtN_f hI hi ff
  refine ⟨fun b k c => ?_, fun b k c => ?_, fun b k c => ?_, fun b c => ?_⟩
  · unfold mtH
    split
    · exact n4 b k (by omega) (by omega) (by omega) (by omega)
    · unfold spP; rw [vI_sL, vI_sL, vI_sL, vI_ne (by omega)]; exact n4 b k (by omega) (by omega) (by omega) (by omega)
  · unfold mtH
    split
    · rw [n3 b (by omega) (by omega)]
    · unfold spP; rw [vL_ne (by omega), vL_ne (by omega), vL_ne (by omega), vL_sI, n3 b (by omega) (by omega)]
  · unfold mtH; split
    · rw [n2]
    · unfold spP; rw [vP_sL, vP_sL, vP_sL, vP_sI, n2]
  · unfold mtH; split
    · rw [n1]
    · unfold spP; rw [liv_sL, liv_sL, liv_sL, liv_sI, n1]
end
set_option maxRecDepth 20000 in
theorem op_meet {g : GG} {n : Nat} {h : HP} {nm nl ns ne nk : Nat} {fr to : Nat → Nat} {E : Nat → Nat → Prop} (hI : IV n h nm nl ns ne nk fr to E) (hn : n < 64) (x f : Int32) : CT g mX6_meet [.ref 1, .int x, .int f] h (O2 g mX7_meet [.ref 100, .int x, .int f] n) := by
  have hm := ivnm hI
  by_cases hx : inR x nm
  · obtain ⟨i, hi0, rfl⟩ := inR_ex hx (by omega)
    have hk : okMt h (1000 + i) ↔ okMm h i := by
      unfold okMt okMm
      rw [iv103 hI i hi0, iv114 hI i hi0]
      have := (ivRG hI i hi0).1
      omega
    by_cases hk0 : okMt h (1000 + i)
    · have hkm := hk.mp hk0
      have hok : ∀ {h1 : HP}, ME h h1 → okMm h1 i := fun e => by unfold okMm; rw [e.1 103 i (by omega), e.1 114 i (by omega)]; exact hkm
      have hG := ME_gt h i nm
      have hlen := PM_len (PM_of hI hG hi0)
      have h10 := gz10 (ivSM hI) hi0 (hself hI hi0)
      by_cases hf : inR f (gz h i nm)
      · obtain ⟨ff, hff, rfl⟩ := inR_ex hf (by omega)
        have hff2 : ff < mz (gtH h i nm) i nm := by omega
        have hT := meet_ME hI hi0 ff
        have hlen2 := PM_len (PM_of hI hT hi0)
        refine ct_meet nm i (ivSR hI) (ivSM hI) hi0 (hself hI hi0) ff hff hk0 (fun z => ⟨_, rfl, cm_meet_y nm (ME_W hG (ivMW hI)) (ME_C hG (ivCN hI)).1 hm i hi0 ((ME_f hG i).2.2.2.2.2 (DV_of (ivRG hI) hi0)) ff hff2 (hok hG) (fun h' P r hF _ => ⟨rfl, iv_inv (sc_iv hI hF.1)⟩) (fun h' P r hF hr => ?_)⟩) (fun z1 z2 => ⟨_, rfl, cm_meet_y nm (ME_W hT (ivMW hI)) (ME_C hT (ivCN hI)).1 hm i hi0 ((ME_f hT i).2.2.2.2.2 (DV_of (ivRG hI) hi0)) ff (by omega) (hok hT) (fun h' P r hF hr => ?_) (fun h' P r hF hr => ⟨?_, meet_inv hI hn hi0 hff hT hF hr⟩)⟩)
        · rcases (cou_eq hI hn hG hi0 hff hF).2 with ⟨_, _, c⟩ | ⟨c1, c2, _⟩
          · exact absurd c hr
          · exact absurd z (fun w => w.elim c1 c2)
        · rcases (cou_eq hI hn hT hi0 hff hF).2 with ⟨c, _⟩ | ⟨_, _, c, _⟩
          · exact absurd c z1
          · exact absurd hr c
        · rcases (cou_eq hI hn hT hi0 hff hF).2 with ⟨c, _⟩ | ⟨_, _, _, _, _, _, _, c6⟩
          · exact absurd c z1
          · rw [c6]
      · exact ct_meet_f nm i (ivSR hI) (ivSM hI) hi0 (hself hI hi0) f hk0 hf (O2_of rfl (cm_meet_f nm (ME_W hG (ivMW hI)) (ME_C hG (ivCN hI)).1 hm i hi0 ((ME_f hG i).2.2.2.2.2 (DV_of (ivRG hI) hi0)) f (hok hG) (by rw [← hlen]; exact hf) ⟨rfl, iv_inv (sc_iv hI (AG_rf _))⟩))
    · exact ct_meet_k nm i (ivSR hI) (ivSM hI) hi0 (hself hI hi0) f hk0 (O2_of rfl (cm_meet_k nm (ivMW hI) (ivCN hI).1 (ivnm hI) i hi0 (DV_of (ivRG hI) hi0) f (fun w => hk0 (hk.mpr w)) ⟨rfl, inv_up hI⟩))
  · exact ct_meet0 f nm x (ivSR hI) (ivSM hI) hx (O2_of rfl (cm_meet0 f nm (ivMW hI) (ivCN hI).1 (ivnm hI) x hx ⟨rfl, inv_up hI⟩))
