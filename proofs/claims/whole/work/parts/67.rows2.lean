/-! the calls that change rows: letters, stamps, members -/
theorem hsp_c2 {h h' : HP} {r j c : Nat} (hb : ∀ b, vP h r j = some b → b = c) (eP : vP h' r j = vP h r j) (eI : vI h' c 0 = vI h c 0) : hsp h' r j = hsp h r j := by
  unfold hsp
  rw [eP]
  cases q : vP h r j with
  | none => rfl
  | some b => show (if _ then _ else _) = (if _ then _ else _); rw [hb b q, eI]
theorem SM_hc {h : HP} {nm i j : Nat} (hM : SM h nm) (hi : i < nm) (hj : j < 10) : ∀ b, vP h (3000 + i) j = some b → b = 4000 + (10 * i + j) := fun b hb => ((hM.2.2.1 i hi).2.2.2.2.2.2.2.1 j b hj hb).1
theorem iv_take {n : Nat} {h : HP} {nm nl ns ne nk : Nat} {fr to : Nat → Nat} {E : Nat → Nat → Prop} (hI : IV n h nm nl ns ne nk fr to E) (l : Nat) (hl0 : l < nl) (lo hi : Int64) (hlo : inB (n + 1) lo) (hhi : inB (n + 1) hi) : IV (n + 1) (sI (sL (sL (sI (sI (sI (sL (sL h (5000 + l) (5) (lo)) (5000 + l) (6) (hi)) (5000 + l) (4) (1)) (5000 + l) (3) (1)) (128) (l) (1)) (129) (l) (lo)) (130) (l) (hi)) (126) (l) (1)) nm nl ns ne nk fr to E := by
  have hm := ivnm hI
  have hl : nl ≤ 200 := Nat.le_of_lt (ivSL hI).1
  have hn0 := Nat.le_succ n
  generalize hH : (sI (sL (sL (sI (sI (sI (sL (sL h (5000 + l) (5) (lo)) (5000 + l) (6) (hi)) (5000 + l) (4) (1)) (5000 + l) (3) (1)) (128) (l) (1)) (129) (l) (lo)) (130) (l) (hi)) (126) (l) (1)) = H
  have fI : ∀ b k, (¬ (b = 5000 + l ∧ k = 4) ∧ ¬ (b = 5000 + l ∧ k = 3) ∧ ¬ (b = 128 ∧ k = l) ∧ ¬ (b = 126 ∧ k = l)) → vI H b k = vI h b k := fun b k c => by rw [← hH, vI_ne (by omega), vI_sL, vI_sL, vI_ne (by omega), vI_ne (by omega), vI_ne (by omega), vI_sL, vI_sL]
  have fL : ∀ b k, (¬ (b = 5000 + l ∧ k = 5) ∧ ¬ (b = 5000 + l ∧ k = 6) ∧ ¬ (b = 129 ∧ k = l) ∧ ¬ (b = 130 ∧ k = l)) → vL H b k = vL h b k := fun b k c => by rw [← hH, vL_sI, vL_ne (by omega), vL_ne (by omega), vL_sI, vL_sI, vL_sI, vL_ne (by omega), vL_ne (by omega)]
  have fP : ∀ b k, (True) → vP H b k = vP h b k := fun b k c => by rw [← hH, vP_sI, vP_sL, vP_sL, vP_sI, vP_sI, vP_sI, vP_sL, vP_sL]
  have fZ : ∀ b, (True) → liv H b = liv h b := fun b c => by rw [← hH, liv_sI, liv_sL, liv_sL, liv_sI, liv_sI, liv_sI, liv_sL, liv_sL]
  have eC : ∀ i, i < nm → (mCn h i).toInt ≤ (mCn H i).toInt := fun i hi => Int.le_of_eq (by rw [mCn_cg (h := h) (fun b k c => fL b k (by first | trivial | omega)) i])
  exact ⟨SR_cg (ivSR hI) (fun b c => fZ b (by first | trivial | omega)) (fun b k c => fP b k (by first | trivial | omega)),
    SM_cg (ivSM hI) (fun b c => fZ b (by first | trivial | omega)) (fun b k c => fP b k (by first | trivial | omega)) (fun b k c => fI b k (by first | trivial | omega)),
    SL_cg (ivSL hI) (fun b c => fZ b (by first | trivial | omega)) (fun b k c => fP b k (by first | trivial | omega)) (fun b k c => fI b k (by first | trivial | omega)),
    SS_cg (ivSS hI) (fun b c => fZ b (by first | trivial | omega)) (fun b k c => fP b k (by first | trivial | omega)) (fun b k c => fI b k (by first | trivial | omega)),
    SO_cg (ivSO hI) (fun b c => fZ b (by first | trivial | omega)) (fun b k c => fP b k (by first | trivial | omega)) (fun b k c => fI b k (by first | trivial | omega)),
    MW_cg (ivMW hI) (fun b c => fZ b (by first | trivial | omega)) (fun b k c => fP b k (by first | trivial | omega)),
    ML_cg (ivML hI) (fun b c => fZ b (by first | trivial | omega)) (fun b k c => fP b k (by first | trivial | omega)) (fun b k c => fI b k (by first | trivial | omega)),
    CN_cg (ivCN hI) (fun b k c => fI b k (by first | trivial | omega)),
    NW_cg (ivNW hI) hn0 (fun b k c => fL b k (by first | trivial | omega)),
    ⟨by have := (ivNC hI).1; omega, by have := (ivNC hI).2.1; omega, (ivNC hI).2.2⟩,
    PI_cg (iv103 hI) hm (fun b k c => fI b k (by first | trivial | omega)),
    PI_cg (iv114 hI) hm (fun b k c => fI b k (by first | trivial | omega)),
    PI_cg (iv117 hI) hm (fun b k c => fI b k (by first | trivial | omega)),
    PI_cg (iv118 hI) hm (fun b k c => fI b k (by first | trivial | omega)),
    PW_cg (iv104 hI) hm (fun b k c => fI b k (by first | trivial | omega)) (fun b k c => fL b k (by first | trivial | omega)),
    PW_cg (iv105 hI) hm (fun b k c => fI b k (by first | trivial | omega)) (fun b k c => fL b k (by first | trivial | omega)),
    PL_cg (iv106 hI) hm (fun b k c => fL b k (by first | trivial | omega)),
    PW_cg (iv107 hI) hm (fun b k c => fI b k (by first | trivial | omega)) (fun b k c => fL b k (by first | trivial | omega)),
    PW_cg (iv108 hI) hm (fun b k c => fI b k (by first | trivial | omega)) (fun b k c => fL b k (by first | trivial | omega)),
    PL_cg (iv112 hI) hm (fun b k c => fL b k (by first | trivial | omega)),
    PL_cg (iv113 hI) hm (fun b k c => fL b k (by first | trivial | omega)),
    PL_cg (iv115 hI) hm (fun b k c => fL b k (by first | trivial | omega)),
    PL_cg (iv116 hI) hm (fun b k c => fL b k (by first | trivial | omega)),
    OW_cg (ivOW hI) hm (fun b k c => fI b k (by first | trivial | omega)) (fun b k c => fL b k (by first | trivial | omega)),
    RG_cg (ivRG hI) (fun b k c => fI b k (by first | trivial | omega)) (fun b k c => fL b k (by first | trivial | omega)),
    RB_cg (ivRB hI) hn0 eC (fun b k c => fL b k (by first | trivial | omega)),
    RZ_cg (ivRZ hI) (fun b k c => fI b k (by first | trivial | omega)) (fun b k c => fL b k (by first | trivial | omega)),
    HD_cg (ivHD hI) (ivSM hI) hn0 eC (fun b k c => fP b k (by first | trivial | omega)) (fun b k c => fI b k (by first | trivial | omega)) (fun b k c => fL b k (by first | trivial | omega)),
    HZ_cg (ivHZ hI) (fun b k c => fI b k (by first | trivial | omega)),
    (fun q hq => by
      obtain ⟨f, t, a⟩ := ivLT hI q hq
      have a := L1_cg (n' := n + 1) (h' := h) a hn0 (Nat.le_refl nm) (Int.le_refl _) (fun _ _ _ => rfl) (fun _ _ _ => rfl) (fun _ _ _ => rfl)
      refine ⟨f, t, ?_⟩
      by_cases e : q = l
      · subst e
        obtain ⟨a1, a2, a3, a4, a5, a6, a7, a8, a9⟩ := a
        have ec := mCn_cg (h := h) (h' := H) (fun b k c => fL b k (by first | trivial | omega)) f
        have e1 : vI H (5000 + q) 3 = 1 := by rw [← hH, vI_ne (by omega), vI_sL, vI_sL, vI_ne (by omega), vIs]
        have e2 : vI H (5000 + q) 4 = 1 := by rw [← hH, vI_ne (by omega), vI_sL, vI_sL, vI_ne (by omega), vI_ne (by omega), vIs]
        have e3 : vI H (128) q = 1 := by rw [← hH, vI_ne (by omega), vI_sL, vI_sL, vIs]
        have e4 : vI H (126) q = 1 := by rw [← hH, vIs]
        have e5 : vL H (5000 + q) 5 = lo := by rw [← hH, vL_sI, vL_ne (by omega), vL_ne (by omega), vL_sI, vL_sI, vL_sI, vL_ne (by omega), vLs]
        have e6 : vL H (5000 + q) 6 = hi := by rw [← hH, vL_sI, vL_ne (by omega), vL_ne (by omega), vL_sI, vL_sI, vL_sI, vLs]
        have e7 : vL H (129) q = lo := by rw [← hH, vL_sI, vL_ne (by omega), vLs]
        have e8 : vL H (130) q = hi := by rw [← hH, vL_sI, vLs]
        unfold L1
        rw [ec, fP _ _ trivial, fP _ _ trivial, fI 124 _ (by omega), fI 125 _ (by omega), e1, e2, e3, e4, fL 127 _ (by omega), fL _ 2 (by omega), e5, e6, e7, e8]
        exact ⟨a1, a2, a3, a4, a5, ⟨rfl, by decide, by decide⟩, a7, rfl, Or.inr ⟨rfl, ⟨rfl, rfl⟩, hlo, hhi⟩⟩
      · exact L1_cg a (Nat.le_refl _) (Nat.le_refl _) (eC f a.1) (fun b k c => fP b k (by first | trivial | omega)) (fun b k c => fI b k (by first | trivial | omega)) (fun b k c => fL b k (by first | trivial | omega))),
    RS_cg (ivRS hI) hn0 (fun b k c => fI b k (by first | trivial | omega)) (fun b k c => fL b k (by first | trivial | omega)),
    EV_cg (ivEV hI) hn0 (fun b k c => fL b k (by first | trivial | omega)),
    EZ_cg (ivEZ hI) (fun b k c => fI b k (by first | trivial | omega)),
    DS_cg (ivDS hI) (fun b k c => fI b k (by first | trivial | omega)) (fun b k c => fL b k (by first | trivial | omega))⟩
theorem iv_bringN {n : Nat} {h : HP} {nm nl ns ne nk : Nat} {fr to : Nat → Nat} {E : Nat → Nat → Prop} (hI : IV n h nm nl ns ne nk fr to E) (hn : n < 64) (l : Nat) (hl0 : l < nl) (f t : Nat) (hf : f < nm) (ht : t < nm) (hft : f ≠ t) (lo hv : Int64) (hlo : inB (n + 1) lo) (hhi : inB (n + 1) hv)  : IV (n + 1) (sL (sL (sL (sI (sI (sI (sL (sL (sL (sI (sP (sN h (4000 + (10 * f + t))) (3000 + f) (t) (some (4000 + (10 * f + t)))) (4000 + (10 * f + t)) (0) (1)) (4000 + (10 * f + t)) (1) (lo)) (4000 + (10 * f + t)) (2) (hv)) (4000 + (10 * f + t)) (3) (mCn h f)) (5000 + l) (3) (2)) (126) (l) (2)) (119) (10 * f + t) (1)) (120) (10 * f + t) (lo)) (121) (10 * f + t) (hv)) (122) (10 * f + t) (mCn h f)) nm nl ns ne nk fr to E := by
  have hm := ivnm hI
  have hl : nl ≤ 200 := Nat.le_of_lt (ivSL hI).1
  have hn0 := Nat.le_succ n
  generalize hH : (sL (sL (sL (sI (sI (sI (sL (sL (sL (sI (sP (sN h (4000 + (10 * f + t))) (3000 + f) (t) (some (4000 + (10 * f + t)))) (4000 + (10 * f + t)) (0) (1)) (4000 + (10 * f + t)) (1) (lo)) (4000 + (10 * f + t)) (2) (hv)) (4000 + (10 * f + t)) (3) (mCn h f)) (5000 + l) (3) (2)) (126) (l) (2)) (119) (10 * f + t) (1)) (120) (10 * f + t) (lo)) (121) (10 * f + t) (hv)) (122) (10 * f + t) (mCn h f)) = H
  have fI : ∀ b k, (¬ (b = 4000 + (10 * f + t) ∧ k = 0) ∧ ¬ (b = 5000 + l ∧ k = 3) ∧ ¬ (b = 126 ∧ k = l) ∧ ¬ (b = 119 ∧ k = 10 * f + t) ∧ b ≠ 4000 + (10 * f + t)) → vI H b k = vI h b k := fun b k c => by rw [← hH, vI_sL, vI_sL, vI_sL, vI_ne (by omega), vI_ne (by omega), vI_ne (by omega), vI_sL, vI_sL, vI_sL, vI_ne (by omega), vI_sP, vI_nN (by omega)]
  have fL : ∀ b k, (¬ (b = 4000 + (10 * f + t) ∧ k = 1) ∧ ¬ (b = 4000 + (10 * f + t) ∧ k = 2) ∧ ¬ (b = 4000 + (10 * f + t) ∧ k = 3) ∧ ¬ (b = 120 ∧ k = 10 * f + t) ∧ ¬ (b = 121 ∧ k = 10 * f + t) ∧ ¬ (b = 122 ∧ k = 10 * f + t) ∧ b ≠ 4000 + (10 * f + t)) → vL H b k = vL h b k := fun b k c => by rw [← hH, vL_ne (by omega), vL_ne (by omega), vL_ne (by omega), vL_sI, vL_sI, vL_sI, vL_ne (by omega), vL_ne (by omega), vL_ne (by omega), vL_sI, vL_sP, vL_nN (by omega)]
  have fP : ∀ b k, (¬ (b = 3000 + f ∧ k = t) ∧ b ≠ 4000 + (10 * f + t)) → vP H b k = vP h b k := fun b k c => by rw [← hH, vP_sL, vP_sL, vP_sL, vP_sI, vP_sI, vP_sI, vP_sL, vP_sL, vP_sL, vP_sI, vP_ne (by omega), vP_nN (by omega)]
  have fZ : ∀ b, (b ≠ 4000 + (10 * f + t)) → liv H b = liv h b := fun b c => by rw [← hH, liv_sL, liv_sL, liv_sL, liv_sI, liv_sI, liv_sI, liv_sL, liv_sL, liv_sL, liv_sI, liv_sP, liv_other (by omega)]
  have eC : ∀ i, i < nm → (mCn h i).toInt ≤ (mCn H i).toInt := fun i hi => Int.le_of_eq (by rw [mCn_cg (h := h) (fun b k c => fL b k (by first | trivial | omega)) i])
  exact ⟨SR_cg (ivSR hI) (fun b c => fZ b (by first | trivial | omega)) (fun b k c => fP b k (by first | trivial | omega)),
    (by
      obtain ⟨s1, s2, s3, s4⟩ := ivSM hI
      have hP : vP H (3000 + f) t = some (4000 + (10 * f + t)) := by rw [← hH, vP_sL, vP_sL, vP_sL, vP_sI, vP_sI, vP_sI, vP_sL, vP_sL, vP_sL, vP_sI, vPs]
      refine ⟨s1, by rw [fI 1 2 (by omega)]; exact s2, fun i hi => ?_, fun i hi hi2 => ?_⟩
      · obtain ⟨a1, a2, a3, a4, a5, a6, a7, a8, a9⟩ := s3 i hi
        refine ⟨by rw [fP 2 _ (by omega)]; exact a1, by rw [fZ _ (by omega)]; exact a2, by rw [fZ _ (by omega)]; exact a3, by rw [fZ _ (by omega)]; exact a4, by rw [fP _ _ (by omega)]; exact a5, by rw [fP _ _ (by omega)]; exact a6, by rw [fI _ _ (by omega)]; exact a7, fun j b hj hb => ?_, fun j hj hb => ?_⟩
        · by_cases e : i = f ∧ j = t
          · obtain ⟨rfl, rfl⟩ := e
            rw [hP] at hb
            obtain rfl := Option.some.inj hb
            refine ⟨rfl, ?_⟩
            rw [← hH, liv_sL, liv_sL, liv_sL, liv_sI, liv_sI, liv_sI, liv_sL, liv_sL, liv_sL, liv_sI, liv_sP]
            exact liv_new _ _
          · rw [fP _ _ (by omega)] at hb
            have := a8 j b hj hb
            exact ⟨this.1, by rw [fZ _ (by omega)]; exact this.2⟩
        · by_cases e : i = f ∧ j = t
          · obtain ⟨rfl, rfl⟩ := e
            rw [hP] at hb
            cases hb
          · rw [fP _ _ (by omega)] at hb
            rw [fZ _ (by omega)]; exact a9 j hj hb
      · obtain ⟨a1, a2, a3, a4⟩ := s4 i hi hi2
        exact ⟨by rw [fZ _ (by omega)]; exact a1, by rw [fZ _ (by omega)]; exact a2, by rw [fZ _ (by omega)]; exact a3, fun j hj => by rw [fZ _ (by omega)]; exact a4 j hj⟩),
    SL_cg (ivSL hI) (fun b c => fZ b (by first | trivial | omega)) (fun b k c => fP b k (by first | trivial | omega)) (fun b k c => fI b k (by first | trivial | omega)),
    SS_cg (ivSS hI) (fun b c => fZ b (by first | trivial | omega)) (fun b k c => fP b k (by first | trivial | omega)) (fun b k c => fI b k (by first | trivial | omega)),
    SO_cg (ivSO hI) (fun b c => fZ b (by first | trivial | omega)) (fun b k c => fP b k (by first | trivial | omega)) (fun b k c => fI b k (by first | trivial | omega)),
    MW_cg (ivMW hI) (fun b c => fZ b (by first | trivial | omega)) (fun b k c => fP b k (by first | trivial | omega)),
    ML_cg (ivML hI) (fun b c => fZ b (by first | trivial | omega)) (fun b k c => fP b k (by first | trivial | omega)) (fun b k c => fI b k (by first | trivial | omega)),
    CN_cg (ivCN hI) (fun b k c => fI b k (by first | trivial | omega)),
    NW_cg (ivNW hI) hn0 (fun b k c => fL b k (by first | trivial | omega)),
    ⟨by have := (ivNC hI).1; omega, by have := (ivNC hI).2.1; omega, (ivNC hI).2.2⟩,
    PI_cg (iv103 hI) hm (fun b k c => fI b k (by first | trivial | omega)),
    PI_cg (iv114 hI) hm (fun b k c => fI b k (by first | trivial | omega)),
    PI_cg (iv117 hI) hm (fun b k c => fI b k (by first | trivial | omega)),
    PI_cg (iv118 hI) hm (fun b k c => fI b k (by first | trivial | omega)),
    PW_cg (iv104 hI) hm (fun b k c => fI b k (by first | trivial | omega)) (fun b k c => fL b k (by first | trivial | omega)),
    PW_cg (iv105 hI) hm (fun b k c => fI b k (by first | trivial | omega)) (fun b k c => fL b k (by first | trivial | omega)),
    PL_cg (iv106 hI) hm (fun b k c => fL b k (by first | trivial | omega)),
    PW_cg (iv107 hI) hm (fun b k c => fI b k (by first | trivial | omega)) (fun b k c => fL b k (by first | trivial | omega)),
    PW_cg (iv108 hI) hm (fun b k c => fI b k (by first | trivial | omega)) (fun b k c => fL b k (by first | trivial | omega)),
    PL_cg (iv112 hI) hm (fun b k c => fL b k (by first | trivial | omega)),
    PL_cg (iv113 hI) hm (fun b k c => fL b k (by first | trivial | omega)),
    PL_cg (iv115 hI) hm (fun b k c => fL b k (by first | trivial | omega)),
    PL_cg (iv116 hI) hm (fun b k c => fL b k (by first | trivial | omega)),
    OW_cg (ivOW hI) hm (fun b k c => fI b k (by first | trivial | omega)) (fun b k c => fL b k (by first | trivial | omega)),
    RG_cg (ivRG hI) (fun b k c => fI b k (by first | trivial | omega)) (fun b k c => fL b k (by first | trivial | omega)),
    RB_cg (ivRB hI) hn0 eC (fun b k c => fL b k (by first | trivial | omega)),
    RZ_cg (ivRZ hI) (fun b k c => fI b k (by first | trivial | omega)) (fun b k c => fL b k (by first | trivial | omega)),
    (fun i j hi hj => by
      by_cases e : i = f ∧ j = t
      · obtain ⟨rfl, rfl⟩ := e
        have c1 : vI H 119 (10 * i + j) = 1 := by rw [← hH, vI_sL, vI_sL, vI_sL, vIs]
        have c2 : vI H (4000 + (10 * i + j)) 0 = 1 := by rw [← hH, vI_sL, vI_sL, vI_sL, vI_ne (by omega), vI_ne (by omega), vI_ne (by omega), vI_sL, vI_sL, vI_sL, vIs]
        have c3 : vP H (3000 + i) j = some (4000 + (10 * i + j)) := by rw [← hH, vP_sL, vP_sL, vP_sL, vP_sI, vP_sI, vP_sI, vP_sL, vP_sL, vP_sL, vP_sI, vPs]
        have c4 : hsp H (3000 + i) j = some (4000 + (10 * i + j)) := by unfold hsp; rw [c3]; show (if _ then _ else _) = _; rw [c2]; rfl
        have d1 : vL H 120 (10 * i + j) = lo := by rw [← hH, vL_ne (by omega), vL_ne (by omega), vLs]
        have d2 : vL H 121 (10 * i + j) = hv := by rw [← hH, vL_ne (by omega), vLs]
        have d3 : vL H 122 (10 * i + j) = mCn h i := by rw [← hH, vLs]
        have d4 : vL H (4000 + (10 * i + j)) 1 = lo := by rw [← hH, vL_ne (by omega), vL_ne (by omega), vL_ne (by omega), vL_sI, vL_sI, vL_sI, vL_ne (by omega), vL_ne (by omega), vLs]
        have d5 : vL H (4000 + (10 * i + j)) 2 = hv := by rw [← hH, vL_ne (by omega), vL_ne (by omega), vL_ne (by omega), vL_sI, vL_sI, vL_sI, vL_ne (by omega), vLs]
        have d6 : vL H (4000 + (10 * i + j)) 3 = mCn h i := by rw [← hH, vL_ne (by omega), vL_ne (by omega), vL_ne (by omega), vL_sI, vL_sI, vL_sI, vLs]
        refine Or.inr ⟨ht, Ne.symm hft, c1, c4, ?_, ?_, ?_, ?_⟩
        · rw [d1, d2, d3, d4, d5, d6]; exact ⟨rfl, rfl, rfl⟩
        · rw [d3, mCn_cg (h := h) (h' := H) (fun b k c => fL b k (by first | trivial | omega)) i]; exact ⟨(mCn_b (by omega) (ivNW hI) (ivRG hI) hi).1, Int.le_refl _⟩
        · rw [d1]; exact hlo
        · rw [d2]; exact hhi
      · have eH := hsp_c2 (h := h) (h' := H) (SM_hc (ivSM hI) hi hj) (fP (3000 + i) j (by first | trivial | omega)) (fI (4000 + (10 * i + j)) 0 (by omega))
        rcases ivHD hI i j hi hj with ⟨z1, z2⟩ | z
        · exact Or.inl ⟨by rw [fI _ _ (by omega)]; exact z1, by rw [eH]; exact z2⟩
        · exact Or.inr (HH_cg z hn0 (Nat.le_refl _) (by omega) hj (eC i hi) (fI _ _ (by omega)) eH (fun b k c => fL b k (by omega)))),
    (fun i j hi hi2 hj => by rw [fI _ _ (by omega)]; exact ivHZ hI i j hi hi2 hj),
    (fun q hq => by
      obtain ⟨f, t, a⟩ := ivLT hI q hq
      have a := L1_cg (n' := n + 1) (h' := h) a hn0 (Nat.le_refl nm) (Int.le_refl _) (fun _ _ _ => rfl) (fun _ _ _ => rfl) (fun _ _ _ => rfl)
      refine ⟨f, t, ?_⟩
      by_cases e : q = l
      · subst e
        obtain ⟨a1, a2, a3, a4, a5, a6, a7, a8, a9⟩ := a
        have ec := mCn_cg (h := h) (h' := H) (fun b k c => fL b k (by first | trivial | omega)) f
        have e1 : vI H (5000 + q) 3 = 2 := by rw [← hH, vI_sL, vI_sL, vI_sL, vI_ne (by omega), vI_ne (by omega), vIs]
        have e2 : vI H 126 q = 2 := by rw [← hH, vI_sL, vI_sL, vI_sL, vI_ne (by omega), vIs]
        have hm2 := a1
        unfold L1
        rw [ec, fP (5000 + q) _ (by first | trivial | omega), fP (5000 + q) _ (by first | trivial | omega), fI 124 _ (by omega), fI 125 _ (by omega), fI 128 _ (by omega), fI _ 4 (by omega), e1, e2, fL 127 _ (by omega), fL 129 _ (by omega), fL 130 _ (by omega), fL _ 2 (by omega), fL _ 5 (by omega), fL _ 6 (by omega)]
        refine ⟨a1, a2, a3, a4, a5, ⟨rfl, by decide, by decide⟩, a7, a8, ?_⟩
        rcases a9 with z | z
        · exact Or.inl ⟨z.1, by decide⟩
        · exact Or.inr z
      · exact L1_cg a (Nat.le_refl _) (Nat.le_refl _) (eC f a.1) (fun b k c => fP b k (by first | trivial | omega)) (fun b k c => fI b k (by first | trivial | omega)) (fun b k c => fL b k (by first | trivial | omega))),
    RS_cg (ivRS hI) hn0 (fun b k c => fI b k (by first | trivial | omega)) (fun b k c => fL b k (by first | trivial | omega)),
    EV_cg (ivEV hI) hn0 (fun b k c => fL b k (by first | trivial | omega)),
    EZ_cg (ivEZ hI) (fun b k c => fI b k (by first | trivial | omega)),
    DS_cg (ivDS hI) (fun b k c => fI b k (by first | trivial | omega)) (fun b k c => fL b k (by first | trivial | omega))⟩
theorem iv_bringS {n : Nat} {h : HP} {nm nl ns ne nk : Nat} {fr to : Nat → Nat} {E : Nat → Nat → Prop} (hI : IV n h nm nl ns ne nk fr to E) (hn : n < 64) (l : Nat) (hl0 : l < nl) (f t : Nat) (hf : f < nm) (ht : t < nm) (hft : f ≠ t) (lo hv : Int64) (hlo : inB (n + 1) lo) (hhi : inB (n + 1) hv) (hP0 : vP h (3000 + f) t = some (4000 + (10 * f + t))) : IV (n + 1) (sL (sL (sL (sI (sI (sI (sL (sL (sL (sI h (4000 + (10 * f + t)) (0) (1)) (4000 + (10 * f + t)) (1) (lo)) (4000 + (10 * f + t)) (2) (hv)) (4000 + (10 * f + t)) (3) (mCn h f)) (5000 + l) (3) (2)) (126) (l) (2)) (119) (10 * f + t) (1)) (120) (10 * f + t) (lo)) (121) (10 * f + t) (hv)) (122) (10 * f + t) (mCn h f)) nm nl ns ne nk fr to E := by
  have hm := ivnm hI
  have hl : nl ≤ 200 := Nat.le_of_lt (ivSL hI).1
  have hn0 := Nat.le_succ n
  generalize hH : (sL (sL (sL (sI (sI (sI (sL (sL (sL (sI h (4000 + (10 * f + t)) (0) (1)) (4000 + (10 * f + t)) (1) (lo)) (4000 + (10 * f + t)) (2) (hv)) (4000 + (10 * f + t)) (3) (mCn h f)) (5000 + l) (3) (2)) (126) (l) (2)) (119) (10 * f + t) (1)) (120) (10 * f + t) (lo)) (121) (10 * f + t) (hv)) (122) (10 * f + t) (mCn h f)) = H
  have fI : ∀ b k, (¬ (b = 4000 + (10 * f + t) ∧ k = 0) ∧ ¬ (b = 5000 + l ∧ k = 3) ∧ ¬ (b = 126 ∧ k = l) ∧ ¬ (b = 119 ∧ k = 10 * f + t)) → vI H b k = vI h b k := fun b k c => by rw [← hH, vI_sL, vI_sL, vI_sL, vI_ne (by omega), vI_ne (by omega), vI_ne (by omega), vI_sL, vI_sL, vI_sL, vI_ne (by omega)]
  have fL : ∀ b k, (¬ (b = 4000 + (10 * f + t) ∧ k = 1) ∧ ¬ (b = 4000 + (10 * f + t) ∧ k = 2) ∧ ¬ (b = 4000 + (10 * f + t) ∧ k = 3) ∧ ¬ (b = 120 ∧ k = 10 * f + t) ∧ ¬ (b = 121 ∧ k = 10 * f + t) ∧ ¬ (b = 122 ∧ k = 10 * f + t)) → vL H b k = vL h b k := fun b k c => by rw [← hH, vL_ne (by omega), vL_ne (by omega), vL_ne (by omega), vL_sI, vL_sI, vL_sI, vL_ne (by omega), vL_ne (by omega), vL_ne (by omega), vL_sI]
  have fP : ∀ b k, (True) → vP H b k = vP h b k := fun b k c => by rw [← hH, vP_sL, vP_sL, vP_sL, vP_sI, vP_sI, vP_sI, vP_sL, vP_sL, vP_sL, vP_sI]
  have fZ : ∀ b, (True) → liv H b = liv h b := fun b c => by rw [← hH, liv_sL, liv_sL, liv_sL, liv_sI, liv_sI, liv_sI, liv_sL, liv_sL, liv_sL, liv_sI]
  have eC : ∀ i, i < nm → (mCn h i).toInt ≤ (mCn H i).toInt := fun i hi => Int.le_of_eq (by rw [mCn_cg (h := h) (fun b k c => fL b k (by first | trivial | omega)) i])
  exact ⟨SR_cg (ivSR hI) (fun b c => fZ b (by first | trivial | omega)) (fun b k c => fP b k (by first | trivial | omega)),
    SM_cg (ivSM hI) (fun b c => fZ b (by first | trivial | omega)) (fun b k c => fP b k (by first | trivial | omega)) (fun b k c => fI b k (by first | trivial | omega)),
    SL_cg (ivSL hI) (fun b c => fZ b (by first | trivial | omega)) (fun b k c => fP b k (by first | trivial | omega)) (fun b k c => fI b k (by first | trivial | omega)),
    SS_cg (ivSS hI) (fun b c => fZ b (by first | trivial | omega)) (fun b k c => fP b k (by first | trivial | omega)) (fun b k c => fI b k (by first | trivial | omega)),
    SO_cg (ivSO hI) (fun b c => fZ b (by first | trivial | omega)) (fun b k c => fP b k (by first | trivial | omega)) (fun b k c => fI b k (by first | trivial | omega)),
    MW_cg (ivMW hI) (fun b c => fZ b (by first | trivial | omega)) (fun b k c => fP b k (by first | trivial | omega)),
    ML_cg (ivML hI) (fun b c => fZ b (by first | trivial | omega)) (fun b k c => fP b k (by first | trivial | omega)) (fun b k c => fI b k (by first | trivial | omega)),
    CN_cg (ivCN hI) (fun b k c => fI b k (by first | trivial | omega)),
    NW_cg (ivNW hI) hn0 (fun b k c => fL b k (by first | trivial | omega)),
    ⟨by have := (ivNC hI).1; omega, by have := (ivNC hI).2.1; omega, (ivNC hI).2.2⟩,
    PI_cg (iv103 hI) hm (fun b k c => fI b k (by first | trivial | omega)),
    PI_cg (iv114 hI) hm (fun b k c => fI b k (by first | trivial | omega)),
    PI_cg (iv117 hI) hm (fun b k c => fI b k (by first | trivial | omega)),
    PI_cg (iv118 hI) hm (fun b k c => fI b k (by first | trivial | omega)),
    PW_cg (iv104 hI) hm (fun b k c => fI b k (by first | trivial | omega)) (fun b k c => fL b k (by first | trivial | omega)),
    PW_cg (iv105 hI) hm (fun b k c => fI b k (by first | trivial | omega)) (fun b k c => fL b k (by first | trivial | omega)),
    PL_cg (iv106 hI) hm (fun b k c => fL b k (by first | trivial | omega)),
    PW_cg (iv107 hI) hm (fun b k c => fI b k (by first | trivial | omega)) (fun b k c => fL b k (by first | trivial | omega)),
    PW_cg (iv108 hI) hm (fun b k c => fI b k (by first | trivial | omega)) (fun b k c => fL b k (by first | trivial | omega)),
    PL_cg (iv112 hI) hm (fun b k c => fL b k (by first | trivial | omega)),
    PL_cg (iv113 hI) hm (fun b k c => fL b k (by first | trivial | omega)),
    PL_cg (iv115 hI) hm (fun b k c => fL b k (by first | trivial | omega)),
    PL_cg (iv116 hI) hm (fun b k c => fL b k (by first | trivial | omega)),
    OW_cg (ivOW hI) hm (fun b k c => fI b k (by first | trivial | omega)) (fun b k c => fL b k (by first | trivial | omega)),
    RG_cg (ivRG hI) (fun b k c => fI b k (by first | trivial | omega)) (fun b k c => fL b k (by first | trivial | omega)),
    RB_cg (ivRB hI) hn0 eC (fun b k c => fL b k (by first | trivial | omega)),
    RZ_cg (ivRZ hI) (fun b k c => fI b k (by first | trivial | omega)) (fun b k c => fL b k (by first | trivial | omega)),
    (fun i j hi hj => by
      by_cases e : i = f ∧ j = t
      · obtain ⟨rfl, rfl⟩ := e
        have c1 : vI H 119 (10 * i + j) = 1 := by rw [← hH, vI_sL, vI_sL, vI_sL, vIs]
        have c2 : vI H (4000 + (10 * i + j)) 0 = 1 := by rw [← hH, vI_sL, vI_sL, vI_sL, vI_ne (by omega), vI_ne (by omega), vI_ne (by omega), vI_sL, vI_sL, vI_sL, vIs]
        have c3 : vP H (3000 + i) j = some (4000 + (10 * i + j)) := (fP (3000 + i) j trivial).trans hP0
        have c4 : hsp H (3000 + i) j = some (4000 + (10 * i + j)) := by unfold hsp; rw [c3]; show (if _ then _ else _) = _; rw [c2]; rfl
        have d1 : vL H 120 (10 * i + j) = lo := by rw [← hH, vL_ne (by omega), vL_ne (by omega), vLs]
        have d2 : vL H 121 (10 * i + j) = hv := by rw [← hH, vL_ne (by omega), vLs]
        have d3 : vL H 122 (10 * i + j) = mCn h i := by rw [← hH, vLs]
        have d4 : vL H (4000 + (10 * i + j)) 1 = lo := by rw [← hH, vL_ne (by omega), vL_ne (by omega), vL_ne (by omega), vL_sI, vL_sI, vL_sI, vL_ne (by omega), vL_ne (by omega), vLs]
        have d5 : vL H (4000 + (10 * i + j)) 2 = hv := by rw [← hH, vL_ne (by omega), vL_ne (by omega), vL_ne (by omega), vL_sI, vL_sI, vL_sI, vL_ne (by omega), vLs]
        have d6 : vL H (4000 + (10 * i + j)) 3 = mCn h i := by rw [← hH, vL_ne (by omega), vL_ne (by omega), vL_ne (by omega), vL_sI, vL_sI, vL_sI, vLs]
        refine Or.inr ⟨ht, Ne.symm hft, c1, c4, ?_, ?_, ?_, ?_⟩
        · rw [d1, d2, d3, d4, d5, d6]; exact ⟨rfl, rfl, rfl⟩
        · rw [d3, mCn_cg (h := h) (h' := H) (fun b k c => fL b k (by first | trivial | omega)) i]; exact ⟨(mCn_b (by omega) (ivNW hI) (ivRG hI) hi).1, Int.le_refl _⟩
        · rw [d1]; exact hlo
        · rw [d2]; exact hhi
      · have eH := hsp_c2 (h := h) (h' := H) (SM_hc (ivSM hI) hi hj) (fP (3000 + i) j (by first | trivial | omega)) (fI (4000 + (10 * i + j)) 0 (by omega))
        rcases ivHD hI i j hi hj with ⟨z1, z2⟩ | z
        · exact Or.inl ⟨by rw [fI _ _ (by omega)]; exact z1, by rw [eH]; exact z2⟩
        · exact Or.inr (HH_cg z hn0 (Nat.le_refl _) (by omega) hj (eC i hi) (fI _ _ (by omega)) eH (fun b k c => fL b k (by omega)))),
    (fun i j hi hi2 hj => by rw [fI _ _ (by omega)]; exact ivHZ hI i j hi hi2 hj),
    (fun q hq => by
      obtain ⟨f, t, a⟩ := ivLT hI q hq
      have a := L1_cg (n' := n + 1) (h' := h) a hn0 (Nat.le_refl nm) (Int.le_refl _) (fun _ _ _ => rfl) (fun _ _ _ => rfl) (fun _ _ _ => rfl)
      refine ⟨f, t, ?_⟩
      by_cases e : q = l
      · subst e
        obtain ⟨a1, a2, a3, a4, a5, a6, a7, a8, a9⟩ := a
        have ec := mCn_cg (h := h) (h' := H) (fun b k c => fL b k (by first | trivial | omega)) f
        have e1 : vI H (5000 + q) 3 = 2 := by rw [← hH, vI_sL, vI_sL, vI_sL, vI_ne (by omega), vI_ne (by omega), vIs]
        have e2 : vI H 126 q = 2 := by rw [← hH, vI_sL, vI_sL, vI_sL, vI_ne (by omega), vIs]
        have hm2 := a1
        unfold L1
        rw [ec, fP (5000 + q) _ (by first | trivial | omega), fP (5000 + q) _ (by first | trivial | omega), fI 124 _ (by omega), fI 125 _ (by omega), fI 128 _ (by omega), fI _ 4 (by omega), e1, e2, fL 127 _ (by omega), fL 129 _ (by omega), fL 130 _ (by omega), fL _ 2 (by omega), fL _ 5 (by omega), fL _ 6 (by omega)]
        refine ⟨a1, a2, a3, a4, a5, ⟨rfl, by decide, by decide⟩, a7, a8, ?_⟩
        rcases a9 with z | z
        · exact Or.inl ⟨z.1, by decide⟩
        · exact Or.inr z
      · exact L1_cg a (Nat.le_refl _) (Nat.le_refl _) (eC f a.1) (fun b k c => fP b k (by first | trivial | omega)) (fun b k c => fI b k (by first | trivial | omega)) (fun b k c => fL b k (by first | trivial | omega))),
    RS_cg (ivRS hI) hn0 (fun b k c => fI b k (by first | trivial | omega)) (fun b k c => fL b k (by first | trivial | omega)),
    EV_cg (ivEV hI) hn0 (fun b k c => fL b k (by first | trivial | omega)),
    EZ_cg (ivEZ hI) (fun b k c => fI b k (by first | trivial | omega)),
    DS_cg (ivDS hI) (fun b k c => fI b k (by first | trivial | omega)) (fun b k c => fL b k (by first | trivial | omega))⟩
theorem iv_event {n : Nat} {h : HP} {nm nl ns ne nk : Nat} {fr to : Nat → Nat} {E : Nat → Nat → Prop} (hI : IV n h nm nl ns ne nk fr to E) (hne : ne < 30) (lo hi : Int64) (hlo : inB (n + 1) lo) (hhi : inB (n + 1) hi) : IV (n + 1) (sI (sL (sL (sI (sI (sL (sL h (11) (ne) (lo)) (12) (ne) (hi)) (10) (2) (nI (ne + 1))) (10) (13) (0)) (137) (ne) (lo)) (138) (ne) (hi)) (100) (35) (nI (ne + 1))) nm nl ns (ne + 1) nk fr to E := by
  have hm := ivnm hI
  have hl : nl ≤ 200 := Nat.le_of_lt (ivSL hI).1
  have hn0 := Nat.le_succ n
  generalize hH : (sI (sL (sL (sI (sI (sL (sL h (11) (ne) (lo)) (12) (ne) (hi)) (10) (2) (nI (ne + 1))) (10) (13) (0)) (137) (ne) (lo)) (138) (ne) (hi)) (100) (35) (nI (ne + 1))) = H
  have fI : ∀ b k, (¬ (b = 10 ∧ k = 2) ∧ ¬ (b = 10 ∧ k = 13) ∧ ¬ (b = 100 ∧ k = 35)) → vI H b k = vI h b k := fun b k c => by rw [← hH, vI_ne (by omega), vI_sL, vI_sL, vI_ne (by omega), vI_ne (by omega), vI_sL, vI_sL]
  have fL : ∀ b k, (¬ (b = 11 ∧ k = ne) ∧ ¬ (b = 12 ∧ k = ne) ∧ ¬ (b = 137 ∧ k = ne) ∧ ¬ (b = 138 ∧ k = ne)) → vL H b k = vL h b k := fun b k c => by rw [← hH, vL_sI, vL_ne (by omega), vL_ne (by omega), vL_sI, vL_sI, vL_ne (by omega), vL_ne (by omega)]
  have fP : ∀ b k, (True) → vP H b k = vP h b k := fun b k c => by rw [← hH, vP_sI, vP_sL, vP_sL, vP_sI, vP_sI, vP_sL, vP_sL]
  have fZ : ∀ b, (True) → liv H b = liv h b := fun b c => by rw [← hH, liv_sI, liv_sL, liv_sL, liv_sI, liv_sI, liv_sL, liv_sL]
  have eC : ∀ i, i < nm → (mCn h i).toInt ≤ (mCn H i).toInt := fun i hi => Int.le_of_eq (by rw [mCn_cg (h := h) (fun b k c => fL b k (by first | trivial | omega)) i])
  exact ⟨SR_cg (ivSR hI) (fun b c => fZ b (by first | trivial | omega)) (fun b k c => fP b k (by first | trivial | omega)),
    SM_cg (ivSM hI) (fun b c => fZ b (by first | trivial | omega)) (fun b k c => fP b k (by first | trivial | omega)) (fun b k c => fI b k (by first | trivial | omega)),
    SL_cg (ivSL hI) (fun b c => fZ b (by first | trivial | omega)) (fun b k c => fP b k (by first | trivial | omega)) (fun b k c => fI b k (by first | trivial | omega)),
    SS_cg (ivSS hI) (fun b c => fZ b (by first | trivial | omega)) (fun b k c => fP b k (by first | trivial | omega)) (fun b k c => fI b k (by first | trivial | omega)),
    (by
      obtain ⟨h1, h2, h3, h4, h5, h6, h7, h8, h9⟩ := ivSO hI
      refine ⟨TW_cg h1 (fun b c => fZ b trivial) (fun b k c => fP b k trivial), by rw [← hH, vI_ne (by omega), vI_sL, vI_sL, vI_ne (by omega), vIs], by omega, by rw [fI _ _ (by omega)]; exact h4, h5, fun i hi => by rw [fI _ _ (by omega), fI _ _ (by omega)]; exact h6 i hi, fun a b hE => by have := h7 a b hE; omega, h8, fun e g he hg => ?_⟩
      rw [fI _ _ (by omega)]
      rcases Nat.lt_succ_iff_lt_or_eq.mp he with z | z
      · exact h9 e g z hg
      · subst z
        rw [(ivEZ hI).1 e (Nat.le_refl e) hne, bt_0]
        exact ⟨fun z => Bool.noConfusion z, fun z => by have := (h7 e g z).1; omega⟩),
    MW_cg (ivMW hI) (fun b c => fZ b (by first | trivial | omega)) (fun b k c => fP b k (by first | trivial | omega)),
    (by
      obtain ⟨h1, h2, h3, h4, h5⟩ := ivML hI
      refine ⟨MW_cg h1 (fun b c => fZ b trivial) (fun b k c => fP b k trivial), by rw [← hH, vIs], by omega, fun a b hE => by have := h4 a b hE; omega, fun a b ha hb => ?_⟩
      rw [fI _ _ (by omega)]
      by_cases z : a < ne ∧ b < ne
      · exact h5 a b z.1 z.2
      · rw [(ivEZ hI).2 a b (by omega) (by omega) (by omega)]
        exact ⟨fun _ q => z (h4 a b q), fun _ => rfl⟩),
    CN_cg (ivCN hI) (fun b k c => fI b k (by first | trivial | omega)),
    NW_cg (ivNW hI) hn0 (fun b k c => fL b k (by first | trivial | omega)),
    ⟨by have := (ivNC hI).1; omega, by have := (ivNC hI).2.1; omega, (ivNC hI).2.2⟩,
    PI_cg (iv103 hI) hm (fun b k c => fI b k (by first | trivial | omega)),
    PI_cg (iv114 hI) hm (fun b k c => fI b k (by first | trivial | omega)),
    PI_cg (iv117 hI) hm (fun b k c => fI b k (by first | trivial | omega)),
    PI_cg (iv118 hI) hm (fun b k c => fI b k (by first | trivial | omega)),
    PW_cg (iv104 hI) hm (fun b k c => fI b k (by first | trivial | omega)) (fun b k c => fL b k (by first | trivial | omega)),
    PW_cg (iv105 hI) hm (fun b k c => fI b k (by first | trivial | omega)) (fun b k c => fL b k (by first | trivial | omega)),
    PL_cg (iv106 hI) hm (fun b k c => fL b k (by first | trivial | omega)),
    PW_cg (iv107 hI) hm (fun b k c => fI b k (by first | trivial | omega)) (fun b k c => fL b k (by first | trivial | omega)),
    PW_cg (iv108 hI) hm (fun b k c => fI b k (by first | trivial | omega)) (fun b k c => fL b k (by first | trivial | omega)),
    PL_cg (iv112 hI) hm (fun b k c => fL b k (by first | trivial | omega)),
    PL_cg (iv113 hI) hm (fun b k c => fL b k (by first | trivial | omega)),
    PL_cg (iv115 hI) hm (fun b k c => fL b k (by first | trivial | omega)),
    PL_cg (iv116 hI) hm (fun b k c => fL b k (by first | trivial | omega)),
    OW_cg (ivOW hI) hm (fun b k c => fI b k (by first | trivial | omega)) (fun b k c => fL b k (by first | trivial | omega)),
    RG_cg (ivRG hI) (fun b k c => fI b k (by first | trivial | omega)) (fun b k c => fL b k (by first | trivial | omega)),
    RB_cg (ivRB hI) hn0 eC (fun b k c => fL b k (by first | trivial | omega)),
    RZ_cg (ivRZ hI) (fun b k c => fI b k (by first | trivial | omega)) (fun b k c => fL b k (by first | trivial | omega)),
    HD_cg (ivHD hI) (ivSM hI) hn0 eC (fun b k c => fP b k (by first | trivial | omega)) (fun b k c => fI b k (by first | trivial | omega)) (fun b k c => fL b k (by first | trivial | omega)),
    HZ_cg (ivHZ hI) (fun b k c => fI b k (by first | trivial | omega)),
    LT_cg (ivLT hI) hn0 (Nat.le_refl _) hl eC (fun b k c => fP b k (by first | trivial | omega)) (fun b k c => fI b k (by first | trivial | omega)) (fun b k c => fL b k (by first | trivial | omega)),
    RS_cg (ivRS hI) hn0 (fun b k c => fI b k (by first | trivial | omega)) (fun b k c => fL b k (by first | trivial | omega)),
    (fun e he => by
      by_cases z : e = ne
      · have e1 : vL H 11 ne = lo := by rw [← hH, vL_sI, vL_ne (by omega), vL_ne (by omega), vL_sI, vL_sI, vL_ne (by omega), vLs]
        have e2 : vL H 12 ne = hi := by rw [← hH, vL_sI, vL_ne (by omega), vL_ne (by omega), vL_sI, vL_sI, vLs]
        have e3 : vL H 137 ne = lo := by rw [← hH, vL_sI, vL_ne (by omega), vLs]
        have e4 : vL H 138 ne = hi := by rw [← hH, vL_sI, vLs]
        rw [z, e1, e2, e3, e4]; exact ⟨rfl, rfl, hlo, hhi⟩
      · exact EV_cg (ivEV hI) hn0 (fun b k c => fL b k (by omega)) e (by omega)),
    ⟨fun e h1 h2 => by rw [fI _ _ (by omega)]; exact (ivEZ hI).1 e (by omega) h2, fun a b h1 h2 h3 => by rw [fI _ _ (by omega)]; exact (ivEZ hI).2 a b h1 h2 (by omega)⟩,
    (Or.inl (by rw [← hH, vI_ne (by omega), vI_sL, vI_sL, vIs]))⟩
theorem iv_link {n : Nat} {h : HP} {nm nl ns ne nk : Nat} {fr to : Nat → Nat} {E : Nat → Nat → Prop} (hI : IV n h nm nl ns ne nk fr to E) (e g : Nat) (he : e < ne) (hg : g < ne) (heg : e ≠ g) (hk : nk < 60) : IV (n + 1) (sI (sI (sI (sI (sI (sI (sI h (13) (nk) (nI e)) (14) (nk) (nI g)) (15) (e) (vI h 15 e ||| 1 <<< (nI g &&& 31))) (10) (5) (nI (nk + 1))) (10) (13) (0)) (140) (30 * e + g) (1)) (100) (38) (nI (nk + 1))) nm nl ns ne (nk + 1) (fun i => if i = nk then e else fr i) (fun i => if i = nk then g else to i) (fun a b => E a b ∨ (a = e ∧ b = g)) := by
  have hm := ivnm hI
  have hl : nl ≤ 200 := Nat.le_of_lt (ivSL hI).1
  have hn0 := Nat.le_succ n
  generalize hH : (sI (sI (sI (sI (sI (sI (sI h (13) (nk) (nI e)) (14) (nk) (nI g)) (15) (e) (vI h 15 e ||| 1 <<< (nI g &&& 31))) (10) (5) (nI (nk + 1))) (10) (13) (0)) (140) (30 * e + g) (1)) (100) (38) (nI (nk + 1))) = H
  have fI : ∀ b k, (¬ (b = 13 ∧ k = nk) ∧ ¬ (b = 14 ∧ k = nk) ∧ ¬ (b = 15 ∧ k = e) ∧ ¬ (b = 10 ∧ k = 5) ∧ ¬ (b = 10 ∧ k = 13) ∧ ¬ (b = 140 ∧ k = 30 * e + g) ∧ ¬ (b = 100 ∧ k = 38)) → vI H b k = vI h b k := fun b k c => by rw [← hH, vI_ne (by omega), vI_ne (by omega), vI_ne (by omega), vI_ne (by omega), vI_ne (by omega), vI_ne (by omega), vI_ne (by omega)]
  have fL : ∀ b k, (True) → vL H b k = vL h b k := fun b k c => by rw [← hH, vL_sI, vL_sI, vL_sI, vL_sI, vL_sI, vL_sI, vL_sI]
  have fP : ∀ b k, (True) → vP H b k = vP h b k := fun b k c => by rw [← hH, vP_sI, vP_sI, vP_sI, vP_sI, vP_sI, vP_sI, vP_sI]
  have fZ : ∀ b, (True) → liv H b = liv h b := fun b c => by rw [← hH, liv_sI, liv_sI, liv_sI, liv_sI, liv_sI, liv_sI, liv_sI]
  have eC : ∀ i, i < nm → (mCn h i).toInt ≤ (mCn H i).toInt := fun i hi => Int.le_of_eq (by rw [mCn_cg (h := h) (fun b k c => fL b k (by first | trivial | omega)) i])
  exact ⟨SR_cg (ivSR hI) (fun b c => fZ b (by first | trivial | omega)) (fun b k c => fP b k (by first | trivial | omega)),
    SM_cg (ivSM hI) (fun b c => fZ b (by first | trivial | omega)) (fun b k c => fP b k (by first | trivial | omega)) (fun b k c => fI b k (by first | trivial | omega)),
    SL_cg (ivSL hI) (fun b c => fZ b (by first | trivial | omega)) (fun b k c => fP b k (by first | trivial | omega)) (fun b k c => fI b k (by first | trivial | omega)),
    SS_cg (ivSS hI) (fun b c => fZ b (by first | trivial | omega)) (fun b k c => fP b k (by first | trivial | omega)) (fun b k c => fI b k (by first | trivial | omega)),
    (by
      obtain ⟨h1, h2, h3, h4, h5, h6, h7, h8, h9⟩ := ivSO hI
      refine ⟨TW_cg h1 (fun b c => fZ b trivial) (fun b k c => fP b k trivial), by rw [fI _ _ (by omega)]; exact h2, h3, by rw [← hH, vI_ne (by omega), vI_ne (by omega), vI_ne (by omega), vIs], by omega, fun i hi => ?_, fun a b hE => ?_, fun a b hE => ?_, fun a b ha hb => ?_⟩
      · by_cases z : i = nk
        · subst z
          show _ = nI (if i = i then e else fr i) ∧ _ = nI (if i = i then g else to i) ∧ (E (if i = i then e else fr i) (if i = i then g else to i) ∨ (if i = i then e else fr i) = e ∧ (if i = i then g else to i) = g)
          rw [if_pos rfl, if_pos rfl]
          exact ⟨by rw [← hH, vI_ne (by omega), vI_ne (by omega), vI_ne (by omega), vI_ne (by omega), vI_ne (by omega), vI_ne (by omega), vIs], by rw [← hH, vI_ne (by omega), vI_ne (by omega), vI_ne (by omega), vI_ne (by omega), vI_ne (by omega), vIs], Or.inr ⟨rfl, rfl⟩⟩
        · rw [fI 13 _ (by omega), fI 14 _ (by omega)]
          show _ = nI (if i = nk then e else fr i) ∧ _ = nI (if i = nk then g else to i) ∧ (E (if i = nk then e else fr i) (if i = nk then g else to i) ∨ _)
          rw [if_neg z, if_neg z]
          have := h6 i (by omega)
          exact ⟨this.1, this.2.1, Or.inl this.2.2⟩
      · rcases hE with z | ⟨rfl, rfl⟩
        · exact h7 a b z
        · exact ⟨he, hg⟩
      · rcases hE with z | ⟨rfl, rfl⟩
        · obtain ⟨i, i1, i2, i3⟩ := h8 a b z
          refine ⟨i, by omega, ?_, ?_⟩
          · show (if i = nk then _ else fr i) = a
            rw [if_neg (by omega)]; exact i2
          · show (if i = nk then _ else to i) = b
            rw [if_neg (by omega)]; exact i3
        · exact ⟨nk, by omega, if_pos rfl, if_pos rfl⟩
      · by_cases z : a = e
        · subst z
          have e15 : vI H 15 a = vI h 15 a ||| 1 <<< (nI g &&& 31) := by rw [← hH, vI_ne (by omega), vI_ne (by omega), vI_ne (by omega), vI_ne (by omega), vIs]
          rw [e15, bt_or, bt_1 g (by omega) b hb, Bool.or_eq_true, h9 a b ha hb, decide_eq_true_eq]
          exact ⟨fun q => q.elim Or.inl (fun q => Or.inr ⟨rfl, q⟩), fun q => q.elim Or.inl (fun q => Or.inr q.2)⟩
        · rw [fI _ _ (by omega), h9 a b ha hb]
          exact ⟨Or.inl, fun q => q.elim id (fun q => absurd q.1 z)⟩),
    MW_cg (ivMW hI) (fun b c => fZ b (by first | trivial | omega)) (fun b k c => fP b k (by first | trivial | omega)),
    (by
      obtain ⟨h1, h2, h3, h4, h5⟩ := ivML hI
      refine ⟨MW_cg h1 (fun b c => fZ b trivial) (fun b k c => fP b k trivial), by rw [fI _ _ (by omega)]; exact h2, h3, fun a b hE => ?_, fun a b ha hb => ?_⟩
      · rcases hE with z | ⟨rfl, rfl⟩
        · exact h4 a b z
        · exact ⟨he, hg⟩
      · by_cases z : a = e ∧ b = g
        · obtain ⟨rfl, rfl⟩ := z
          rw [← hH, vI_ne (by omega), vIs]
          exact ⟨fun q => absurd q (by decide), fun q => absurd (Or.inr ⟨rfl, rfl⟩) q⟩
        · rw [fI _ _ (by omega), h5 a b ha hb]
          exact ⟨fun q w => w.elim q z, fun q w => q (Or.inl w)⟩),
    ⟨by rw [fI _ _ (by omega)]; exact (ivCN hI).1, by rw [fI _ _ (by omega)]; exact (ivCN hI).2.1, by rw [fI _ _ (by omega)]; exact (ivCN hI).2.2.1, by rw [← hH, vIs]⟩,
    NW_cg (ivNW hI) hn0 (fun b k c => fL b k (by first | trivial | omega)),
    ⟨by have := (ivNC hI).1; omega, by have := (ivNC hI).2.1; omega, fun a hE => by
      rcases hE with z | ⟨rfl, z⟩
      · exact (ivNC hI).2.2 a z
      · exact heg z⟩,
    PI_cg (iv103 hI) hm (fun b k c => fI b k (by first | trivial | omega)),
    PI_cg (iv114 hI) hm (fun b k c => fI b k (by first | trivial | omega)),
    PI_cg (iv117 hI) hm (fun b k c => fI b k (by first | trivial | omega)),
    PI_cg (iv118 hI) hm (fun b k c => fI b k (by first | trivial | omega)),
    PW_cg (iv104 hI) hm (fun b k c => fI b k (by first | trivial | omega)) (fun b k c => fL b k (by first | trivial | omega)),
    PW_cg (iv105 hI) hm (fun b k c => fI b k (by first | trivial | omega)) (fun b k c => fL b k (by first | trivial | omega)),
    PL_cg (iv106 hI) hm (fun b k c => fL b k (by first | trivial | omega)),
    PW_cg (iv107 hI) hm (fun b k c => fI b k (by first | trivial | omega)) (fun b k c => fL b k (by first | trivial | omega)),
    PW_cg (iv108 hI) hm (fun b k c => fI b k (by first | trivial | omega)) (fun b k c => fL b k (by first | trivial | omega)),
    PL_cg (iv112 hI) hm (fun b k c => fL b k (by first | trivial | omega)),
    PL_cg (iv113 hI) hm (fun b k c => fL b k (by first | trivial | omega)),
    PL_cg (iv115 hI) hm (fun b k c => fL b k (by first | trivial | omega)),
    PL_cg (iv116 hI) hm (fun b k c => fL b k (by first | trivial | omega)),
    OW_cg (ivOW hI) hm (fun b k c => fI b k (by first | trivial | omega)) (fun b k c => fL b k (by first | trivial | omega)),
    RG_cg (ivRG hI) (fun b k c => fI b k (by first | trivial | omega)) (fun b k c => fL b k (by first | trivial | omega)),
    RB_cg (ivRB hI) hn0 eC (fun b k c => fL b k (by first | trivial | omega)),
    RZ_cg (ivRZ hI) (fun b k c => fI b k (by first | trivial | omega)) (fun b k c => fL b k (by first | trivial | omega)),
    HD_cg (ivHD hI) (ivSM hI) hn0 eC (fun b k c => fP b k (by first | trivial | omega)) (fun b k c => fI b k (by first | trivial | omega)) (fun b k c => fL b k (by first | trivial | omega)),
    HZ_cg (ivHZ hI) (fun b k c => fI b k (by first | trivial | omega)),
    LT_cg (ivLT hI) hn0 (Nat.le_refl _) hl eC (fun b k c => fP b k (by first | trivial | omega)) (fun b k c => fI b k (by first | trivial | omega)) (fun b k c => fL b k (by first | trivial | omega)),
    RS_cg (ivRS hI) hn0 (fun b k c => fI b k (by first | trivial | omega)) (fun b k c => fL b k (by first | trivial | omega)),
    EV_cg (ivEV hI) hn0 (fun b k c => fL b k (by first | trivial | omega)),
    ⟨fun x h1 h2 => by rw [fI _ _ (by omega)]; exact (ivEZ hI).1 x (by omega) h2, fun a b h1 h2 h3 => by rw [fI _ _ (by omega)]; exact (ivEZ hI).2 a b h1 h2 (by omega)⟩,
    (Or.inl (by rw [← hH, vI_ne (by omega), vI_ne (by omega), vIs]))⟩
theorem iv_stamp {n : Nat} {h : HP} {nm nl ns ne nk : Nat} {fr to : Nat → Nat} {E : Nat → Nat → Prop} (hI : IV n h nm nl ns ne nk fr to E) (hn : n < 64) (i : Nat) (r : Int32) (lo hi : Int64) (hlo : inB (n + 1) lo) (hhi : inB (n + 1) hi) : IV (n + 1) (sI (sI (sI (sL (sL (sI (sP (sI (sI (sL (sL (sN h (6000 + ns)) (6000 + ns) (0) (lo)) (6000 + ns) (1) (hi)) (6000 + ns) (2) (nI i)) (6000 + ns) (3) (r)) (4) (ns) (some (6000 + ns))) (1) (6) (nI (ns + 1))) (132) (ns) (lo)) (133) (ns) (hi)) (134) (ns) (nI i)) (135) (ns) (r)) (100) (30) (nI (ns + 1))) nm nl (ns + 1) ne nk fr to E := by
  have hm := ivnm hI
  have hl : nl ≤ 200 := Nat.le_of_lt (ivSL hI).1
  have hn0 := Nat.le_succ n
  have hs2 := (ivSS hI).1
  generalize hH : (sI (sI (sI (sL (sL (sI (sP (sI (sI (sL (sL (sN h (6000 + ns)) (6000 + ns) (0) (lo)) (6000 + ns) (1) (hi)) (6000 + ns) (2) (nI i)) (6000 + ns) (3) (r)) (4) (ns) (some (6000 + ns))) (1) (6) (nI (ns + 1))) (132) (ns) (lo)) (133) (ns) (hi)) (134) (ns) (nI i)) (135) (ns) (r)) (100) (30) (nI (ns + 1))) = H
  have fI : ∀ b k, (¬ (b = 6000 + ns ∧ k = 2) ∧ ¬ (b = 6000 + ns ∧ k = 3) ∧ ¬ (b = 1 ∧ k = 6) ∧ ¬ (b = 134 ∧ k = ns) ∧ ¬ (b = 135 ∧ k = ns) ∧ ¬ (b = 100 ∧ k = 30) ∧ b ≠ 6000 + ns) → vI H b k = vI h b k := fun b k c => by rw [← hH, vI_ne (by omega), vI_ne (by omega), vI_ne (by omega), vI_sL, vI_sL, vI_ne (by omega), vI_sP, vI_ne (by omega), vI_ne (by omega), vI_sL, vI_sL, vI_nN (by omega)]
  have fL : ∀ b k, (¬ (b = 6000 + ns ∧ k = 0) ∧ ¬ (b = 6000 + ns ∧ k = 1) ∧ ¬ (b = 132 ∧ k = ns) ∧ ¬ (b = 133 ∧ k = ns) ∧ b ≠ 6000 + ns) → vL H b k = vL h b k := fun b k c => by rw [← hH, vL_sI, vL_sI, vL_sI, vL_ne (by omega), vL_ne (by omega), vL_sI, vL_sP, vL_sI, vL_sI, vL_ne (by omega), vL_ne (by omega), vL_nN (by omega)]
  have fP : ∀ b k, (¬ (b = 4 ∧ k = ns) ∧ b ≠ 6000 + ns) → vP H b k = vP h b k := fun b k c => by rw [← hH, vP_sI, vP_sI, vP_sI, vP_sL, vP_sL, vP_sI, vP_ne (by omega), vP_sI, vP_sI, vP_sL, vP_sL, vP_nN (by omega)]
  have fZ : ∀ b, (b ≠ 6000 + ns) → liv H b = liv h b := fun b c => by rw [← hH, liv_sI, liv_sI, liv_sI, liv_sL, liv_sL, liv_sI, liv_sP, liv_sI, liv_sI, liv_sL, liv_sL, liv_other (by omega)]
  have eC : ∀ i, i < nm → (mCn h i).toInt ≤ (mCn H i).toInt := fun i hi => Int.le_of_eq (by rw [mCn_cg (h := h) (fun b k c => fL b k (by first | trivial | omega)) i])
  exact ⟨SR_cg (ivSR hI) (fun b c => fZ b (by first | trivial | omega)) (fun b k c => fP b k (by first | trivial | omega)),
    SM_cg (ivSM hI) (fun b c => fZ b (by first | trivial | omega)) (fun b k c => fP b k (by first | trivial | omega)) (fun b k c => fI b k (by first | trivial | omega)),
    SL_cg (ivSL hI) (fun b c => fZ b (by first | trivial | omega)) (fun b k c => fP b k (by first | trivial | omega)) (fun b k c => fI b k (by first | trivial | omega)),
    (by
      obtain ⟨h1, h2, h3, h4⟩ := ivSS hI
      have := (ivNC hI).2.1
      refine ⟨by omega, by rw [← hH, vI_ne (by omega), vI_ne (by omega), vI_ne (by omega), vI_sL, vI_sL, vIs], fun k hk => ?_, fun k hk hk2 => by rw [fZ _ (by omega)]; exact h4 k (by omega) hk2⟩
      by_cases z : k = ns
      · subst z
        refine ⟨by rw [← hH, vP_sI, vP_sI, vP_sI, vP_sL, vP_sL, vP_sI, vPs], ?_⟩
        rw [← hH, liv_sI, liv_sI, liv_sI, liv_sL, liv_sL, liv_sI, liv_sP, liv_sI, liv_sI, liv_sL, liv_sL]
        exact liv_new _ _
      · rw [fP _ _ (by omega), fZ _ (by omega)]; exact h3 k (by omega)),
    SO_cg (ivSO hI) (fun b c => fZ b (by first | trivial | omega)) (fun b k c => fP b k (by first | trivial | omega)) (fun b k c => fI b k (by first | trivial | omega)),
    MW_cg (ivMW hI) (fun b c => fZ b (by first | trivial | omega)) (fun b k c => fP b k (by first | trivial | omega)),
    ML_cg (ivML hI) (fun b c => fZ b (by first | trivial | omega)) (fun b k c => fP b k (by first | trivial | omega)) (fun b k c => fI b k (by first | trivial | omega)),
    ⟨by rw [fI _ _ (by omega)]; exact (ivCN hI).1, by rw [fI _ _ (by omega)]; exact (ivCN hI).2.1, by rw [← hH, vIs], by rw [fI _ _ (by omega)]; exact (ivCN hI).2.2.2⟩,
    NW_cg (ivNW hI) hn0 (fun b k c => fL b k (by first | trivial | omega)),
    ⟨by have := (ivNC hI).1; omega, by have := (ivNC hI).2.1; omega, (ivNC hI).2.2⟩,
    PI_cg (iv103 hI) hm (fun b k c => fI b k (by first | trivial | omega)),
    PI_cg (iv114 hI) hm (fun b k c => fI b k (by first | trivial | omega)),
    PI_cg (iv117 hI) hm (fun b k c => fI b k (by first | trivial | omega)),
    PI_cg (iv118 hI) hm (fun b k c => fI b k (by first | trivial | omega)),
    PW_cg (iv104 hI) hm (fun b k c => fI b k (by first | trivial | omega)) (fun b k c => fL b k (by first | trivial | omega)),
    PW_cg (iv105 hI) hm (fun b k c => fI b k (by first | trivial | omega)) (fun b k c => fL b k (by first | trivial | omega)),
    PL_cg (iv106 hI) hm (fun b k c => fL b k (by first | trivial | omega)),
    PW_cg (iv107 hI) hm (fun b k c => fI b k (by first | trivial | omega)) (fun b k c => fL b k (by first | trivial | omega)),
    PW_cg (iv108 hI) hm (fun b k c => fI b k (by first | trivial | omega)) (fun b k c => fL b k (by first | trivial | omega)),
    PL_cg (iv112 hI) hm (fun b k c => fL b k (by first | trivial | omega)),
    PL_cg (iv113 hI) hm (fun b k c => fL b k (by first | trivial | omega)),
    PL_cg (iv115 hI) hm (fun b k c => fL b k (by first | trivial | omega)),
    PL_cg (iv116 hI) hm (fun b k c => fL b k (by first | trivial | omega)),
    OW_cg (ivOW hI) hm (fun b k c => fI b k (by first | trivial | omega)) (fun b k c => fL b k (by first | trivial | omega)),
    RG_cg (ivRG hI) (fun b k c => fI b k (by first | trivial | omega)) (fun b k c => fL b k (by first | trivial | omega)),
    RB_cg (ivRB hI) hn0 eC (fun b k c => fL b k (by first | trivial | omega)),
    RZ_cg (ivRZ hI) (fun b k c => fI b k (by first | trivial | omega)) (fun b k c => fL b k (by first | trivial | omega)),
    HD_cg (ivHD hI) (ivSM hI) hn0 eC (fun b k c => fP b k (by first | trivial | omega)) (fun b k c => fI b k (by first | trivial | omega)) (fun b k c => fL b k (by first | trivial | omega)),
    HZ_cg (ivHZ hI) (fun b k c => fI b k (by first | trivial | omega)),
    LT_cg (ivLT hI) hn0 (Nat.le_refl _) hl eC (fun b k c => fP b k (by first | trivial | omega)) (fun b k c => fI b k (by first | trivial | omega)) (fun b k c => fL b k (by first | trivial | omega)),
    (fun k hk => by
      by_cases z : k = ns
      · subst z
        have e1 : vL H (6000 + k) 0 = lo := by rw [← hH, vL_sI, vL_sI, vL_sI, vL_ne (by omega), vL_ne (by omega), vL_sI, vL_sP, vL_sI, vL_sI, vL_ne (by omega), vLs]
        have e2 : vL H (6000 + k) 1 = hi := by rw [← hH, vL_sI, vL_sI, vL_sI, vL_ne (by omega), vL_ne (by omega), vL_sI, vL_sP, vL_sI, vL_sI, vLs]
        have e3 : vI H (6000 + k) 2 = nI i := by rw [← hH, vI_ne (by omega), vI_ne (by omega), vI_ne (by omega), vI_sL, vI_sL, vI_ne (by omega), vI_sP, vI_ne (by omega), vIs]
        have e4 : vI H (6000 + k) 3 = r := by rw [← hH, vI_ne (by omega), vI_ne (by omega), vI_ne (by omega), vI_sL, vI_sL, vI_ne (by omega), vI_sP, vIs]
        have e5 : vL H (132) k = lo := by rw [← hH, vL_sI, vL_sI, vL_sI, vL_ne (by omega), vLs]
        have e6 : vL H (133) k = hi := by rw [← hH, vL_sI, vL_sI, vL_sI, vLs]
        have e7 : vI H (134) k = nI i := by rw [← hH, vI_ne (by omega), vI_ne (by omega), vIs]
        have e8 : vI H (135) k = r := by rw [← hH, vI_ne (by omega), vIs]
        unfold S1
        rw [e1, e2, e3, e4, e5, e6, e7, e8]
        exact ⟨rfl, rfl, rfl, rfl, hlo, hhi⟩
      · exact RS_cg (ivRS hI) hn0 (fun b k c => fI b k (by omega)) (fun b k c => fL b k (by omega)) k (by omega)),
    EV_cg (ivEV hI) hn0 (fun b k c => fL b k (by first | trivial | omega)),
    EZ_cg (ivEZ hI) (fun b k c => fI b k (by first | trivial | omega)),
    DS_cg (ivDS hI) (fun b k c => fI b k (by first | trivial | omega)) (fun b k c => fL b k (by first | trivial | omega))⟩
theorem iv_ask {n : Nat} {h : HP} {nm nl ns ne nk : Nat} {fr to : Nat → Nat} {E : Nat → Nat → Prop} (hI : IV n h nm nl ns ne nk fr to E) (hn : n < 64) (f t : Nat) (hf : f < nm) (ht : t < nm) (hft : f ≠ t) : IV (n + 1) (sI (sI (sL (sI (sI (sI (sI (sP (sI (sL (sP (sP (sN h (5000 + nl)) (5000 + nl) (0) (some (1000 + f))) (5000 + nl) (1) (some (1000 + t))) (5000 + nl) (2) (mCn h f)) (5000 + nl) (3) (0)) (3) (nl) (some (5000 + nl))) (1) (4) (nI (nl + 1))) (124) (nl) (nI f)) (125) (nl) (nI t)) (126) (nl) (0)) (127) (nl) (mCn h f)) (128) (nl) (0)) (100) (22) (nI (nl + 1))) nm (nl + 1) ns ne nk fr to E := by
  have hm := ivnm hI
  have hl : nl ≤ 200 := Nat.le_of_lt (ivSL hI).1
  have hn0 := Nat.le_succ n
  have hl2 := (ivSL hI).1
  generalize hH : (sI (sI (sL (sI (sI (sI (sI (sP (sI (sL (sP (sP (sN h (5000 + nl)) (5000 + nl) (0) (some (1000 + f))) (5000 + nl) (1) (some (1000 + t))) (5000 + nl) (2) (mCn h f)) (5000 + nl) (3) (0)) (3) (nl) (some (5000 + nl))) (1) (4) (nI (nl + 1))) (124) (nl) (nI f)) (125) (nl) (nI t)) (126) (nl) (0)) (127) (nl) (mCn h f)) (128) (nl) (0)) (100) (22) (nI (nl + 1))) = H
  have fI : ∀ b k, (¬ (b = 5000 + nl ∧ k = 3) ∧ ¬ (b = 1 ∧ k = 4) ∧ ¬ (b = 124 ∧ k = nl) ∧ ¬ (b = 125 ∧ k = nl) ∧ ¬ (b = 126 ∧ k = nl) ∧ ¬ (b = 128 ∧ k = nl) ∧ ¬ (b = 100 ∧ k = 22) ∧ b ≠ 5000 + nl) → vI H b k = vI h b k := fun b k c => by rw [← hH, vI_ne (by omega), vI_ne (by omega), vI_sL, vI_ne (by omega), vI_ne (by omega), vI_ne (by omega), vI_ne (by omega), vI_sP, vI_ne (by omega), vI_sL, vI_sP, vI_sP, vI_nN (by omega)]
  have fL : ∀ b k, (¬ (b = 5000 + nl ∧ k = 2) ∧ ¬ (b = 127 ∧ k = nl) ∧ b ≠ 5000 + nl) → vL H b k = vL h b k := fun b k c => by rw [← hH, vL_sI, vL_sI, vL_ne (by omega), vL_sI, vL_sI, vL_sI, vL_sI, vL_sP, vL_sI, vL_ne (by omega), vL_sP, vL_sP, vL_nN (by omega)]
  have fP : ∀ b k, (¬ (b = 5000 + nl ∧ k = 0) ∧ ¬ (b = 5000 + nl ∧ k = 1) ∧ ¬ (b = 3 ∧ k = nl) ∧ b ≠ 5000 + nl) → vP H b k = vP h b k := fun b k c => by rw [← hH, vP_sI, vP_sI, vP_sL, vP_sI, vP_sI, vP_sI, vP_sI, vP_ne (by omega), vP_sI, vP_sL, vP_ne (by omega), vP_ne (by omega), vP_nN (by omega)]
  have fZ : ∀ b, (b ≠ 5000 + nl) → liv H b = liv h b := fun b c => by rw [← hH, liv_sI, liv_sI, liv_sL, liv_sI, liv_sI, liv_sI, liv_sI, liv_sP, liv_sI, liv_sL, liv_sP, liv_sP, liv_other (by omega)]
  have eC : ∀ i, i < nm → (mCn h i).toInt ≤ (mCn H i).toInt := fun i hi => Int.le_of_eq (by rw [mCn_cg (h := h) (fun b k c => fL b k (by first | trivial | omega)) i])
  exact ⟨SR_cg (ivSR hI) (fun b c => fZ b (by first | trivial | omega)) (fun b k c => fP b k (by first | trivial | omega)),
    SM_cg (ivSM hI) (fun b c => fZ b (by first | trivial | omega)) (fun b k c => fP b k (by first | trivial | omega)) (fun b k c => fI b k (by first | trivial | omega)),
    (by
      obtain ⟨h1, h2, h3, h4⟩ := ivSL hI
      have := (ivNC hI).1
      refine ⟨by omega, by rw [← hH, vI_ne (by omega), vI_ne (by omega), vI_sL, vI_ne (by omega), vI_ne (by omega), vI_ne (by omega), vIs], fun k hk => ?_, fun k hk hk2 => by rw [fZ _ (by omega)]; exact h4 k (by omega) hk2⟩
      by_cases z : k = nl
      · subst z
        refine ⟨by rw [← hH, vP_sI, vP_sI, vP_sL, vP_sI, vP_sI, vP_sI, vP_sI, vPs], ?_, f, t, hf, ht, by rw [← hH, vP_sI, vP_sI, vP_sL, vP_sI, vP_sI, vP_sI, vP_sI, vP_ne (by omega), vP_sI, vP_sL, vP_ne (by omega), vPs], by rw [← hH, vP_sI, vP_sI, vP_sL, vP_sI, vP_sI, vP_sI, vP_sI, vP_ne (by omega), vP_sI, vP_sL, vPs]⟩
        rw [← hH, liv_sI, liv_sI, liv_sL, liv_sI, liv_sI, liv_sI, liv_sI, liv_sP, liv_sI, liv_sL, liv_sP, liv_sP]
        exact liv_new _ _
      · have q := h3 k (by omega)
        unfold LO at *
        rw [fP _ _ (by omega), fZ _ (by omega), fP _ _ (by omega), fP _ _ (by omega)]; exact q),
    SS_cg (ivSS hI) (fun b c => fZ b (by first | trivial | omega)) (fun b k c => fP b k (by first | trivial | omega)) (fun b k c => fI b k (by first | trivial | omega)),
    SO_cg (ivSO hI) (fun b c => fZ b (by first | trivial | omega)) (fun b k c => fP b k (by first | trivial | omega)) (fun b k c => fI b k (by first | trivial | omega)),
    MW_cg (ivMW hI) (fun b c => fZ b (by first | trivial | omega)) (fun b k c => fP b k (by first | trivial | omega)),
    ML_cg (ivML hI) (fun b c => fZ b (by first | trivial | omega)) (fun b k c => fP b k (by first | trivial | omega)) (fun b k c => fI b k (by first | trivial | omega)),
    ⟨by rw [fI _ _ (by omega)]; exact (ivCN hI).1, by rw [← hH, vIs], by rw [fI _ _ (by omega)]; exact (ivCN hI).2.2.1, by rw [fI _ _ (by omega)]; exact (ivCN hI).2.2.2⟩,
    NW_cg (ivNW hI) hn0 (fun b k c => fL b k (by first | trivial | omega)),
    ⟨by have := (ivNC hI).1; omega, by have := (ivNC hI).2.1; omega, (ivNC hI).2.2⟩,
    PI_cg (iv103 hI) hm (fun b k c => fI b k (by first | trivial | omega)),
    PI_cg (iv114 hI) hm (fun b k c => fI b k (by first | trivial | omega)),
    PI_cg (iv117 hI) hm (fun b k c => fI b k (by first | trivial | omega)),
    PI_cg (iv118 hI) hm (fun b k c => fI b k (by first | trivial | omega)),
    PW_cg (iv104 hI) hm (fun b k c => fI b k (by first | trivial | omega)) (fun b k c => fL b k (by first | trivial | omega)),
    PW_cg (iv105 hI) hm (fun b k c => fI b k (by first | trivial | omega)) (fun b k c => fL b k (by first | trivial | omega)),
    PL_cg (iv106 hI) hm (fun b k c => fL b k (by first | trivial | omega)),
    PW_cg (iv107 hI) hm (fun b k c => fI b k (by first | trivial | omega)) (fun b k c => fL b k (by first | trivial | omega)),
    PW_cg (iv108 hI) hm (fun b k c => fI b k (by first | trivial | omega)) (fun b k c => fL b k (by first | trivial | omega)),
    PL_cg (iv112 hI) hm (fun b k c => fL b k (by first | trivial | omega)),
    PL_cg (iv113 hI) hm (fun b k c => fL b k (by first | trivial | omega)),
    PL_cg (iv115 hI) hm (fun b k c => fL b k (by first | trivial | omega)),
    PL_cg (iv116 hI) hm (fun b k c => fL b k (by first | trivial | omega)),
    OW_cg (ivOW hI) hm (fun b k c => fI b k (by first | trivial | omega)) (fun b k c => fL b k (by first | trivial | omega)),
    RG_cg (ivRG hI) (fun b k c => fI b k (by first | trivial | omega)) (fun b k c => fL b k (by first | trivial | omega)),
    RB_cg (ivRB hI) hn0 eC (fun b k c => fL b k (by first | trivial | omega)),
    RZ_cg (ivRZ hI) (fun b k c => fI b k (by first | trivial | omega)) (fun b k c => fL b k (by first | trivial | omega)),
    HD_cg (ivHD hI) (ivSM hI) hn0 eC (fun b k c => fP b k (by first | trivial | omega)) (fun b k c => fI b k (by first | trivial | omega)) (fun b k c => fL b k (by first | trivial | omega)),
    HZ_cg (ivHZ hI) (fun b k c => fI b k (by first | trivial | omega)),
    (fun k hk => by
      by_cases z : k = nl
      · subst z
        have ec := mCn_cg (h := h) (h' := H) (fun b k c => fL b k (by omega)) f
        have e1 : vP H (5000 + k) 0 = some (1000 + f) := by rw [← hH, vP_sI, vP_sI, vP_sL, vP_sI, vP_sI, vP_sI, vP_sI, vP_ne (by omega), vP_sI, vP_sL, vP_ne (by omega), vPs]
        have e2 : vP H (5000 + k) 1 = some (1000 + t) := by rw [← hH, vP_sI, vP_sI, vP_sL, vP_sI, vP_sI, vP_sI, vP_sI, vP_ne (by omega), vP_sI, vP_sL, vPs]
        have e3 : vL H (5000 + k) 2 = mCn h f := by rw [← hH, vL_sI, vL_sI, vL_ne (by omega), vL_sI, vL_sI, vL_sI, vL_sI, vL_sP, vL_sI, vLs]
        have e4 : vI H (5000 + k) 3 = 0 := by rw [← hH, vI_ne (by omega), vI_ne (by omega), vI_sL, vI_ne (by omega), vI_ne (by omega), vI_ne (by omega), vI_ne (by omega), vI_sP, vIs]
        have e5 : vI H (5000 + k) 4 = 0 := by rw [← hH, vI_ne (by omega), vI_ne (by omega), vI_sL, vI_ne (by omega), vI_ne (by omega), vI_ne (by omega), vI_ne (by omega), vI_sP, vI_ne (by omega), vI_sL, vI_sP, vI_sP, vI_NN]
        have e6 : vI H (124) k = nI f := by rw [← hH, vI_ne (by omega), vI_ne (by omega), vI_sL, vI_ne (by omega), vI_ne (by omega), vIs]
        have e7 : vI H (125) k = nI t := by rw [← hH, vI_ne (by omega), vI_ne (by omega), vI_sL, vI_ne (by omega), vIs]
        have e8 : vI H (126) k = 0 := by rw [← hH, vI_ne (by omega), vI_ne (by omega), vI_sL, vIs]
        have e9 : vL H (127) k = mCn h f := by rw [← hH, vL_sI, vL_sI, vLs]
        have e10 : vI H (128) k = 0 := by rw [← hH, vI_ne (by omega), vIs]
        refine ⟨f, t, ?_⟩
        unfold L1
        rw [ec, e1, e2, e3, e4, e5, e6, e7, e8, e9, e10]
        exact ⟨hf, ht, hft, ⟨rfl, rfl⟩, ⟨rfl, rfl⟩, ⟨rfl, by decide, by decide⟩, ⟨rfl, (mCn_b (by omega) (ivNW hI) (ivRG hI) hf).1, Int.le_refl _⟩, rfl, Or.inl ⟨rfl, by decide⟩⟩
      · obtain ⟨f', t', q⟩ := LT_cg (ivLT hI) hn0 (Nat.le_refl nm) hl eC (fun b k c => fP b k (by omega)) (fun b k c => fI b k (by omega)) (fun b k c => fL b k (by omega)) k (by omega)
        exact ⟨f', t', q⟩),
    RS_cg (ivRS hI) hn0 (fun b k c => fI b k (by first | trivial | omega)) (fun b k c => fL b k (by first | trivial | omega)),
    EV_cg (ivEV hI) hn0 (fun b k c => fL b k (by first | trivial | omega)),
    EZ_cg (ivEZ hI) (fun b k c => fI b k (by first | trivial | omega)),
    DS_cg (ivDS hI) (fun b k c => fI b k (by first | trivial | omega)) (fun b k c => fL b k (by first | trivial | omega))⟩
theorem iv_twice {n : Nat} {h : HP} {nm nl ns ne nk : Nat} {fr to : Nat → Nat} {E : Nat → Nat → Prop} (hI : IV n h nm nl ns ne nk fr to E) (hn : n < 64) (f t : Nat) (hf : f < nm) (ht : t < nm) (hft : f ≠ t) (ta lo hi lo2 hi2 : Int64) (st an : Int32) (hst : 0 ≤ st.toInt ∧ st.toInt ≤ 3) (hta : 0 ≤ ta.toInt ∧ ta.toInt ≤ (mCn h f).toInt) (han : (an = 0 ∧ ¬ st = 1) ∨ (an = 1 ∧ (lo = lo2 ∧ hi = hi2) ∧ inB (n + 1) lo2 ∧ inB (n + 1) hi2)) : IV (n + 1) (sI (sL (sL (sI (sL (sI (sI (sI (sI (sP (sL (sL (sI (sI (sI (sL (sP (sP (sN h (5000 + nl)) (5000 + nl) (0) (some (1000 + f))) (5000 + nl) (1) (some (1000 + t))) (5000 + nl) (2) (ta)) (5000 + nl) (3) (0)) (5000 + nl) (3) (st)) (5000 + nl) (4) (an)) (5000 + nl) (5) (lo)) (5000 + nl) (6) (hi)) (3) (nl) (some (5000 + nl))) (1) (4) (nI (nl + 1))) (124) (nl) (nI f)) (125) (nl) (nI t)) (126) (nl) (st)) (127) (nl) (ta)) (128) (nl) (an)) (129) (nl) (lo2)) (130) (nl) (hi2)) (100) (22) (nI (nl + 1))) nm (nl + 1) ns ne nk fr to E := by
  have hm := ivnm hI
  have hl : nl ≤ 200 := Nat.le_of_lt (ivSL hI).1
  have hn0 := Nat.le_succ n
  have hl2 := (ivSL hI).1
  generalize hH : (sI (sL (sL (sI (sL (sI (sI (sI (sI (sP (sL (sL (sI (sI (sI (sL (sP (sP (sN h (5000 + nl)) (5000 + nl) (0) (some (1000 + f))) (5000 + nl) (1) (some (1000 + t))) (5000 + nl) (2) (ta)) (5000 + nl) (3) (0)) (5000 + nl) (3) (st)) (5000 + nl) (4) (an)) (5000 + nl) (5) (lo)) (5000 + nl) (6) (hi)) (3) (nl) (some (5000 + nl))) (1) (4) (nI (nl + 1))) (124) (nl) (nI f)) (125) (nl) (nI t)) (126) (nl) (st)) (127) (nl) (ta)) (128) (nl) (an)) (129) (nl) (lo2)) (130) (nl) (hi2)) (100) (22) (nI (nl + 1))) = H
  have fI : ∀ b k, (¬ (b = 5000 + nl ∧ k = 3) ∧ ¬ (b = 5000 + nl ∧ k = 3) ∧ ¬ (b = 5000 + nl ∧ k = 4) ∧ ¬ (b = 1 ∧ k = 4) ∧ ¬ (b = 124 ∧ k = nl) ∧ ¬ (b = 125 ∧ k = nl) ∧ ¬ (b = 126 ∧ k = nl) ∧ ¬ (b = 128 ∧ k = nl) ∧ ¬ (b = 100 ∧ k = 22) ∧ b ≠ 5000 + nl) → vI H b k = vI h b k := fun b k c => by rw [← hH, vI_ne (by omega), vI_sL, vI_sL, vI_ne (by omega), vI_sL, vI_ne (by omega), vI_ne (by omega), vI_ne (by omega), vI_ne (by omega), vI_sP, vI_sL, vI_sL, vI_ne (by omega), vI_ne (by omega), vI_ne (by omega), vI_sL, vI_sP, vI_sP, vI_nN (by omega)]
  have fL : ∀ b k, (¬ (b = 5000 + nl ∧ k = 2) ∧ ¬ (b = 5000 + nl ∧ k = 5) ∧ ¬ (b = 5000 + nl ∧ k = 6) ∧ ¬ (b = 127 ∧ k = nl) ∧ ¬ (b = 129 ∧ k = nl) ∧ ¬ (b = 130 ∧ k = nl) ∧ b ≠ 5000 + nl) → vL H b k = vL h b k := fun b k c => by rw [← hH, vL_sI, vL_ne (by omega), vL_ne (by omega), vL_sI, vL_ne (by omega), vL_sI, vL_sI, vL_sI, vL_sI, vL_sP, vL_ne (by omega), vL_ne (by omega), vL_sI, vL_sI, vL_sI, vL_ne (by omega), vL_sP, vL_sP, vL_nN (by omega)]
  have fP : ∀ b k, (¬ (b = 5000 + nl ∧ k = 0) ∧ ¬ (b = 5000 + nl ∧ k = 1) ∧ ¬ (b = 3 ∧ k = nl) ∧ b ≠ 5000 + nl) → vP H b k = vP h b k := fun b k c => by rw [← hH, vP_sI, vP_sL, vP_sL, vP_sI, vP_sL, vP_sI, vP_sI, vP_sI, vP_sI, vP_ne (by omega), vP_sL, vP_sL, vP_sI, vP_sI, vP_sI, vP_sL, vP_ne (by omega), vP_ne (by omega), vP_nN (by omega)]
  have fZ : ∀ b, (b ≠ 5000 + nl) → liv H b = liv h b := fun b c => by rw [← hH, liv_sI, liv_sL, liv_sL, liv_sI, liv_sL, liv_sI, liv_sI, liv_sI, liv_sI, liv_sP, liv_sL, liv_sL, liv_sI, liv_sI, liv_sI, liv_sL, liv_sP, liv_sP, liv_other (by omega)]
  have eC : ∀ i, i < nm → (mCn h i).toInt ≤ (mCn H i).toInt := fun i hi => Int.le_of_eq (by rw [mCn_cg (h := h) (fun b k c => fL b k (by first | trivial | omega)) i])
  exact ⟨SR_cg (ivSR hI) (fun b c => fZ b (by first | trivial | omega)) (fun b k c => fP b k (by first | trivial | omega)),
    SM_cg (ivSM hI) (fun b c => fZ b (by first | trivial | omega)) (fun b k c => fP b k (by first | trivial | omega)) (fun b k c => fI b k (by first | trivial | omega)),
    (by
      obtain ⟨h1, h2, h3, h4⟩ := ivSL hI
      have := (ivNC hI).1
      refine ⟨by omega, by rw [← hH, vI_ne (by omega), vI_sL, vI_sL, vI_ne (by omega), vI_sL, vI_ne (by omega), vI_ne (by omega), vI_ne (by omega), vIs], fun k hk => ?_, fun k hk hk2 => by rw [fZ _ (by omega)]; exact h4 k (by omega) hk2⟩
      by_cases z : k = nl
      · subst z
        refine ⟨by rw [← hH, vP_sI, vP_sL, vP_sL, vP_sI, vP_sL, vP_sI, vP_sI, vP_sI, vP_sI, vPs], ?_, f, t, hf, ht, by rw [← hH, vP_sI, vP_sL, vP_sL, vP_sI, vP_sL, vP_sI, vP_sI, vP_sI, vP_sI, vP_ne (by omega), vP_sL, vP_sL, vP_sI, vP_sI, vP_sI, vP_sL, vP_ne (by omega), vPs], by rw [← hH, vP_sI, vP_sL, vP_sL, vP_sI, vP_sL, vP_sI, vP_sI, vP_sI, vP_sI, vP_ne (by omega), vP_sL, vP_sL, vP_sI, vP_sI, vP_sI, vP_sL, vPs]⟩
        rw [← hH, liv_sI, liv_sL, liv_sL, liv_sI, liv_sL, liv_sI, liv_sI, liv_sI, liv_sI, liv_sP, liv_sL, liv_sL, liv_sI, liv_sI, liv_sI, liv_sL, liv_sP, liv_sP]
        exact liv_new _ _
      · have q := h3 k (by omega)
        unfold LO at *
        rw [fP _ _ (by omega), fZ _ (by omega), fP _ _ (by omega), fP _ _ (by omega)]; exact q),
    SS_cg (ivSS hI) (fun b c => fZ b (by first | trivial | omega)) (fun b k c => fP b k (by first | trivial | omega)) (fun b k c => fI b k (by first | trivial | omega)),
    SO_cg (ivSO hI) (fun b c => fZ b (by first | trivial | omega)) (fun b k c => fP b k (by first | trivial | omega)) (fun b k c => fI b k (by first | trivial | omega)),
    MW_cg (ivMW hI) (fun b c => fZ b (by first | trivial | omega)) (fun b k c => fP b k (by first | trivial | omega)),
    ML_cg (ivML hI) (fun b c => fZ b (by first | trivial | omega)) (fun b k c => fP b k (by first | trivial | omega)) (fun b k c => fI b k (by first | trivial | omega)),
    ⟨by rw [fI _ _ (by omega)]; exact (ivCN hI).1, by rw [← hH, vIs], by rw [fI _ _ (by omega)]; exact (ivCN hI).2.2.1, by rw [fI _ _ (by omega)]; exact (ivCN hI).2.2.2⟩,
    NW_cg (ivNW hI) hn0 (fun b k c => fL b k (by first | trivial | omega)),
    ⟨by have := (ivNC hI).1; omega, by have := (ivNC hI).2.1; omega, (ivNC hI).2.2⟩,
    PI_cg (iv103 hI) hm (fun b k c => fI b k (by first | trivial | omega)),
    PI_cg (iv114 hI) hm (fun b k c => fI b k (by first | trivial | omega)),
    PI_cg (iv117 hI) hm (fun b k c => fI b k (by first | trivial | omega)),
    PI_cg (iv118 hI) hm (fun b k c => fI b k (by first | trivial | omega)),
    PW_cg (iv104 hI) hm (fun b k c => fI b k (by first | trivial | omega)) (fun b k c => fL b k (by first | trivial | omega)),
    PW_cg (iv105 hI) hm (fun b k c => fI b k (by first | trivial | omega)) (fun b k c => fL b k (by first | trivial | omega)),
    PL_cg (iv106 hI) hm (fun b k c => fL b k (by first | trivial | omega)),
    PW_cg (iv107 hI) hm (fun b k c => fI b k (by first | trivial | omega)) (fun b k c => fL b k (by first | trivial | omega)),
    PW_cg (iv108 hI) hm (fun b k c => fI b k (by first | trivial | omega)) (fun b k c => fL b k (by first | trivial | omega)),
    PL_cg (iv112 hI) hm (fun b k c => fL b k (by first | trivial | omega)),
    PL_cg (iv113 hI) hm (fun b k c => fL b k (by first | trivial | omega)),
    PL_cg (iv115 hI) hm (fun b k c => fL b k (by first | trivial | omega)),
    PL_cg (iv116 hI) hm (fun b k c => fL b k (by first | trivial | omega)),
    OW_cg (ivOW hI) hm (fun b k c => fI b k (by first | trivial | omega)) (fun b k c => fL b k (by first | trivial | omega)),
    RG_cg (ivRG hI) (fun b k c => fI b k (by first | trivial | omega)) (fun b k c => fL b k (by first | trivial | omega)),
    RB_cg (ivRB hI) hn0 eC (fun b k c => fL b k (by first | trivial | omega)),
    RZ_cg (ivRZ hI) (fun b k c => fI b k (by first | trivial | omega)) (fun b k c => fL b k (by first | trivial | omega)),
    HD_cg (ivHD hI) (ivSM hI) hn0 eC (fun b k c => fP b k (by first | trivial | omega)) (fun b k c => fI b k (by first | trivial | omega)) (fun b k c => fL b k (by first | trivial | omega)),
    HZ_cg (ivHZ hI) (fun b k c => fI b k (by first | trivial | omega)),
    (fun k hk => by
      by_cases z : k = nl
      · subst z
        have ec := mCn_cg (h := h) (h' := H) (fun b k c => fL b k (by omega)) f
        have e1 : vP H (5000 + k) 0 = some (1000 + f) := by rw [← hH, vP_sI, vP_sL, vP_sL, vP_sI, vP_sL, vP_sI, vP_sI, vP_sI, vP_sI, vP_ne (by omega), vP_sL, vP_sL, vP_sI, vP_sI, vP_sI, vP_sL, vP_ne (by omega), vPs]
        have e2 : vP H (5000 + k) 1 = some (1000 + t) := by rw [← hH, vP_sI, vP_sL, vP_sL, vP_sI, vP_sL, vP_sI, vP_sI, vP_sI, vP_sI, vP_ne (by omega), vP_sL, vP_sL, vP_sI, vP_sI, vP_sI, vP_sL, vPs]
        have e3 : vL H (5000 + k) 2 = ta := by rw [← hH, vL_sI, vL_ne (by omega), vL_ne (by omega), vL_sI, vL_ne (by omega), vL_sI, vL_sI, vL_sI, vL_sI, vL_sP, vL_ne (by omega), vL_ne (by omega), vL_sI, vL_sI, vL_sI, vLs]
        have e4 : vI H (5000 + k) 3 = st := by rw [← hH, vI_ne (by omega), vI_sL, vI_sL, vI_ne (by omega), vI_sL, vI_ne (by omega), vI_ne (by omega), vI_ne (by omega), vI_ne (by omega), vI_sP, vI_sL, vI_sL, vI_ne (by omega), vIs]
        have e5 : vI H (5000 + k) 4 = an := by rw [← hH, vI_ne (by omega), vI_sL, vI_sL, vI_ne (by omega), vI_sL, vI_ne (by omega), vI_ne (by omega), vI_ne (by omega), vI_ne (by omega), vI_sP, vI_sL, vI_sL, vIs]
        have e6 : vL H (5000 + k) 5 = lo := by rw [← hH, vL_sI, vL_ne (by omega), vL_ne (by omega), vL_sI, vL_ne (by omega), vL_sI, vL_sI, vL_sI, vL_sI, vL_sP, vL_ne (by omega), vLs]
        have e7 : vL H (5000 + k) 6 = hi := by rw [← hH, vL_sI, vL_ne (by omega), vL_ne (by omega), vL_sI, vL_ne (by omega), vL_sI, vL_sI, vL_sI, vL_sI, vL_sP, vLs]
        have e8 : vI H (124) k = nI f := by rw [← hH, vI_ne (by omega), vI_sL, vI_sL, vI_ne (by omega), vI_sL, vI_ne (by omega), vI_ne (by omega), vIs]
        have e9 : vI H (125) k = nI t := by rw [← hH, vI_ne (by omega), vI_sL, vI_sL, vI_ne (by omega), vI_sL, vI_ne (by omega), vIs]
        have e10 : vI H (126) k = st := by rw [← hH, vI_ne (by omega), vI_sL, vI_sL, vI_ne (by omega), vI_sL, vIs]
        have e11 : vL H (127) k = ta := by rw [← hH, vL_sI, vL_ne (by omega), vL_ne (by omega), vL_sI, vLs]
        have e12 : vI H (128) k = an := by rw [← hH, vI_ne (by omega), vI_sL, vI_sL, vIs]
        have e13 : vL H (129) k = lo2 := by rw [← hH, vL_sI, vL_ne (by omega), vLs]
        have e14 : vL H (130) k = hi2 := by rw [← hH, vL_sI, vLs]
        refine ⟨f, t, ?_⟩
        unfold L1
        rw [ec, e1, e2, e3, e4, e5, e6, e7, e8, e9, e10, e11, e12, e13, e14]
        exact ⟨hf, ht, hft, ⟨rfl, rfl⟩, ⟨rfl, rfl⟩, ⟨rfl, hst⟩, ⟨rfl, hta⟩, rfl, han⟩
      · obtain ⟨f', t', q⟩ := LT_cg (ivLT hI) hn0 (Nat.le_refl nm) hl eC (fun b k c => fP b k (by omega)) (fun b k c => fI b k (by omega)) (fun b k c => fL b k (by omega)) k (by omega)
        exact ⟨f', t', q⟩),
    RS_cg (ivRS hI) hn0 (fun b k c => fI b k (by first | trivial | omega)) (fun b k c => fL b k (by first | trivial | omega)),
    EV_cg (ivEV hI) hn0 (fun b k c => fL b k (by first | trivial | omega)),
    EZ_cg (ivEZ hI) (fun b k c => fI b k (by first | trivial | omega)),
    DS_cg (ivDS hI) (fun b k c => fI b k (by first | trivial | omega)) (fun b k c => fL b k (by first | trivial | omega))⟩
