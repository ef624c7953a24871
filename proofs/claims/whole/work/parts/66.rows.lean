/-! the calls that change rows -/
theorem up2_n2 {α : Type} {f : Nat → Nat → α} {a k : Nat} {v : α} {b j : Nat} (hc : ¬ (b = a ∧ j = k)) : up2 f a k v b j = f b j := by
  unfold up2
  by_cases h1 : b = a
  · rw [if_pos h1, if_neg (fun h2 => hc ⟨h1, h2⟩)]
  · rw [if_neg h1]
theorem vI_ne {h : HP} {a k b j : Nat} {v : Int32} (hc : ¬ (b = a ∧ j = k)) : vI (sI h a k v) b j = vI h b j := up2_n2 hc
theorem vL_ne {h : HP} {a k b j : Nat} {v : Int64} (hc : ¬ (b = a ∧ j = k)) : vL (sL h a k v) b j = vL h b j := up2_n2 hc
theorem vP_ne {h : HP} {a k b j : Nat} {v : Option Nat} (hc : ¬ (b = a ∧ j = k)) : vP (sP h a k v) b j = vP h b j := up2_n2 hc
theorem vI_nN {h : HP} {a b : Nat} (hc : b ≠ a) : vI (sN h a) b = vI h b := by show (if b = a then _ else _) = _; rw [if_neg hc]; rfl
theorem vL_nN {h : HP} {a b : Nat} (hc : b ≠ a) : vL (sN h a) b = vL h b := by show (if b = a then _ else _) = _; rw [if_neg hc]; rfl
theorem vP_nN {h : HP} {a b : Nat} (hc : b ≠ a) : vP (sN h a) b = vP h b := by show (if b = a then _ else _) = _; rw [if_neg hc]; rfl
theorem vI_NN {h : HP} {a k : Nat} : vI (sN h a) a k = 0 := by rw [(sN_row a).1]
theorem vL_NN {h : HP} {a k : Nat} : vL (sN h a) a k = 0 := by rw [(sN_row a).2.1]
theorem vP_NN {h : HP} {a k : Nat} : vP (sN h a) a k = none := by rw [(sN_row a).2.2]
/-- the model's cells are the same -/
def ME (h h1 : HP) : Prop := (∀ b k, (100 ≤ b ∧ b < 160) → vI h1 b k = vI h b k) ∧ (∀ b k, (100 ≤ b ∧ b < 160) → vL h1 b k = vL h b k) ∧ (∀ b k, (100 ≤ b ∧ b < 160) → vP h1 b k = vP h b k) ∧ ∀ b, (100 ≤ b ∧ b < 160) → liv h1 b = liv h b
theorem ME_W {h h1 : HP} (e : ME h h1) (hW : MW h) : MW h1 := MW_cg hW e.2.2.2 (fun b k c => e.2.2.1 b k (by omega))
theorem ME_L {h h1 : HP} {ne : Nat} {E : Nat → Nat → Prop} (e : ME h h1) (hW : ML h ne E) : ML h1 ne E := ML_cg hW e.2.2.2 (fun b k c => e.2.2.1 b k (by omega)) (fun b k c => e.1 b k (by omega))
theorem ME_C {h h1 : HP} {nm nl ns nk : Nat} (e : ME h h1) (hC : CN1 h nm nl ns nk) : CN1 h1 nm nl ns nk := CN_cg hC (fun b k c => e.1 b k (by omega))
theorem ME_f {h h1 : HP} (e : ME h h1) (t : Nat) : mCn h1 t = mCn h t ∧ mLo h1 t = mLo h t ∧ mHi h1 t = mHi h t ∧ (∀ d, mAL h1 t d = mAL h t d) ∧ (∀ d, mAM h1 t d = mAM h t d) ∧ (DV h t → DV h1 t) := mCong (fun a ha => by funext k; exact e.2.1 a k (by omega)) (by funext k; exact e.1 103 k (by omega)) t
theorem iv_go {n : Nat} {h : HP} {nm nl ns ne nk : Nat} {fr to : Nat → Nat} {E : Nat → Nat → Prop} (hI : IV n h nm nl ns ne nk fr to E) (hn : n < 64) (w : Int64) (h1 : (vL h 100 0).toInt ≤ w.toInt) (h2 : w.toInt ≤ (vL h 100 0).toInt + 1000000) : IV (n + 1) (sL (sL h (1) (0) (w)) (100) (0) (w)) nm nl ns ne nk fr to E := by
  have hm := ivnm hI
  have hl : nl ≤ 200 := Nat.le_of_lt (ivSL hI).1
  have hn0 := Nat.le_succ n
  generalize hH : (sL (sL h (1) (0) (w)) (100) (0) (w)) = H
  have fI : ∀ b k, (True) → vI H b k = vI h b k := fun b k c => by rw [← hH, vI_sL, vI_sL]
  have fL : ∀ b k, (¬ (b = 1 ∧ k = 0) ∧ ¬ (b = 100 ∧ k = 0)) → vL H b k = vL h b k := fun b k c => by rw [← hH, vL_ne (by omega), vL_ne (by omega)]
  have fP : ∀ b k, (True) → vP H b k = vP h b k := fun b k c => by rw [← hH, vP_sL, vP_sL]
  have fZ : ∀ b, (True) → liv H b = liv h b := fun b c => by rw [← hH, liv_sL, liv_sL]
  have e100 : vL H 100 0 = w := by rw [← hH, vLs]
  have hRG : RG H nm := fun i hi => by
    have q := ivRG hI i hi
    rw [fI 103 _ trivial, fI 114 _ trivial, fL 104 _ (by omega), fL 105 _ (by omega), fL 106 _ (by omega), fL 107 _ (by omega), fL 108 _ (by omega), e100]
    exact ⟨q.1, q.2.1, q.2.2.1, q.2.2.2.1, q.2.2.2.2.1, ⟨q.2.2.2.2.2.1.1, by have := q.2.2.2.2.2.1.2; omega⟩, q.2.2.2.2.2.2⟩
  have hNW : NW (n + 1) H := ⟨by rw [← hH, vL_ne (by omega), vLs, vLs], by rw [e100]; have := (ivNW hI).2.1; omega, by rw [e100]; have := (ivNW hI).2.2; omega⟩
  have eC : ∀ i, i < nm → (mCn h i).toInt ≤ (mCn H i).toInt := fun i hi => by
    rw [mCn_i (by omega) (ivNW hI) (ivRG hI) hi, mCn_i (by omega) hNW hRG hi, e100, fL 106 _ (by omega), fL 107 _ (by omega), fL 108 _ (by omega)]
    have q := ivRG hI i hi
    exact Int.ediv_le_ediv (by omega) (Int.mul_le_mul_of_nonneg_right (by omega) (by omega))
  exact ⟨SR_cg (ivSR hI) (fun b c => fZ b (by first | trivial | omega)) (fun b k c => fP b k (by first | trivial | omega)),
    SM_cg (ivSM hI) (fun b c => fZ b (by first | trivial | omega)) (fun b k c => fP b k (by first | trivial | omega)) (fun b k c => fI b k (by first | trivial | omega)),
    SL_cg (ivSL hI) (fun b c => fZ b (by first | trivial | omega)) (fun b k c => fP b k (by first | trivial | omega)) (fun b k c => fI b k (by first | trivial | omega)),
    SS_cg (ivSS hI) (fun b c => fZ b (by first | trivial | omega)) (fun b k c => fP b k (by first | trivial | omega)) (fun b k c => fI b k (by first | trivial | omega)),
    SO_cg (ivSO hI) (fun b c => fZ b (by first | trivial | omega)) (fun b k c => fP b k (by first | trivial | omega)) (fun b k c => fI b k (by first | trivial | omega)),
    MW_cg (ivMW hI) (fun b c => fZ b (by first | trivial | omega)) (fun b k c => fP b k (by first | trivial | omega)),
    ML_cg (ivML hI) (fun b c => fZ b (by first | trivial | omega)) (fun b k c => fP b k (by first | trivial | omega)) (fun b k c => fI b k (by first | trivial | omega)),
    CN_cg (ivCN hI) (fun b k c => fI b k (by first | trivial | omega)),
    ⟨by rw [← hH, vL_ne (by omega), vLs, vLs], by rw [e100]; have := (ivNW hI).2.1; omega, by rw [e100]; have := (ivNW hI).2.2; omega⟩,
    ⟨by have := (ivNC hI).1; omega, by have := (ivNC hI).2.1; omega, (ivNC hI).2.2⟩,
    PI_cg (iv103 hI) hm (fun b k c => fI b k (by first | trivial | omega)),
    PI_cg (iv114 hI) hm (fun b k c => fI b k (by first | trivial | omega)),
    PI_cg (iv117 hI) hm (fun b k c => fI b k (by first | trivial | omega)),
    PI_cg (iv118 hI) hm (fun b k c => fI b k (by first | trivial | omega)),
    PW_cg (iv104 hI) hm (fun b k c => fI b k (by first | trivial | omega)) (fun b k c => fL b k (by first | trivial | omega)),
    PW_cg (iv105 hI) hm (fun b k c => fI b k (by first | trivial | omega)) (fun b k c => fL b k (by first | trivial | omega)),
    PL_cg (iv106 hI) hm (fun b k c => fL b k (by first | trivial | omega)),
    PW_cg (iv107 hI) hm (fun b k c => fI b k (by first | trivial | omega)) (fun b k c => fL b k (by first | trivial | omega)),
    PW_cg (iv108 hI) hm (fun b k c => fI b k (by first | trivial | omega)) (fun b k c => fL b k (by first | trivial | omega)),
    PL_cg (iv112 hI) hm (fun b k c => fL b k (by first | trivial | omega)),
    PL_cg (iv113 hI) hm (fun b k c => fL b k (by first | trivial | omega)),
    PL_cg (iv115 hI) hm (fun b k c => fL b k (by first | trivial | omega)),
    PL_cg (iv116 hI) hm (fun b k c => fL b k (by first | trivial | omega)),
    OW_cg (ivOW hI) hm (fun b k c => fI b k (by first | trivial | omega)) (fun b k c => fL b k (by first | trivial | omega)),
    hRG,
    RB_cg (ivRB hI) hn0 eC (fun b k c => fL b k (by first | trivial | omega)),
    RZ_cg (ivRZ hI) (fun b k c => fI b k (by first | trivial | omega)) (fun b k c => fL b k (by first | trivial | omega)),
    HD_cg (ivHD hI) (ivSM hI) hn0 eC (fun b k c => fP b k (by first | trivial | omega)) (fun b k c => fI b k (by first | trivial | omega)) (fun b k c => fL b k (by first | trivial | omega)),
    HZ_cg (ivHZ hI) (fun b k c => fI b k (by first | trivial | omega)),
    LT_cg (ivLT hI) hn0 (Nat.le_refl _) hl eC (fun b k c => fP b k (by first | trivial | omega)) (fun b k c => fI b k (by first | trivial | omega)) (fun b k c => fL b k (by first | trivial | omega)),
    RS_cg (ivRS hI) hn0 (fun b k c => fI b k (by first | trivial | omega)) (fun b k c => fL b k (by first | trivial | omega)),
    EV_cg (ivEV hI) hn0 (fun b k c => fL b k (by first | trivial | omega)),
    EZ_cg (ivEZ hI) (fun b k c => fI b k (by first | trivial | omega)),
    DS_cg (ivDS hI) (fun b k c => fI b k (by first | trivial | omega)) (fun b k c => fL b k (by first | trivial | omega))⟩
theorem iv_rate {n : Nat} {h : HP} {nm nl ns ne nk : Nat} {fr to : Nat → Nat} {E : Nat → Nat → Prop} (hI : IV n h nm nl ns ne nk fr to E) (hn : n < 64) (i : Nat) (hi : i < nm) (up down : Int32) (hu : 1 ≤ up.toInt ∧ up.toInt ≤ 100000) (hd : 1 ≤ down.toInt ∧ down.toInt ≤ 100000) (hb : (vL h 106 i).toInt = (vL h 100 0).toInt) : IV (n + 1) (sL (sL (sI (sI h (1000 + i) (5) (up)) (1000 + i) (6) (down)) (107) (i) (Int32.toInt64 up)) (108) (i) (Int32.toInt64 down)) nm nl ns ne nk fr to E := by
  have hm := ivnm hI
  have hl : nl ≤ 200 := Nat.le_of_lt (ivSL hI).1
  have hn0 := Nat.le_succ n
  generalize hH : (sL (sL (sI (sI h (1000 + i) (5) (up)) (1000 + i) (6) (down)) (107) (i) (Int32.toInt64 up)) (108) (i) (Int32.toInt64 down)) = H
  have fI : ∀ b k, (¬ (b = 1000 + i ∧ k = 5) ∧ ¬ (b = 1000 + i ∧ k = 6)) → vI H b k = vI h b k := fun b k c => by rw [← hH, vI_sL, vI_sL, vI_ne (by omega), vI_ne (by omega)]
  have fL : ∀ b k, (¬ (b = 107 ∧ k = i) ∧ ¬ (b = 108 ∧ k = i)) → vL H b k = vL h b k := fun b k c => by rw [← hH, vL_ne (by omega), vL_ne (by omega), vL_sI, vL_sI]
  have fP : ∀ b k, (True) → vP H b k = vP h b k := fun b k c => by rw [← hH, vP_sL, vP_sL, vP_sI, vP_sI]
  have fZ : ∀ b, (True) → liv H b = liv h b := fun b c => by rw [← hH, liv_sL, liv_sL, liv_sI, liv_sI]
  have r7 : ∀ j, vL H 107 j = if j = i then Int32.toInt64 up else vL h 107 j := fun j => by
    by_cases e : j = i
    · rw [if_pos e, e, ← hH, vL_ne (by omega), vLs]
    · rw [if_neg e]; exact fL 107 j (by omega)
  have r8 : ∀ j, vL H 108 j = if j = i then Int32.toInt64 down else vL h 108 j := fun j => by
    by_cases e : j = i
    · rw [if_pos e, e, ← hH, vLs]
    · rw [if_neg e]; exact fL 108 j (by omega)
  have hRG : RG H nm := fun j hj => by
    have q := ivRG hI j hj
    rw [fI 103 _ (by omega), fI 114 _ (by omega), fL 104 _ (by omega), fL 105 _ (by omega), fL 106 _ (by omega), fL 100 0 (by omega), r7, r8]
    refine ⟨q.1, q.2.1, q.2.2.1, ?_, ?_, q.2.2.2.2.2⟩
    · split
      · rw [wid]; exact hu
      · exact q.2.2.2.1
    · split
      · rw [wid]; exact hd
      · exact q.2.2.2.2.1
  have hNW : NW (n + 1) H := NW_cg (ivNW hI) hn0 (fun b k c => fL b k (by omega))
  have eC : ∀ j, j < nm → (mCn h j).toInt ≤ (mCn H j).toInt := fun j hj => by
    rw [mCn_i (by omega) (ivNW hI) (ivRG hI) hj, mCn_i (by omega) hNW hRG hj, r7, r8, fL 106 _ (by omega), fL 100 0 (by omega)]
    by_cases e : j = i
    · rw [if_pos e, if_pos e, e, hb, Int.sub_self, Int.zero_mul, Int.zero_mul, Int.zero_ediv, Int.zero_ediv]
      exact Int.le_refl _
    · rw [if_neg e, if_neg e]; exact Int.le_refl _
  exact ⟨SR_cg (ivSR hI) (fun b c => fZ b (by first | trivial | omega)) (fun b k c => fP b k (by first | trivial | omega)),
    SM_cg (ivSM hI) (fun b c => fZ b (by first | trivial | omega)) (fun b k c => fP b k (by first | trivial | omega)) (fun b k c => fI b k (by first | trivial | omega)),
    SL_cg (ivSL hI) (fun b c => fZ b (by first | trivial | omega)) (fun b k c => fP b k (by first | trivial | omega)) (fun b k c => fI b k (by first | trivial | omega)),
    SS_cg (ivSS hI) (fun b c => fZ b (by first | trivial | omega)) (fun b k c => fP b k (by first | trivial | omega)) (fun b k c => fI b k (by first | trivial | omega)),
    SO_cg (ivSO hI) (fun b c => fZ b (by first | trivial | omega)) (fun b k c => fP b k (by first | trivial | omega)) (fun b k c => fI b k (by first | trivial | omega)),
    MW_cg (ivMW hI) (fun b c => fZ b (by first | trivial | omega)) (fun b k c => fP b k (by first | trivial | omega)),
    ML_cg (ivML hI) (fun b c => fZ b (by first | trivial | omega)) (fun b k c => fP b k (by first | trivial | omega)) (fun b k c => fI b k (by first | trivial | omega)),
    CN_cg (ivCN hI) (fun b k c => fI b k (by first | trivial | omega)),
    NW_cg (ivNW hI) hn0 (fun b k c => fL b k (by first | trivial | omega)),
    ⟨by have := (ivNC hI).1; omega, by have := (ivNC hI).2.1; omega, (ivNC hI).2.2⟩,
    PI_cg (iv103 hI) hm (fun b k c => fI b k (by first | trivial | omega)),
    PI_cg (iv114 hI) hm (fun b k c => fI b k (by first | trivial | omega)),
    PI_cg (iv117 hI) hm (fun b k c => fI b k (by first | trivial | omega)),
    PI_cg (iv118 hI) hm (fun b k c => fI b k (by first | trivial | omega)),
    PW_cg (iv104 hI) hm (fun b k c => fI b k (by first | trivial | omega)) (fun b k c => fL b k (by first | trivial | omega)),
    PW_cg (iv105 hI) hm (fun b k c => fI b k (by first | trivial | omega)) (fun b k c => fL b k (by first | trivial | omega)),
    PL_cg (iv106 hI) hm (fun b k c => fL b k (by first | trivial | omega)),
    (fun j hj => by
      by_cases e : j = i
      · rw [e, ← hH, vI_sL, vI_sL, vI_ne (by omega), vIs, vL_ne (by omega), vLs]
      · rw [fI _ _ (by omega), fL _ _ (by omega)]; exact iv107 hI j hj),
    (fun j hj => by
      by_cases e : j = i
      · rw [e, ← hH, vI_sL, vI_sL, vIs, vLs]
      · rw [fI _ _ (by omega), fL _ _ (by omega)]; exact iv108 hI j hj),
    PL_cg (iv112 hI) hm (fun b k c => fL b k (by first | trivial | omega)),
    PL_cg (iv113 hI) hm (fun b k c => fL b k (by first | trivial | omega)),
    PL_cg (iv115 hI) hm (fun b k c => fL b k (by first | trivial | omega)),
    PL_cg (iv116 hI) hm (fun b k c => fL b k (by first | trivial | omega)),
    OW_cg (ivOW hI) hm (fun b k c => fI b k (by first | trivial | omega)) (fun b k c => fL b k (by first | trivial | omega)),
    hRG,
    RB_cg (ivRB hI) hn0 eC (fun b k c => fL b k (by first | trivial | omega)),
    RZ_cg (ivRZ hI) (fun b k c => fI b k (by first | trivial | omega)) (fun b k c => fL b k (by first | trivial | omega)),
    HD_cg (ivHD hI) (ivSM hI) hn0 eC (fun b k c => fP b k (by first | trivial | omega)) (fun b k c => fI b k (by first | trivial | omega)) (fun b k c => fL b k (by first | trivial | omega)),
    HZ_cg (ivHZ hI) (fun b k c => fI b k (by first | trivial | omega)),
    LT_cg (ivLT hI) hn0 (Nat.le_refl _) hl eC (fun b k c => fP b k (by first | trivial | omega)) (fun b k c => fI b k (by first | trivial | omega)) (fun b k c => fL b k (by first | trivial | omega)),
    RS_cg (ivRS hI) hn0 (fun b k c => fI b k (by first | trivial | omega)) (fun b k c => fL b k (by first | trivial | omega)),
    EV_cg (ivEV hI) hn0 (fun b k c => fL b k (by first | trivial | omega)),
    EZ_cg (ivEZ hI) (fun b k c => fI b k (by first | trivial | omega)),
    DS_cg (ivDS hI) (fun b k c => fI b k (by first | trivial | omega)) (fun b k c => fL b k (by first | trivial | omega))⟩
theorem iv_lie {n : Nat} {h : HP} {nm nl ns ne nk : Nat} {fr to : Nat → Nat} {E : Nat → Nat → Prop} (hI : IV n h nm nl ns ne nk fr to E) (i : Nat) (hi : i < nm) (lo hi : Int64) (hlo : inB (n + 1) lo) (hhi : inB (n + 1) hi) : IV (n + 1) (sL (sL (sL (sL h (1000 + i) (10) (lo)) (1000 + i) (11) (hi)) (112) (i) (lo)) (113) (i) (hi)) nm nl ns ne nk fr to E := by
  have hm := ivnm hI
  have hl : nl ≤ 200 := Nat.le_of_lt (ivSL hI).1
  have hn0 := Nat.le_succ n
  generalize hH : (sL (sL (sL (sL h (1000 + i) (10) (lo)) (1000 + i) (11) (hi)) (112) (i) (lo)) (113) (i) (hi)) = H
  have fI : ∀ b k, (True) → vI H b k = vI h b k := fun b k c => by rw [← hH, vI_sL, vI_sL, vI_sL, vI_sL]
  have fL : ∀ b k, (¬ (b = 1000 + i ∧ k = 10) ∧ ¬ (b = 1000 + i ∧ k = 11) ∧ ¬ (b = 112 ∧ k = i) ∧ ¬ (b = 113 ∧ k = i)) → vL H b k = vL h b k := fun b k c => by rw [← hH, vL_ne (by omega), vL_ne (by omega), vL_ne (by omega), vL_ne (by omega)]
  have fP : ∀ b k, (True) → vP H b k = vP h b k := fun b k c => by rw [← hH, vP_sL, vP_sL, vP_sL, vP_sL]
  have fZ : ∀ b, (True) → liv H b = liv h b := fun b c => by rw [← hH, liv_sL, liv_sL, liv_sL, liv_sL]
  have e112 : vL H 112 i = lo := by rw [← hH, vL_ne (by omega), vLs]
  have e113 : vL H 113 i = hi := by rw [← hH, vLs]
  have eC : ∀ i, i < nm → (mCn h i).toInt ≤ (mCn H i).toInt := fun i hi => Int.le_of_eq (by rw [mCn_cg (h := h) (fun b k c => fL b k (by first | trivial | omega)) i])
  exact ⟨SR_cg (ivSR hI) (fun b c => fZ b (by first | trivial | omega)) (fun b k c => fP b k (by first | trivial | omega)),
    SM_cg (ivSM hI) (fun b c => fZ b (by first | trivial | omega)) (fun b k c => fP b k (by first | trivial | omega)) (fun b k c => fI b k (by first | trivial | omega)),
    SL_cg (ivSL hI) (fun b c => fZ b (by first | trivial | omega)) (fun b k c => fP b k (by first | trivial | omega)) (fun b k c => fI b k (by first | trivial | omega)),
    SS_cg (ivSS hI) (fun b c => fZ b (by first | trivial | omega)) (fun b k c => fP b k (by first | trivial | omega)) (fun b k c => fI b k (by first | trivial | omega)),
    SO_cg (ivSO hI) (fun b c => fZ b (by first | trivial | omega)) (fun b k c => fP b k (by first | trivial | omega)) (fun b k c => fI b k (by first | trivial | omega)),
    MW_cg (ivMW hI) (fun b c => fZ b (by first | trivial | omega)) (fun b k c => fP b k (by first | trivial | omega)),
    ML_cg (ivML hI) (fun b c => fZ b (by first | trivial | omega)) (fun b k c => fP b k (by first | trivial | omega)) (fun b k c => fI b k (by first | trivial | omega)),
    CN_cg (ivCN hI) (fun b k c => fI b k (by first | trivial | omega)),
    NW_cg (ivNW hI) hn0 (fun b k c => fL b k (by first | trivial | omega)),
    ⟨by have := (ivNC hI).1; omega, by have := (ivNC hI).2.1; omega, (ivNC hI).2.2⟩,
    PI_cg (iv103 hI) hm (fun b k c => fI b k (by first | trivial | omega)),
    PI_cg (iv114 hI) hm (fun b k c => fI b k (by first | trivial | omega)),
    PI_cg (iv117 hI) hm (fun b k c => fI b k (by first | trivial | omega)),
    PI_cg (iv118 hI) hm (fun b k c => fI b k (by first | trivial | omega)),
    PW_cg (iv104 hI) hm (fun b k c => fI b k (by first | trivial | omega)) (fun b k c => fL b k (by first | trivial | omega)),
    PW_cg (iv105 hI) hm (fun b k c => fI b k (by first | trivial | omega)) (fun b k c => fL b k (by first | trivial | omega)),
    PL_cg (iv106 hI) hm (fun b k c => fL b k (by first | trivial | omega)),
    PW_cg (iv107 hI) hm (fun b k c => fI b k (by first | trivial | omega)) (fun b k c => fL b k (by first | trivial | omega)),
    PW_cg (iv108 hI) hm (fun b k c => fI b k (by first | trivial | omega)) (fun b k c => fL b k (by first | trivial | omega)),
    (fun j hj => by
      by_cases e : j = i
      · rw [e, ← hH, vL_ne (by omega), vL_ne (by omega), vL_ne (by omega), vLs, vL_ne (by omega), vLs]
      · rw [fL _ _ (by omega), fL _ _ (by omega)]; exact iv112 hI j hj),
    (fun j hj => by
      by_cases e : j = i
      · rw [e, ← hH, vL_ne (by omega), vL_ne (by omega), vLs, vLs]
      · rw [fL _ _ (by omega), fL _ _ (by omega)]; exact iv113 hI j hj),
    PL_cg (iv115 hI) hm (fun b k c => fL b k (by first | trivial | omega)),
    PL_cg (iv116 hI) hm (fun b k c => fL b k (by first | trivial | omega)),
    OW_cg (ivOW hI) hm (fun b k c => fI b k (by first | trivial | omega)) (fun b k c => fL b k (by first | trivial | omega)),
    RG_cg (ivRG hI) (fun b k c => fI b k (by first | trivial | omega)) (fun b k c => fL b k (by first | trivial | omega)),
    (fun j hj => by
      obtain ⟨a1, a2, a3, a4, a5, a6, a7⟩ := RB_cg (n' := n + 1) (ivRB hI) hn0 (fun i hi => Int.le_refl _) (fun _ _ _ => rfl) j hj
      have ec := mCn_cg (h := h) (h' := H) (fun b k c => fL b k (by omega)) j
      by_cases e : j = i
      · subst e
        rw [ec, fL 109 _ (by omega), fL 110 _ (by omega), fL 111 _ (by omega), fL 115 _ (by omega), fL 116 _ (by omega), e112, e113]
        exact ⟨a1, a2, a3, a4, a5, hlo, hhi⟩
      · rw [ec, fL 109 _ (by omega), fL 110 _ (by omega), fL 111 _ (by omega), fL 112 _ (by omega), fL 113 _ (by omega), fL 115 _ (by omega), fL 116 _ (by omega)]
        exact ⟨a1, a2, a3, a4, a5, a6, a7⟩),
    RZ_cg (ivRZ hI) (fun b k c => fI b k (by first | trivial | omega)) (fun b k c => fL b k (by first | trivial | omega)),
    HD_cg (ivHD hI) (ivSM hI) hn0 eC (fun b k c => fP b k (by first | trivial | omega)) (fun b k c => fI b k (by first | trivial | omega)) (fun b k c => fL b k (by first | trivial | omega)),
    HZ_cg (ivHZ hI) (fun b k c => fI b k (by first | trivial | omega)),
    LT_cg (ivLT hI) hn0 (Nat.le_refl _) hl eC (fun b k c => fP b k (by first | trivial | omega)) (fun b k c => fI b k (by first | trivial | omega)) (fun b k c => fL b k (by first | trivial | omega)),
    RS_cg (ivRS hI) hn0 (fun b k c => fI b k (by first | trivial | omega)) (fun b k c => fL b k (by first | trivial | omega)),
    EV_cg (ivEV hI) hn0 (fun b k c => fL b k (by first | trivial | omega)),
    EZ_cg (ivEZ hI) (fun b k c => fI b k (by first | trivial | omega)),
    DS_cg (ivDS hI) (fun b k c => fI b k (by first | trivial | omega)) (fun b k c => fL b k (by first | trivial | omega))⟩
theorem iv_rest {n : Nat} {h : HP} {nm nl ns ne nk : Nat} {fr to : Nat → Nat} {E : Nat → Nat → Prop} (hI : IV n h nm nl ns ne nk fr to E) (i : Nat) (hi : i < nm) (x : Int32) (hx : x = 0 ∨ x = 1) : IV (n + 1) (sI (sI h (1000 + i) (7) (x)) (114) (i) (x)) nm nl ns ne nk fr to E := by
  have hm := ivnm hI
  have hl : nl ≤ 200 := Nat.le_of_lt (ivSL hI).1
  have hn0 := Nat.le_succ n
  generalize hH : (sI (sI h (1000 + i) (7) (x)) (114) (i) (x)) = H
  have fI : ∀ b k, (¬ (b = 1000 + i ∧ k = 7) ∧ ¬ (b = 114 ∧ k = i)) → vI H b k = vI h b k := fun b k c => by rw [← hH, vI_ne (by omega), vI_ne (by omega)]
  have fL : ∀ b k, (True) → vL H b k = vL h b k := fun b k c => by rw [← hH, vL_sI, vL_sI]
  have fP : ∀ b k, (True) → vP H b k = vP h b k := fun b k c => by rw [← hH, vP_sI, vP_sI]
  have fZ : ∀ b, (True) → liv H b = liv h b := fun b c => by rw [← hH, liv_sI, liv_sI]
  have eC : ∀ i, i < nm → (mCn h i).toInt ≤ (mCn H i).toInt := fun i hi => Int.le_of_eq (by rw [mCn_cg (h := h) (fun b k c => fL b k (by first | trivial | omega)) i])
  exact ⟨SR_cg (ivSR hI) (fun b c => fZ b (by first | trivial | omega)) (fun b k c => fP b k (by first | trivial | omega)),
    SM_cg (ivSM hI) (fun b c => fZ b (by first | trivial | omega)) (fun b k c => fP b k (by first | trivial | omega)) (fun b k c => fI b k (by first | trivial | omega)),
    SL_cg (ivSL hI) (fun b c => fZ b (by first | trivial | omega)) (fun b k c => fP b k (by first | trivial | omega)) (fun b k c => fI b k (by first | trivial | omega)),
    SS_cg (ivSS hI) (fun b c => fZ b (by first | trivial | omega)) (fun b k c => fP b k (by first | trivial | omega)) (fun b k c => fI b k (by first | trivial | omega)),
    SO_cg (ivSO hI) (fun b c => fZ b (by first | trivial | omega)) (fun b k c => fP b k (by first | trivial | omega)) (fun b k c => fI b k (by first | trivial | omega)),
    MW_cg (ivMW hI) (fun b c => fZ b (by first | trivial | omega)) (fun b k c => fP b k (by first | trivial | omega)),
    ML_cg (ivML hI) (fun b c => fZ b (by first | trivial | omega)) (fun b k c => fP b k (by first | trivial | omega)) (fun b k c => fI b k (by first | trivial | omega)),
    CN_cg (ivCN hI) (fun b k c => fI b k (by first | trivial | omega)),
    NW_cg (ivNW hI) hn0 (fun b k c => fL b k (by first | trivial | omega)),
    ⟨by have := (ivNC hI).1; omega, by have := (ivNC hI).2.1; omega, (ivNC hI).2.2⟩,
    PI_cg (iv103 hI) hm (fun b k c => fI b k (by first | trivial | omega)),
    (fun j hj => by
      by_cases e : j = i
      · rw [e, ← hH, vI_ne (by omega), vIs, vIs]
      · rw [fI _ _ (by omega), fI _ _ (by omega)]; exact iv114 hI j hj),
    PI_cg (iv117 hI) hm (fun b k c => fI b k (by first | trivial | omega)),
    PI_cg (iv118 hI) hm (fun b k c => fI b k (by first | trivial | omega)),
    PW_cg (iv104 hI) hm (fun b k c => fI b k (by first | trivial | omega)) (fun b k c => fL b k (by first | trivial | omega)),
    PW_cg (iv105 hI) hm (fun b k c => fI b k (by first | trivial | omega)) (fun b k c => fL b k (by first | trivial | omega)),
    PL_cg (iv106 hI) hm (fun b k c => fL b k (by first | trivial | omega)),
    PW_cg (iv107 hI) hm (fun b k c => fI b k (by first | trivial | omega)) (fun b k c => fL b k (by first | trivial | omega)),
    PW_cg (iv108 hI) hm (fun b k c => fI b k (by first | trivial | omega)) (fun b k c => fL b k (by first | trivial | omega)),
    PL_cg (iv112 hI) hm (fun b k c => fL b k (by first | trivial | omega)),
    PL_cg (iv113 hI) hm (fun b k c => fL b k (by first | trivial | omega)),
    PL_cg (iv115 hI) hm (fun b k c => fL b k (by first | trivial | omega)),
    PL_cg (iv116 hI) hm (fun b k c => fL b k (by first | trivial | omega)),
    OW_cg (ivOW hI) hm (fun b k c => fI b k (by first | trivial | omega)) (fun b k c => fL b k (by first | trivial | omega)),
    (fun j hj => by
      have q := ivRG hI j hj
      rw [fI 103 _ (by omega), fL 104 _ trivial, fL 105 _ trivial, fL 106 _ trivial, fL 107 _ trivial, fL 108 _ trivial, fL 100 0 trivial]
      refine ⟨q.1, q.2.1, q.2.2.1, q.2.2.2.1, q.2.2.2.2.1, q.2.2.2.2.2.1, ?_⟩
      by_cases e : j = i
      · rw [e, ← hH, vIs]; exact hx
      · rw [fI 114 _ (by omega)]; exact q.2.2.2.2.2.2),
    RB_cg (ivRB hI) hn0 eC (fun b k c => fL b k (by first | trivial | omega)),
    RZ_cg (ivRZ hI) (fun b k c => fI b k (by first | trivial | omega)) (fun b k c => fL b k (by first | trivial | omega)),
    HD_cg (ivHD hI) (ivSM hI) hn0 eC (fun b k c => fP b k (by first | trivial | omega)) (fun b k c => fI b k (by first | trivial | omega)) (fun b k c => fL b k (by first | trivial | omega)),
    HZ_cg (ivHZ hI) (fun b k c => fI b k (by first | trivial | omega)),
    LT_cg (ivLT hI) hn0 (Nat.le_refl _) hl eC (fun b k c => fP b k (by first | trivial | omega)) (fun b k c => fI b k (by first | trivial | omega)) (fun b k c => fL b k (by first | trivial | omega)),
    RS_cg (ivRS hI) hn0 (fun b k c => fI b k (by first | trivial | omega)) (fun b k c => fL b k (by first | trivial | omega)),
    EV_cg (ivEV hI) hn0 (fun b k c => fL b k (by first | trivial | omega)),
    EZ_cg (ivEZ hI) (fun b k c => fI b k (by first | trivial | omega)),
    DS_cg (ivDS hI) (fun b k c => fI b k (by first | trivial | omega)) (fun b k c => fL b k (by first | trivial | omega))⟩
theorem iv_lead {n : Nat} {h : HP} {nm nl ns ne nk : Nat} {fr to : Nat → Nat} {E : Nat → Nat → Prop} (hI : IV n h nm nl ns ne nk fr to E) (hn : n < 64) (i : Nat) (hi : i < nm) (s : Int64) (hs : inB (n + 1) s) : IV (n + 1) (sL (sL (sL (sL h (1000 + i) (12) (s)) (1000 + i) (13) (mCn h i)) (115) (i) (s)) (116) (i) (mCn h i)) nm nl ns ne nk fr to E := by
  have hm := ivnm hI
  have hl : nl ≤ 200 := Nat.le_of_lt (ivSL hI).1
  have hn0 := Nat.le_succ n
  generalize hH : (sL (sL (sL (sL h (1000 + i) (12) (s)) (1000 + i) (13) (mCn h i)) (115) (i) (s)) (116) (i) (mCn h i)) = H
  have fI : ∀ b k, (True) → vI H b k = vI h b k := fun b k c => by rw [← hH, vI_sL, vI_sL, vI_sL, vI_sL]
  have fL : ∀ b k, (¬ (b = 1000 + i ∧ k = 12) ∧ ¬ (b = 1000 + i ∧ k = 13) ∧ ¬ (b = 115 ∧ k = i) ∧ ¬ (b = 116 ∧ k = i)) → vL H b k = vL h b k := fun b k c => by rw [← hH, vL_ne (by omega), vL_ne (by omega), vL_ne (by omega), vL_ne (by omega)]
  have fP : ∀ b k, (True) → vP H b k = vP h b k := fun b k c => by rw [← hH, vP_sL, vP_sL, vP_sL, vP_sL]
  have fZ : ∀ b, (True) → liv H b = liv h b := fun b c => by rw [← hH, liv_sL, liv_sL, liv_sL, liv_sL]
  have e115 : vL H 115 i = s := by rw [← hH, vL_ne (by omega), vLs]
  have e116 : vL H 116 i = mCn h i := by rw [← hH, vLs]
  have eC : ∀ i, i < nm → (mCn h i).toInt ≤ (mCn H i).toInt := fun i hi => Int.le_of_eq (by rw [mCn_cg (h := h) (fun b k c => fL b k (by first | trivial | omega)) i])
  exact ⟨SR_cg (ivSR hI) (fun b c => fZ b (by first | trivial | omega)) (fun b k c => fP b k (by first | trivial | omega)),
    SM_cg (ivSM hI) (fun b c => fZ b (by first | trivial | omega)) (fun b k c => fP b k (by first | trivial | omega)) (fun b k c => fI b k (by first | trivial | omega)),
    SL_cg (ivSL hI) (fun b c => fZ b (by first | trivial | omega)) (fun b k c => fP b k (by first | trivial | omega)) (fun b k c => fI b k (by first | trivial | omega)),
    SS_cg (ivSS hI) (fun b c => fZ b (by first | trivial | omega)) (fun b k c => fP b k (by first | trivial | omega)) (fun b k c => fI b k (by first | trivial | omega)),
    SO_cg (ivSO hI) (fun b c => fZ b (by first | trivial | omega)) (fun b k c => fP b k (by first | trivial | omega)) (fun b k c => fI b k (by first | trivial | omega)),
    MW_cg (ivMW hI) (fun b c => fZ b (by first | trivial | omega)) (fun b k c => fP b k (by first | trivial | omega)),
    ML_cg (ivML hI) (fun b c => fZ b (by first | trivial | omega)) (fun b k c => fP b k (by first | trivial | omega)) (fun b k c => fI b k (by first | trivial | omega)),
    CN_cg (ivCN hI) (fun b k c => fI b k (by first | trivial | omega)),
    NW_cg (ivNW hI) hn0 (fun b k c => fL b k (by first | trivial | omega)),
    ⟨by have := (ivNC hI).1; omega, by have := (ivNC hI).2.1; omega, (ivNC hI).2.2⟩,
    PI_cg (iv103 hI) hm (fun b k c => fI b k (by first | trivial | omega)),
    PI_cg (iv114 hI) hm (fun b k c => fI b k (by first | trivial | omega)),
    PI_cg (iv117 hI) hm (fun b k c => fI b k (by first | trivial | omega)),
    PI_cg (iv118 hI) hm (fun b k c => fI b k (by first | trivial | omega)),
    PW_cg (iv104 hI) hm (fun b k c => fI b k (by first | trivial | omega)) (fun b k c => fL b k (by first | trivial | omega)),
    PW_cg (iv105 hI) hm (fun b k c => fI b k (by first | trivial | omega)) (fun b k c => fL b k (by first | trivial | omega)),
    PL_cg (iv106 hI) hm (fun b k c => fL b k (by first | trivial | omega)),
    PW_cg (iv107 hI) hm (fun b k c => fI b k (by first | trivial | omega)) (fun b k c => fL b k (by first | trivial | omega)),
    PW_cg (iv108 hI) hm (fun b k c => fI b k (by first | trivial | omega)) (fun b k c => fL b k (by first | trivial | omega)),
    PL_cg (iv112 hI) hm (fun b k c => fL b k (by first | trivial | omega)),
    PL_cg (iv113 hI) hm (fun b k c => fL b k (by first | trivial | omega)),
    (fun j hj => by
      by_cases e : j = i
      · rw [e, ← hH, vL_ne (by omega), vL_ne (by omega), vL_ne (by omega), vLs, vL_ne (by omega), vLs]
      · rw [fL _ _ (by omega), fL _ _ (by omega)]; exact iv115 hI j hj),
    (fun j hj => by
      by_cases e : j = i
      · rw [e, ← hH, vL_ne (by omega), vL_ne (by omega), vLs, vLs]
      · rw [fL _ _ (by omega), fL _ _ (by omega)]; exact iv116 hI j hj),
    OW_cg (ivOW hI) hm (fun b k c => fI b k (by first | trivial | omega)) (fun b k c => fL b k (by first | trivial | omega)),
    RG_cg (ivRG hI) (fun b k c => fI b k (by first | trivial | omega)) (fun b k c => fL b k (by first | trivial | omega)),
    (fun j hj => by
      obtain ⟨a1, a2, a3, a4, a5, a6, a7⟩ := RB_cg (n' := n + 1) (ivRB hI) hn0 (fun i hi => Int.le_refl _) (fun _ _ _ => rfl) j hj
      have ec := mCn_cg (h := h) (h' := H) (fun b k c => fL b k (by omega)) j
      by_cases e : j = i
      · subst e
        rw [ec, fL 109 _ (by omega), fL 110 _ (by omega), fL 111 _ (by omega), fL 112 _ (by omega), fL 113 _ (by omega), e115, e116]
        exact ⟨a1, ⟨(mCn_b (by omega) (ivNW hI) (ivRG hI) hi).1, Int.le_refl _⟩, a3, a4, hs, a6, a7⟩
      · rw [ec, fL 109 _ (by omega), fL 110 _ (by omega), fL 111 _ (by omega), fL 112 _ (by omega), fL 113 _ (by omega), fL 115 _ (by omega), fL 116 _ (by omega)]
        exact ⟨a1, a2, a3, a4, a5, a6, a7⟩),
    RZ_cg (ivRZ hI) (fun b k c => fI b k (by first | trivial | omega)) (fun b k c => fL b k (by first | trivial | omega)),
    HD_cg (ivHD hI) (ivSM hI) hn0 eC (fun b k c => fP b k (by first | trivial | omega)) (fun b k c => fI b k (by first | trivial | omega)) (fun b k c => fL b k (by first | trivial | omega)),
    HZ_cg (ivHZ hI) (fun b k c => fI b k (by first | trivial | omega)),
    LT_cg (ivLT hI) hn0 (Nat.le_refl _) hl eC (fun b k c => fP b k (by first | trivial | omega)) (fun b k c => fI b k (by first | trivial | omega)) (fun b k c => fL b k (by first | trivial | omega)),
    RS_cg (ivRS hI) hn0 (fun b k c => fI b k (by first | trivial | omega)) (fun b k c => fL b k (by first | trivial | omega)),
    EV_cg (ivEV hI) hn0 (fun b k c => fL b k (by first | trivial | omega)),
    EZ_cg (ivEZ hI) (fun b k c => fI b k (by first | trivial | omega)),
    DS_cg (ivDS hI) (fun b k c => fI b k (by first | trivial | omega)) (fun b k c => fL b k (by first | trivial | omega))⟩
theorem iv_state {n : Nat} {h : HP} {nm nl ns ne nk : Nat} {fr to : Nat → Nat} {E : Nat → Nat → Prop} (hI : IV n h nm nl ns ne nk fr to E) (l : Nat) (hl0 : l < nl) (v : Int32) (hv : 0 ≤ v.toInt ∧ v.toInt ≤ 3) (hv1 : ¬ v = 1) : IV (n + 1) (sI (sI h (5000 + l) (3) (v)) (126) (l) (v)) nm nl ns ne nk fr to E := by
  have hm := ivnm hI
  have hl : nl ≤ 200 := Nat.le_of_lt (ivSL hI).1
  have hn0 := Nat.le_succ n
  generalize hH : (sI (sI h (5000 + l) (3) (v)) (126) (l) (v)) = H
  have fI : ∀ b k, (¬ (b = 5000 + l ∧ k = 3) ∧ ¬ (b = 126 ∧ k = l)) → vI H b k = vI h b k := fun b k c => by rw [← hH, vI_ne (by omega), vI_ne (by omega)]
  have fL : ∀ b k, (True) → vL H b k = vL h b k := fun b k c => by rw [← hH, vL_sI, vL_sI]
  have fP : ∀ b k, (True) → vP H b k = vP h b k := fun b k c => by rw [← hH, vP_sI, vP_sI]
  have fZ : ∀ b, (True) → liv H b = liv h b := fun b c => by rw [← hH, liv_sI, liv_sI]
  have eC : ∀ i, i < nm → (mCn h i).toInt ≤ (mCn H i).toInt := fun i hi => Int.le_of_eq (by rw [mCn_cg (h := h) (fun b k c => fL b k (by first | trivial | omega)) i])
  exact ⟨SR_cg (ivSR hI) (fun b c => fZ b (by first | trivial | omega)) (fun b k c => fP b k (by first | trivial | omega)),
    SM_cg (ivSM hI) (fun b c => fZ b (by first | trivial | omega)) (fun b k c => fP b k (by first | trivial | omega)) (fun b k c => fI b k (by first | trivial | omega)),
    SL_cg (ivSL hI) (fun b c => fZ b (by first | trivial | omega)) (fun b k c => fP b k (by first | trivial | omega)) (fun b k c => fI b k (by first | trivial | omega)),
    SS_cg (ivSS hI) (fun b c => fZ b (by first | trivial | omega)) (fun b k c => fP b k (by first | trivial | omega)) (fun b k c => fI b k (by first | trivial | omega)),
    SO_cg (ivSO hI) (fun b c => fZ b (by first | trivial | omega)) (fun b k c => fP b k (by first | trivial | omega)) (fun b k c => fI b k (by first | trivial | omega)),
    MW_cg (ivMW hI) (fun b c => fZ b (by first | trivial | omega)) (fun b k c => fP b k (by first | trivial | omega)),
    ML_cg (ivML hI) (fun b c => fZ b (by first | trivial | omega)) (fun b k c => fP b k (by first | trivial | omega)) (fun b k c => fI b k (by first | trivial | omega)),
    CN_cg (ivCN hI) (fun b k c => fI b k (by first | trivial | omega)),
    NW_cg (ivNW hI) hn0 (fun b k c => fL b k (by first | trivial | omega)),
    ⟨by have := (ivNC hI).1; omega, by have := (ivNC hI).2.1; omega, (ivNC hI).2.2⟩,
    PI_cg (iv103 hI) hm (fun b k c => fI b k (by first | trivial | omega)),
    PI_cg (iv114 hI) hm (fun b k c => fI b k (by first | trivial | omega)),
    PI_cg (iv117 hI) hm (fun b k c => fI b k (by first | trivial | omega)),
    PI_cg (iv118 hI) hm (fun b k c => fI b k (by first | trivial | omega)),
    PW_cg (iv104 hI) hm (fun b k c => fI b k (by first | trivial | omega)) (fun b k c => fL b k (by first | trivial | omega)),
    PW_cg (iv105 hI) hm (fun b k c => fI b k (by first | trivial | omega)) (fun b k c => fL b k (by first | trivial | omega)),
    PL_cg (iv106 hI) hm (fun b k c => fL b k (by first | trivial | omega)),
    PW_cg (iv107 hI) hm (fun b k c => fI b k (by first | trivial | omega)) (fun b k c => fL b k (by first | trivial | omega)),
    PW_cg (iv108 hI) hm (fun b k c => fI b k (by first | trivial | omega)) (fun b k c => fL b k (by first | trivial | omega)),
    PL_cg (iv112 hI) hm (fun b k c => fL b k (by first | trivial | omega)),
    PL_cg (iv113 hI) hm (fun b k c => fL b k (by first | trivial | omega)),
    PL_cg (iv115 hI) hm (fun b k c => fL b k (by first | trivial | omega)),
    PL_cg (iv116 hI) hm (fun b k c => fL b k (by first | trivial | omega)),
    OW_cg (ivOW hI) hm (fun b k c => fI b k (by first | trivial | omega)) (fun b k c => fL b k (by first | trivial | omega)),
    RG_cg (ivRG hI) (fun b k c => fI b k (by first | trivial | omega)) (fun b k c => fL b k (by first | trivial | omega)),
    RB_cg (ivRB hI) hn0 eC (fun b k c => fL b k (by first | trivial | omega)),
    RZ_cg (ivRZ hI) (fun b k c => fI b k (by first | trivial | omega)) (fun b k c => fL b k (by first | trivial | omega)),
    HD_cg (ivHD hI) (ivSM hI) hn0 eC (fun b k c => fP b k (by first | trivial | omega)) (fun b k c => fI b k (by first | trivial | omega)) (fun b k c => fL b k (by first | trivial | omega)),
    HZ_cg (ivHZ hI) (fun b k c => fI b k (by first | trivial | omega)),
    (fun q hq => by
      obtain ⟨f, t, a⟩ := ivLT hI q hq
      have a := L1_cg (n' := n + 1) (h' := h) a hn0 (Nat.le_refl nm) (Int.le_refl _) (fun _ _ _ => rfl) (fun _ _ _ => rfl) (fun _ _ _ => rfl)
      refine ⟨f, t, ?_⟩
      by_cases e : q = l
      · subst e
        obtain ⟨a1, a2, a3, a4, a5, a6, a7, a8, a9⟩ := a
        have ec := mCn_cg (h := h) (h' := H) (fun b k c => fL b k trivial) f
        have e1 : vI H (5000 + q) 3 = v := by rw [← hH, vI_ne (by omega), vIs]
        have e2 : vI H 126 q = v := by rw [← hH, vIs]
        unfold L1
        rw [ec, fP _ _ trivial, fP _ _ trivial, fI 124 _ (by omega), fI 125 _ (by omega), fI 128 _ (by omega), fI _ 4 (by omega), e1, e2, fL 127 _ trivial, fL 129 _ trivial, fL 130 _ trivial, fL _ 2 trivial, fL _ 5 trivial, fL _ 6 trivial]
        refine ⟨a1, a2, a3, a4, a5, ⟨rfl, hv⟩, a7, a8, ?_⟩
        rcases a9 with z | z
        · exact Or.inl ⟨z.1, hv1⟩
        · exact Or.inr z
      · exact L1_cg a (Nat.le_refl _) (Nat.le_refl _) (eC f a.1) (fun b k c => fP b k trivial) (fun b k c => fI b k (by omega)) (fun b k c => fL b k trivial)),
    RS_cg (ivRS hI) hn0 (fun b k c => fI b k (by first | trivial | omega)) (fun b k c => fL b k (by first | trivial | omega)),
    EV_cg (ivEV hI) hn0 (fun b k c => fL b k (by first | trivial | omega)),
    EZ_cg (ivEZ hI) (fun b k c => fI b k (by first | trivial | omega)),
    DS_cg (ivDS hI) (fun b k c => fI b k (by first | trivial | omega)) (fun b k c => fL b k (by first | trivial | omega))⟩
