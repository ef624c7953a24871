/-! the calls: those that read alone, and those that change rows for work alone -/
theorem IV_fr {n' : Nat} {h' : HP} {n : Nat} {h : HP} {nm nl ns ne nk : Nat} {fr to : Nat → Nat} {E : Nat → Nat → Prop} (hI : IV n h nm nl ns ne nk fr to E) (hn0 : n ≤ n') (fZ : ∀ b, True → liv h' b = liv h b) (fP : ∀ b k, True → vP h' b k = vP h b k) (fI : ∀ b k, ¬ (b = 5 ∨ b = 6 ∨ b = 19 ∨ (b = 100 ∧ (k = 40 ∨ k = 45)) ∨ b = 142 ∨ b = 150 ∨ b = 152) → vI h' b k = vI h b k) (fL : ∀ b k, ¬ (b = 7 ∨ b = 8 ∨ (b = 100 ∧ 46 ≤ k ∧ k ≤ 48) ∨ (143 ≤ b ∧ b ≤ 145) ∨ b = 151) → vL h' b k = vL h b k) : IV n' h' nm nl ns ne nk fr to E := by
  have hm := ivnm hI
  have hl : nl ≤ 200 := Nat.le_of_lt (ivSL hI).1
  have eC : ∀ i, i < nm → (mCn h i).toInt ≤ (mCn h' i).toInt := fun i hi => Int.le_of_eq (by rw [mCn_cg (h := h) (fun b k c => fL b k (by first | trivial | omega)) i])
  exact ⟨SR_cg (ivSR hI) (fun b c => fZ b (by first | trivial | omega)) (fun b k c => fP b k (by first | trivial | omega)),
    SM_cg (ivSM hI) (fun b c => fZ b (by first | trivial | omega)) (fun b k c => fP b k (by first | trivial | omega)) (fun b k c => fI b k (by first | trivial | omega)),
    SL_cg (ivSL hI) (fun b c => fZ b (by first | trivial | omega)) (fun b k c => fP b k (by first | trivial | omega)) (fun b k c => fI b k (by first | trivial | omega)),
    SS_cg (ivSS hI) (fun b c => fZ b (by first | trivial | omega)) (fun b k c => fP b k (by first | trivial | omega)) (fun b k c => fI b k (by first | trivial | omega)),
    SO_cg (ivSO hI) (fun b c => fZ b (by first | trivial | omega)) (fun b k c => fP b k (by first | trivial | omega)) (fun b k c => fI b k (by first | trivial | omega)),
    MW_cg (ivMW hI) (fun b c => fZ b (by first | trivial | omega)) (fun b k c => fP b k (by first | trivial | omega)),
    ML_cg (ivML hI) (fun b c => fZ b (by first | trivial | omega)) (fun b k c => fP b k (by first | trivial | omega)) (fun b k c => fI b k (by first | trivial | omega)),
    CN_cg (ivCN hI) (fun b k c => fI b k (by first | trivial | omega)),
    NW_cg (ivNW hI) hn0 (fun b k c => fL b k (by first | trivial | omega)),
    ⟨by have := (ivNC hI).1; omega, by have := (ivNC hI).2.1; omega, (ivNC hI).2.2⟩,
    PI_cg (iv103 hI) hm (fun b k c => fI b k (by first | trivial | omega)),
    PI_cg (iv114 hI) hm (fun b k c => fI b k (by first | trivial | omega)),
    PI_cg (iv117 hI) hm (fun b k c => fI b k (by first | trivial | omega)),
    PI_cg (iv118 hI) hm (fun b k c => fI b k (by first | trivial | omega)),
    PW_cg (iv104 hI) hm (fun b k c => fI b k (by first | trivial | omega)) (fun b k c => fL b k (by first | trivial | omega)),
    PW_cg (iv105 hI) hm (fun b k c => fI b k (by first | trivial | omega)) (fun b k c => fL b k (by first | trivial | omega)),
    PL_cg (iv106 hI) hm (fun b k c => fL b k (by first | trivial | omega)),
    PW_cg (iv107 hI) hm (fun b k c => fI b k (by first | trivial | omega)) (fun b k c => fL b k (by first | trivial | omega)),
    PW_cg (iv108 hI) hm (fun b k c => fI b k (by first | trivial | omega)) (fun b k c => fL b k (by first | trivial | omega)),
    PL_cg (iv112 hI) hm (fun b k c => fL b k (by first | trivial | omega)),
    PL_cg (iv113 hI) hm (fun b k c => fL b k (by first | trivial | omega)),
    PL_cg (iv115 hI) hm (fun b k c => fL b k (by first | trivial | omega)),
    PL_cg (iv116 hI) hm (fun b k c => fL b k (by first | trivial | omega)),
    OW_cg (ivOW hI) hm (fun b k c => fI b k (by first | trivial | omega)) (fun b k c => fL b k (by first | trivial | omega)),
    RG_cg (ivRG hI) (fun b k c => fI b k (by first | trivial | omega)) (fun b k c => fL b k (by first | trivial | omega)),
    RB_cg (ivRB hI) hn0 eC (fun b k c => fL b k (by first | trivial | omega)),
    RZ_cg (ivRZ hI) (fun b k c => fI b k (by first | trivial | omega)) (fun b k c => fL b k (by first | trivial | omega)),
    HD_cg (ivHD hI) (ivSM hI) hn0 eC (fun b k c => fP b k (by first | trivial | omega)) (fun b k c => fI b k (by first | trivial | omega)) (fun b k c => fL b k (by first | trivial | omega)),
    HZ_cg (ivHZ hI) (fun b k c => fI b k (by first | trivial | omega)),
    LT_cg (ivLT hI) hn0 (Nat.le_refl _) hl eC (fun b k c => fP b k (by first | trivial | omega)) (fun b k c => fI b k (by first | trivial | omega)) (fun b k c => fL b k (by first | trivial | omega)),
    RS_cg (ivRS hI) hn0 (fun b k c => fI b k (by first | trivial | omega)) (fun b k c => fL b k (by first | trivial | omega)),
    EV_cg (ivEV hI) hn0 (fun b k c => fL b k (by first | trivial | omega)),
    EZ_cg (ivEZ hI) (fun b k c => fI b k (by first | trivial | omega)),
    DS_cg (ivDS hI) (fun b k c => fI b k (by first | trivial | omega)) (fun b k c => fL b k (by first | trivial | omega))⟩
theorem IV_fs {n' : Nat} {h' : HP} {n : Nat} {h : HP} {nm nl ns ne nk : Nat} {fr to : Nat → Nat} {E : Nat → Nat → Prop} (hI : IV n h nm nl ns ne nk fr to E) (hn0 : n ≤ n') (hDS : DS h' ne E) (fZ : ∀ b, True → liv h' b = liv h b) (fP : ∀ b k, True → vP h' b k = vP h b k) (fI : ∀ b k, ¬ (b = 5 ∨ b = 6 ∨ b = 19 ∨ (b = 100 ∧ (k = 40 ∨ k = 45)) ∨ b = 142 ∨ b = 150 ∨ b = 152 ∨ b = 17 ∨ b = 18 ∨ (b = 10 ∧ (k = 11 ∨ k = 13))) → vI h' b k = vI h b k) (fL : ∀ b k, ¬ (b = 7 ∨ b = 8 ∨ (b = 100 ∧ 46 ≤ k ∧ k ≤ 48) ∨ (143 ≤ b ∧ b ≤ 145) ∨ b = 151 ∨ b = 16 ∨ b = 10) → vL h' b k = vL h b k) : IV n' h' nm nl ns ne nk fr to E := by
  have hm := ivnm hI
  have hl : nl ≤ 200 := Nat.le_of_lt (ivSL hI).1
  have eC : ∀ i, i < nm → (mCn h i).toInt ≤ (mCn h' i).toInt := fun i hi => Int.le_of_eq (by rw [mCn_cg (h := h) (fun b k c => fL b k (by first | trivial | omega)) i])
  exact ⟨SR_cg (ivSR hI) (fun b c => fZ b (by first | trivial | omega)) (fun b k c => fP b k (by first | trivial | omega)),
    SM_cg (ivSM hI) (fun b c => fZ b (by first | trivial | omega)) (fun b k c => fP b k (by first | trivial | omega)) (fun b k c => fI b k (by first | trivial | omega)),
    SL_cg (ivSL hI) (fun b c => fZ b (by first | trivial | omega)) (fun b k c => fP b k (by first | trivial | omega)) (fun b k c => fI b k (by first | trivial | omega)),
    SS_cg (ivSS hI) (fun b c => fZ b (by first | trivial | omega)) (fun b k c => fP b k (by first | trivial | omega)) (fun b k c => fI b k (by first | trivial | omega)),
    SO_cg (ivSO hI) (fun b c => fZ b (by first | trivial | omega)) (fun b k c => fP b k (by first | trivial | omega)) (fun b k c => fI b k (by first | trivial | omega)),
    MW_cg (ivMW hI) (fun b c => fZ b (by first | trivial | omega)) (fun b k c => fP b k (by first | trivial | omega)),
    ML_cg (ivML hI) (fun b c => fZ b (by first | trivial | omega)) (fun b k c => fP b k (by first | trivial | omega)) (fun b k c => fI b k (by first | trivial | omega)),
    CN_cg (ivCN hI) (fun b k c => fI b k (by first | trivial | omega)),
    NW_cg (ivNW hI) hn0 (fun b k c => fL b k (by first | trivial | omega)),
    ⟨by have := (ivNC hI).1; omega, by have := (ivNC hI).2.1; omega, (ivNC hI).2.2⟩,
    PI_cg (iv103 hI) hm (fun b k c => fI b k (by first | trivial | omega)),
    PI_cg (iv114 hI) hm (fun b k c => fI b k (by first | trivial | omega)),
    PI_cg (iv117 hI) hm (fun b k c => fI b k (by first | trivial | omega)),
    PI_cg (iv118 hI) hm (fun b k c => fI b k (by first | trivial | omega)),
    PW_cg (iv104 hI) hm (fun b k c => fI b k (by first | trivial | omega)) (fun b k c => fL b k (by first | trivial | omega)),
    PW_cg (iv105 hI) hm (fun b k c => fI b k (by first | trivial | omega)) (fun b k c => fL b k (by first | trivial | omega)),
    PL_cg (iv106 hI) hm (fun b k c => fL b k (by first | trivial | omega)),
    PW_cg (iv107 hI) hm (fun b k c => fI b k (by first | trivial | omega)) (fun b k c => fL b k (by first | trivial | omega)),
    PW_cg (iv108 hI) hm (fun b k c => fI b k (by first | trivial | omega)) (fun b k c => fL b k (by first | trivial | omega)),
    PL_cg (iv112 hI) hm (fun b k c => fL b k (by first | trivial | omega)),
    PL_cg (iv113 hI) hm (fun b k c => fL b k (by first | trivial | omega)),
    PL_cg (iv115 hI) hm (fun b k c => fL b k (by first | trivial | omega)),
    PL_cg (iv116 hI) hm (fun b k c => fL b k (by first | trivial | omega)),
    OW_cg (ivOW hI) hm (fun b k c => fI b k (by first | trivial | omega)) (fun b k c => fL b k (by first | trivial | omega)),
    RG_cg (ivRG hI) (fun b k c => fI b k (by first | trivial | omega)) (fun b k c => fL b k (by first | trivial | omega)),
    RB_cg (ivRB hI) hn0 eC (fun b k c => fL b k (by first | trivial | omega)),
    RZ_cg (ivRZ hI) (fun b k c => fI b k (by first | trivial | omega)) (fun b k c => fL b k (by first | trivial | omega)),
    HD_cg (ivHD hI) (ivSM hI) hn0 eC (fun b k c => fP b k (by first | trivial | omega)) (fun b k c => fI b k (by first | trivial | omega)) (fun b k c => fL b k (by first | trivial | omega)),
    HZ_cg (ivHZ hI) (fun b k c => fI b k (by first | trivial | omega)),
    LT_cg (ivLT hI) hn0 (Nat.le_refl _) hl eC (fun b k c => fP b k (by first | trivial | omega)) (fun b k c => fI b k (by first | trivial | omega)) (fun b k c => fL b k (by first | trivial | omega)),
    RS_cg (ivRS hI) hn0 (fun b k c => fI b k (by first | trivial | omega)) (fun b k c => fL b k (by first | trivial | omega)),
    EV_cg (ivEV hI) hn0 (fun b k c => fL b k (by first | trivial | omega)),
    EZ_cg (ivEZ hI) (fun b k c => fI b k (by first | trivial | omega)),
    hDS⟩
theorem inv_up {n : Nat} {h : HP} {nm nl ns ne nk : Nat} {fr to : Nat → Nat} {E : Nat → Nat → Prop} (hI : IV n h nm nl ns ne nk fr to E) : Inv (n + 1) h := ⟨nm, nl, ns, ne, nk, fr, to, E, IV_fr hI (Nat.le_succ n) (fun _ _ => rfl) (fun _ _ _ => rfl) (fun _ _ _ => rfl) (fun _ _ _ => rfl)⟩
def O2 (g : GG) (M : MD) (av : List Value) (n : Nat) (v : Option Value) (h1 : HP) : Prop := ∃ r, v = some (.long r) ∧ CT g M av h1 (fun v2 h2 => v2 = some (.long r) ∧ Inv (n + 1) h2)
theorem O2_of {g : GG} {M : MD} {av : List Value} {n : Nat} {r r' : Int64} {h1 : HP} (e : r = r') (hc : CT g M av h1 (fun v2 h2 => v2 = some (.long r') ∧ Inv (n + 1) h2)) : O2 g M av n (some (.long r)) h1 := ⟨r', by rw [e], hc⟩
theorem o_rf {g : GG} {M : MD} {n : Nat} {r : Int64} {h2 : HP} (hI : Inv (n + 1) h2) : (some (Value.long r)) = some (.long r) ∧ Inv (n + 1) h2 := ⟨rfl, hI⟩
theorem inR_ex {x : Int32} {k : Nat} (hx : inR x k) (hk : k ≤ 1000) : ∃ i, i < k ∧ x = nI i := ofm hx.1 hx.2 (by omega)
set_option maxRecDepth 20000 in
theorem op_counter {g : GG} {n : Nat} {h : HP} {nm nl ns ne nk : Nat} {fr to : Nat → Nat} {E : Nat → Nat → Prop} (hI : IV n h nm nl ns ne nk fr to E) (hn : n < 64) (x : Int32) : CT g mX6_counter [.ref 1, .int x] h (O2 g mX7_counter [.ref 100, .int x] n) := by
  have hm := ivnm hI
  by_cases hx : inR x nm
  · obtain ⟨i, hi, rfl⟩ := inR_ex hx (by omega)
    exact ct_counter nm i (ivSR hI) (ivSM hI) hi (O2_of (cCn_eq hI hi) (cm_counter nm (ivMW hI) (ivCN hI).1 (ivnm hI) i hi (DV_of (ivRG hI) hi) ⟨rfl, inv_up hI⟩))
  · exact ct_counter0 nm x (ivSR hI) (ivSM hI) hx (O2_of rfl (cm_counter0 nm (ivMW hI) (ivCN hI).1 hm x hx ⟨rfl, inv_up hI⟩))
set_option maxRecDepth 20000 in
theorem op_of {g : GG} {n : Nat} {h : HP} {nm nl ns ne nk : Nat} {fr to : Nat → Nat} {E : Nat → Nat → Prop} (hI : IV n h nm nl ns ne nk fr to E) (hn : n < 64) (x wh : Int32) : CT g mX6_of [.ref 1, .int x, .int wh] h (O2 g mX7_of [.ref 100, .int x, .int wh] n) := by
  have hm := ivnm hI
  by_cases hx : inR x nm
  · obtain ⟨i, hi, rfl⟩ := inR_ex hx (by omega)
    by_cases hw : inR wh 9
    · obtain ⟨q, hq, rfl⟩ := inR_ex hw (by omega)
      match q, hq with
      | 0, _ =>
        exact ct_of_0 nm i (ivSR hI) (ivSM hI) hi (O2_of (cLo_eq hI hi) (cm_of_0 nm (ivMW hI) (ivCN hI).1 (ivnm hI) i hi (DV_of (ivRG hI) hi) ⟨rfl, inv_up hI⟩))
      | 1, _ =>
        exact ct_of_1 nm i (ivSR hI) (ivSM hI) hi (O2_of (cHi_eq hI hi) (cm_of_1 nm (ivMW hI) (ivCN hI).1 (ivnm hI) i hi (DV_of (ivRG hI) hi) ⟨rfl, inv_up hI⟩))
      | 2, _ =>
        exact ct_of_2 nm i (ivSR hI) (ivSM hI) hi (O2_of (by rw [iv103 hI i hi]) (cm_of_2 nm (ivMW hI) (ivCN hI).1 (ivnm hI) i hi (DV_of (ivRG hI) hi) ⟨rfl, inv_up hI⟩))
      | 3, _ =>
        exact ct_of_3 nm i (ivSR hI) (ivSM hI) hi (O2_of (by rw [iv114 hI i hi]) (cm_of_3 nm (ivMW hI) (ivCN hI).1 (ivnm hI) i hi (DV_of (ivRG hI) hi) ⟨rfl, inv_up hI⟩))
      | 4, _ =>
        exact ct_of_4 nm i (ivSR hI) (ivSM hI) hi (O2_of (iv115 hI i hi) (cm_of_4 nm (ivMW hI) (ivCN hI).1 (ivnm hI) i hi (DV_of (ivRG hI) hi) ⟨rfl, inv_up hI⟩))
      | 5, _ =>
        exact ct_of_5 nm i (ivSR hI) (ivSM hI) hi (fun z => O2_of rfl (cm_of_5 nm (ivMW hI) (ivCN hI).1 (ivnm hI) i hi (DV_of (ivRG hI) hi) (fun _ => ⟨rfl, inv_up hI⟩) (fun w => absurd ((cHo_eq hI hi).mp z) w))) (fun z => O2_of rfl (cm_of_5 nm (ivMW hI) (ivCN hI).1 (ivnm hI) i hi (DV_of (ivRG hI) hi) (fun w => absurd ((cHo_eq hI hi).mpr w) z) (fun _ => ⟨rfl, inv_up hI⟩)))
      | 6, _ =>
        exact ct_of_6 nm i (ivSR hI) (ivSM hI) hi (O2_of (by rw [iv117 hI i hi]) (cm_of_6 nm (ivMW hI) (ivCN hI).1 (ivnm hI) i hi (DV_of (ivRG hI) hi) ⟨rfl, inv_up hI⟩))
      | 7, _ =>
        exact ct_of_7 nm i (ivSR hI) (ivSM hI) hi (O2_of (by rw [iv118 hI i hi]) (cm_of_7 nm (ivMW hI) (ivCN hI).1 (ivnm hI) i hi (DV_of (ivRG hI) hi) ⟨rfl, inv_up hI⟩))
      | 8, _ =>
        exact ct_of_8 nm i (ivSR hI) (ivSM hI) hi (O2_of (by rw [cntH_eq hI hi 10 (by omega), hmN_hi hI hi 10 hm (by omega)]) (cm_of_8 nm (ivMW hI) (ivCN hI).1 (ivnm hI) i hi (DV_of (ivRG hI) hi) ⟨rfl, inv_up hI⟩))
      | q + 9, hq => exact absurd hq (by omega)
    · have hw : wh.toInt < 0 ∨ 8 < wh.toInt := by unfold inR at hw; omega
      exact ct_of_x nm i (ivSR hI) (ivSM hI) hi wh hw (O2_of rfl (cm_of_x nm (ivMW hI) (ivCN hI).1 (ivnm hI) i hi (DV_of (ivRG hI) hi) wh hw ⟨rfl, inv_up hI⟩))
  · exact ct_of0 wh nm x (ivSR hI) (ivSM hI) hx (O2_of rfl (cm_of0 wh nm (ivMW hI) (ivCN hI).1 hm x hx ⟨rfl, inv_up hI⟩))
set_option maxRecDepth 20000 in
theorem op_letter {g : GG} {n : Nat} {h : HP} {nm nl ns ne nk : Nat} {fr to : Nat → Nat} {E : Nat → Nat → Prop} (hI : IV n h nm nl ns ne nk fr to E) (hn : n < 64) (x wh : Int32) : CT g mX6_letter [.ref 1, .int x, .int wh] h (O2 g mX7_letter [.ref 100, .int x, .int wh] n) := by
  have hl := (ivSL hI).1
  by_cases hx : inR x nl
  · obtain ⟨l, hl0, rfl⟩ := inR_ex hx (by omega)
    obtain ⟨f, t, a⟩ := ivLT hI l hl0
    by_cases hw : inR wh 5
    · obtain ⟨q, hq, rfl⟩ := inR_ex hw (by omega)
      match q, hq with
      | 0, _ =>
        exact ct_letter_0 nm nl l (ivSR hI) (ivSL hI) hl0 f t a.2.2.2.1.1 a.2.2.2.1.2 (ivSM hI) a.1 a.2.1 (O2_of (by rw [a.2.2.2.2.1.1]) (cm_letter_0 nl (ivMW hI) (ivCN hI).2.1 (ivSL hI).1 l hl0 ⟨rfl, inv_up hI⟩))
      | 1, _ =>
        exact ct_letter_1 nm nl l (ivSR hI) (ivSL hI) hl0 f t a.2.2.2.1.1 a.2.2.2.1.2 (ivSM hI) a.1 a.2.1 (O2_of (by rw [a.2.2.2.2.1.2]) (cm_letter_1 nl (ivMW hI) (ivCN hI).2.1 (ivSL hI).1 l hl0 ⟨rfl, inv_up hI⟩))
      | 2, _ =>
        exact ct_letter_2 nm nl l (ivSR hI) (ivSL hI) hl0 f t a.2.2.2.1.1 a.2.2.2.1.2 (ivSM hI) a.1 a.2.1 (O2_of (by rw [a.2.2.2.2.2.1.1]) (cm_letter_2 nl (ivMW hI) (ivCN hI).2.1 (ivSL hI).1 l hl0 ⟨rfl, inv_up hI⟩))
      | 3, _ =>
        refine ct_letter_3 nm nl l (ivSR hI) (ivSL hI) hl0 (fun z => O2_of rfl (cm_letter_3 nl (ivMW hI) (ivCN hI).2.1 (ivSL hI).1 l hl0 (fun _ => ⟨rfl, inv_up hI⟩) (fun w => absurd (by rw [← a.2.2.2.2.2.2.2.1]; exact z) w))) (fun z => ?_)
        have z2 : ¬ vI h 128 l = 0 := by rw [← a.2.2.2.2.2.2.2.1]; exact z
        have b := a.2.2.2.2.2.2.2.2.resolve_left (fun w => z2 w.1)
        exact O2_of b.2.1.1 (cm_letter_3 nl (ivMW hI) (ivCN hI).2.1 (ivSL hI).1 l hl0 (fun w => absurd w z2) (fun _ => ⟨rfl, inv_up hI⟩))
      | 4, _ =>
        refine ct_letter_4 nm nl l (ivSR hI) (ivSL hI) hl0 (fun z => O2_of rfl (cm_letter_4 nl (ivMW hI) (ivCN hI).2.1 (ivSL hI).1 l hl0 (fun _ => ⟨rfl, inv_up hI⟩) (fun w => absurd (by rw [← a.2.2.2.2.2.2.2.1]; exact z) w))) (fun z => ?_)
        have z2 : ¬ vI h 128 l = 0 := by rw [← a.2.2.2.2.2.2.2.1]; exact z
        have b := a.2.2.2.2.2.2.2.2.resolve_left (fun w => z2 w.1)
        exact O2_of b.2.1.2 (cm_letter_4 nl (ivMW hI) (ivCN hI).2.1 (ivSL hI).1 l hl0 (fun w => absurd w z2) (fun _ => ⟨rfl, inv_up hI⟩))
      | q + 5, hq => exact absurd hq (by omega)
    · have hw : wh.toInt < 0 ∨ 4 < wh.toInt := by unfold inR at hw; omega
      exact ct_letter_x nm nl l (ivSR hI) (ivSL hI) hl0 wh hw (O2_of rfl (cm_letter_x nl (ivMW hI) (ivCN hI).2.1 (ivSL hI).1 l hl0 wh hw ⟨rfl, inv_up hI⟩))
  · exact ct_letter0 wh nm nl x (ivSR hI) (ivSL hI) hx (O2_of rfl (cm_letter0 wh nl (ivMW hI) (ivCN hI).2.1 (ivSL hI).1 x hx ⟨rfl, inv_up hI⟩))
set_option maxRecDepth 20000 in
theorem op_heard {g : GG} {n : Nat} {h : HP} {nm nl ns ne nk : Nat} {fr to : Nat → Nat} {E : Nat → Nat → Prop} (hI : IV n h nm nl ns ne nk fr to E) (hn : n < 64) (x y wh : Int32) : CT g mX6_heard [.ref 1, .int x, .int y, .int wh] h (O2 g mX7_heard [.ref 100, .int x, .int y, .int wh] n) := by
  have hm := ivnm hI
  by_cases hx : inR x nm
  · obtain ⟨i, hi, rfl⟩ := inR_ex hx (by omega)
    by_cases hy : inR y nm
    · obtain ⟨j, hj, rfl⟩ := inR_ex hy (by omega)
      by_cases w0 : wh.toInt = 0
      · obtain rfl : wh = 0 := Int32.toInt.inj w0
        rcases ivHD hI i j hi (by omega) with ⟨a, b⟩ | a
        · exact ct_heard_0 nm i (ivSR hI) (ivSM hI) hi j hj (fun _ => O2_of rfl (cm_heard_0 nm (ivMW hI) (ivCN hI).1 (ivnm hI) i hi (DV_of (ivRG hI) hi) j hj (fun _ => ⟨rfl, inv_up hI⟩) (fun w => absurd a w))) (fun c z => absurd z (by rw [b]; simp))
        · have b := a.2.2.1
          have e := a.2.2.2.1
          have b0 : ¬ vI h 119 (10 * i + j) = 0 := by rw [b]; decide
          exact ct_heard_0 nm i (ivSR hI) (ivSM hI) hi j hj (fun z => absurd z (by rw [e]; simp)) (fun c z => by
            obtain rfl : 4000 + (10 * i + j) = c := Option.some.inj (e.symm.trans z)
            exact O2_of (hLo_eq hI hi a).1 (cm_heard_0 nm (ivMW hI) (ivCN hI).1 (ivnm hI) i hi (DV_of (ivRG hI) hi) j hj (fun w => absurd w b0) (fun _ => ⟨rfl, inv_up hI⟩)))
      · by_cases w1 : wh.toInt = 1
        · obtain rfl : wh = 1 := Int32.toInt.inj w1
          rcases ivHD hI i j hi (by omega) with ⟨a, b⟩ | a
          · exact ct_heard_1 nm i (ivSR hI) (ivSM hI) hi j hj (fun _ => O2_of rfl (cm_heard_1 nm (ivMW hI) (ivCN hI).1 (ivnm hI) i hi (DV_of (ivRG hI) hi) j hj (fun _ => ⟨rfl, inv_up hI⟩) (fun w => absurd a w))) (fun c z => absurd z (by rw [b]; simp))
          · have b := a.2.2.1
            have e := a.2.2.2.1
            have b0 : ¬ vI h 119 (10 * i + j) = 0 := by rw [b]; decide
            exact ct_heard_1 nm i (ivSR hI) (ivSM hI) hi j hj (fun z => absurd z (by rw [e]; simp)) (fun c z => by
              obtain rfl : 4000 + (10 * i + j) = c := Option.some.inj (e.symm.trans z)
              exact O2_of (hLo_eq hI hi a).2 (cm_heard_1 nm (ivMW hI) (ivCN hI).1 (ivnm hI) i hi (DV_of (ivRG hI) hi) j hj (fun w => absurd w b0) (fun _ => ⟨rfl, inv_up hI⟩)))
        · exact ct_heard_x nm i (ivSR hI) (ivSM hI) hi j hj wh ⟨w0, w1⟩ (O2_of rfl (cm_heard_x nm (ivMW hI) (ivCN hI).1 (ivnm hI) i hi (DV_of (ivRG hI) hi) j hj wh ⟨w0, w1⟩ ⟨rfl, inv_up hI⟩))
    · exact ct_heard1 nm i (ivSR hI) (ivSM hI) hi y wh hy (O2_of rfl (cm_heard1 y wh nm (ivMW hI) (ivCN hI).1 (ivnm hI) i hi hy ⟨rfl, inv_up hI⟩))
  · by_cases hy : inR y nm
    · obtain ⟨j, hj, rfl⟩ := inR_ex hy (by omega)
      exact ct_heard0b nm x wh (ivSR hI) (ivSM hI) hx j hj (O2_of rfl (cm_heard0 _ wh nm (ivMW hI) (ivCN hI).1 (ivnm hI) x hx ⟨rfl, inv_up hI⟩))
    · exact ct_heard0a nm x y wh (ivSR hI) (ivSM hI) hx hy (O2_of rfl (cm_heard0 y wh nm (ivMW hI) (ivCN hI).1 (ivnm hI) x hx ⟨rfl, inv_up hI⟩))
set_option maxRecDepth 20000 in
theorem op_given {g : GG} {n : Nat} {h : HP} {nm nl ns ne nk : Nat} {fr to : Nat → Nat} {E : Nat → Nat → Prop} (hI : IV n h nm nl ns ne nk fr to E) (hn : n < 64) (x wh : Int32) : CT g mX6_given [.ref 1, .int x, .int wh] h (O2 g mX7_given [.ref 100, .int x, .int wh] n) := by
  have hs := (ivSS hI).1
  by_cases hx : inR x ns
  · obtain ⟨q0, hq0, rfl⟩ := inR_ex hx (by omega)
    have a := ivRS hI q0 hq0
    by_cases hw : inR wh 4
    · obtain ⟨q, hq, rfl⟩ := inR_ex hw (by omega)
      match q, hq with
      | 0, _ =>
        exact ct_given_0 ns q0 (ivSR hI) (ivSS hI) hq0 (O2_of a.1 (cm_given_0 ns (ivMW hI) (ivCN hI).2.2.1 (ivSS hI).1 q0 hq0 ⟨rfl, inv_up hI⟩))
      | 1, _ =>
        exact ct_given_1 ns q0 (ivSR hI) (ivSS hI) hq0 (O2_of a.2.1 (cm_given_1 ns (ivMW hI) (ivCN hI).2.2.1 (ivSS hI).1 q0 hq0 ⟨rfl, inv_up hI⟩))
      | 2, _ =>
        exact ct_given_2 ns q0 (ivSR hI) (ivSS hI) hq0 (O2_of (by rw [a.2.2.1]) (cm_given_2 ns (ivMW hI) (ivCN hI).2.2.1 (ivSS hI).1 q0 hq0 ⟨rfl, inv_up hI⟩))
      | 3, _ =>
        exact ct_given_3 ns q0 (ivSR hI) (ivSS hI) hq0 (O2_of (by rw [a.2.2.2.1]) (cm_given_3 ns (ivMW hI) (ivCN hI).2.2.1 (ivSS hI).1 q0 hq0 ⟨rfl, inv_up hI⟩))
      | q + 4, hq => exact absurd hq (by omega)
    · have hw : wh.toInt < 0 ∨ 3 < wh.toInt := by unfold inR at hw; omega
      exact ct_given_x ns q0 (ivSR hI) (ivSS hI) hq0 wh hw (O2_of rfl (cm_given_x ns (ivMW hI) (ivCN hI).2.2.1 (ivSS hI).1 q0 hq0 wh hw ⟨rfl, inv_up hI⟩))
  · exact ct_given0 wh ns x (ivSR hI) (ivSS hI) hx (O2_of rfl (cm_given0 wh ns (ivMW hI) (ivCN hI).2.2.1 (ivSS hI).1 x hx ⟨rfl, inv_up hI⟩))
set_option maxRecDepth 20000 in
theorem op_ahead {g : GG} {n : Nat} {h : HP} {nm nl ns ne nk : Nat} {fr to : Nat → Nat} {E : Nat → Nat → Prop} (hI : IV n h nm nl ns ne nk fr to E) (hn : n < 64) (x y : Int32) : CT g mX6_ahead [.ref 1, .int x, .int y] h (O2 g mX7_ahead [.ref 100, .int x, .int y] n) := by
  have hs := (ivSS hI).1
  by_cases hx : inR x ns
  · obtain ⟨a, ha, rfl⟩ := inR_ex hx (by omega)
    by_cases hy : inR y ns
    · obtain ⟨b, hb, rfl⟩ := inR_ex hy (by omega)
      have p := ivRS hI a ha
      have q := ivRS hI b hb
      exact ct_ahead ns a b (ivSR hI) (ivSS hI) ha hb (O2_of (by unfold ahS ahM; rw [p.1, p.2.1, q.1, q.2.1]) (cm_ahead ns (ivMW hI) (ivCN hI).2.2.1 (ivSS hI).1 a b ha hb ⟨rfl, inv_up hI⟩))
    · exact ct_ahead2 ns (ivSR hI) (ivSS hI) a y ha hy (O2_of rfl (cm_ahead1 y ns (ivMW hI) (ivCN hI).2.2.1 (ivSS hI).1 a ha hy ⟨rfl, inv_up hI⟩))
  · by_cases hy : inR y ns
    · obtain ⟨b, hb, rfl⟩ := inR_ex hy (by omega)
      exact ct_ahead1 ns (ivSR hI) (ivSS hI) x b hx hb (O2_of rfl (cm_ahead0 _ ns (ivMW hI) (ivCN hI).2.2.1 (ivSS hI).1 x hx ⟨rfl, inv_up hI⟩))
    · exact ct_ahead0 ns (ivSR hI) (ivSS hI) x y hx hy (O2_of rfl (cm_ahead0 y ns (ivMW hI) (ivCN hI).2.2.1 (ivSS hI).1 x hx ⟨rfl, inv_up hI⟩))
theorem cu_eq {n : Nat} {h : HP} {nm nl ns ne nk : Nat} {fr to : Nat → Nat} {E : Nat → Nat → Prop} (hI : IV n h nm nl ns ne nk fr to E) : ∀ k, k ≤ nl → cuN h k = cuM h k
  | 0, _ => rfl
  | k + 1, hk => by
    have ih := cu_eq hI k (by omega)
    obtain ⟨f, t, a⟩ := ivLT hI k (by omega)
    have e := a.2.2.2.2.2.1
    have q : uw h (5000 + k) ↔ (vI h 126 k).toInt < 2 := by
      unfold uw
      rw [e.1, i32_eq, i32_eq]
      show (_ = (0 : Int) ∨ _ = (1 : Int)) ↔ _
      omega
    show cuN h k + (@ite Nat (uw h (5000 + k)) (Classical.propDecidable _) 1 0) = cuM h k + (if (vI h 126 k).toInt < 2 then 1 else 0)
    rw [ih]
    by_cases z : uw h (5000 + k)
    · rw [if_pos z, if_pos (q.mp z)]
    · rw [if_neg z, if_neg (fun w => z (q.mpr w))]
set_option maxRecDepth 20000 in
theorem op_count {g : GG} {n : Nat} {h : HP} {nm nl ns ne nk : Nat} {fr to : Nat → Nat} {E : Nat → Nat → Prop} (hI : IV n h nm nl ns ne nk fr to E) (hn : n < 64) (wh : Int32) : CT g mX6_count [.ref 1, .int wh] h (O2 g mX7_count [.ref 100, .int wh] n) := by
  by_cases hw : inR wh 7
  · obtain ⟨q, hq, rfl⟩ := inR_ex hw (by omega)
    match q, hq with
    | 0, _ =>
      exact ct_count_0 (ivSR hI) (O2_of (by rw [(ivSM hI).2.1, (ivCN hI).1]) (cm_count_0 (ivMW hI) ⟨rfl, inv_up hI⟩))
    | 1, _ =>
      exact ct_count_1 (ivSR hI) (O2_of (by rw [(ivSL hI).2.1, (ivCN hI).2.1]) (cm_count_1 (ivMW hI) ⟨rfl, inv_up hI⟩))
    | 2, _ =>
      exact ct_count_2 nm nl (ivSR hI) (ivSL hI) (O2_of (by rw [cu_eq hI nl (Nat.le_refl _)]) (cm_count_2 nl (ivMW hI) (ivCN hI).2.1 (ivSL hI).1 ⟨rfl, inv_up hI⟩))
    | 3, _ =>
      exact ct_count_3 (ivSR hI) (O2_of (by rw [(ivSS hI).2.1, (ivCN hI).2.2.1]) (cm_count_3 (ivMW hI) ⟨rfl, inv_up hI⟩))
    | 4, _ =>
      exact ct_count_4 (ivSR hI) (O2_of (by rw [(ivSO hI).2.1, (ivML hI).2.1]) (cm_count_4 (ivMW hI) ⟨rfl, inv_up hI⟩))
    | 5, _ =>
      exact ct_count_5 (ivSR hI) (O2_of (by rw [(ivSO hI).2.2.2.1, (ivCN hI).2.2.2]) (cm_count_5 (ivMW hI) ⟨rfl, inv_up hI⟩))
    | 6, _ =>
      exact ct_count_6 (ivSR hI) (O2_of (ivNW hI).1 (cm_count_6 (ivMW hI) ⟨rfl, inv_up hI⟩))
    | q + 7, hq => exact absurd hq (by omega)
  · have hw : wh.toInt < 0 ∨ 6 < wh.toInt := by unfold inR at hw; omega
    exact ct_count_x wh (ivSR hI) hw (O2_of rfl (cm_count_x wh (ivMW hI) hw ⟨rfl, inv_up hI⟩))
