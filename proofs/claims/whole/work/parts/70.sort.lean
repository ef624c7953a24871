/-! mend, order, time, ring: both sides -/
theorem LoN_cyc {E : Nat → Nat → Prop} {ne : Nat} {h : HP} (hb : ∀ a b, E a b → a < ne ∧ b < ne) (hL : LoN E ne h ne) : ¬ cyc E := by
  intro ⟨c, k, h1, h2⟩
  obtain ⟨j, rfl⟩ : ∃ j, k = j + 1 := ⟨k - 1, by omega⟩
  have hc := (Pth_src hb h2).1
  rcases hL c c hc hc with ⟨_, z⟩ | ⟨m, _, z1, z2⟩
  · exact z _ h2
  · have := z2 _ (Pth_cat m (j + 1) c c c z1 h2)
    omega
theorem cei2 {x : Int64} (hx : -9223372036854775808 < x.toInt) : (cei x 2).toInt = -(-x.toInt / 2) := by
  rw [cei_i (by decide) hx]; rfl
theorem wdN_sp {X Y : Nat → Int64} {ne : Nat} (hX : ∀ b, b < ne → -4000000000000000 ≤ (X b).toInt ∧ (X b).toInt ≤ 4000000000000000) (hY : ∀ b, b < ne → -4000000000000000 ≤ (Y b).toInt ∧ (Y b).toInt ≤ 4000000000000000) : ∀ k, k ≤ ne → 0 ≤ (wdN X Y k).toInt ∧ (wdN X Y k).toInt ≤ 5000000000000000 ∧ (∀ b, b < k → -(-((X b).toInt - (Y b).toInt) / 2) ≤ (wdN X Y k).toInt) ∧ ((wdN X Y k).toInt = 0 ∨ ∃ b, b < k ∧ (wdN X Y k).toInt = -(-((X b).toInt - (Y b).toInt) / 2))
  | 0, _ => ⟨(by decide : (0 : Int) ≤ (0 : Int64).toInt), (by decide : (0 : Int64).toInt ≤ (5000000000000000 : Int)), fun _ z => absurd z (Nat.not_lt_zero _), Or.inl (by decide : (0 : Int64).toInt = 0)⟩
  | k + 1, hk => by
    obtain ⟨i1, i2, i3, i4⟩ := wdN_sp hX hY k (by omega)
    have a := hX k (by omega)
    have c := hY k (by omega)
    have e1 : (X k - Y k).toInt = (X k).toInt - (Y k).toInt := L_sub (by omega) (by omega)
    have e2 : (ceiO (X k - Y k) 2).toInt = -(-((X k).toInt - (Y k).toInt) / 2) := by rw [ceiO_eq (by decide), cei2 (by omega), e1]
    have key : (wdN X Y (k + 1)).toInt = if (ceiO (X k - Y k) 2).toInt ≤ (wdN X Y k).toInt then (wdN X Y k).toInt else (ceiO (X k - Y k) 2).toInt := by
      show (mx64 (wdN X Y k) (ceiO (X k - Y k) 2)).toInt = _
      unfold mx64
      by_cases q : ceiO (X k - Y k) 2 ≤ wdN X Y k
      · rw [if_pos q, if_pos ((i64_le _ _).mp q)]
      · rw [if_neg q, if_neg (fun z => q ((i64_le _ _).mpr z))]
    rw [key, e2]
    split
    · rename_i q
      refine ⟨i1, i2, fun b hb => ?_, ?_⟩
      · rcases Nat.lt_succ_iff_lt_or_eq.mp hb with z | z
        · exact i3 b z
        · subst z; exact q
      · rcases i4 with z | ⟨b, b1, b2⟩
        · exact Or.inl z
        · exact Or.inr ⟨b, by omega, b2⟩
    · rename_i q
      refine ⟨by omega, by omega, fun b hb => ?_, Or.inr ⟨k, by omega, rfl⟩⟩
      rcases Nat.lt_succ_iff_lt_or_eq.mp hb with z | z
      · have := i3 b z; omega
      · subst z; exact Int.le_refl _
theorem cntB_pos {P : Nat → Bool} : ∀ n, 0 < cntB P n → ∃ j, j < n ∧ P j = true
  | 0, h => absurd h (Nat.lt_irrefl 0)
  | n + 1, h => by
    have h' : 0 < cntB P n + (if P n = true then 1 else 0) := h
    split at h'
    · rename_i q; exact ⟨n, by omega, q⟩
    · obtain ⟨j, a, b⟩ := cntB_pos n h'; exact ⟨j, by omega, b⟩
theorem cnt_lt {k : Nat} : ∀ n, cntB (fun j => decide (j < k)) n = min n k
  | 0 => by show 0 = _; omega
  | n + 1 => by
    show cntB _ n + (if decide (n < k) = true then 1 else 0) = _
    rw [cnt_lt n]
    by_cases h : n < k
    · rw [if_pos (by simp [h])]; omega
    · rw [if_neg (by simp [h])]; omega
theorem lx_irr {X : Nat → Int64} {a : Nat} : ¬ lx X a a := by unfold lx; omega
theorem lx_asy {X : Nat → Int64} {a b : Nat} (h : lx X a b) : ¬ lx X b a := by unfold lx at *; omega
theorem rk_at {X : Nat → Int64} {ne k : Nat} {r : Nat → Nat} (hR : RkR X ne r) (hk : k < ne) : rkN X (r k) ne = k := by
  unfold rkN
  rw [← hR.2.2 (fun q => lxb X q (r k)), cntB_cg (Q := fun j => decide (j < k)) ne (fun j hj => ?_), cnt_lt]
  · omega
  · rw [Bool.eq_iff_iff, lxb_iff, decide_eq_true_eq]
    rcases Nat.lt_trichotomy j k with z | z | z
    · exact ⟨fun _ => z, fun _ => hR.2.1 j k z hk⟩
    · subst z; exact ⟨fun q => absurd q lx_irr, fun q => absurd q (Nat.lt_irrefl _)⟩
    · exact ⟨fun q => absurd q (lx_asy (hR.2.1 k j z hj)), fun q => by omega⟩
theorem rk_uq {X : Nat → Int64} {ne k e : Nat} {r : Nat → Nat} (hR : RkR X ne r) (hk : k < ne) (he : e < ne) (hc : rkN X e ne = k) : e = r k := by
  have h1 := hR.2.2 (fun q => decide (q = e))
  have h2 : 0 < cntB (fun q => decide (q = e)) ne := by
    rw [cntB_rm (fun q => decide (q = e)) e ne he (by simp)]; omega
  rw [← h1] at h2
  obtain ⟨j, j1, j2⟩ := cntB_pos ne h2
  have j3 : r j = e := by simpa using j2
  have := rk_at hR j1
  rw [j3, hc] at this
  rw [← j3, this]
theorem rkN_cg {X Y : Nat → Int64} {ne e : Nat} {w : Int} (he : e < ne) (h : ∀ b, b < ne → (Y b).toInt = (X b).toInt - w) : rkN Y e ne = rkN X e ne := by
  unfold rkN
  refine cntB_cg ne (fun q hq => ?_)
  rw [Bool.eq_iff_iff, lxb_iff, lxb_iff]
  unfold lx
  rw [h q hq, h e he]
  omega
section
variable {n : Nat} {h : HP} {nm nl ns ne nk : Nat} {fr to : Nat → Nat} {E : Nat → Nat → Prop}
theorem as_iv {h' : HP} (hI : IV n h nm nl ns ne nk fr to E) (hA : As h h') (h1 : vI h' 10 13 = 1) (hD : Dn E ne h') : IV n h' nm nl ns ne nk fr to E := by
  refine IV_fs hI (Nat.le_refl n) (Or.inr ⟨h1, hD⟩) (fun b _ => by rw [hA.1]) (fun b k _ => by rw [hA.2.1]) (fun b k c => ?_) (fun b k c => ?_)
  · by_cases z : b = 10
    · subst z; exact hA.2.2.2.1 k (by omega) (by omega)
    · rw [hA.2.2.1 b z (by omega) (by omega) (by omega)]
  · rw [hA.2.2.2.2 b (by omega) (by omega)]
theorem ai_iv {a : Nat} {h' : HP} (ha : a = 150 ∨ a = 152) (hI : IV n h nm nl ns ne nk fr to E) (hA : Ai a h h') : IV (n + 1) h' nm nl ns ne nk fr to E :=
  IV_fr hI (Nat.le_succ n) (fun b _ => by rw [hA.1]) (fun b k _ => by rw [hA.2.1]) (fun b k c => by rw [hA.2.2.2 b (by omega)]) (fun b k _ => by rw [hA.2.2.1])
theorem al_iv {h' : HP} (hI : IV n h nm nl ns ne nk fr to E) (hA : Al 151 h h') : IV n h' nm nl ns ne nk fr to E :=
  IV_fr hI (Nat.le_refl n) (fun b _ => by rw [hA.1]) (fun b k _ => by rw [hA.2.1]) (fun b k _ => by rw [hA.2.2.1]) (fun b k c => by rw [hA.2.2.2 b (by omega)])
theorem iv_inv (hI : IV n h nm nl ns ne nk fr to E) : Inv n h := ⟨nm, nl, ns, ne, nk, fr, to, E, hI⟩
theorem iv_hlo (hI : IV n h nm nl ns ne nk fr to E) (hn : n < 64) : ∀ b, b < ne → (vL h 11 b).toInt ≤ 2305843009213693952 := fun b hb => by
  obtain ⟨a1, _, a3, _⟩ := ivEV hI b hb
  rw [a1]
  unfold inB Bn at a3
  omega
/-- no ring: the least times, the widening -/
theorem sort_eq (hI : IV n h nm nl ns ne nk fr to E) (hn : n < 64) (hc : ¬ cyc E) (h1 : ∀ b, b < ne → (vL h 11 b).toInt ≤ (vL h 16 b).toInt) (h2 : Att E ne (tI (vL h 11)) (tI (vL h 16))) (h3 : Sat E (tI (vL h 16))) {h' : HP} {w : Int64} (hA : Ai 150 h h') (hL : LoN E ne h' ne) (hw : WM ne h' ne 0 w) : wdN (vL h 16) (vL h 12) ne = w ∧ (0 ≤ w.toInt ∧ w.toInt ≤ 5000000000000000) ∧ (∀ b, b < ne → -4000000000000000 ≤ (vL h 16 b).toInt ∧ (vL h 16 b).toInt ≤ 4000000000000000) ∧ ∀ b t, b < ne → TM ne h' w b ne t → t = (vL h 16 b).toInt - w.toInt := by
  have hb := (ivSO hI).2.2.2.2.2.2.1
  have hne := (ivSO hI).2.2.1
  have hcov : ∀ a b m, a < ne → Pth E m a b → (vL h 11 a).toInt + m ≤ (vL h 16 b).toInt := fun a b m ha hp => Sat_cov h1 h3 m a b m ha (Nat.le_refl m) hp
  have hlo : ∀ b, b < ne → -2000000000000000 ≤ (vL h 11 b).toInt ∧ (vL h 11 b).toInt ≤ 2000000000000000 := fun b hbn => by
    obtain ⟨a1, _, a3, _⟩ := ivEV hI b hbn
    rw [a1]
    unfold inB Bn at a3
    omega
  have hhi : ∀ b, b < ne → -2000000000000000 ≤ (vL h 12 b).toInt ∧ (vL h 12 b).toInt ≤ 2000000000000000 := fun b hbn => by
    obtain ⟨_, a1, _, a3⟩ := ivEV hI b hbn
    rw [a1]
    unfold inB Bn at a3
    omega
  have hX : ∀ b, b < ne → -4000000000000000 ≤ (vL h 16 b).toInt ∧ (vL h 16 b).toInt ≤ 4000000000000000 := fun b hbn => by
    obtain ⟨a, m, a1, a2, a3⟩ := h2 b hbn
    have := Pth_short hb hc a2 a1
    have q1 := hlo a a1
    have a3 : (vL h 16 b).toInt = (vL h 11 a).toInt + m := a3
    omega
  have W := wdN_sp (Y := vL h 12) hX (fun b hbn => by have := hhi b hbn; omega) ne (Nat.le_refl ne)
  have e137 : ∀ b, b < ne → vL h' 137 b = vL h 11 b := fun b hbn => by rw [hA.2.2.1]; exact ((ivEV hI b hbn).1).symm
  have e138 : ∀ b, b < ne → vL h' 138 b = vL h 12 b := fun b hbn => by rw [hA.2.2.1]; exact ((ivEV hI b hbn).2.1).symm
  have hxr : ∀ a b, a < ne → b < ne → 0 ≤ xr h' a b → ∃ m : Nat, xr h' a b = (m : Int) ∧ m < 30 ∧ Pth E m a b ∧ ∀ q, Pth E q a b → q ≤ m := fun a b ha hbn h0 => by
    rcases hL a b ha hbn with ⟨z, _⟩ | ⟨m, z1, z2, z3⟩
    · omega
    · exact ⟨m, z1, by have := Pth_short hb hc z2 ha; omega, z2, z3⟩
  have hnd : ∀ a b, a < ne → b < ne → 0 ≤ xr h' a b → nd h' a b = -(-((vL h 11 a).toInt + xr h' a b - (vL h 12 b).toInt) / 2) := fun a b ha hbn h0 => by
    obtain ⟨m, m1, m2, _⟩ := hxr a b ha hbn h0
    have q1 := hlo a ha
    have q2 := hhi b hbn
    have m1' : (vI h' 150 (30 * a + b)).toInt = (m : Int) := m1
    unfold nd
    rw [e137 a ha, e138 b hbn]
    have e1 : (vL h 11 a + Int32.toInt64 (vI h' 150 (30 * a + b))).toInt = (vL h 11 a).toInt + (m : Int) := by rw [L_add (by rw [wid]; omega) (by rw [wid]; omega), wid, m1']
    have e2 : (vL h 11 a + Int32.toInt64 (vI h' 150 (30 * a + b)) - vL h 12 b).toInt = (vL h 11 a).toInt + (m : Int) - (vL h 12 b).toInt := by rw [L_sub (by omega) (by omega), e1]
    rw [cei2 (by omega), e2, m1]
  obtain ⟨w1, w2, w3⟩ := hw
  have key : (wdN (vL h 16) (vL h 12) ne).toInt = w.toInt := by
    apply Int.le_antisymm
    · rcases W.2.2.2 with z | ⟨b, b1, b2⟩
      · omega
      · obtain ⟨a, m, a1, a2, a3⟩ := h2 b b1
        have a3 : (vL h 16 b).toInt = (vL h 11 a).toInt + m := a3
        rcases hL a b a1 b1 with ⟨_, z⟩ | ⟨q, z1, z2, z3⟩
        · exact absurd a2 (z m)
        · have z4 := z3 m a2
          have := w2 a b b1 (Or.inl a1) (by omega)
          rw [hnd a b a1 b1 (by omega)] at this
          omega
    · rcases w3 with z | ⟨a, b, a1, b1, z1, z2⟩
      · omega
      · rw [hnd a b a1 b1 z1] at z2
        obtain ⟨m, m1, _, m2, _⟩ := hxr a b a1 b1 z1
        have := hcov a b m a1 m2
        have := W.2.2.1 b b1
        omega
  refine ⟨Int64.toInt.inj key, ⟨by omega, by omega⟩, hX, fun b t hbn hT => ?_⟩
  have hwb : 0 ≤ w.toInt ∧ w.toInt ≤ 5000000000000000 := by omega
  obtain ⟨t1, t2, t3⟩ := hT
  have el : ∀ a, a < ne → (vL h' 137 a - w).toInt = (vL h 11 a).toInt - w.toInt := fun a ha => by
    rw [e137 a ha]; have := hlo a ha; exact L_sub (by omega) (by omega)
  have etv : ∀ a, a < ne → 0 ≤ xr h' a b → tv h' w a b = (vL h 11 a).toInt - w.toInt + xr h' a b := fun a ha h0 => by
    obtain ⟨m, m1, m2, _⟩ := hxr a b ha hbn h0
    have m1' : (vI h' 150 (30 * a + b)).toInt = (m : Int) := m1
    have := hlo a ha
    have := el a ha
    unfold tv
    rw [L_add (by rw [wid]; omega) (by rw [wid]; omega), wid, m1', el a ha, m1]
  apply Int.le_antisymm
  · rcases t3 with z | ⟨a, a1, a2, z⟩
    · rw [z, el b hbn]; have := h1 b hbn; omega
    · rw [z, etv a a1 a2]
      obtain ⟨m, m1, _, m2, _⟩ := hxr a b a1 hbn a2
      have := hcov a b m a1 m2
      omega
  · obtain ⟨a, m, a1, a2, a3⟩ := h2 b hbn
    have a3 : (vL h 16 b).toInt = (vL h 11 a).toInt + m := a3
    rcases hL a b a1 hbn with ⟨_, z⟩ | ⟨q, z1, z2, z3⟩
    · exact absurd a2 (z m)
    · have z4 := z3 m a2
      have := t2 a a1 (by omega)
      rw [etv a a1 (by omega)] at this
      omega
end
theorem wd_nn {X Y : Nat → Int64} : ∀ k, 0 ≤ (wdN X Y k).toInt := fun k => by
  induction k with
  | zero => exact (by decide : (0 : Int) ≤ (0 : Int64).toInt)
  | succ k ih =>
    show 0 ≤ (mx64 (wdN X Y k) _).toInt
    unfold mx64
    split
    · exact ih
    · rename_i z; rw [i64_le] at z; omega
set_option maxRecDepth 20000 in
theorem op_mend {g : GG} {n : Nat} {h : HP} {nm nl ns ne nk : Nat} {fr to : Nat → Nat} {E : Nat → Nat → Prop} (hI : IV n h nm nl ns ne nk fr to E) (hn : n < 64) : CT g mX6_mend [.ref 1] h (O2 g mX7_mend [.ref 100] n) := by
  have hb := (ivSO hI).2.2.2.2.2.2.1
  refine ct_mend ne nk fr to E (ivSO hI) (ivSR hI) (iv_hlo hI hn) (ivDS hI) (fun h' hA hs hD => ?_)
  have hI' := as_iv hI hA hs hD
  refine ⟨_, rfl, cm_mend ne E (ivML hI') (fun h2 w hA2 hL hw => ⟨?_, iv_inv (ai_iv (Or.inl rfl) hI' hA2)⟩) (fun h2 hA2 hc => ⟨?_, iv_inv (ai_iv (Or.inl rfl) hI' hA2)⟩)⟩
  · rcases hD with ⟨d0, _, d1, d2, d3, d4, _⟩ | ⟨d0, _⟩
    · rw [d4, (sort_eq hI' hn d0 d1 d2 d3 hA2 hL hw).1]
    · exact absurd d0 (LoN_cyc hb hL)
  · rcases hD with ⟨d0, _⟩ | ⟨_, d1, _⟩
    · exact absurd hc d0
    · rw [d1]
set_option maxRecDepth 20000 in
theorem op_time {g : GG} {n : Nat} {h : HP} {nm nl ns ne nk : Nat} {fr to : Nat → Nat} {E : Nat → Nat → Prop} (hI : IV n h nm nl ns ne nk fr to E) (hn : n < 64) (x : Int32) : CT g mX6_time [.ref 1, .int x] h (O2 g mX7_time [.ref 100, .int x] n) := by
  have hb := (ivSO hI).2.2.2.2.2.2.1
  have hne := (ivSO hI).2.2.1
  by_cases hx : inR x ne
  · obtain ⟨i, hi, rfl⟩ := inR_ex hx (by omega)
    refine ct_time ne nk fr to E (ivSO hI) (ivSR hI) (iv_hlo hI hn) (ivDS hI) i hi (fun h' hA hs hD hw => ?_) (fun h' hA hs hD hw => ?_)
    · have hI' := as_iv hI hA hs hD
      have hcy : cyc E := by
        rcases hD with ⟨d0, _, d1, d2, d3, d4, _⟩ | ⟨d0, _⟩
        · exfalso
          rw [d4] at hw
          have := wd_nn (X := vL h' 16) (Y := vL h' 12) ne
          omega
        · exact d0
      exact ⟨_, rfl, cm_time ne E (ivML hI') i hi (fun h1 hA1 hc => ⟨rfl, iv_inv (ai_iv (Or.inl rfl) hI' hA1)⟩) (fun h1 w h3 hA1 hL => absurd hcy (LoN_cyc hb hL))⟩
    · have hI' := as_iv hI hA hs hD
      rcases hD with ⟨d0, _, d1, d2, d3, d4, _⟩ | ⟨_, d1, _⟩
      · refine ⟨_, rfl, cm_time ne E (ivML hI') i hi (fun h1 hA1 hc => absurd hc d0) (fun h1 w h3 hA1 hL hw1 hA2 hT => ⟨?_, iv_inv (al_iv (ai_iv (Or.inl rfl) hI' hA1) hA2)⟩)⟩
        obtain ⟨s1, s2, s3, s4⟩ := sort_eq hI' hn d0 d1 d2 d3 hA1 hL hw1
        have e := s4 i _ hi (hT i hi)
        have e2 : vL h3 151 i = vL h' 16 i - vL h' 10 12 := by
          rw [d4, s1, i64_eq, e]
          have := s3 i hi
          exact (L_sub (by omega) (by omega)).symm
        rw [e2]
      · rw [d1] at hw; exact absurd hw (by decide)
  · refine ct_time0 ne nk fr to E (ivSO hI) (ivSR hI) (iv_hlo hI hn) (ivDS hI) x hx (fun h' hA hs hD => ?_)
    have hI' := as_iv hI hA hs hD
    exact ⟨_, rfl, cm_time0 ne E (ivML hI') x hx (fun h1 hA1 hc => ⟨rfl, iv_inv (ai_iv (Or.inl rfl) hI' hA1)⟩) (fun h1 w h3 hA1 hL hw1 hA2 hT => ⟨rfl, iv_inv (al_iv (ai_iv (Or.inl rfl) hI' hA1) hA2)⟩)⟩
set_option maxRecDepth 20000 in
theorem op_order {g : GG} {n : Nat} {h : HP} {nm nl ns ne nk : Nat} {fr to : Nat → Nat} {E : Nat → Nat → Prop} (hI : IV n h nm nl ns ne nk fr to E) (hn : n < 64) (x : Int32) : CT g mX6_order [.ref 1, .int x] h (O2 g mX7_order [.ref 100, .int x] n) := by
  have hb := (ivSO hI).2.2.2.2.2.2.1
  have hne := (ivSO hI).2.2.1
  by_cases hx : inR x ne
  · obtain ⟨i, hi, rfl⟩ := inR_ex hx (by omega)
    refine ct_order ne nk fr to E (ivSO hI) (ivSR hI) (iv_hlo hI hn) (ivDS hI) i hi (fun h' hA hs hD hw => ?_) (fun h' hA hs hD hw => ?_)
    · have hI' := as_iv hI hA hs hD
      have hcy : cyc E := by
        rcases hD with ⟨d0, _, d1, d2, d3, d4, _⟩ | ⟨d0, _⟩
        · exfalso
          rw [d4] at hw
          have := wd_nn (X := vL h' 16) (Y := vL h' 12) ne
          omega
        · exact d0
      exact ⟨_, rfl, cm_order ne E (ivML hI') i hi (fun h1 hA1 hc => ⟨rfl, iv_inv (ai_iv (Or.inl rfl) hI' hA1)⟩) (fun h1 w h3 hA1 hL => absurd hcy (LoN_cyc hb hL)) (fun h1 w h3 hA1 hL => absurd hcy (LoN_cyc hb hL))⟩
    · have hI' := as_iv hI hA hs hD
      rcases hD with ⟨d0, _, d1, d2, d3, d4, r, dr, dR⟩ | ⟨_, d1, _⟩
      · have fin : ∀ h1 w h3, Ai 150 h' h1 → LoN E ne h1 ne → WM ne h1 ne 0 w → (∀ b, b < ne → TM ne h1 w b ne (vL h3 151 b).toInt) → ∀ e, e < ne → rkN (vL h3 151) e ne = rkN (vL h' 16) e ne := fun h1 w h3 hA1 hL hw1 hT e he => by
          obtain ⟨s1, s2, s3, s4⟩ := sort_eq hI' hn d0 d1 d2 d3 hA1 hL hw1
          exact rkN_cg he (fun b hbn => s4 b _ hbn (hT b hbn))
        refine ⟨_, rfl, cm_order ne E (ivML hI') i hi (fun h1 hA1 hc => absurd hc d0) (fun h1 w h3 hA1 hL hw1 hA2 hT e he hk => ⟨?_, iv_inv (al_iv (ai_iv (Or.inl rfl) hI' hA1) hA2)⟩) (fun h1 w h3 hA1 hL hw1 hA2 hT hno => ?_)⟩
        · rw [fin h1 w h3 hA1 hL hw1 hT e he] at hk
          rw [dR i hi, rk_uq dr hi he hk]
        · exfalso
          have hr := dr.1 i hi
          exact hno (r i) hr (by rw [fin h1 w h3 hA1 hL hw1 hT (r i) hr]; exact rk_at dr hi)
      · rw [d1] at hw; exact absurd hw (by decide)
  · refine ct_order0 ne nk fr to E (ivSO hI) (ivSR hI) (iv_hlo hI hn) (ivDS hI) x hx (fun h' hA hs hD => ?_)
    have hI' := as_iv hI hA hs hD
    exact ⟨_, rfl, cm_order0 ne E (ivML hI') x hx (fun h1 hA1 hc => ⟨rfl, iv_inv (ai_iv (Or.inl rfl) hI' hA1)⟩) (fun h1 w h3 hA1 hL hw1 hA2 hT => ⟨rfl, iv_inv (al_iv (ai_iv (Or.inl rfl) hI' hA1) hA2)⟩)⟩
set_option maxRecDepth 20000 in
theorem op_ring {g : GG} {n : Nat} {h : HP} {nm nl ns ne nk : Nat} {fr to : Nat → Nat} {E : Nat → Nat → Prop} (hI : IV n h nm nl ns ne nk fr to E) (hn : n < 64) (x : Int32) : CT g mX6_ring [.ref 1, .int x] h (O2 g mX7_ring [.ref 100, .int x] n) := by
  have hne := (ivSO hI).2.2.1
  have hir := (ivNC hI).2.2
  refine ct_ring ne nk fr to E (ivSO hI) (ivSR hI) (iv_hlo hI hn) (ivDS hI) x (fun h' hA hs hD hz => ?_) (fun h' hA hs hD hz h0 h1 => ?_) (fun h' hA hs hD i hx hz h1 => ?_)
  · have hI' := as_iv hI hA hs hD
    refine ⟨_, rfl, cm_ring0 ne E (ivML hI') x ?_ (fun h2 hA2 => ⟨rfl, iv_inv (ai_iv (Or.inr rfl) hI' hA2)⟩)⟩
    rcases hD with ⟨d0, _⟩ | ⟨_, _, f, L, l1, l2, _, l3, _⟩
    · exact Or.inl (fun e m hq => d0 ⟨e, m, hq.1, hq.2⟩)
    · rcases hz with z | z
      · rw [l3, nIt (by omega)] at z; omega
      · exact Or.inr z
  · have hI' := as_iv hI hA hs hD
    rcases hD with ⟨_, d1, _⟩ | ⟨_, _, f, L, l1, l2, l4, l3, _⟩
    · rw [d1] at hz; exact absurd rfl hz
    · rw [l3, nIt (by omega)] at h1
      exact ⟨_, rfl, cm_ring1 ne E (ivML hI') hir f L l1 l4 x h1 (fun h2 hA2 => ⟨rfl, iv_inv (ai_iv (Or.inr rfl) hI' hA2)⟩)⟩
  · have hI' := as_iv hI hA hs hD
    subst hx
    rcases hD with ⟨_, d1, _⟩ | ⟨_, _, f, L, l1, l2, l4, l3, l5⟩
    · rw [d1] at hz; exact absurd rfl hz
    · rw [l3, nIt (by omega)] at h1
      obtain ⟨v, v1, v2⟩ := l5 i (by omega)
      refine ⟨_, rfl, cm_ring ne E (ivML hI') hir f L l1 l2 l4 i (by omega) (fun h2 hA2 u hu => ⟨?_, iv_inv (ai_iv (Or.inr rfl) hI' hA2)⟩)⟩
      rw [v1, Wk_uq i u v hu v2]
