/-! what the class and the model compute from related cells -/
theorem mCn_i {n : Nat} {h : HP} {nm i : Nat} (hn : n ≤ 64) (hW : NW n h) (hR : RG h nm) (hi : i < nm) : (mCn h i).toInt = ((vL h 100 0).toInt - (vL h 106 i).toInt) * (vL h 107 i).toInt / (vL h 108 i).toInt := by
  obtain ⟨_, _, _, hu, hd, hb, _⟩ := hR i hi
  obtain ⟨_, w0, w1⟩ := hW
  unfold mCn
  have e1 : (vL h 100 0 - vL h 106 i).toInt = (vL h 100 0).toInt - (vL h 106 i).toInt := L_sub (by omega) (by omega)
  have m0 : 0 ≤ ((vL h 100 0).toInt - (vL h 106 i).toInt) * (vL h 107 i).toInt := Int.mul_nonneg (by omega) (by omega)
  have m1 : ((vL h 100 0).toInt - (vL h 106 i).toInt) * (vL h 107 i).toInt ≤ 64000000 * 100000 := Int.mul_le_mul (by omega) (by omega) (by omega) (by omega)
  rw [flo_i hd.1, L_mul (by rw [e1]; omega) (by rw [e1]; omega), e1]
theorem mCn_b {n : Nat} {h : HP} {nm i : Nat} (hn : n ≤ 64) (hW : NW n h) (hR : RG h nm) (hi : i < nm) : 0 ≤ (mCn h i).toInt ∧ (mCn h i).toInt ≤ 6400000000000 := by
  rw [mCn_i hn hW hR hi]
  obtain ⟨_, _, _, hu, hd, hb, _⟩ := hR i hi
  obtain ⟨_, w0, w1⟩ := hW
  have m0 : 0 ≤ ((vL h 100 0).toInt - (vL h 106 i).toInt) * (vL h 107 i).toInt := Int.mul_nonneg (by omega) (by omega)
  have m1 : ((vL h 100 0).toInt - (vL h 106 i).toInt) * (vL h 107 i).toInt ≤ 64000000 * 100000 := Int.mul_le_mul (by omega) (by omega) (by omega) (by omega)
  refine ⟨Int.ediv_nonneg m0 (by omega), ?_⟩
  exact Int.le_trans (Int.ediv_le_self _ m0) (by omega)
theorem DV_of {h : HP} {nm i : Nat} (hR : RG h nm) (hi : i < nm) : DV h i := by
  obtain ⟨_, hp, _, _, hd, _⟩ := hR i hi
  refine ⟨fun e => ?_, fun e => ?_, fun e => ?_⟩
  · rw [e] at hd; exact absurd hd.1 (by decide)
  · have := w_addi hp.1 hp.2; rw [e] at this; have : (0 : Int) = 1000 + (vL h 104 i).toInt := this; omega
  · have := w_subi hp.1 hp.2; rw [e] at this; have : (0 : Int) = 1000 - (vL h 104 i).toInt := this; omega
/-- at least, as an integer -/
theorem mAL_i {h : HP} {nm i : Nat} (hR : RG h nm) (hi : i < nm) {d : Int64} (h0 : -1000000000000000 ≤ d.toInt) (h1 : d.toInt ≤ 1000000000000000) : (mAL h i d).toInt = (d.toInt - 1) * 1000 / (1000 + (vL h 104 i).toInt) + 1 := by
  obtain ⟨_, hp, _⟩ := hR i hi
  unfold mAL
  have e1 : (d - 1).toInt = d.toInt - 1 := L_sub1 (by omega)
  have e2 : ((d - 1) * 1000).toInt = (d.toInt - 1) * 1000 := by
    rw [L_mul (by rw [e1]; show _ ≤ _ * (1000 : Int); omega) (by rw [e1]; show _ * (1000 : Int) < _; omega), e1]; rfl
  have e3 : (flo ((d - 1) * 1000) (1000 + vL h 104 i)).toInt = (d.toInt - 1) * 1000 / (1000 + (vL h 104 i).toInt) := by
    rw [flo_i (by rw [w_addi hp.1 hp.2]; omega), w_addi hp.1 hp.2, e2]
  rw [L_add1 ?_, e3]
  rw [e3]
  have : (d.toInt - 1) * 1000 / (1000 + (vL h 104 i).toInt) ≤ 1000000000000000 * 1000 := by
    apply Int.le_trans (Int.ediv_le_ediv (by omega) (show (d.toInt - 1) * 1000 ≤ 1000000000000000 * 1000 by omega))
    exact Int.ediv_le_self _ (by omega)
  omega
theorem mAM_i {h : HP} {nm i : Nat} (hR : RG h nm) (hi : i < nm) {d : Int64} (h0 : -1000000000000000 ≤ d.toInt) (h1 : d.toInt ≤ 1000000000000000) : (mAM h i d).toInt = -(-((d.toInt + 1) * 1000) / (1000 - (vL h 104 i).toInt)) - 1 := by
  obtain ⟨_, hp, _⟩ := hR i hi
  unfold mAM
  have e1 : (d + 1).toInt = d.toInt + 1 := L_add1 (by omega)
  have e2 : ((d + 1) * 1000).toInt = (d.toInt + 1) * 1000 := by
    rw [L_mul (by rw [e1]; show _ ≤ _ * (1000 : Int); omega) (by rw [e1]; show _ * (1000 : Int) < _; omega), e1]; rfl
  have e3 : (cei ((d + 1) * 1000) (1000 - vL h 104 i)).toInt = -(-((d.toInt + 1) * 1000) / (1000 - (vL h 104 i).toInt)) := by
    rw [cei_i (by rw [w_subi hp.1 hp.2]; omega) (by rw [e2]; omega), w_subi hp.1 hp.2, e2]
  rw [L_sub1 ?_, e3]
  rw [e3]
  have : -((d.toInt + 1) * 1000) / (1000 - (vL h 104 i).toInt) ≤ 2000000000000000 * 1000 := by
    apply Int.le_trans (Int.ediv_le_ediv (by omega) (show -((d.toInt + 1) * 1000) ≤ 2000000000000000 * 1000 by omega))
    exact Int.ediv_le_self _ (by omega)
  omega
theorem mAL_b {h : HP} {nm i : Nat} (hR : RG h nm) (hi : i < nm) {d : Int64} (h0 : 0 ≤ d.toInt) (h1 : d.toInt ≤ 6400000000000) : 0 ≤ (mAL h i d).toInt ∧ (mAL h i d).toInt ≤ 6400000000001 := by
  rw [mAL_i hR hi (by omega) (by omega)]
  obtain ⟨_, hp, _⟩ := hR i hi
  constructor
  · have : -1 ≤ (d.toInt - 1) * 1000 / (1000 + (vL h 104 i).toInt) := by
      rw [Int.le_ediv_iff_mul_le (by omega)]; omega
    omega
  · have : (d.toInt - 1) * 1000 / (1000 + (vL h 104 i).toInt) < 6400000000001 := by
      rw [Int.ediv_lt_iff_lt_mul (by omega)]; omega
    omega
theorem mAM_b {h : HP} {nm i : Nat} (hR : RG h nm) (hi : i < nm) {d : Int64} (h0 : 0 ≤ d.toInt) (h1 : d.toInt ≤ 6400000000000) : 0 ≤ (mAM h i d).toInt ∧ (mAM h i d).toInt ≤ 8000000000010 := by
  rw [mAM_i hR hi (by omega) (by omega)]
  obtain ⟨_, hp, _⟩ := hR i hi
  constructor
  · have : -((d.toInt + 1) * 1000) / (1000 - (vL h 104 i).toInt) < 0 := by
      rw [Int.ediv_lt_iff_lt_mul (by omega)]; omega
    omega
  · have : -8000000000010 ≤ -((d.toInt + 1) * 1000) / (1000 - (vL h 104 i).toInt) := by
      rw [Int.le_ediv_iff_mul_le (by omega)]; omega
    omega
/-- a count since then -/
theorem gone_i {c s : Int64} (h0 : 0 ≤ s.toInt) (h1 : s.toInt ≤ c.toInt) : (c - s).toInt = c.toInt - s.toInt := L_sub (by have := Lb c; omega) (by have := Lb c; omega)
theorem inB_add {n : Nat} {x y : Int64} (hn : n ≤ 64) (hx : inB n x) (h0 : -17592186044416 ≤ y.toInt) (h1 : y.toInt ≤ 17592186044416) : inB (n + 1) (x + y) ∧ (x + y).toInt = x.toInt + y.toInt := by
  unfold inB Bn at *
  have e : (x + y).toInt = x.toInt + y.toInt := L_add (by omega) (by omega)
  rw [e]
  exact ⟨⟨by omega, by omega⟩, rfl⟩
theorem mLo_b {n : Nat} {h : HP} {nm i : Nat} (hn : n ≤ 64) (hW : NW n h) (hR : RG h nm) (hB : RB n h nm) (hi : i < nm) : inB (n + 1) (mLo h i) := by
  unfold mLo
  obtain ⟨_, _, hq, _⟩ := hR i hi
  obtain ⟨b1, _, b3, _⟩ := hB i hi
  have hc := mCn_b hn hW hR hi
  split
  · obtain ⟨_, w0, w1⟩ := hW
    unfold inB Bn
    rw [L_sub (by omega) (by omega)]
    omega
  · have e := gone_i b1.1 b1.2
    have := mAL_b hR hi (d := mCn h i - vL h 111 i) (by omega) (by omega)
    exact (inB_add hn b3 (by omega) (by omega)).1
theorem mHi_b {n : Nat} {h : HP} {nm i : Nat} (hn : n ≤ 64) (hW : NW n h) (hR : RG h nm) (hB : RB n h nm) (hi : i < nm) : inB (n + 1) (mHi h i) := by
  unfold mHi
  obtain ⟨_, _, hq, _⟩ := hR i hi
  obtain ⟨b1, _, _, b3, _⟩ := hB i hi
  have hc := mCn_b hn hW hR hi
  split
  · obtain ⟨_, w0, w1⟩ := hW
    unfold inB Bn
    rw [L_add (by omega) (by omega)]
    omega
  · have e := gone_i b1.1 b1.2
    have := mAM_b hR hi (d := mCn h i - vL h 111 i) (by omega) (by omega)
    exact (inB_add hn b3 (by omega) (by omega)).1
theorem mHL_b {n : Nat} {h : HP} {nm i j : Nat} (hn : n ≤ 64) (hW : NW n h) (hR : RG h nm) (hi : i < nm) (hH : HH n h nm i j) : inB (n + 1) (mHL h i (10 * i + j)) ∧ inB (n + 1) (mHH h i (10 * i + j)) := by
  unfold mHL mHH
  obtain ⟨_, _, _, _, _, b1, b2, b3⟩ := hH
  have hc := mCn_b hn hW hR hi
  have e := gone_i b1.1 b1.2
  have h1 := mAL_b hR hi (d := mCn h i - vL h 122 (10 * i + j)) (by omega) (by omega)
  have h2 := mAM_b hR hi (d := mCn h i - vL h 122 (10 * i + j)) (by omega) (by omega)
  exact ⟨(inB_add hn b2 (by omega) (by omega)).1, (inB_add hn b3 (by omega) (by omega)).1⟩
section
variable {n : Nat} {h : HP} {nm nl ns ne nk : Nat} {fr to : Nat → Nat} {E : Nat → Nat → Prop}
theorem w1k {n : Nat} (hI : IV n h nm nl ns ne nk fr to E) {i : Nat} (hi : i < nm) : 0 ≤ (vI h (1000 + i) 2).toInt ∧ (vI h (1000 + i) 2).toInt ≤ 200 := by
  have e := iv104 hI i hi
  have := (ivRG hI i hi).2.1
  rw [← e, wid] at this
  exact this
theorem cCn_eq (hI : IV n h nm nl ns ne nk fr to E) {i : Nat} (hi : i < nm) : cCn h (1000 + i) (vL h 1 0) = mCn h i := by
  unfold cCn mCn
  have := (ivRG hI i hi).2.2.2.2.1
  rw [iv106 hI i hi, iv107 hI i hi, iv108 hI i hi, (ivNW hI).1]
  exact floO_eq this.1
theorem sLo_eq (hI : IV n h nm nl ns ne nk fr to E) {i : Nat} (hi : i < nm) (c : Int64) (o : Nat) : sLo h o c (vI h (1000 + i) 2) = vL h o 1 + mAL h i (c - vL h o 3) := by
  unfold sLo mAL
  have := w1k hI hi
  rw [aLe_eq this.1 this.2, iv104 hI i hi]
theorem sHi_eq (hI : IV n h nm nl ns ne nk fr to E) {i : Nat} (hi : i < nm) (c : Int64) (o : Nat) : sHi h o c (vI h (1000 + i) 2) = vL h o 2 + mAM h i (c - vL h o 3) := by
  unfold sHi mAM
  have := w1k hI hi
  rw [aMo_eq this.1 this.2, iv104 hI i hi]
theorem cLo_eq (hI : IV n h nm nl ns ne nk fr to E) {i : Nat} (hi : i < nm) : cLo h (1000 + i) (2000 + i) (vL h 1 0) = mLo h i := by
  unfold cLo mLo
  rw [iv103 hI i hi, iv105 hI i hi, (ivNW hI).1, ← (ivNW hI).1, cCn_eq hI hi, sLo_eq hI hi]
  by_cases q : vI h 103 i = 3
  · rw [if_pos q, if_pos q]
  · rw [if_neg q, if_neg q]
    obtain ⟨a, b, c⟩ := (ivOW hI i hi).resolve_left q
    rw [a, c]
theorem cHi_eq (hI : IV n h nm nl ns ne nk fr to E) {i : Nat} (hi : i < nm) : cHi h (1000 + i) (2000 + i) (vL h 1 0) = mHi h i := by
  unfold cHi mHi
  rw [iv103 hI i hi, iv105 hI i hi, (ivNW hI).1, ← (ivNW hI).1, cCn_eq hI hi, sHi_eq hI hi]
  by_cases q : vI h 103 i = 3
  · rw [if_pos q, if_pos q]
  · rw [if_neg q, if_neg q]
    obtain ⟨a, b, c⟩ := (ivOW hI i hi).resolve_left q
    rw [b, c]
theorem cHo_eq (hI : IV n h nm nl ns ne nk fr to E) {i : Nat} (hi : i < nm) : cHo h (1000 + i) (2000 + i) (vL h 1 0) ↔ mHo h i := by
  unfold cHo mHo
  rw [cLo_eq hI hi, cHi_eq hI hi, (ivNW hI).1, i64_le, i64_le]
theorem hLo_eq (hI : IV n h nm nl ns ne nk fr to E) {i j : Nat} (hi : i < nm) (hH : HH n h nm i j) : sLo h (4000 + (10 * i + j)) (cCn h (1000 + i) (vL h 1 0)) (vI h (1000 + i) 2) = mHL h i (10 * i + j) ∧ sHi h (4000 + (10 * i + j)) (cCn h (1000 + i) (vL h 1 0)) (vI h (1000 + i) 2) = mHH h i (10 * i + j) := by
  unfold mHL mHH
  obtain ⟨_, _, _, _, ⟨a, b, c⟩, _⟩ := hH
  rw [sLo_eq hI hi, sHi_eq hI hi, cCn_eq hI hi, a, b, c]
  exact ⟨rfl, rfl⟩
theorem hself (hI : IV n h nm nl ns ne nk fr to E) {i : Nat} (hi : i < nm) : hsp h (3000 + i) i = none := by
  have := (ivSM hI).1
  rcases ivHD hI i i hi (by omega) with z | z
  · exact z.2
  · exact absurd rfl z.2.1
theorem ivnm (hI : IV n h nm nl ns ne nk fr to E) : nm ≤ 10 := (ivSM hI).1
theorem cntH_eq (hI : IV n h nm nl ns ne nk fr to E) {i : Nat} (hi : i < nm) : ∀ k, k ≤ 10 → cntH h (3000 + i) k = hmN h i k
  | 0, _ => rfl
  | k + 1, hk => by
    have ih := cntH_eq hI hi k (by omega)
    unfold cntH hmN
    rw [ih]
    rcases ivHD hI i k hi (by omega) with ⟨a, b⟩ | ⟨_, _, a, b, _⟩
    · simp [a, b]
    · simp [a, b]
theorem hmN_hi (hI : IV n h nm nl ns ne nk fr to E) {i : Nat} (hi : i < nm) : ∀ k, nm ≤ k → k ≤ 10 → hmN h i k = hmN h i nm
  | 0, h0, _ => by omega
  | k + 1, h0, hk => by
    rcases Nat.lt_or_ge k nm with z | z
    · rw [show k + 1 = nm by omega]
    · have ih := hmN_hi hI hi k z (by omega)
      rcases ivHD hI i k hi (by omega) with ⟨a, b⟩ | ⟨q, _⟩
      · have := hmN_0 (h := h) (m := i) (n := k) a
        omega
      · omega
end
