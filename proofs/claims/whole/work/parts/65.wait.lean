/-! wait -/
section
variable {n : Nat} {h : HP} {nm nl ns ne nk : Nat} {fr to : Nat → Nat} {E : Nat → Nat → Prop}
theorem mxS_b (hI : IV n h nm nl ns ne nk fr to E) : ∀ k, k < ns → inB n (mxS h k)
  | 0, hk => (ivRS hI 0 hk).2.2.2.2.2
  | k + 1, hk => by
    unfold mxS
    split
    · exact (ivRS hI (k + 1) hk).2.2.2.2.2
    · exact mxS_b hI k (by omega)
theorem ltS_eq (hI : IV n h nm nl ns ne nk fr to E) (hn : n ≤ 64) : ∀ k, k < ns → ltS h (k + 1) = mxS h k
  | 0, hk => by
    have a := ivRS hI 0 hk
    have b := a.2.2.2.2.2
    show mx64 NOv (vL h (6000 + 0) 1) = vL h 133 0
    rw [a.2.1]
    unfold mx64
    rw [if_neg]
    rw [i64_le]
    show ¬ (vL h 133 0).toInt ≤ -9000000000000000000
    unfold inB Bn at b
    omega
  | k + 1, hk => by
    have ih := ltS_eq hI hn k (by omega)
    have a := ivRS hI (k + 1) hk
    show mx64 (ltS h (k + 1)) (vL h (6000 + (k + 1)) 1) = (if mxS h k < vL h 133 (k + 1) then vL h 133 (k + 1) else mxS h k)
    rw [ih, a.2.1]
    unfold mx64
    by_cases q : vL h 133 (k + 1) ≤ mxS h k
    · rw [if_pos q, if_neg (by rw [i64_lt]; rw [i64_le] at q; omega)]
    · rw [if_neg q, if_pos (by rw [i64_lt]; rw [i64_le] at q; omega)]
theorem wait_int {low M g p : Int} (h0 : 0 ≤ p) : (M + 1 ≤ low + ((g - 1) * 1000 / (1000 + p) + 1) ↔ ¬ g < 1 + -(-((M + 1 - low - 1) * (1000 + p)) / 1000)) ∧ (M + 1 - low) + -(-((M + 1 - low - 1) * p) / 1000) = 1 + -(-((M + 1 - low - 1) * (1000 + p)) / 1000) := by
  have e : (M + 1 - low - 1) * (1000 + p) = (M + 1 - low - 1) * 1000 + (M + 1 - low - 1) * p := Int.mul_add _ _ _
  constructor
  · have q : (M + 1 - low - 1) ≤ (g - 1) * 1000 / (1000 + p) ↔ (M + 1 - low - 1) * (1000 + p) ≤ (g - 1) * 1000 := Int.le_ediv_iff_mul_le (by omega)
    generalize (M + 1 - low - 1) * (1000 + p) = x at *
    generalize (g - 1) * 1000 / (1000 + p) = y at *
    omega
  · rw [e]
    generalize (M + 1 - low - 1) * p = y
    omega
theorem wait_eq (hI : IV n h nm nl ns ne nk fr to E) (hn : n ≤ 64) {i : Nat} (hi : i < nm) (hk : ¬ vI h 103 i = 3) (hs : ¬ ns = 0) : waS h (1000 + i) (2000 + i) ns (vL h 1 0) = waM h i ns := by
  obtain ⟨k, rfl⟩ : ∃ k, ns = k + 1 := ⟨ns - 1, by omega⟩
  unfold waS waM waD waN
  rw [cLo_eq hI hi, cCn_eq hI hi, ltS_eq hI hn k (by omega), show k + 1 - 1 = k by omega]
  obtain ⟨o1, _, o3⟩ := (ivOW hI i hi).resolve_left hk
  have p := w1k hI hi
  have pe := iv104 hI i hi
  have hR := ivRG hI
  obtain ⟨b1, _, b3, _⟩ := ivRB hI i hi
  have hp := (hR i hi).2.1
  have hc := mCn_b hn (ivNW hI) hR hi
  have hM := mxS_b hI k (by omega)
  rw [o1, o3]
  unfold cFo
  rw [ceiO_eq (by decide), pe]
  unfold mLo
  rw [if_neg hk]
  have eg := gone_i b1.1 b1.2
  unfold inB Bn at b3 hM
  have e1 : (mxS h k + 1).toInt = (mxS h k).toInt + 1 := L_add1 (by omega)
  have e2 : (mxS h k + 1 - vL h 109 i).toInt = (mxS h k).toInt + 1 - (vL h 109 i).toInt := by rw [L_sub (by omega) (by omega), e1]
  have e3 : (mxS h k + 1 - vL h 109 i - 1).toInt = (mxS h k).toInt + 1 - (vL h 109 i).toInt - 1 := by rw [L_sub1 (by omega), e2]
  have eA := mAL_i hR hi (d := mCn h i - vL h 111 i) (by omega) (by omega)
  have bA := mAL_b hR hi (d := mCn h i - vL h 111 i) (by omega) (by omega)
  have e4 : (vL h 109 i + mAL h i (mCn h i - vL h 111 i)).toInt = (vL h 109 i).toInt + (mAL h i (mCn h i - vL h 111 i)).toInt := L_add (by omega) (by omega)
  have ep := w_addi hp.1 hp.2
  have bd : ∀ q : Int, 0 ≤ q → q ≤ 1200 → -4000000000000000000 ≤ ((mxS h k).toInt + 1 - (vL h 109 i).toInt - 1) * q ∧ ((mxS h k).toInt + 1 - (vL h 109 i).toInt - 1) * q ≤ 4000000000000000000 := by
    intro q q0 q1
    have k1 : ((mxS h k).toInt + 1 - (vL h 109 i).toInt - 1) ≤ 3000000000000000 := by omega
    have k2 : -3000000000000000 ≤ ((mxS h k).toInt + 1 - (vL h 109 i).toInt - 1) := by omega
    have m1 := Int.mul_le_mul_of_nonneg_right k1 q0
    have m2 := Int.mul_le_mul_of_nonneg_right k2 q0
    omega
  have e5 : ((mxS h k + 1 - vL h 109 i - 1) * (1000 + vL h 104 i)).toInt = ((mxS h k).toInt + 1 - (vL h 109 i).toInt - 1) * (1000 + (vL h 104 i).toInt) := by
    have := bd (1000 + (vL h 104 i).toInt) (by omega) (by omega)
    rw [L_mul (by rw [e3, ep]; omega) (by rw [e3, ep]; omega), e3, ep]
  have e6 : ((mxS h k + 1 - vL h 109 i - 1) * vL h 104 i).toInt = ((mxS h k).toInt + 1 - (vL h 109 i).toInt - 1) * (vL h 104 i).toInt := by
    have := bd (vL h 104 i).toInt (by omega) (by omega)
    rw [L_mul (by rw [e3]; omega) (by rw [e3]; omega), e3]
  have W := wait_int (low := (vL h 109 i).toInt) (M := (mxS h k).toInt) (g := (mCn h i - vL h 111 i).toInt) (p := (vL h 104 i).toInt) hp.1
  have b5 := bd (1000 + (vL h 104 i).toInt) (by omega) (by omega)
  have b6 := bd (vL h 104 i).toInt (by omega) (by omega)
  have c5 : (cei ((mxS h k + 1 - vL h 109 i - 1) * (1000 + vL h 104 i)) 1000).toInt = -(-(((mxS h k).toInt + 1 - (vL h 109 i).toInt - 1) * (1000 + (vL h 104 i).toInt)) / 1000) := by
    rw [cei_i (by decide) (by rw [e5]; omega), e5]; rfl
  have c6 : (cei ((mxS h k + 1 - vL h 109 i - 1) * vL h 104 i) 1000).toInt = -(-(((mxS h k).toInt + 1 - (vL h 109 i).toInt - 1) * (vL h 104 i).toInt) / 1000) := by
    rw [cei_i (by decide) (by rw [e6]; omega), e6]; rfl
  generalize cei ((mxS h k + 1 - vL h 109 i - 1) * (1000 + vL h 104 i)) 1000 = X at *
  generalize cei ((mxS h k + 1 - vL h 109 i - 1) * vL h 104 i) 1000 = Y at *
  have d1 : (1 + X).toInt = 1 + X.toInt := L_add (by show _ ≤ 1 + _; omega) (by show 1 + _ < _; omega)
  have d2 : mxS h k + 1 - vL h 109 i + Y = 1 + X := by
    rw [i64_eq, d1, L_add (by omega) (by omega), e2]
    have := W.2
    omega
  have d3 : (mxS h k + 1 ≤ vL h 109 i + mAL h i (mCn h i - vL h 111 i)) ↔ ¬ (mCn h i - vL h 111 i < 1 + X) := by
    rw [i64_le, i64_lt, e1, e4, d1, eA]
    have := W.1
    omega
  rw [d2]
  by_cases q : mCn h i - vL h 111 i < 1 + X
  · rw [if_neg (fun z => d3.mp z q), if_pos q]
  · rw [if_pos (d3.mpr q), if_neg q]
end
set_option maxRecDepth 20000 in
theorem op_wait {g : GG} {n : Nat} {h : HP} {nm nl ns ne nk : Nat} {fr to : Nat → Nat} {E : Nat → Nat → Prop} (hI : IV n h nm nl ns ne nk fr to E) (hn : n < 64) (x : Int32) : CT g mX6_wait [.ref 1, .int x] h (O2 g mX7_wait [.ref 100, .int x] n) := by
  have hm := ivnm hI
  by_cases hx : inR x nm
  · obtain ⟨i, hi, rfl⟩ := inR_ex hx (by omega)
    have e := iv103 hI i hi
    refine ct_wait nm i (ivSR hI) (ivSM hI) hi ns (ivSS hI) (fun z => ?_) (fun z z0 => ?_) (fun z z0 => ?_)
    · rw [e] at z
      exact O2_of rfl (cm_wait nm (ivMW hI) (ivCN hI).1 hm i hi (DV_of (ivRG hI) hi) ns (ivCN hI).2.2.1 (ivSS hI).1 (fun _ => ⟨rfl, inv_up hI⟩) (fun w => absurd z w) (fun w => absurd z w))
    · rw [e] at z
      exact O2_of rfl (cm_wait nm (ivMW hI) (ivCN hI).1 hm i hi (DV_of (ivRG hI) hi) ns (ivCN hI).2.2.1 (ivSS hI).1 (fun w => absurd w z) (fun _ _ => ⟨rfl, inv_up hI⟩) (fun _ w => absurd z0 w))
    · rw [e] at z
      exact O2_of (wait_eq hI (by omega) hi z z0) (cm_wait nm (ivMW hI) (ivCN hI).1 hm i hi (DV_of (ivRG hI) hi) ns (ivCN hI).2.2.1 (ivSS hI).1 (fun w => absurd w z) (fun _ w => absurd w z0) (fun _ _ => ⟨rfl, inv_up hI⟩))
  · exact ct_wait0 nm x (ivSR hI) (ivSM hI) hx (O2_of rfl (cm_wait0 nm (ivMW hI) (ivCN hI).1 hm x hx ⟨rfl, inv_up hI⟩))
