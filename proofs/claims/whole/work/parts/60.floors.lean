/-! arithmetic: the two floors are one, and what they are as integers -/
theorem Lb (x : Int64) : -9223372036854775808 ≤ x.toInt ∧ x.toInt < 9223372036854775808 := ⟨Int64.le_toInt x, Int64.toInt_lt x⟩
theorem td_nn {a b : Int} (ha : 0 ≤ a) : a.tdiv b = a / b := Int.tdiv_eq_ediv_of_nonneg ha
theorem em_le {a b : Int} (ha : 0 ≤ a) (hb : 1 ≤ b) : a % b ≤ a := by
  rw [Int.emod_def]
  have := Int.mul_nonneg (by omega : 0 ≤ b) (Int.ediv_nonneg ha (by omega : 0 ≤ b))
  omega
theorem td_b {a b : Int} (hb : 1 ≤ b) (h1 : -9223372036854775808 ≤ a) (h2 : a < 9223372036854775808) : -9223372036854775808 ≤ a.tdiv b ∧ a.tdiv b < 9223372036854775808 := by
  have h3 : (a.tdiv b).natAbs ≤ a.natAbs := by rw [Int.natAbs_tdiv]; exact Nat.div_le_self _ _
  rcases Int.le_total 0 a with z | z
  · have : 0 ≤ a.tdiv b := Int.tdiv_nonneg z (by omega)
    omega
  · have : a.tdiv b ≤ 0 := by
      have := Int.tdiv_nonneg (a := -a) (b := b) (by omega) (by omega)
      rw [Int.neg_tdiv] at this
      omega
    omega
theorem L_div {a b : Int64} (hb : 1 ≤ b.toInt) : (a / b).toInt = a.toInt.tdiv b.toInt := by
  have := td_b hb (Lb a).1 (Lb a).2
  rw [Int64.toInt_div]
  exact Int.bmod_eq_of_le (by omega) (by omega)
theorem td_mul {a b : Int} : a.tdiv b * b = a - a.tmod b := by
  have := Int.mul_tdiv_add_tmod a b
  rw [Int.mul_comm] at this
  omega
theorem tm_b {a b : Int} (hb : 1 ≤ b) : (0 ≤ a → 0 ≤ a.tmod b ∧ a.tmod b ≤ a) ∧ (a ≤ 0 → a.tmod b ≤ 0 ∧ a ≤ a.tmod b) := by
  refine ⟨fun z => ?_, fun z => ?_⟩
  · rw [Int.tmod_eq_emod_of_nonneg z]
    exact ⟨Int.emod_nonneg _ (by omega), em_le z hb⟩
  · have h1 : a.tmod b = -((-a).tmod b) := by rw [Int.neg_tmod]; omega
    rw [h1, Int.tmod_eq_emod_of_nonneg (by omega : 0 ≤ -a)]
    have h2 := Int.emod_nonneg (-a) (by omega : b ≠ 0)
    have h3 := em_le (a := -a) (by omega) hb
    omega
theorem L_dm {a b : Int64} (hb : 1 ≤ b.toInt) : (a / b * b).toInt = a.toInt - a.toInt.tmod b.toInt := by
  have h1 := L_div (a := a) hb
  have h2 : (a / b).toInt * b.toInt = a.toInt - a.toInt.tmod b.toInt := by rw [h1]; exact td_mul
  have h3 := tm_b (a := a.toInt) hb
  have h4 := Lb a
  have h5 : -9223372036854775808 ≤ a.toInt - a.toInt.tmod b.toInt ∧ a.toInt - a.toInt.tmod b.toInt < 9223372036854775808 := by
    rcases Int.le_total 0 a.toInt with z | z
    · have := h3.1 z; omega
    · have := h3.2 z; omega
  rw [L_mul (by rw [h2]; exact h5.1) (by rw [h2]; exact h5.2), h2]
theorem ed_td {a b : Int} (hb : 1 ≤ b) : a / b = if a.tmod b ≠ 0 ∧ a < 0 then a.tdiv b - 1 else a.tdiv b := by
  rcases Int.lt_or_le a 0 with z | z
  · by_cases h : a.tmod b = 0
    · rw [if_neg (by simp [h])]
      have h1 : a = a.tdiv b * b := by rw [td_mul, h]; omega
      conv => lhs; rw [h1]
      exact Int.mul_ediv_cancel _ (by omega)
    · rw [if_pos ⟨h, z⟩]
      have h1 : a = (a.tdiv b - 1) * b + (b + a.tmod b) := by rw [Int.sub_mul, td_mul]; omega
      have h2 := (tm_b (a := a) hb).2 (by omega)
      have h3 : -b < a.tmod b := by
        have h5 : a.tmod b = -((-a).tmod b) := by rw [Int.neg_tmod]; omega
        rw [h5, Int.tmod_eq_emod_of_nonneg (by omega : 0 ≤ -a)]
        have := Int.emod_lt_of_pos (-a) (by omega : 0 < b)
        omega
      conv => lhs; rw [h1]
      rw [Int.add_comm, Int.add_mul_ediv_right _ _ (by omega : b ≠ 0), Int.ediv_eq_zero_of_lt (by omega) (by omega)]
      omega
  · rw [if_neg (by omega)]; exact (td_nn z).symm
theorem flo_if {a b : Int64} (hb : 1 ≤ b.toInt) : flo a b = if a.toInt.tmod b.toInt ≠ 0 ∧ a.toInt < 0 then a / b - 1 else a / b := by
  unfold flo
  have h1 := L_dm (a := a) hb
  have h2 : a - a / b * b = 0 ↔ a.toInt.tmod b.toInt = 0 := by
    rw [i64_eq, L_sub (by rw [h1]; have := tm_b (a := a.toInt) hb; have := Lb a; omega) (by rw [h1]; have := tm_b (a := a.toInt) hb; have := Lb a; omega), h1]
    show _ = (0 : Int) ↔ _
    omega
  have h3 : (a < 0) ↔ (a.toInt < 0) := by rw [i64_lt]; rfl
  have h4 : ¬ (b < 0) := by rw [i64_lt]; intro z; have : b.toInt < 0 := z; omega
  have h5 : (¬ a - a / b * b = 0 ∧ ¬ ((a < 0) = (b < 0))) ↔ (a.toInt.tmod b.toInt ≠ 0 ∧ a.toInt < 0) := by
    rw [h2, ← h3]
    by_cases q : a < 0 <;> simp [q, h4]
  by_cases q : a.toInt.tmod b.toInt ≠ 0 ∧ a.toInt < 0
  · rw [if_pos q, if_pos (h5.mpr q)]
  · rw [if_neg q, if_neg (fun z => q (h5.mp z))]
theorem flo_i {a b : Int64} (hb : 1 ≤ b.toInt) : (flo a b).toInt = a.toInt / b.toInt := by
  rw [flo_if hb, ed_td hb]
  split
  · rename_i h
    have h1 := L_div (a := a) hb
    have h5 : (a / b).toInt - 1 = a.toInt / b.toInt := by rw [h1, ed_td hb, if_pos h]
    rw [L_sub1 ?_, h1]
    have h6 : -9223372036854775808 ≤ a.toInt / b.toInt := by
      have q1 := Int.ediv_le_ediv (c := b.toInt) (by omega) (Lb a).1
      have q2 : (-9223372036854775808 : Int) ≤ -9223372036854775808 / b.toInt := by
        rw [Int.le_ediv_iff_mul_le (by omega)]
        have := Int.mul_le_mul_of_nonneg_left hb (by decide : (0:Int) ≤ 9223372036854775808)
        omega
      omega
    omega
  · exact L_div hb
theorem xor_neg (a b : Int64) : (a ^^^ b < 0) ↔ ¬ ((a.toInt < 0) ↔ (b.toInt < 0)) := by
  rw [i64_lt]
  show (a ^^^ b).toInt < 0 ↔ _
  have h1 : ∀ x : Int64, (x.toInt < 0) ↔ x.toBitVec.msb = true := fun x => by
    rw [BitVec.msb_eq_toInt]; exact (decide_eq_true_iff).symm
  rw [h1, h1, h1, Int64.toBitVec_xor, BitVec.msb_xor]
  cases a.toBitVec.msb <;> cases b.toBitVec.msb <;> simp
theorem fdv_eq {a b : Int64} (hb : 1 ≤ b.toInt) : fdv a b = flo a b := by
  rw [flo_if hb]
  unfold fdv
  have h1 := L_dm (a := a) hb
  have h2 : a / b * b = a ↔ a.toInt.tmod b.toInt = 0 := by
    rw [i64_eq, h1]; omega
  have h3 : (a ^^^ b < 0) ↔ a.toInt < 0 := by
    rw [xor_neg]
    have : ¬ b.toInt < 0 := by omega
    simp [this]
  simp only [h2, h3]
  simp only [and_comm, ne_eq]
theorem lt1 {b : Int64} (hb : 1 ≤ b.toInt) : ¬ b < 1 := by
  rw [i64_lt]; show ¬ b.toInt < 1; omega
theorem floO_eq {a b : Int64} (hb : 1 ≤ b.toInt) : floO a b = flo a b := by
  unfold floO; rw [if_neg (lt1 hb), fdv_eq hb]
theorem ceiO_eq {a b : Int64} (hb : 1 ≤ b.toInt) : ceiO a b = cei a b := by
  unfold ceiO cei; rw [if_neg (lt1 hb), fdv_eq hb]
theorem cei_i {a b : Int64} (hb : 1 ≤ b.toInt) (ha : -9223372036854775808 < a.toInt) : (cei a b).toInt = -(-a.toInt / b.toInt) := by
  unfold cei
  have h1 : (flo (-a) b).toInt = -a.toInt / b.toInt := by rw [flo_i hb, L_neg ha]
  rw [L_neg ?_, h1]
  rw [h1]
  have q2 : (-9223372036854775807 : Int) ≤ -a.toInt / b.toInt := by
    rw [Int.le_ediv_iff_mul_le (by omega)]
    have := Int.mul_le_mul_of_nonneg_left hb (by decide : (0:Int) ≤ 9223372036854775807)
    have := Lb a
    omega
  omega
theorem w_add {p : Int32} (h0 : 0 ≤ p.toInt) (h1 : p.toInt ≤ 200) : Int32.toInt64 (1000 + p) = 1000 + Int32.toInt64 p := by
  rw [i64_eq, wid, L_add (by rw [wid]; show _ ≤ 1000 + _; omega) (by rw [wid]; show 1000 + _ < _; omega), wid, Int32.toInt_add]
  show Int.bmod (1000 + p.toInt) _ = 1000 + p.toInt
  exact Int.bmod_eq_of_le (by omega) (by omega)
theorem w_sub {p : Int32} (h0 : 0 ≤ p.toInt) (h1 : p.toInt ≤ 200) : Int32.toInt64 (1000 - p) = 1000 - Int32.toInt64 p := by
  rw [i64_eq, wid, L_sub (by rw [wid]; show _ ≤ 1000 - _; omega) (by rw [wid]; show 1000 - _ < _; omega), wid, Int32.toInt_sub]
  show Int.bmod (1000 - p.toInt) _ = 1000 - p.toInt
  exact Int.bmod_eq_of_le (by omega) (by omega)
theorem w_addi {p : Int64} (h0 : 0 ≤ p.toInt) (h1 : p.toInt ≤ 200) : (1000 + p).toInt = 1000 + p.toInt := L_add (by show _ ≤ 1000 + _; omega) (by show 1000 + _ < _; omega)
theorem w_subi {p : Int64} (h0 : 0 ≤ p.toInt) (h1 : p.toInt ≤ 200) : (1000 - p).toInt = 1000 - p.toInt := L_sub (by show _ ≤ 1000 - _; omega) (by show 1000 - _ < _; omega)
theorem aLe_eq {d : Int64} {p : Int32} (h0 : 0 ≤ p.toInt) (h1 : p.toInt ≤ 200) : aLe d p = flo ((d - 1) * 1000) (1000 + Int32.toInt64 p) + 1 := by
  unfold aLe
  rw [w_add h0 h1, floO_eq (by rw [w_addi (by rw [wid]; exact h0) (by rw [wid]; exact h1), wid]; omega)]
theorem aMo_eq {d : Int64} {p : Int32} (h0 : 0 ≤ p.toInt) (h1 : p.toInt ≤ 200) : aMo d p = cei ((d + 1) * 1000) (1000 - Int32.toInt64 p) - 1 := by
  unfold aMo
  rw [w_sub h0 h1, ceiO_eq (by rw [w_subi (by rw [wid]; exact h0) (by rw [wid]; exact h1), wid]; omega)]
