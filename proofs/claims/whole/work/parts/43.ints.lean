/-! whole numbers of longs and ints; rows that agree; bits -/
theorem L_add {x y : Int64} (h1 : -9223372036854775808 ≤ x.toInt + y.toInt) (h2 : x.toInt + y.toInt < 9223372036854775808) : (x + y).toInt = x.toInt + y.toInt := by
  rw [Int64.toInt_add]; exact Int.bmod_eq_of_le (by omega) (by omega)
theorem L_sub {x y : Int64} (h1 : -9223372036854775808 ≤ x.toInt - y.toInt) (h2 : x.toInt - y.toInt < 9223372036854775808) : (x - y).toInt = x.toInt - y.toInt := by
  rw [Int64.toInt_sub]; exact Int.bmod_eq_of_le (by omega) (by omega)
theorem L_mul {x y : Int64} (h1 : -9223372036854775808 ≤ x.toInt * y.toInt) (h2 : x.toInt * y.toInt < 9223372036854775808) : (x * y).toInt = x.toInt * y.toInt := by
  rw [Int64.toInt_mul]; exact Int.bmod_eq_of_le (by omega) (by omega)
theorem L_neg {x : Int64} (h1 : -9223372036854775808 < x.toInt) : (-x).toInt = -x.toInt := by
  have h2 := Int64.toInt_lt x
  rw [Int64.toInt_neg]; exact Int.bmod_eq_of_le (by omega) (by omega)
theorem L_add1 {x : Int64} (h2 : x.toInt < 9223372036854775807) : (x + 1).toInt = x.toInt + 1 := by
  have h0 := Int64.le_toInt x
  have e : (1 : Int64).toInt = 1 := by decide
  rw [L_add (by rw [e]; omega) (by rw [e]; omega), e]
theorem L_sub1 {x : Int64} (h2 : -9223372036854775808 < x.toInt) : (x - 1).toInt = x.toInt - 1 := by
  have h0 := Int64.toInt_lt x
  have e : (1 : Int64).toInt = 1 := by decide
  rw [L_sub (by rw [e]; omega) (by rw [e]; omega), e]
theorem I_add {x y : Int32} (h1 : -2147483648 ≤ x.toInt + y.toInt) (h2 : x.toInt + y.toInt < 2147483648) : (x + y).toInt = x.toInt + y.toInt := by
  rw [Int32.toInt_add]; exact Int.bmod_eq_of_le (by omega) (by omega)
theorem I_add1 {x : Int32} (h2 : x.toInt < 2147483647) : (x + 1).toInt = x.toInt + 1 := by
  have h0 := Int32.le_toInt x
  have e : (1 : Int32).toInt = 1 := by decide
  rw [I_add (by rw [e]; omega) (by rw [e]; omega), e]
theorem I_of {x : Int32} {n : Nat} (h : x.toInt = (n : Int)) (hn : n ≤ 100000) : x = nI n := Int32.toInt.inj (by rw [h, nIt hn])
def Ai (a : Nat) (h h' : HP) : Prop := liv h' = liv h ∧ vP h' = vP h ∧ vL h' = vL h ∧ ∀ b, b ≠ a → vI h' b = vI h b
def Al (a : Nat) (h h' : HP) : Prop := liv h' = liv h ∧ vP h' = vP h ∧ vI h' = vI h ∧ ∀ b, b ≠ a → vL h' b = vL h b
theorem Ai_rf (a : Nat) (h : HP) : Ai a h h := ⟨rfl, rfl, rfl, fun _ _ => rfl⟩
theorem Al_rf (a : Nat) (h : HP) : Al a h h := ⟨rfl, rfl, rfl, fun _ _ => rfl⟩
theorem Ai_put {a j : Nat} {v : Int32} {h h' : HP} (hA : Ai a h h') : Ai a h (sI h' a j v) := ⟨hA.1, hA.2.1, hA.2.2.1, fun b hb => by rw [vIn hb]; exact hA.2.2.2 b hb⟩
theorem Al_put {a j : Nat} {v : Int64} {h h' : HP} (hA : Al a h h') : Al a h (sL h' a j v) := ⟨hA.1, hA.2.1, hA.2.2.1, fun b hb => by rw [vLn hb]; exact hA.2.2.2 b hb⟩
theorem Ai_tr {a : Nat} {h h' h2 : HP} (h1 : Ai a h h') (h3 : Ai a h' h2) : Ai a h h2 := ⟨h3.1.trans h1.1, h3.2.1.trans h1.2.1, h3.2.2.1.trans h1.2.2.1, fun b hb => (h3.2.2.2 b hb).trans (h1.2.2.2 b hb)⟩
theorem Al_tr {a : Nat} {h h' h2 : HP} (h1 : Al a h h') (h3 : Al a h' h2) : Al a h h2 := ⟨h3.1.trans h1.1, h3.2.1.trans h1.2.1, h3.2.2.1.trans h1.2.2.1, fun b hb => (h3.2.2.2 b hb).trans (h1.2.2.2 b hb)⟩
theorem vI_row (h : HP) (a k : Nat) (v : Int32) : vI (sI h a k v) a = fun q => if q = k then v else vI h a q := up2_row _ _ _ _
/-! bits of an int -/
def bt (x : Int32) (k : Nat) : Bool := x.toBitVec.getLsbD k
theorem bt_or (x y : Int32) (k : Nat) : bt (x ||| y) k = (bt x k || bt y k) := by
  unfold bt; rw [Int32.toBitVec_or, BitVec.getLsbD_or]
theorem bt_0 (k : Nat) : bt 0 k = false := by unfold bt; show (0#32).getLsbD k = false; simp
theorem bt_1 : ∀ g, g < 30 → ∀ k, k < 32 → bt (1 <<< (nI g &&& 31)) k = decide (k = g) := by decide
theorem bt_hi (x : Int32) {k : Nat} (hk : 32 ≤ k) : bt x k = false := by unfold bt; exact BitVec.getLsbD_of_ge _ _ hk
theorem bt_and (x y : Int32) : (x &&& y) = 0 ↔ ∀ k, k < 32 → ¬ (bt x k = true ∧ bt y k = true) := by
  constructor
  · intro h k _ ⟨h1, h2⟩
    have e : bt (x &&& y) k = (bt x k && bt y k) := by unfold bt; rw [Int32.toBitVec_and, BitVec.getLsbD_and]
    rw [h, bt_0, h1, h2] at e
    cases e
  · intro h
    apply Int32.toBitVec_inj.mp
    apply BitVec.eq_of_getLsbD_eq
    intro k hk
    rw [Int32.toBitVec_and, BitVec.getLsbD_and]
    have := h k hk
    unfold bt at this
    show _ = (0#32).getLsbD k
    simp only [BitVec.getLsbD_zero]
    cases h1 : x.toBitVec.getLsbD k <;> cases h2 : y.toBitVec.getLsbD k <;> simp_all
theorem bt_z (x : Int32) : x = 0 ↔ ∀ k, k < 32 → bt x k = false := by
  have q := bt_and x x
  rw [show x &&& x = x from by apply Int32.toBitVec_inj.mp; rw [Int32.toBitVec_and]; exact BitVec.and_self] at q
  rw [q]
  exact ⟨fun h k hk => by cases e : bt x k; rfl; exact absurd ⟨e, e⟩ (h k hk), fun h k hk e => by rw [h k hk] at e; cases e.1⟩
theorem bt_shr (x : Int32) : ∀ g, g < 30 → ((x >>> (nI g &&& 31)) &&& 1 = 0 ↔ bt x g = false) := by
  intro g hg
  rw [bt_and]
  have e1 : ∀ k, k < 32 → bt 1 k = decide (k = 0) := by decide
  have e2 : ∀ g, g < 30 → ((nI g &&& 31).toBitVec.smod 32).toNat = g := by decide
  have e3 : bt (x >>> (nI g &&& 31)) 0 = bt x g := by
    unfold bt
    rw [Int32.toBitVec_shiftRight, BitVec.sshiftRight', e2 g hg, BitVec.getLsbD_sshiftRight]
    have : g < 32 := by omega
    simp [this]
  constructor
  · intro h
    have := h 0 (by decide)
    rw [e3, e1 0 (by decide)] at this
    cases e : bt x g
    · rfl
    · exact absurd ⟨e, rfl⟩ this
  · intro h k hk ⟨h1, h2⟩
    rw [e1 k hk] at h2
    have : k = 0 := by simpa using h2
    subst this
    rw [e3, h] at h1
    cases h1
