/-! the abstract heap: logical numbers for cells; live, ints, longs, references -/
abbrev HP : Type := (Nat → Bool) × (Nat → Nat → Int32) × (Nat → Nat → Int64) × (Nat → Nat → Option Nat)
def liv (h : HP) : Nat → Bool := h.1
def vI (h : HP) : Nat → Nat → Int32 := h.2.1
def vL (h : HP) : Nat → Nat → Int64 := h.2.2.1
def vP (h : HP) : Nat → Nat → Option Nat := h.2.2.2
def up2 {α : Type} (f : Nat → Nat → α) (a k : Nat) (v : α) : Nat → Nat → α := fun b j => if b = a then (if j = k then v else f b j) else f b j
def sI (h : HP) (a k : Nat) (v : Int32) : HP := (h.1, up2 h.2.1 a k v, h.2.2.1, h.2.2.2)
def sL (h : HP) (a k : Nat) (v : Int64) : HP := (h.1, h.2.1, up2 h.2.2.1 a k v, h.2.2.2)
def sP (h : HP) (a k : Nat) (v : Option Nat) : HP := (h.1, h.2.1, h.2.2.1, up2 h.2.2.2 a k v)
/-- a new cell: live, all its values the defaults -/
def sN (h : HP) (a : Nat) : HP := (fun b => if b = a then true else h.1 b, fun b => if b = a then fun _ => 0 else h.2.1 b, fun b => if b = a then fun _ => 0 else h.2.2.1 b, fun b => if b = a then fun _ => none else h.2.2.2 b)
/-! the classes by number: 0 to 7 as vwCl has them; 8 int[], 9 long[], 10 boolean[], 11 Member[], 12 Letter[], 13 Stamp[], 14 Span[] -/
def CN (c : Nat) : String := match c with
  | 0 => RX0 | 1 => RX1 | 2 => RX2 | 3 => RX3 | 4 => RX4 | 5 => RX5 | 6 => RX6 | _ => RX7
def TT (c : Nat) : u_T := match c with
  | 0 => TX0 | 1 => TX1 | 2 => TX2 | 3 => TX3 | 4 => TX4 | 5 => TX5 | 6 => TX6 | _ => TX7
def NF (c : Nat) : Nat := match c with
  | 0 => 4 | 1 => 7 | 2 => 16 | 3 => 14 | 4 => 4 | 5 => 4 | 6 => 9 | _ => 52
def FT (c : Nat) : Nat → FieldType := match c with
  | 0 => tyX0 | 1 => tyX1 | 2 => tyX2 | 3 => tyX3 | 4 => tyX4 | 5 => tyX5 | 6 => tyX6 | _ => tyX7
def AT (t : Nat) : FieldType := match t with
  | 8 => .int | 9 => .long | 10 => .boolean | 11 => .object RX2 | 12 => .object RX1 | 13 => .object RX5 | _ => .object RX4
/-! what kind of cell a logical number is of, and how long an array is -/
def kd0 (a : Nat) : Nat := match a with
  | 1 => 6 | 2 => 11 | 3 => 12 | 4 => 13 | 5 => 0 | 6 => 8 | 7 => 9 | 8 => 9
  | 10 => 3 | 11 => 9 | 12 => 9 | 13 => 8 | 14 => 8 | 15 => 8 | 16 => 9 | 17 => 8 | 18 => 8 | 19 => 8
  | 100 => 7
  | a => match tyX7 (a - 101) with
    | .array .int => 8
    | .array .long => 9
    | .array .boolean => 10
    | _ => 15
def kd (a : Nat) : Nat := if a < 1000 then kd0 a else match a / 1000 with
  | 1 => 2 | 2 => 4 | 3 => 14 | 4 => 4 | 5 => 1 | 6 => 5 | _ => 15
def ln0 (a : Nat) : Nat :=
  if a < 100 then (match a with | 2 => 10 | 3 => 200 | 4 => 100 | 6 => 10 | 7 => 10 | 8 => 10 | 11 => 30 | 12 => 30 | 13 => 60 | 14 => 60 | 15 => 30 | 16 => 30 | 17 => 30 | 18 => 30 | 19 => 30 | _ => 0)
  else if a < 119 then 10 else if a < 123 then 100 else if a < 131 then 200 else if a < 136 then 100 else if a < 140 then 30 else if a < 141 then 900 else if a < 145 then 10 else if a < 146 then 20 else if a < 151 then 900 else 30
def ln (a : Nat) : Nat := if a < 1000 then ln0 a else if a < 4000 then 10 else 0
theorem kd_mem {i : Nat} (h : i < 1000) : kd (1000 + i) = 2 := by
  have e : (1000 + i) / 1000 = 1 := by omega
  simp [kd, e]; omega
theorem kd_own {i : Nat} (h : i < 1000) : kd (2000 + i) = 4 := by
  have e : (2000 + i) / 1000 = 2 := by omega
  simp [kd, e]; omega
theorem kd_arr {i : Nat} (h : i < 1000) : kd (3000 + i) = 14 := by
  have e : (3000 + i) / 1000 = 3 := by omega
  simp [kd, e]; omega
theorem kd_hrd {i : Nat} (h : i < 1000) : kd (4000 + i) = 4 := by
  have e : (4000 + i) / 1000 = 4 := by omega
  simp [kd, e]; omega
theorem kd_let {i : Nat} (h : i < 1000) : kd (5000 + i) = 1 := by
  have e : (5000 + i) / 1000 = 5 := by omega
  simp [kd, e]; omega
theorem kd_stp {i : Nat} (h : i < 1000) : kd (6000 + i) = 5 := by
  have e : (6000 + i) / 1000 = 6 := by omega
  simp [kd, e]; omega
theorem ln_arr {i : Nat} (h : i < 1000) : ln (3000 + i) = 10 := by
  unfold ln
  rw [if_neg (by omega), if_pos (by omega)]
/-! a value with its logical number turned into an address -/
def rn (ad : Nat → Nat) (v : Value) : Value := match v with
  | .ref a => .ref (ad a)
  | v => v
def rq (ad : Nat → Nat) (q : Nat × Value) : Nat × Value := (q.1, rn ad q.2)
def rok (h : HP) (v : Value) : Prop := match v with
  | .ref a => liv h a = true
  | _ => True
/-- a field's value, as the heap has it -/
def fv (ad : Nat → Nat) (ty : FieldType) (i : Int32) (l : Int64) (p : Option Nat) : Value := match ty with
  | .long => .long l
  | .object _ => va_rf (p.map ad)
  | .array _ => va_rf (p.map ad)
  | _ => .int i
def aF (t : Nat) (I : Nat → Int32) (L : Nat → Int64) (P : Nat → Option Nat) : (Nat → Int32) ⊕ (Nat → Int64) ⊕ (Nat → UInt32) ⊕ (Nat → UInt64) ⊕ (Nat → Option Nat) := match t with
  | 8 => .inl I
  | 9 => .inr (.inl L)
  | 10 => .inl I
  | _ => .inr (.inr (.inr (.inr P)))
/-- base, class numbers and slots, array classes -/
abbrev GG : Type := Nat × va_G × (Nat → ClassId)
def cE (g : GG) (h : HP) (ad : Nat → Nat) (a : Nat) (H : Heap) : Prop :=
  if kd a < 8 then t_OB (ad a) (g.2.1.1 (kd a)) (NF (kd a)) (g.2.1.2 (kd a)) H (fun k => fv ad (FT (kd a) k) (vI h a k) (vL h a k) (vP h a k))
  else H[ad a]? = some (vp_cell (g.2.2 (kd a)) (ln a, aF (kd a) (vI h a) (vL h a) (fun k => (vP h a k).map ad)))
def Rp (g : GG) (h : HP) (ad : Nat → Nat) (H : Heap) : Prop :=
  (∀ a, liv h a = true → (kd a < 15 → g.1 ≤ ad a ∧ cE g h ad a H) ∧ (¬ kd a < 15 → ad a = g.2.2 15 ∧ g.2.2 15 < g.1)) ∧ (∀ a b, liv h a = true → liv h b = true → ad a = ad b → a = b) ∧ (∀ a k b, liv h a = true → vP h a k = some b → liv h b = true)
theorem Rp_at {g : GG} {h : HP} {ad : Nat → Nat} {H : Heap} (hR : Rp g h ad H) {a : Nat} (hl : liv h a = true) (hk : kd a < 15) : g.1 ≤ ad a ∧ cE g h ad a H := (hR.1 a hl).1 hk
theorem cE_lt {g : GG} {h : HP} {ad : Nat → Nat} {a : Nat} {H : Heap} (hc : cE g h ad a H) : ad a < H.size := by
  unfold cE at hc
  split at hc
  · obtain ⟨cell, h1, -⟩ := hc
    exact (Array.getElem?_eq_some_iff.mp h1).1
  · exact (Array.getElem?_eq_some_iff.mp hc).1
theorem cE_kept {g : GG} {h h' : HP} {ad ad' : Nat → Nat} {a : Nat} {H H' : Heap} (hc : cE g h ad a H) (ea : ad' a = ad a) (eH : H'[ad a]? = H[ad a]?) (eI : vI h' a = vI h a) (eL : vL h' a = vL h a) (eP : vP h' a = vP h a) (em : ∀ k b, vP h a k = some b → ad' b = ad b) : cE g h' ad' a H' := by
  have e2 : ∀ k, (vP h a k).map ad' = (vP h a k).map ad := by
    intro k
    cases hk : vP h a k with
    | none => rfl
    | some b => simp [em k b hk]
  unfold cE at hc ⊢
  split at hc
  · rw [if_pos (by assumption), eI, eL, eP, ea]
    obtain ⟨cell, h1, h2, h3, h4⟩ := hc
    refine ⟨cell, by rw [eH]; exact h1, h2, h3, fun k hk => ?_⟩
    rw [h4 k hk]
    have e3 : fv ad (FT (kd a) k) (vI h a k) (vL h a k) (vP h a k) = fv ad' (FT (kd a) k) (vI h a k) (vL h a k) (vP h a k) := by
      unfold fv
      split <;> first | rfl | rw [e2 k]
    exact congrArg some e3
  · rw [if_neg (by assumption), eI, eL, eP, ea, eH, hc]
    have e4 : (fun k => (vP h a k).map ad') = (fun k => (vP h a k).map ad) := funext e2
    rw [e4]
/-- one cell is written -/
theorem Rp_put {g : GG} {h h' : HP} {ad : Nat → Nat} {a : Nat} {H H' : Heap} (hR : Rp g h ad H) (hka : kd a < 15) (ha : liv h a = true) (el : liv h' = liv h) (oI : ∀ b, b ≠ a → vI h' b = vI h b) (oL : ∀ b, b ≠ a → vL h' b = vL h b) (oP : ∀ b, b ≠ a → vP h' b = vP h b) (hp : ∀ k b, vP h' a k = some b → liv h b = true) (oH : ∀ q, q ≠ ad a → H'[q]? = H[q]?) (hc : cE g h' ad a H') : Rp g h' ad H' := by
  obtain ⟨h1, h2, h3⟩ := hR
  refine ⟨fun b hb => ?_, fun b c hb hcc e => ?_, fun b k c hb e => ?_⟩
  · rw [el] at hb
    by_cases hba : b = a
    · subst hba
      exact ⟨fun _ => ⟨((h1 b hb).1 hka).1, hc⟩, fun z => absurd hka z⟩
    · have hne : ad b ≠ ad a := fun e => hba (h2 b a hb ha e)
      exact ⟨fun z => ⟨((h1 b hb).1 z).1, cE_kept ((h1 b hb).1 z).2 rfl (oH _ hne) (oI b hba) (oL b hba) (oP b hba) (fun _ _ _ => rfl)⟩, (h1 b hb).2⟩
  · rw [el] at hb hcc
    exact h2 b c hb hcc e
  · rw [el] at hb ⊢
    by_cases hba : b = a
    · subst hba
      exact hp k c e
    · rw [oP b hba] at e
      exact h3 b k c hb e
def up1 (ad : Nat → Nat) (a n : Nat) : Nat → Nat := fun b => if b = a then n else ad b
/-- one cell is new -/
theorem Rp_new {g : GG} {h : HP} {ad : Nat → Nat} {a : Nat} {H H' : Heap} (hR : Rp g h ad H) (hka : kd a < 15) (ha : liv h a = false) (hB : g.1 ≤ H.size) (oH : ∀ q, q < H.size → H'[q]? = H[q]?) (hc : cE g (sN h a) (up1 ad a H.size) a H') : Rp g (sN h a) (up1 ad a H.size) H' ∧ ∀ b, liv h b = true → liv (sN h a) b = true ∧ up1 ad a H.size b = ad b := by
  obtain ⟨h1, h2, h3⟩ := hR
  have ne : ∀ b, liv h b = true → b ≠ a := fun b hb e => by rw [e, ha] at hb; cases hb
  have key : ∀ b, liv h b = true → liv (sN h a) b = true ∧ up1 ad a H.size b = ad b := by
    intro b hb
    exact ⟨by show (if b = a then true else h.1 b) = true; rw [if_neg (ne b hb)]; exact hb, if_neg (ne b hb)⟩
  have back : ∀ b, b ≠ a → liv (sN h a) b = true → liv h b = true := by
    intro b hb hl
    have : (if b = a then true else h.1 b) = true := hl
    rwa [if_neg hb] at this
  have old : ∀ b, liv h b = true → ad b < H.size := fun b hb => by
    by_cases z : kd b < 15
    · exact cE_lt ((h1 b hb).1 z).2
    · have := (h1 b hb).2 z
      rw [this.1]; exact Nat.lt_of_lt_of_le this.2 hB
  refine ⟨⟨fun b hb => ?_, fun b c hb hcc e => ?_, fun b k c hb e => ?_⟩, key⟩
  · by_cases hba : b = a
    · subst hba
      exact ⟨fun _ => ⟨by show g.1 ≤ up1 ad b H.size b; rw [show up1 ad b H.size b = H.size from if_pos rfl]; exact hB, hc⟩, fun z => absurd hka z⟩
    · have hb' := back b hba hb
      refine ⟨fun z => ⟨by rw [(key b hb').2]; exact ((h1 b hb').1 z).1, cE_kept ((h1 b hb').1 z).2 (key b hb').2 (oH _ (cE_lt ((h1 b hb').1 z).2)) ?_ ?_ ?_ (fun k c e => (key c (h3 b k c hb' e)).2)⟩, fun z => by rw [(key b hb').2]; exact (h1 b hb').2 z⟩
      · show (if b = a then _ else _) = _; rw [if_neg hba]; rfl
      · show (if b = a then _ else _) = _; rw [if_neg hba]; rfl
      · show (if b = a then _ else _) = _; rw [if_neg hba]; rfl
  · by_cases hba : b = a
    · by_cases hca : c = a
      · rw [hba, hca]
      · have hc' := back c hca hcc
        rw [hba, show up1 ad a H.size a = H.size from if_pos rfl, (key c hc').2] at e
        have := old c hc'
        omega
    · have hb' := back b hba hb
      by_cases hca : c = a
      · rw [hca, show up1 ad a H.size a = H.size from if_pos rfl, (key b hb').2] at e
        have := old b hb'
        omega
      · have hc' := back c hca hcc
        rw [(key b hb').2, (key c hc').2] at e
        exact h2 b c hb' hc' e
  · by_cases hba : b = a
    · have e' : (if b = a then (fun _ => none) else h.2.2.2 b) k = some c := e
      rw [if_pos hba] at e'
      cases e'
    · have e' : (if b = a then (fun _ => none) else h.2.2.2 b) k = some c := e
      rw [if_neg hba] at e'
      exact (key c (h3 b k c (back b hba hb) e')).1
