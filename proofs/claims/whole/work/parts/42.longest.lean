/-! longest ways, pure -/
def cyc (E : Nat → Nat → Prop) : Prop := ∃ c k, 0 < k ∧ Pth E k c c
theorem cyc_no {E : Nat → Nat → Prop} (p : Nat → Int) (hp : ∀ a b, E a b → p a + 1 ≤ p b) : ¬ cyc E := by
  have key : ∀ (n a b : Nat), Pth E n a b → p a + n ≤ p b := by
    intro n
    induction n with
    | zero => intro a b h; rw [show a = b from h]; omega
    | succ n ih => intro a b ⟨c, h1, h2⟩; have := hp a c h1; have := ih c b h2; omega
  intro ⟨c, k, h1, h2⟩
  have := key k c c h2
  omega
theorem Pth_short {E : Nat → Nat → Prop} {ne : Nat} (hb : ∀ a b, E a b → a < ne ∧ b < ne) (hc : ¬ cyc E) {n a b : Nat} (h : Pth E n a b) (ha : a < ne) : n < ne := by
  rcases Nat.lt_or_ge n ne with z | z
  · exact z
  · obtain ⟨c, i, k, r, h1, h2, -, h4, -⟩ := Pth_long hb h ha z
    exact absurd ⟨c, k, h1, h4⟩ hc
/-- class: each least time is the low of an event plus the links on a way from there -/
def Att (E : Nat → Nat → Prop) (ne : Nat) (lo T : Nat → Int) : Prop := ∀ b, b < ne → ∃ a n, a < ne ∧ Pth E n a b ∧ T b = lo a + n
def Cov (E : Nat → Nat → Prop) (ne k : Nat) (lo T : Nat → Int) : Prop := ∀ a b n, a < ne → n ≤ k → Pth E n a b → lo a + n ≤ T b
def Sat (E : Nat → Nat → Prop) (T : Nat → Int) : Prop := ∀ a b, E a b → T a + 1 ≤ T b
theorem Sat_cov {E : Nat → Nat → Prop} {ne : Nat} {lo T : Nat → Int} (h0 : ∀ a, a < ne → lo a ≤ T a) (hs : Sat E T) (k : Nat) : Cov E ne k lo T := by
  have key : ∀ (n a b : Nat), Pth E n a b → T a + n ≤ T b := by
    intro n
    induction n with
    | zero => intro a b h; rw [show a = b from h]; omega
    | succ n ih => intro a b ⟨c, h1, h2⟩; have := hs a c h1; have := ih c b h2; omega
  intro a b n ha _ hp
  have := key n a b hp
  have := h0 a ha
  omega
/-- if there is no ring, behind as many passes as there are events nothing rises -/
theorem Cov_sat {E : Nat → Nat → Prop} {ne : Nat} (hb : ∀ a b, E a b → a < ne ∧ b < ne) (hc : ¬ cyc E) {lo T : Nat → Int} (hA : Att E ne lo T) (hC : Cov E ne ne lo T) : Sat E T := by
  intro a b he
  obtain ⟨c, n, h1, h2, h3⟩ := hA a (hb a b he).1
  have hp := Pth_snoc h2 he
  have := hC c b (n + 1) h1 (by have := Pth_short hb hc hp h1; omega) hp
  omega
/-- the value at b of the row of a: the longest way from a to b -/
def Lo (E : Nat → Nat → Prop) (a b : Nat) (v : Int) : Prop := (v = -1 ∧ ∀ n, ¬ Pth E n a b) ∨ ∃ n : Nat, v = (n : Int) ∧ Pth E n a b ∧ ∀ m, Pth E m a b → m ≤ n
def LAtt (E : Nat → Nat → Prop) (a b : Nat) (v : Int) : Prop := v = -1 ∨ ∃ n : Nat, v = (n : Int) ∧ Pth E n a b
theorem Lo_of {E : Nat → Nat → Prop} {ne a : Nat} (hb : ∀ a b, E a b → a < ne ∧ b < ne) {R : Nat → Int} (ha : a < ne) (hA : ∀ b, b < ne → LAtt E a b (R b)) (h0 : 0 ≤ R a) (hs : ∀ e g, E e g → 0 ≤ R e → R e + 1 ≤ R g) {b : Nat} (hbn : b < ne) : Lo E a b (R b) := by
  have key : ∀ (n e g : Nat), Pth E n e g → 0 ≤ R e → R e + n ≤ R g := by
    intro n
    induction n with
    | zero => intro e g h _; rw [show e = g from h]; omega
    | succ n ih => intro e g ⟨c, h1, h2⟩ h3; have := hs e c h1 h3; have := ih c g h2 (by omega); omega
  rcases hA b hbn with h | ⟨n, h1, h2⟩
  · refine Or.inl ⟨h, fun n hp => ?_⟩
    have := key n a b hp h0
    omega
  · refine Or.inr ⟨n, h1, h2, fun m hm => ?_⟩
    have := key m a b hm h0
    omega
