/-! the least shortest ring, pure -/
def RE (E : Nat → Nat → Prop) (f : Nat) : Nat → Nat → Prop := fun e g => E e g ∧ f < e ∧ f ≤ g
def Qc (E : Nat → Nat → Prop) (m e : Nat) : Prop := 1 ≤ m ∧ Pth E m e e
def Qm (E : Nat → Nat → Prop) (m e : Nat) : Prop := ∃ k x, m = k + 1 ∧ E e x ∧ e < x ∧ Pth (RE E e) k x e
/-- the least length, and the least event that has it, of the events below n -/
def RgN (Q : Nat → Nat → Prop) (n f L : Nat) : Prop := f < n ∧ Q L f ∧ ∀ e m, e < n → Q m e → L ≤ m ∧ (m = L → f ≤ e)
def RgV (Q : Nat → Nat → Prop) (n : Nat) (fi li : Int) : Prop := (fi = -1 ∧ li = 0 ∧ ∀ e m, e < n → ¬ Q m e) ∨ ∃ f L : Nat, fi = (f : Int) ∧ li = (L : Int) ∧ 1 ≤ L ∧ RgN Q n f L
theorem RgV_0 {Q : Nat → Nat → Prop} : RgV Q 0 (-1) 0 := Or.inl ⟨rfl, rfl, fun _ _ h => absurd h (Nat.not_lt_zero _)⟩
theorem RgV_no {Q : Nat → Nat → Prop} {n : Nat} {fi li : Int} (h : RgV Q n fi li) (hn : ∀ m, ¬ Q m n) : RgV Q (n + 1) fi li := by
  rcases h with ⟨h1, h2, h3⟩ | ⟨f, L, h1, h2, h0, h3, h4, h5⟩
  · exact Or.inl ⟨h1, h2, fun e m he hq => by
      rcases Nat.lt_succ_iff_lt_or_eq.mp he with z | z
      · exact h3 e m z hq
      · subst z; exact hn m hq⟩
  · exact Or.inr ⟨f, L, h1, h2, h0, by omega, h4, fun e m he hq => by
      rcases Nat.lt_succ_iff_lt_or_eq.mp he with z | z
      · exact h5 e m z hq
      · subst z; exact absurd hq (hn m)⟩
theorem RgV_keep {Q : Nat → Nat → Prop} {n v : Nat} {fi li : Int} (h : RgV Q n fi li) (hf : 0 ≤ fi) (hv : li ≤ (v : Int)) (hm : ∀ m, Q m n → v ≤ m) : RgV Q (n + 1) fi li := by
  rcases h with ⟨h1, h2, h3⟩ | ⟨f, L, h1, h2, h0, h3, h4, h5⟩
  · omega
  · exact Or.inr ⟨f, L, h1, h2, h0, by omega, h4, fun e m he hq => by
      rcases Nat.lt_succ_iff_lt_or_eq.mp he with z | z
      · exact h5 e m z hq
      · subst z; have := hm m hq; exact ⟨by omega, fun _ => by omega⟩⟩
theorem RgV_set {Q : Nat → Nat → Prop} {n v : Nat} {fi li : Int} (h : RgV Q n fi li) (hv1 : 1 ≤ v) (hq : Q v n) (hm : ∀ m, Q m n → v ≤ m) (hc : fi < 0 ∨ (v : Int) < li) : RgV Q (n + 1) (n : Int) (v : Int) := by
  refine Or.inr ⟨n, v, rfl, rfl, hv1, by omega, hq, fun e m he hqm => ?_⟩
  rcases Nat.lt_succ_iff_lt_or_eq.mp he with z | z
  · rcases h with ⟨h1, h2, h3⟩ | ⟨f, L, h1, h2, h0, h3, h4, h5⟩
    · exact absurd hqm (h3 e m z)
    · have := (h5 e m z hqm).1
      exact ⟨by omega, fun _ => by omega⟩
  · subst z; exact ⟨hm m hqm, fun _ => by omega⟩
theorem Qm_Qc {E : Nat → Nat → Prop} {m e : Nat} (h : Qm E m e) : Qc E m e := by
  obtain ⟨k, x, h1, h2, h3, h4⟩ := h
  subst h1
  exact ⟨by omega, x, h2, Pth_mono (fun a b q => q.1) k x e h4⟩
theorem Rg_res {E : Nat → Nat → Prop} {ne f L : Nat} (hb : ∀ a b, E a b → a < ne ∧ b < ne) (hR : RgN (Qc E) ne f L) : ∀ (n x k : Nat), 1 ≤ k → Pth E k f x → Pth E n x f → k + n = L → (n = 0 ∨ f < x) ∧ Pth (RE E f) n x f
  | 0, x, k, _, _, h3, _ => ⟨Or.inl rfl, h3⟩
  | n + 1, x, k, h1, h2, h3, h4 => by
    obtain ⟨hf, hq, hm⟩ := hR
    have hx : f < x := by
      have e1 : Pth E (n + 1 + k) x x := Pth_cat _ _ _ _ _ h3 h2
      have e2 := (hm x (n + 1 + k) (Pth_src hb h3).1 ⟨by omega, e1⟩).2 (by omega)
      rcases Nat.lt_or_ge f x with z | z
      · exact z
      · have : x = f := by omega
        subst this
        have := (hm x k hf ⟨h1, h2⟩).1
        omega
    obtain ⟨y, a1, a2⟩ := h3
    have hy : f ≤ y := by
      have e1 : Pth E (n + (k + 1)) y y := Pth_cat _ _ _ _ _ a2 (Pth_snoc h2 a1)
      exact (hm y (n + (k + 1)) (hb _ _ a1).2 ⟨by omega, e1⟩).2 (by omega)
    exact ⟨Or.inr hx, y, ⟨a1, hx, hy⟩, (Rg_res hb ⟨hf, hq, hm⟩ n y (k + 1) (by omega) (Pth_snoc h2 a1) a2 (by omega)).2⟩
theorem Rg_min {E : Nat → Nat → Prop} {ne f L : Nat} (hb : ∀ a b, E a b → a < ne ∧ b < ne) (hi : ∀ a, ¬ E a a) (hR : RgN (Qc E) ne f L) : Qm E L f := by
  obtain ⟨h1, h2⟩ := hR.2.1
  obtain ⟨n, rfl⟩ : ∃ n, L = n + 1 := ⟨L - 1, by omega⟩
  obtain ⟨x, a1, a2⟩ := h2
  have q := Rg_res hb hR n x 1 (Nat.le_refl 1) (Pth_1 a1) a2 (by omega)
  refine ⟨n, x, rfl, a1, ?_, q.2⟩
  rcases q.1 with z | z
  · subst z
    have e : x = f := a2
    subst e
    exact absurd a1 (hi x)
  · exact z
theorem Rg_same {E : Nat → Nat → Prop} {ne : Nat} {a b c d : Int} (hb : ∀ a b, E a b → a < ne ∧ b < ne) (hi : ∀ a, ¬ E a a) (h1 : RgV (Qc E) ne a b) (h2 : RgV (Qm E) ne c d) : a = c ∧ b = d := by
  rcases h1 with ⟨e1, e2, e3⟩ | ⟨f, L, e1, e2, e0, e3⟩
  · rcases h2 with ⟨g1, g2, g3⟩ | ⟨f', L', g1, g2, g0, g3⟩
    · exact ⟨by omega, by omega⟩
    · exact absurd (Qm_Qc g3.2.1) (e3 f' L' g3.1)
  · have hq := Rg_min hb hi e3
    rcases h2 with ⟨g1, g2, g3⟩ | ⟨f', L', g1, g2, g0, g3⟩
    · exact absurd hq (g3 f L e3.1)
    · have k1 := g3.2.2 f L e3.1 hq
      have k2 := e3.2.2 f' L' g3.1 (Qm_Qc g3.2.1)
      have k3 : L = L' := by omega
      have k4 := k1.2 k3
      have k5 := k2.2 k3.symm
      exact ⟨by omega, by omega⟩
/-- the walk round: from the first event the least event next that is so far away -/
def Wk (E : Nat → Nat → Prop) (f L : Nat) : Nat → Nat → Prop
  | 0, v => v = f
  | i + 1, v => ∃ u, Wk E f L i u ∧ E u v ∧ Mn E (L - 1 - i) v f ∧ ∀ g, g < v → ¬ (E u g ∧ Mn E (L - 1 - i) g f)
theorem Wk_uq {E : Nat → Nat → Prop} {f L : Nat} : ∀ (i v w : Nat), Wk E f L i v → Wk E f L i w → v = w
  | 0, v, w, h1, h2 => by rw [show v = f from h1, show w = f from h2]
  | i + 1, v, w, ⟨u, a1, a2, a3, a4⟩, ⟨u', b1, b2, b3, b4⟩ => by
    have e := Wk_uq i u u' a1 b1
    subst e
    rcases Nat.lt_trichotomy v w with z | z | z
    · exact absurd ⟨a2, a3⟩ (b4 v z)
    · exact z
    · exact absurd ⟨b2, b3⟩ (a4 w z)
theorem Wk_pth {E : Nat → Nat → Prop} {f L : Nat} : ∀ (i v : Nat), Wk E f L i v → Pth E i f v
  | 0, v, h => by rw [show v = f from h]; exact rfl
  | i + 1, v, ⟨u, a1, a2, _, _⟩ => Pth_snoc (Wk_pth i u a1) a2
theorem Wk_lt {E : Nat → Nat → Prop} {ne f L i v : Nat} (hb : ∀ a b, E a b → a < ne ∧ b < ne) (hf : f < ne) (h : Wk E f L i v) : v < ne := Pth_bnd hb i f v (Wk_pth i v h) hf
theorem Wk_ex {E : Nat → Nat → Prop} {ne f L i u : Nat} (hR : RgN (Qc E) ne f L) (h : Wk E f L i u) (hi : i < L) : ∃ g, E u g ∧ Mn E (L - 1 - i) g f := by
  cases i with
  | zero =>
    rw [show u = f from h]
    obtain ⟨h1, h2⟩ := hR.2.1
    obtain ⟨n, rfl⟩ : ∃ n, L = n + 1 := ⟨L - 1, by omega⟩
    obtain ⟨x, a1, a2⟩ := h2
    refine ⟨x, a1, a2, fun m hm hp => ?_⟩
    have := (hR.2.2 f (m + 1) hR.1 ⟨by omega, x, a1, hp⟩).1
    omega
  | succ i =>
    obtain ⟨w, a1, a2, a3, a4⟩ := h
    obtain ⟨n, hn⟩ : ∃ n, L - 1 - i = n + 1 := ⟨L - 1 - i - 1, by omega⟩
    rw [hn] at a3
    rw [show L - 1 - (i + 1) = n by omega]
    exact Mn_next a3
theorem Wk_low {E : Nat → Nat → Prop} {ne f L i u g n : Nat} (hR : RgN (Qc E) ne f L) (h : Wk E f L i u) (he : E u g) (hp : Pth E n g f) : L ≤ i + 1 + n := by
  exact (hR.2.2 f (i + 1 + n) hR.1 ⟨by omega, Pth_cat _ _ _ _ _ (Pth_snoc (Wk_pth i u h) he) hp⟩).1
theorem Wk_mod {E : Nat → Nat → Prop} {ne f L i u g : Nat} (hb : ∀ a b, E a b → a < ne ∧ b < ne) (hR : RgN (Qc E) ne f L) (h : Wk E f L i u) (hi : i + 1 < L) : (E u g ∧ Mn E (L - 1 - i) g f) ↔ (f < g ∧ E u g ∧ Mn (RE E f) (L - 1 - i) g f) := by
  constructor
  · intro ⟨h1, h2⟩
    have q := Rg_res hb hR (L - 1 - i) g (i + 1) (by omega) (Pth_snoc (Wk_pth i u h) h1) h2.1 (by omega)
    refine ⟨?_, h1, q.2, fun n hn hp => h2.2 n hn (Pth_mono (fun a b z => z.1) n g f hp)⟩
    rcases q.1 with z | z
    · omega
    · exact z
  · intro ⟨h0, h1, h2⟩
    refine ⟨h1, Pth_mono (fun a b z => z.1) _ g f h2.1, fun n hn hp => ?_⟩
    have := Wk_low hR h h1 hp
    omega
