/-! paths in a graph, pure -/
def Pth (E : Nat → Nat → Prop) : Nat → Nat → Nat → Prop
  | 0, a, b => a = b
  | n + 1, a, b => ∃ c, E a c ∧ Pth E n c b
theorem Pth_cat {E : Nat → Nat → Prop} : ∀ (m n a b c : Nat), Pth E m a b → Pth E n b c → Pth E (m + n) a c
  | 0, n, a, b, c, h1, h2 => by rw [Nat.zero_add]; have e : a = b := h1; rw [e]; exact h2
  | m + 1, n, a, b, c, h1, h2 => by
    obtain ⟨d, e1, e2⟩ := h1
    rw [show m + 1 + n = (m + n) + 1 by omega]
    exact ⟨d, e1, Pth_cat m n d b c e2 h2⟩
theorem Pth_split {E : Nat → Nat → Prop} : ∀ (m n a c : Nat), Pth E (m + n) a c → ∃ b, Pth E m a b ∧ Pth E n b c
  | 0, n, a, c, h => ⟨a, rfl, by rw [Nat.zero_add] at h; exact h⟩
  | m + 1, n, a, c, h => by
    rw [show m + 1 + n = (m + n) + 1 by omega] at h
    obtain ⟨d, e1, e2⟩ := h
    obtain ⟨b, h1, h2⟩ := Pth_split m n d c e2
    exact ⟨b, ⟨d, e1, h1⟩, h2⟩
theorem Pth_1 {E : Nat → Nat → Prop} {a b : Nat} (h : E a b) : Pth E 1 a b := ⟨b, h, rfl⟩
theorem Pth_of1 {E : Nat → Nat → Prop} {a b : Nat} (h : Pth E 1 a b) : E a b := by obtain ⟨c, h1, h2⟩ := h; have e : c = b := h2; rw [← e]; exact h1
theorem Pth_snoc {E : Nat → Nat → Prop} {n a b c : Nat} (h1 : Pth E n a b) (h2 : E b c) : Pth E (n + 1) a c := Pth_cat n 1 a b c h1 (Pth_1 h2)
theorem Pth_last {E : Nat → Nat → Prop} {n a c : Nat} (h : Pth E (n + 1) a c) : ∃ b, Pth E n a b ∧ E b c := by
  obtain ⟨b, h1, h2⟩ := Pth_split n 1 a c h
  exact ⟨b, h1, Pth_of1 h2⟩
theorem Pth_mono {E F : Nat → Nat → Prop} (hs : ∀ a b, E a b → F a b) : ∀ (n a b : Nat), Pth E n a b → Pth F n a b
  | 0, _, _, h => h
  | n + 1, a, b, h => by obtain ⟨c, h1, h2⟩ := h; exact ⟨c, hs _ _ h1, Pth_mono hs n c b h2⟩
theorem Pth_bnd {E : Nat → Nat → Prop} {ne : Nat} (hb : ∀ a b, E a b → a < ne ∧ b < ne) : ∀ (n a b : Nat), Pth E n a b → a < ne → b < ne
  | 0, _, _, h, ha => by rw [show _ = _ from h] at ha; exact ha
  | n + 1, a, b, h, _ => by obtain ⟨c, h1, h2⟩ := h; exact Pth_bnd hb n c b h2 (hb _ _ h1).2
theorem Pth_src {E : Nat → Nat → Prop} {ne : Nat} (hb : ∀ a b, E a b → a < ne ∧ b < ne) {n a b : Nat} (h : Pth E (n + 1) a b) : a < ne ∧ b < ne := by
  obtain ⟨c, h1, h2⟩ := h
  exact ⟨(hb _ _ h1).1, Pth_bnd hb n c b h2 (hb _ _ h1).2⟩
theorem Pth_fn {E : Nat → Nat → Prop} : ∀ (n a b : Nat), Pth E n a b → ∃ f : Nat → Nat, f 0 = a ∧ f n = b ∧ ∀ i, i < n → E (f i) (f (i + 1))
  | 0, a, b, h => ⟨fun _ => a, rfl, h, fun _ hi => absurd hi (Nat.not_lt_zero _)⟩
  | n + 1, a, b, h => by
    obtain ⟨c, h1, h2⟩ := h
    obtain ⟨f, e0, en, ef⟩ := Pth_fn n c b h2
    refine ⟨fun i => match i with | 0 => a | i + 1 => f i, rfl, en, fun i hi => ?_⟩
    cases i with
    | zero => show E a (f 0); rw [e0]; exact h1
    | succ i => exact ef i (by omega)
theorem fn_Pth {E : Nat → Nat → Prop} (f : Nat → Nat) (N : Nat) (hf : ∀ i, i < N → E (f i) (f (i + 1))) : ∀ (k i : Nat), i + k ≤ N → Pth E k (f i) (f (i + k))
  | 0, i, _ => rfl
  | k + 1, i, h => ⟨f (i + 1), hf i (by omega), by rw [show i + (k + 1) = (i + 1) + k by omega]; exact fn_Pth f N hf k (i + 1) (by omega)⟩
theorem pig : ∀ (n : Nat) (f : Nat → Nat), (∀ i, i ≤ n → f i < n) → ∃ i j, i < j ∧ j ≤ n ∧ f i = f j
  | 0, f, h => absurd (h 0 (Nat.le_refl 0)) (Nat.not_lt_zero _)
  | n + 1, f, h => by
    by_cases hx : ∃ i, i ≤ n ∧ f i = f (n + 1)
    · obtain ⟨i, h1, h2⟩ := hx
      exact ⟨i, n + 1, by omega, Nat.le_refl _, h2⟩
    · have hv : ∀ i, i ≤ n → f i ≠ f (n + 1) := fun i hi e => hx ⟨i, hi, e⟩
      obtain ⟨i, j, h1, h2, h3⟩ := pig n (fun i => if f i = n then f (n + 1) else f i) (fun i hi => by
        show (if f i = n then f (n + 1) else f i) < n
        have a1 := h i (by omega)
        have a2 := h (n + 1) (Nat.le_refl _)
        have a3 := hv i hi
        split <;> omega)
      refine ⟨i, j, h1, by omega, ?_⟩
      have h3' : (if f i = n then f (n + 1) else f i) = (if f j = n then f (n + 1) else f j) := h3
      have b1 := hv i (by omega)
      have b2 := hv j h2
      split at h3' <;> split at h3' <;> omega
/-- a path as long as the events are many meets one twice -/
theorem Pth_long {E : Nat → Nat → Prop} {ne : Nat} (hb : ∀ a b, E a b → a < ne ∧ b < ne) {n a b : Nat} (h : Pth E n a b) (ha : a < ne) (hn : ne ≤ n) : ∃ c i k r, 0 < k ∧ i + k + r = n ∧ Pth E i a c ∧ Pth E k c c ∧ Pth E r c b := by
  obtain ⟨f, e0, en, ef⟩ := Pth_fn n a b h
  have hp := fn_Pth f n ef
  obtain ⟨i, j, h1, h2, h3⟩ := pig ne f (fun i hi => Pth_bnd hb i a (f i) (by have q := hp i 0 (by omega); rw [Nat.zero_add, e0] at q; exact q) ha)
  refine ⟨f i, i, j - i, n - j, by omega, by omega, ?_, ?_, ?_⟩
  · have q := hp i 0 (by omega); rw [Nat.zero_add, e0] at q; exact q
  · have q := hp (j - i) i (by omega); rw [show i + (j - i) = j by omega, ← h3] at q; exact q
  · have q := hp (n - j) j (by omega); rw [show j + (n - j) = n by omega, en, ← h3] at q; exact q
def Mn (E : Nat → Nat → Prop) (d x y : Nat) : Prop := Pth E d x y ∧ ∀ n, n < d → ¬ Pth E n x y
theorem Mn_lt {E : Nat → Nat → Prop} {ne : Nat} (hb : ∀ a b, E a b → a < ne ∧ b < ne) {n a b : Nat} (h : Mn E n a b) (ha : a < ne) : n < ne := by
  rcases Nat.lt_or_ge n ne with z | z
  · exact z
  · obtain ⟨c, i, k, r, h1, h2, h3, -, h5⟩ := Pth_long hb h.1 ha z
    exact absurd (Pth_cat i r a c b h3 h5) (h.2 (i + r) (by omega))
theorem Mn_of {E : Nat → Nat → Prop} {x y : Nat} : ∀ (n : Nat), Pth E n x y → ∃ d, d ≤ n ∧ Mn E d x y := by
  intro n
  induction n using Nat.strongRecOn with
  | _ n ih =>
    intro h
    by_cases hx : ∃ m, m < n ∧ Pth E m x y
    · obtain ⟨m, h1, h2⟩ := hx
      obtain ⟨d, h3, h4⟩ := ih m h1 h2
      exact ⟨d, by omega, h4⟩
    · exact ⟨n, Nat.le_refl n, h, fun m hm hp => hx ⟨m, hm, hp⟩⟩
theorem Mn_uq {E : Nat → Nat → Prop} {x y m n : Nat} (h1 : Mn E m x y) (h2 : Mn E n x y) : m = n := by
  rcases Nat.lt_trichotomy m n with z | z | z
  · exact absurd h1.1 (h2.2 m z)
  · exact z
  · exact absurd h2.1 (h1.2 n z)
theorem Mn_next {E : Nat → Nat → Prop} {n x y : Nat} (h : Mn E (n + 1) x y) : ∃ g, E x g ∧ Mn E n g y := by
  obtain ⟨⟨g, h1, h2⟩, h3⟩ := h
  exact ⟨g, h1, h2, fun m hm hp => h3 (m + 1) (by omega) ⟨g, h1, hp⟩⟩
theorem Mn_0 {E : Nat → Nat → Prop} (x : Nat) : Mn E 0 x x := ⟨rfl, fun _ h => absurd h (Nat.not_lt_zero _)⟩
/-- the value at x tells the way to the goal, if it is shorter than s -/
def Lv (E : Nat → Nat → Prop) (goal s x : Nat) (v : Int) : Prop := (v = -1 ∧ ∀ n, n < s → ¬ Pth E n x goal) ∨ ∃ d, d < s ∧ v = (d : Int) ∧ Mn E d x goal
def Ds (E : Nat → Nat → Prop) (goal x : Nat) (v : Int) : Prop := (v = -1 ∧ ∀ n, ¬ Pth E n x goal) ∨ ∃ d : Nat, v = (d : Int) ∧ Mn E d x goal
theorem Lv_up {E : Nat → Nat → Prop} {goal s x : Nat} {v : Int} (h : Lv E goal s x v) (hv : 0 ≤ v) : Lv E goal (s + 1) x v := by
  rcases h with ⟨h1, _⟩ | ⟨d, h1, h2, h3⟩
  · omega
  · exact Or.inr ⟨d, by omega, h2, h3⟩
theorem Lv_is {E : Nat → Nat → Prop} {goal s x : Nat} {v : Int} (h : Lv E goal (s + 1) x v) : v = (s : Int) ↔ Mn E s x goal := by
  rcases h with ⟨h1, h2⟩ | ⟨d, h1, h2, h3⟩
  · exact ⟨fun e => by omega, fun e => absurd e.1 (h2 s (by omega))⟩
  · refine ⟨fun e => ?_, fun e => ?_⟩
    · have : d = s := by omega
      rw [← this]; exact h3
    · rw [h2, Mn_uq h3 e]
theorem Lv_is2 {E : Nat → Nat → Prop} {goal s x : Nat} {v : Int} (h : Lv E goal (s + 2) x v) : v = (s : Int) ↔ Mn E s x goal := by
  rcases h with ⟨h1, h2⟩ | ⟨d, h1, h2, h3⟩
  · exact ⟨fun e => by omega, fun e => absurd e.1 (h2 s (by omega))⟩
  · refine ⟨fun e => ?_, fun e => ?_⟩
    · have : d = s := by omega
      rw [← this]; exact h3
    · rw [h2, Mn_uq h3 e]
/-- at an event not yet reached, a neighbour at the last step -/
theorem Lv_yes {E : Nat → Nat → Prop} {goal s x y : Nat} {v : Int} (h : Lv E goal (s + 1) x v) (hv : v < 0) (he : E x y) (hy : Mn E s y goal) : Lv E goal (s + 2) x ((s + 1 : Nat) : Int) := by
  rcases h with ⟨_, h2⟩ | ⟨d, _, h2, _⟩
  · exact Or.inr ⟨s + 1, by omega, rfl, ⟨y, he, hy.1⟩, h2⟩
  · omega
theorem Lv_no {E : Nat → Nat → Prop} {goal s x : Nat} {v : Int} (h : Lv E goal (s + 1) x v) (hn : v < 0 → ∀ y, E x y → ¬ Mn E s y goal) : Lv E goal (s + 2) x v := by
  rcases h with ⟨h1, h2⟩ | ⟨d, h1, h2, h3⟩
  · refine Or.inl ⟨h1, fun n hn' hp => ?_⟩
    rcases Nat.lt_succ_iff_lt_or_eq.mp hn' with z | z
    · exact h2 n z hp
    · subst z
      obtain ⟨y, e1, e2⟩ := hp
      exact hn (by omega) y e1 ⟨e2, fun m hm hq => h2 (m + 1) (by omega) ⟨y, e1, hq⟩⟩
  · exact Or.inr ⟨d, by omega, h2, h3⟩
theorem Lv_0 {E : Nat → Nat → Prop} {goal x : Nat} {v : Int} (hy : x = goal → v = 0) (hn : x ≠ goal → v = -1) : Lv E goal 1 x v := by
  by_cases e : x = goal
  · subst e; exact Or.inr ⟨0, by omega, hy rfl, Mn_0 x⟩
  · exact Or.inl ⟨hn e, fun n h1 h2 => by have : n = 0 := by omega
                                          subst this; exact e h2⟩
theorem Mn_down {E : Nat → Nat → Prop} {goal s : Nat} : ∀ (k x : Nat), Mn E (s + k) x goal → ∃ y, Mn E s y goal
  | 0, x, h => ⟨x, h⟩
  | k + 1, x, h => by obtain ⟨g, _, h2⟩ := Mn_next (n := s + k) h; exact Mn_down k g h2
theorem Lv_end {E : Nat → Nat → Prop} {goal s x : Nat} {v : Int} (h : Lv E goal (s + 1) x v) (hn : ∀ y, ¬ Mn E s y goal) : Ds E goal x v := by
  rcases h with ⟨h1, h2⟩ | ⟨d, h1, h2, h3⟩
  · refine Or.inl ⟨h1, fun n hp => ?_⟩
    obtain ⟨d, _, h4⟩ := Mn_of n hp
    rcases Nat.lt_or_ge d (s + 1) with z | z
    · exact h2 d z h4.1
    · obtain ⟨y, hy⟩ := Mn_down (s := s) (d - s) x (by rw [show s + (d - s) = d by omega]; exact h4)
      exact hn y hy
  · exact Or.inr ⟨d, h2, h3⟩
theorem Lv_all {E : Nat → Nat → Prop} {ne : Nat} (hb : ∀ a b, E a b → a < ne ∧ b < ne) {goal s x : Nat} {v : Int} (h : Lv E goal s x v) (hs : ne ≤ s) (hx : x < ne) : Ds E goal x v := by
  rcases h with ⟨h1, h2⟩ | ⟨d, h1, h2, h3⟩
  · refine Or.inl ⟨h1, fun n hp => ?_⟩
    obtain ⟨d, _, h4⟩ := Mn_of n hp
    exact h2 d (by have := Mn_lt hb h4 hx; omega) h4.1
  · exact Or.inr ⟨d, h2, h3⟩
theorem Ds_is {E : Nat → Nat → Prop} {goal x s : Nat} {v : Int} (h : Ds E goal x v) : v = (s : Int) ↔ Mn E s x goal := by
  rcases h with ⟨h1, h2⟩ | ⟨d, h2, h3⟩
  · exact ⟨fun e => by omega, fun e => absurd e.1 (h2 s)⟩
  · refine ⟨fun e => ?_, fun e => ?_⟩
    · have : d = s := by omega
      rw [← this]; exact h3
    · rw [h2, Mn_uq h3 e]
theorem Ds_ge {E : Nat → Nat → Prop} {goal x : Nat} {v : Int} (h : Ds E goal x v) (hv : 0 ≤ v) : ∃ d : Nat, v = (d : Int) ∧ Mn E d x goal := by
  rcases h with ⟨h1, _⟩ | h
  · omega
  · exact h
theorem Ds_pth {E : Nat → Nat → Prop} {goal x n : Nat} {v : Int} (h : Ds E goal x v) (hp : Pth E n x goal) : 0 ≤ v ∧ v ≤ (n : Int) := by
  rcases h with ⟨_, h2⟩ | ⟨d, h2, h3⟩
  · exact absurd hp (h2 n)
  · refine ⟨by omega, ?_⟩
    rcases Nat.lt_or_ge n d with z | z
    · exact absurd hp (h3.2 n z)
    · omega
