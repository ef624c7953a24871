/-! the two councils, pure -/
theorem cntB_rm (q : Nat → Bool) (j : Nat) : ∀ n, j < n → q j = true → cntB q n = cntB (fun x => q x && decide (x ≠ j)) n + 1
  | 0, hj, _ => absurd hj (Nat.not_lt_zero _)
  | n + 1, hj, hq => by
    show cntB q n + (if q n = true then 1 else 0) = cntB _ n + (if (q n && decide (n ≠ j)) = true then 1 else 0) + 1
    rcases Nat.lt_succ_iff_lt_or_eq.mp hj with z | z
    · rw [cntB_rm q j n z hq]
      have : n ≠ j := by omega
      simp [this]; omega
    · subst z
      have e := cntB_cg (P := fun x => q x && decide (x ≠ j)) (Q := q) j (fun x hx => by
        have : x ≠ j := by omega
        simp [this])
      rw [e]
      simp [hq]
/-- what has an image one by one is no more -/
theorem cnt_inj {α : Type} (val val' : Nat → α) (p : Nat → Bool) (n : Nat) : ∀ (s : Nat) (q : Nat → Bool), (∀ k, k < s → p k = true → ∃ k', k' < n ∧ q k' = true ∧ val' k' = val k) → (∀ a b, a < s → b < s → p a = true → p b = true → val a = val b → a = b) → cntB p s ≤ cntB q n
  | 0, _, _, _ => Nat.zero_le _
  | s + 1, q, h1, h2 => by
    show cntB p s + (if p s = true then 1 else 0) ≤ _
    by_cases hp : p s = true
    · obtain ⟨j, j1, j2, j3⟩ := h1 s (by omega) hp
      rw [cntB_rm q j n j1 j2, if_pos hp]
      have := cnt_inj val val' p n s (fun x => q x && decide (x ≠ j)) (fun k hk hpk => by
        obtain ⟨k', a1, a2, a3⟩ := h1 k (by omega) hpk
        refine ⟨k', a1, ?_, a3⟩
        have : k' ≠ j := fun e => by
          have e2 : val k = val s := by rw [← a3, ← j3, e]
          have := h2 k s (by omega) (by omega) hpk hp e2
          omega
        simp [a2, this]) (fun a b ha hb => h2 a b (by omega) (by omega))
      omega
    · rw [if_neg hp]
      exact cnt_inj val val' p n s q (fun k hk => h1 k (by omega)) (fun a b ha hb => h2 a b (by omega) (by omega))
/-- each row of the first stands in the second, and the numbers are all different -/
def PS (W1 : Nat → Int32) (L1 H1 : Nat → Int64) (s1 : Nat) (W2 : Nat → Int32) (L2 H2 : Nat → Int64) (s2 : Nat) : Prop := (∀ k, k < s1 → ∃ k', k' < s2 ∧ W2 k' = W1 k ∧ L2 k' = L1 k ∧ H2 k' = H1 k) ∧ (∀ a b, a < s1 → b < s1 → W1 a = W1 b → a = b)
def PM (W1 : Nat → Int32) (L1 H1 : Nat → Int64) (s1 : Nat) (W2 : Nat → Int32) (L2 H2 : Nat → Int64) (s2 : Nat) : Prop := PS W1 L1 H1 s1 W2 L2 H2 s2 ∧ PS W2 L2 H2 s2 W1 L1 H1 s1
theorem hvN_cnt (L H : Nat → Int64) (t : Int64) : ∀ n, hvN L H t n = cntB (fun k => decide ((L k).toInt ≤ t.toInt) && decide (t.toInt ≤ (H k).toInt)) n
  | 0 => rfl
  | n + 1 => by
    show hvN L H t n + (if _ then 1 else 0) = cntB _ n + (if _ then 1 else 0)
    rw [hvN_cnt L H t n]
    simp only [i64_le, Bool.and_eq_true, decide_eq_true_eq]
def VI (L H : Nat → Int64) (s : Nat) (t : Int) : Nat := cntB (fun k => decide ((L k).toInt ≤ t) && decide (t ≤ (H k).toInt)) s
theorem VI_le (L H : Nat → Int64) (s : Nat) (t : Int) : VI L H s t ≤ s := cntB_le _ s
theorem PS_len {W1 : Nat → Int32} {L1 H1 : Nat → Int64} {s1 : Nat} {W2 : Nat → Int32} {L2 H2 : Nat → Int64} {s2 : Nat} (h : PS W1 L1 H1 s1 W2 L2 H2 s2) : s1 ≤ s2 := by
  have ct : ∀ n, cntB (fun _ => true) n = n := fun n => by induction n with
    | zero => rfl
    | succ n ih => show cntB _ n + 1 = n + 1; rw [ih]
  have := cnt_inj W1 W2 (fun _ => true) s2 s1 (fun _ => true) (fun k hk _ => by obtain ⟨k', a, b, _⟩ := h.1 k hk; exact ⟨k', a, rfl, b⟩) (fun a b ha hb _ _ e => h.2 a b ha hb e)
  rw [ct, ct] at this
  exact this
theorem PM_len {W1 : Nat → Int32} {L1 H1 : Nat → Int64} {s1 : Nat} {W2 : Nat → Int32} {L2 H2 : Nat → Int64} {s2 : Nat} (h : PM W1 L1 H1 s1 W2 L2 H2 s2) : s1 = s2 := Nat.le_antisymm (PS_len h.1) (PS_len h.2)
theorem PS_VI {W1 : Nat → Int32} {L1 H1 : Nat → Int64} {s1 : Nat} {W2 : Nat → Int32} {L2 H2 : Nat → Int64} {s2 : Nat} (h : PS W1 L1 H1 s1 W2 L2 H2 s2) (t : Int) : VI L1 H1 s1 t ≤ VI L2 H2 s2 t :=
  cnt_inj W1 W2 _ s2 s1 _ (fun k hk hp => by
    obtain ⟨k', a, b, c, d⟩ := h.1 k hk
    exact ⟨k', a, by show (decide ((L2 k').toInt ≤ t) && decide (t ≤ (H2 k').toInt)) = true; rw [c, d]; exact hp, b⟩) (fun a b ha hb _ _ e => h.2 a b ha hb e)
theorem PM_VI {W1 : Nat → Int32} {L1 H1 : Nat → Int64} {s1 : Nat} {W2 : Nat → Int32} {L2 H2 : Nat → Int64} {s2 : Nat} (h : PM W1 L1 H1 s1 W2 L2 H2 s2) (t : Int) : VI L1 H1 s1 t = VI L2 H2 s2 t := Nat.le_antisymm (PS_VI h.1 t) (PS_VI h.2 t)
/-- the values stay far from the edges -/
def Bw (L H : Nat → Int64) (s : Nat) : Prop := ∀ k, k < s → -4611686018427387904 ≤ (L k).toInt ∧ (L k).toInt ≤ 4611686018427387904 ∧ -4611686018427387904 ≤ (H k).toInt ∧ (H k).toInt ≤ 4611686018427387904
theorem nd_le {s d v : Nat} (hs : s ≤ 10) (hd : d ≤ s) (hv : v ≤ s) : nI d ≤ nI v ↔ d ≤ v := by
  rw [Int32.le_iff_toInt_le, nIt (by omega), nIt (by omega)]; omega
theorem nd_lt {s d v : Nat} (hs : s ≤ 10) (hd : d ≤ s) (hv : v ≤ s) : nI v < nI d ↔ v < d := by
  rw [Int32.lt_iff_toInt_lt, nIt (by omega), nIt (by omega)]; omega
/-- the least and the greatest of a set -/
def CS (A : Int → Prop) (lo hi : Int) : Prop := A lo ∧ A hi ∧ ∀ t, A t → lo ≤ t ∧ t ≤ hi
theorem CS_uq {A : Int → Prop} {a b c d : Int} (h1 : CS A a b) (h2 : CS A c d) : a = c ∧ b = d := by
  have := h1.2.2 c h2.1
  have := h1.2.2 d h2.2.1
  have := h2.2.2 a h1.1
  have := h2.2.2 b h1.2.1
  exact ⟨by omega, by omega⟩
theorem VI_in {L H : Nat → Int64} {t : Int} : ∀ {s : Nat}, 0 < VI L H s t → ∃ k, k < s ∧ (L k).toInt ≤ t ∧ t ≤ (H k).toInt
  | 0, h => absurd h (Nat.lt_irrefl 0)
  | s + 1, h => by
    have h' : 0 < VI L H s t + (if (decide ((L s).toInt ≤ t) && decide (t ≤ (H s).toInt)) = true then 1 else 0) := h
    split at h'
    · rename_i q; simp only [Bool.and_eq_true, decide_eq_true_eq] at q; exact ⟨s, by omega, q.1, q.2⟩
    · obtain ⟨k, a, b⟩ := VI_in (s := s) h'; exact ⟨k, by omega, b⟩
theorem VI_cg {L H : Nat → Int64} {s : Nat} {t u : Int} (h : ∀ k, k < s → (((L k).toInt ≤ t ↔ (L k).toInt ≤ u) ∧ (t ≤ (H k).toInt ↔ u ≤ (H k).toInt))) : VI L H s t = VI L H s u := by
  unfold VI
  refine cntB_cg s (fun k hk => ?_)
  simp only [(h k hk).1, (h k hk).2]
theorem VI_mono {L H : Nat → Int64} {s : Nat} {t u : Int} (h : ∀ k, k < s → (L k).toInt ≤ t → t ≤ (H k).toInt → (L k).toInt ≤ u ∧ u ≤ (H k).toInt) : VI L H s t ≤ VI L H s u :=
  cnt_inj (fun k => k) (fun k => k) _ s s _ (fun k hk hp => by
    simp only [Bool.and_eq_true, decide_eq_true_eq] at hp
    have := h k hk hp.1 hp.2
    exact ⟨k, hk, by simp [this], rfl⟩) (fun a b _ _ _ _ e => e)
/-- where there are more than one tick before, a span begins -/
theorem VI_beg {L H : Nat → Int64} {s : Nat} {t : Int} (h : VI L H s (t - 1) < VI L H s t) : ∃ k, k < s ∧ (L k).toInt = t := by
  apply Classical.byContradiction
  intro hn
  have : VI L H s t ≤ VI L H s (t - 1) := VI_mono (fun k hk h1 h2 => by
    have : (L k).toInt ≠ t := fun e => hn ⟨k, hk, e⟩
    omega)
  omega
theorem VI_end {L H : Nat → Int64} {s : Nat} {t : Int} (h : VI L H s (t + 1) < VI L H s t) : ∃ k, k < s ∧ (H k).toInt = t := by
  apply Classical.byContradiction
  intro hn
  have : VI L H s t ≤ VI L H s (t + 1) := VI_mono (fun k hk h1 h2 => by
    have : (H k).toInt ≠ t := fun e => hn ⟨k, hk, e⟩
    omega)
  omega
/-- the class's least -/
theorem lsN_sp {L H : Nat → Int64} {s d : Nat} (hs : s ≤ 10) (hd : d ≤ s) (hB : Bw L H s) : ∀ n, n ≤ s → (lsN L H s (nI d) n = NOv ∧ ∀ k, k < n → ¬ d ≤ VI L H s (L k).toInt) ∨ (¬ lsN L H s (nI d) n = NOv ∧ ∃ k, k < n ∧ lsN L H s (nI d) n = L k ∧ d ≤ VI L H s (L k).toInt ∧ ∀ k', k' < n → d ≤ VI L H s (L k').toInt → (L k).toInt ≤ (L k').toInt)
  | 0, _ => Or.inl ⟨rfl, fun _ h => absurd h (Nat.not_lt_zero _)⟩
  | n + 1, hn => by
    have ih := lsN_sp hs hd hB n (by omega)
    have hc : (nI d ≤ nI (hvN L H (L n) s)) ↔ d ≤ VI L H s (L n).toInt := by rw [hvN_cnt]; exact nd_le hs hd (VI_le _ _ _ _)
    have hno : ¬ L n = NOv := fun e => by have := hB n (by omega); rw [e] at this; exact absurd this.1 (by decide)
    show _ ∨ _
    simp only [lsN]
    by_cases hA : d ≤ VI L H s (L n).toInt
    · rcases ih with ⟨i1, i2⟩ | ⟨i0, k, i1, i2, i3, i4⟩
      · rw [if_pos ⟨hc.mpr hA, Or.inl i1⟩]
        exact Or.inr ⟨hno, n, by omega, rfl, hA, fun k' hk' hA' => by
          rcases Nat.lt_succ_iff_lt_or_eq.mp hk' with z | z
          · exact absurd hA' (i2 k' z)
          · subst z; exact Int.le_refl _⟩
      · by_cases hl : L n < lsN L H s (nI d) n
        · rw [if_pos ⟨hc.mpr hA, Or.inr hl⟩]
          rw [i2, i64_lt] at hl
          exact Or.inr ⟨hno, n, by omega, rfl, hA, fun k' hk' hA' => by
            rcases Nat.lt_succ_iff_lt_or_eq.mp hk' with z | z
            · have := i4 k' z hA'; omega
            · subst z; exact Int.le_refl _⟩
        · rw [if_neg (by simp only [hl, or_false]; intro z; exact i0 z.2)]
          rw [i2, i64_lt] at hl
          exact Or.inr ⟨i0, k, by omega, i2, i3, fun k' hk' hA' => by
            rcases Nat.lt_succ_iff_lt_or_eq.mp hk' with z | z
            · exact i4 k' z hA'
            · subst z; omega⟩
    · rw [if_neg (fun z => hA (hc.mp z.1))]
      rcases ih with ⟨i1, i2⟩ | ⟨i0, k, i1, i2, i3, i4⟩
      · exact Or.inl ⟨i1, fun k' hk' => by
          rcases Nat.lt_succ_iff_lt_or_eq.mp hk' with z | z
          · exact i2 k' z
          · subst z; exact hA⟩
      · exact Or.inr ⟨i0, k, by omega, i2, i3, fun k' hk' hA' => by
          rcases Nat.lt_succ_iff_lt_or_eq.mp hk' with z | z
          · exact i4 k' z hA'
          · subst z; exact absurd hA' hA⟩
theorem grN_sp {L H : Nat → Int64} {s d : Nat} (hs : s ≤ 10) (hd : d ≤ s) (hB : Bw L H s) : ∀ n, n ≤ s → (grN L H s (nI d) n = NOv ∧ ∀ k, k < n → ¬ d ≤ VI L H s (H k).toInt) ∨ (¬ grN L H s (nI d) n = NOv ∧ ∃ k, k < n ∧ grN L H s (nI d) n = H k ∧ d ≤ VI L H s (H k).toInt ∧ ∀ k', k' < n → d ≤ VI L H s (H k').toInt → (H k').toInt ≤ (H k).toInt)
  | 0, _ => Or.inl ⟨rfl, fun _ h => absurd h (Nat.not_lt_zero _)⟩
  | n + 1, hn => by
    have ih := grN_sp hs hd hB n (by omega)
    have hc : (nI d ≤ nI (hvN L H (H n) s)) ↔ d ≤ VI L H s (H n).toInt := by rw [hvN_cnt]; exact nd_le hs hd (VI_le _ _ _ _)
    have hno : ¬ H n = NOv := fun e => by have := hB n (by omega); rw [e] at this; exact absurd this.2.2.1 (by decide)
    show _ ∨ _
    simp only [grN]
    by_cases hA : d ≤ VI L H s (H n).toInt
    · rcases ih with ⟨i1, i2⟩ | ⟨i0, k, i1, i2, i3, i4⟩
      · rw [if_pos ⟨hc.mpr hA, Or.inl i1⟩]
        exact Or.inr ⟨hno, n, by omega, rfl, hA, fun k' hk' hA' => by
          rcases Nat.lt_succ_iff_lt_or_eq.mp hk' with z | z
          · exact absurd hA' (i2 k' z)
          · subst z; exact Int.le_refl _⟩
      · by_cases hl : grN L H s (nI d) n < H n
        · rw [if_pos ⟨hc.mpr hA, Or.inr hl⟩]
          rw [i2, i64_lt] at hl
          exact Or.inr ⟨hno, n, by omega, rfl, hA, fun k' hk' hA' => by
            rcases Nat.lt_succ_iff_lt_or_eq.mp hk' with z | z
            · have := i4 k' z hA'; omega
            · subst z; exact Int.le_refl _⟩
        · rw [if_neg (by simp only [hl, or_false]; intro z; exact i0 z.2)]
          rw [i2, i64_lt] at hl
          exact Or.inr ⟨i0, k, by omega, i2, i3, fun k' hk' hA' => by
            rcases Nat.lt_succ_iff_lt_or_eq.mp hk' with z | z
            · exact i4 k' z hA'
            · subst z; omega⟩
    · rw [if_neg (fun z => hA (hc.mp z.1))]
      rcases ih with ⟨i1, i2⟩ | ⟨i0, k, i1, i2, i3, i4⟩
      · exact Or.inl ⟨i1, fun k' hk' => by
          rcases Nat.lt_succ_iff_lt_or_eq.mp hk' with z | z
          · exact i2 k' z
          · subst z; exact hA⟩
      · exact Or.inr ⟨i0, k, by omega, i2, i3, fun k' hk' hA' => by
          rcases Nat.lt_succ_iff_lt_or_eq.mp hk' with z | z
          · exact i4 k' z hA'
          · subst z; exact absurd hA' hA⟩
/-- going down from a time with so many, a span begins that has so many -/
theorem VI_down {L H : Nat → Int64} {s d : Nat} (hd : 1 ≤ d) : ∀ (m : Nat) (t : Int), d ≤ VI L H s t → (∀ k, k < s → t - m < (L k).toInt) → ∃ k, k < s ∧ (L k).toInt ≤ t ∧ d ≤ VI L H s (L k).toInt
  | 0, t, h1, h2 => by
    obtain ⟨k, a, b, _⟩ := VI_in (show 0 < VI L H s t by omega)
    have := h2 k a
    omega
  | m + 1, t, h1, h2 => by
    by_cases h : d ≤ VI L H s (t - 1)
    · obtain ⟨k, a, b, c⟩ := VI_down hd m (t - 1) h (fun k hk => by have := h2 k hk; omega)
      exact ⟨k, a, by omega, c⟩
    · obtain ⟨k, a, b⟩ := VI_beg (L := L) (H := H) (s := s) (t := t) (by omega)
      exact ⟨k, a, by omega, by rw [b]; exact h1⟩
theorem VI_up {L H : Nat → Int64} {s d : Nat} (hd : 1 ≤ d) : ∀ (m : Nat) (t : Int), d ≤ VI L H s t → (∀ k, k < s → (H k).toInt < t + m) → ∃ k, k < s ∧ t ≤ (H k).toInt ∧ d ≤ VI L H s (H k).toInt
  | 0, t, h1, h2 => by
    obtain ⟨k, a, _, b⟩ := VI_in (show 0 < VI L H s t by omega)
    have := h2 k a
    omega
  | m + 1, t, h1, h2 => by
    by_cases h : d ≤ VI L H s (t + 1)
    · obtain ⟨k, a, b, c⟩ := VI_up hd m (t + 1) h (fun k hk => by have := h2 k hk; omega)
      exact ⟨k, a, by omega, c⟩
    · obtain ⟨k, a, b⟩ := VI_end (L := L) (H := H) (s := s) (t := t) (by omega)
      exact ⟨k, a, by omega, by rw [b]; exact h1⟩
theorem VI_rng {L H : Nat → Int64} {s d : Nat} (hd : 1 ≤ d) (hB : Bw L H s) {t : Int} (h : d ≤ VI L H s t) : -4611686018427387904 ≤ t ∧ t ≤ 4611686018427387904 := by
  obtain ⟨k, a, b, c⟩ := VI_in (show 0 < VI L H s t by omega)
  have := hB k a
  omega
def Ad (L H : Nat → Int64) (s d : Nat) (t : Int) : Prop := d ≤ VI L H s t
theorem lo_sp {L H : Nat → Int64} {s d : Nat} (hd : 1 ≤ d) (hB : Bw L H s) {t : Int} (h : Ad L H s d t) : ∃ k, k < s ∧ (L k).toInt ≤ t ∧ Ad L H s d (L k).toInt :=
  VI_down hd (t + 4611686018427387905).toNat t h (fun k hk => by have := hB k hk; have := VI_rng hd hB h; omega)
theorem hi_sp {L H : Nat → Int64} {s d : Nat} (hd : 1 ≤ d) (hB : Bw L H s) {t : Int} (h : Ad L H s d t) : ∃ k, k < s ∧ t ≤ (H k).toInt ∧ Ad L H s d (H k).toInt :=
  VI_up hd (4611686018427387905 - t).toNat t h (fun k hk => by have := hB k hk; have := VI_rng hd hB h; omega)
/-- the class's answer -/
theorem cls_sp {L H : Nat → Int64} {s d : Nat} (hs : s ≤ 10) (h1 : 1 ≤ d) (hd : d ≤ s) (hB : Bw L H s) : (lsN L H s (nI d) s = NOv ∧ grN L H s (nI d) s = NOv ∧ ∀ t, ¬ Ad L H s d t) ∨ (¬ lsN L H s (nI d) s = NOv ∧ ¬ grN L H s (nI d) s = NOv ∧ CS (Ad L H s d) (lsN L H s (nI d) s).toInt (grN L H s (nI d) s).toInt) := by
  rcases lsN_sp hs hd hB s (Nat.le_refl s) with ⟨a1, a2⟩ | ⟨a0, k, a1, a2, a3, a4⟩
  · have hn : ∀ t, ¬ Ad L H s d t := fun t ht => by
      obtain ⟨k, b1, b2, b3⟩ := lo_sp h1 hB ht
      exact a2 k b1 b3
    rcases grN_sp hs hd hB s (Nat.le_refl s) with ⟨b1, _⟩ | ⟨_, k, _, _, b3, _⟩
    · exact Or.inl ⟨a1, b1, hn⟩
    · exact absurd b3 (hn _)
  · rcases grN_sp hs hd hB s (Nat.le_refl s) with ⟨b1, b2⟩ | ⟨b0, q, b1, b2, b3, b4⟩
    · obtain ⟨q, c1, _, c3⟩ := hi_sp h1 hB a3
      exact absurd c3 (b2 q c1)
    · refine Or.inr ⟨a0, b0, by rw [a2]; exact a3, by rw [b2]; exact b3, fun t ht => ?_⟩
      obtain ⟨k', c1, c2, c3⟩ := lo_sp h1 hB ht
      obtain ⟨q', e1, e2, e3⟩ := hi_sp h1 hB ht
      have := a4 k' c1 c3
      have := b4 q' e1 e3
      rw [a2, b2]
      omega
/-! the sweep, pure -/
theorem Pts_adj {L H : Nat → Int64} {s : Nat} {P : Nat → Int64} (hP : Pts L H s P (2 * s)) {k : Nat} (hk : k + 1 < 2 * s) {q : Nat} (hq : q < 2 * s) : (vlP L H s q).toInt ≤ (P k).toInt ∨ (P (k + 1)).toInt ≤ (vlP L H s q).toInt := by
  obtain ⟨a, a1, a2⟩ := hP.2.2 q hq
  rw [← a2]
  rcases Nat.lt_trichotomy a (k + 1) with z | z | z
  · rcases Nat.lt_succ_iff_lt_or_eq.mp z with y | y
    · exact Or.inl ((i64_le _ _).mp (hP.1 a k y (by omega)))
    · subst y; exact Or.inl (Int.le_refl _)
  · subst z; exact Or.inr (Int.le_refl _)
  · exact Or.inr ((i64_le _ _).mp (hP.1 (k + 1) a z a1))
theorem vlP_lo {L H : Nat → Int64} {s k : Nat} (hk : k < s) : vlP L H s k = L k := if_pos hk
theorem vlP_hi {L H : Nat → Int64} {s k : Nat} (hB : Bw L H s) (hk : k < s) : (vlP L H s (s + k)).toInt = (H k).toInt + 1 := by
  have e : vlP L H s (s + k) = H (s + k - s) + 1 := if_neg (by omega)
  rw [e, show s + k - s = k by omega]
  exact L_add1 (by have := hB k hk; omega)
/-- between two points that follow each other nothing changes -/
theorem VI_gap {L H : Nat → Int64} {s : Nat} {P : Nat → Int64} (hB : Bw L H s) (hP : Pts L H s P (2 * s)) {k : Nat} (hk : k + 1 < 2 * s) {t : Int} (h1 : (P k).toInt ≤ t) (h2 : t < (P (k + 1)).toInt) : VI L H s t = VI L H s (P k).toInt := by
  refine VI_cg (fun j hj => ?_)
  have a := Pts_adj hP hk (q := j) (by omega)
  have b := Pts_adj hP hk (q := s + j) (by omega)
  rw [vlP_lo hj] at a
  rw [vlP_hi hB hj] at b
  omega
theorem VI_out {L H : Nat → Int64} {s d : Nat} {P : Nat → Int64} (hd : 1 ≤ d) (hB : Bw L H s) (hP : Pts L H s P (2 * s)) {t : Int} (h : Ad L H s d t) : (P 0).toInt ≤ t ∧ t < (P (2 * s - 1)).toInt := by
  obtain ⟨k, a, b, c⟩ := VI_in (show 0 < VI L H s t from Nat.lt_of_lt_of_le hd h)
  obtain ⟨x, x1, x2⟩ := hP.2.2 k (by omega)
  obtain ⟨y, y1, y2⟩ := hP.2.2 (s + k) (by omega)
  rw [vlP_lo a] at x2
  have y3 := vlP_hi hB a
  rw [← y2] at y3
  rw [← x2] at b
  constructor
  · have : (P 0).toInt ≤ (P x).toInt := by
      rcases Nat.eq_zero_or_pos x with z | z
      · rw [z]; exact Int.le_refl _
      · exact (i64_le _ _).mp (hP.1 0 x z x1)
    omega
  · have : (P y).toInt ≤ (P (2 * s - 1)).toInt := by
      rcases Nat.lt_or_ge y (2 * s - 1) with z | z
      · exact (i64_le _ _).mp (hP.1 y _ z (by omega))
      · have : y = 2 * s - 1 := by omega
        rw [this]; exact Int.le_refl _
    omega
theorem Pts_b {L H : Nat → Int64} {s : Nat} {P : Nat → Int64} (hB : Bw L H s) (hP : Pts L H s P (2 * s)) {k : Nat} (hk : k < 2 * s) : -4611686018427387904 ≤ (P k).toInt ∧ (P k).toInt ≤ 4611686018427387905 := by
  obtain ⟨q, q1, q2⟩ := hP.2.1 k hk
  rw [q2]
  rcases Nat.lt_or_ge q s with z | z
  · rw [vlP_lo z]; have := hB q z; omega
  · obtain ⟨j, rfl⟩ : ∃ j, q = s + j := ⟨q - s, by omega⟩
    have := vlP_hi hB (show j < s by omega)
    have := hB j (by omega)
    omega
/-- where a piece begins -/
noncomputable def bgn (L H : Nat → Int64) (s d : Nat) (P : Nat → Int64) (k : Nat) : Bool := @decide ((P k).toInt < (P (k + 1)).toInt ∧ Ad L H s d (P k).toInt ∧ ¬ Ad L H s d ((P k).toInt - 1)) (Classical.propDecidable _)
theorem bgn_iff {L H : Nat → Int64} {s d : Nat} {P : Nat → Int64} {k : Nat} : bgn L H s d P k = true ↔ ((P k).toInt < (P (k + 1)).toInt ∧ Ad L H s d (P k).toInt ∧ ¬ Ad L H s d ((P k).toInt - 1)) := @decide_eq_true_iff _ (Classical.propDecidable _)
theorem swp_sp {L H : Nat → Int64} {s d : Nat} {P : Nat → Int64} {c0 c1 : Int64} (hs : s ≤ 10) (h1 : 1 ≤ d) (hd : d ≤ s) (hB : Bw L H s) (hP : Pts L H s P (2 * s)) : ∀ k, k < 2 * s → ∀ r, r = swp P (fun t => hvN L H t s) (nI d) c0 c1 k → r.1 = cntB (bgn L H s d P) k ∧ (r.2.1 = 0 ∧ ¬ Ad L H s d ((P k).toInt - 1) ∨ r.2.1 = 1 ∧ Ad L H s d ((P k).toInt - 1)) ∧ ((r.1 = 0 ∧ ∀ t, t < (P k).toInt → ¬ Ad L H s d t) ∨ (¬ r.1 = 0 ∧ (Ad L H s d r.2.2.1.toInt ∧ r.2.2.1.toInt < (P k).toInt) ∧ Ad L H s d r.2.2.2.toInt ∧ ∀ t, t < (P k).toInt → Ad L H s d t → r.2.2.1.toInt ≤ t ∧ t ≤ r.2.2.2.toInt))
  | 0, _, r, hr => by
    subst hr
    refine ⟨rfl, Or.inl ⟨rfl, fun h => ?_⟩, Or.inl ⟨rfl, fun t ht h => ?_⟩⟩
    · have := (VI_out h1 hB hP h).1; omega
    · have := (VI_out h1 hB hP h).1; omega
  | k + 1, hk, r, hr => by
    obtain ⟨i1, i2, i3⟩ := swp_sp (c0 := c0) (c1 := c1) hs h1 hd hB hP k (by omega) _ rfl
    have hle : (P k).toInt ≤ (P (k + 1)).toInt := (i64_le _ _).mp (hP.1 k (k + 1) (by omega) hk)
    have hv : (nI d ≤ nI (hvN L H (P k) s)) ↔ Ad L H s d (P k).toInt := by rw [hvN_cnt]; exact nd_le hs hd (VI_le _ _ _ _)
    have hb1 : (P (k + 1) - 1).toInt = (P (k + 1)).toInt - 1 := L_sub1 (by have := Pts_b hB hP hk; omega)
    rw [swp] at hr
    generalize swp P (fun t => hvN L H t s) (nI d) c0 c1 k = r0 at hr i1 i2 i3
    obtain ⟨r1, r2, r3, r4⟩ := r0
    dsimp only at hr i1 i2 i3
    rw [show cntB (bgn L H s d P) (k + 1) = cntB (bgn L H s d P) k + (if bgn L H s d P k = true then 1 else 0) from rfl]
    by_cases hlt : (P k).toInt < (P (k + 1)).toInt
    · rw [if_pos ((i64_lt _ _).mpr hlt)] at hr
      have hg : ∀ t, (P k).toInt ≤ t → t < (P (k + 1)).toInt → (Ad L H s d t ↔ Ad L H s d (P k).toInt) := fun t a b => by unfold Ad; rw [VI_gap hB hP hk a b]
      by_cases hA : Ad L H s d (P k).toInt
      · rw [if_pos (hv.mpr hA)] at hr
        subst hr
        dsimp only
        have hA2 : Ad L H s d ((P (k + 1)).toInt - 1) := (hg _ (by omega) (by omega)).mpr hA
        rw [hb1]
        have hp : r1 + (if r2 = 0 then 1 else 0) = cntB (bgn L H s d P) k + (if bgn L H s d P k = true then 1 else 0) := by
          rw [i1]
          rcases i2 with ⟨j1, j2⟩ | ⟨j1, j2⟩
          · rw [if_pos j1, if_pos (bgn_iff.mpr ⟨hlt, hA, j2⟩)]
          · rw [if_neg (by rw [j1]; decide), if_neg (fun z => (bgn_iff.mp z).2.2 j2)]
        have hn : ¬ r1 + (if r2 = 0 then 1 else 0) = 0 := by
          rcases i2 with ⟨j1, j2⟩ | ⟨j1, j2⟩
          · rw [if_pos j1]; omega
          · rcases i3 with ⟨_, z⟩ | ⟨z, _⟩
            · exact absurd j2 (z _ (by omega))
            · omega
        refine ⟨hp, Or.inr ⟨rfl, hA2⟩, Or.inr ⟨hn, ?_, hA2, fun t ht hAt => ?_⟩⟩
        · rcases i3 with ⟨z, _⟩ | ⟨z, z2, _⟩
          · rw [if_pos z]; exact ⟨hA, hlt⟩
          · rw [if_neg z]; exact ⟨z2.1, by omega⟩
        · refine ⟨?_, by omega⟩
          rcases i3 with ⟨z, z2⟩ | ⟨z, z2, z3, z4⟩
          · rw [if_pos z]
            rcases Int.lt_or_le t (P k).toInt with y | y
            · exact absurd hAt (z2 t y)
            · exact y
          · rw [if_neg z]
            rcases Int.lt_or_le t (P k).toInt with y | y
            · exact (z4 t y hAt).1
            · have := z2.2; omega
      · rw [if_neg (fun z => hA (hv.mp z))] at hr
        subst hr
        dsimp only
        have hA2 : ¬ Ad L H s d ((P (k + 1)).toInt - 1) := fun z => hA ((hg _ (by omega) (by omega)).mp z)
        refine ⟨?_, Or.inl ⟨rfl, hA2⟩, ?_⟩
        · rw [if_neg (fun z => hA (bgn_iff.mp z).2.1)]
          exact i1
        · rcases i3 with ⟨z, z2⟩ | ⟨z, z2, z3, z4⟩
          · refine Or.inl ⟨z, fun t ht hAt => ?_⟩
            rcases Int.lt_or_le t (P k).toInt with y | y
            · exact z2 t y hAt
            · exact hA ((hg t y ht).mp hAt)
          · refine Or.inr ⟨z, ⟨z2.1, by have := z2.2; omega⟩, z3, fun t ht hAt => ?_⟩
            rcases Int.lt_or_le t (P k).toInt with y | y
            · exact z4 t y hAt
            · exact absurd ((hg t y ht).mp hAt) hA
    · rw [if_neg (fun z => hlt ((i64_lt _ _).mp z))] at hr
      subst hr
      have e : (P (k + 1)).toInt = (P k).toInt := by omega
      rw [e, if_neg (fun z => hlt (bgn_iff.mp z).1)]
      exact ⟨i1, i2, i3⟩

theorem swp_cs {L H : Nat → Int64} {s d : Nat} {P : Nat → Int64} {c0 c1 : Int64} (hs : s ≤ 10) (h1 : 1 ≤ d) (hd : d ≤ s) (hB : Bw L H s) (hP : Pts L H s P (2 * s)) {r : Nat × Int32 × Int64 × Int64} (hr : r = swp P (fun t => hvN L H t s) (nI d) c0 c1 (2 * s - 1)) : r.1 = cntB (bgn L H s d P) (2 * s - 1) ∧ ((r.1 = 0 ∧ ∀ t, ¬ Ad L H s d t) ∨ (¬ r.1 = 0 ∧ CS (Ad L H s d) r.2.2.1.toInt r.2.2.2.toInt)) := by
  obtain ⟨a, _, c⟩ := swp_sp hs h1 hd hB hP (2 * s - 1) (by omega) r hr
  refine ⟨a, ?_⟩
  rcases c with ⟨c1, c2⟩ | ⟨c1, c2, c3, c4⟩
  · exact Or.inl ⟨c1, fun t ht => c2 t (VI_out h1 hB hP ht).2 ht⟩
  · exact Or.inr ⟨c1, c2.1, c3, fun t ht => c4 t (VI_out h1 hB hP ht).2 ht⟩
noncomputable def bgc (L H : Nat → Int64) (s d : Nat) (k : Nat) : Bool := @decide (Ad L H s d (L k).toInt ∧ ¬ Ad L H s d ((L k).toInt - 1) ∧ ¬ ∃ j, j < k ∧ L j = L k) (Classical.propDecidable _)
theorem bgc_iff {L H : Nat → Int64} {s d : Nat} {k : Nat} : bgc L H s d k = true ↔ (Ad L H s d (L k).toInt ∧ ¬ Ad L H s d ((L k).toInt - 1) ∧ ¬ ∃ j, j < k ∧ L j = L k) := @decide_eq_true_iff _ (Classical.propDecidable _)
theorem pcN_cnt {L H : Nat → Int64} {s d : Nat} (hs : s ≤ 10) (hd : d ≤ s) (hB : Bw L H s) : ∀ n, n ≤ s → pcN L H s (nI d) n = cntB (bgc L H s d) n
  | 0, _ => rfl
  | n + 1, hn => by
    have ih := pcN_cnt hs hd hB n (by omega)
    have h1 : (nI d ≤ nI (hvN L H (L n) s)) ↔ Ad L H s d (L n).toInt := by rw [hvN_cnt]; exact nd_le hs hd (VI_le _ _ _ _)
    have h2 : (nI (hvN L H (L n - 1) s) < nI d) ↔ ¬ Ad L H s d ((L n).toInt - 1) := by
      have e : (L n - 1).toInt = (L n).toInt - 1 := L_sub1 (by have := hB n (by omega); omega)
      rw [hvN_cnt, nd_lt hs hd (cntB_le _ _), e]
      exact (Nat.not_le).symm
    show pcN L H s (nI d) n + (@ite Nat _ (Classical.propDecidable _) 1 0) = cntB _ n + (if _ then 1 else 0)
    rw [ih]
    by_cases q : bgc L H s d n = true
    · rw [if_pos q, if_pos ⟨h1.mpr (bgc_iff.mp q).1, h2.mpr (bgc_iff.mp q).2.1, (bgc_iff.mp q).2.2⟩]
    · rw [if_neg q, if_neg (fun z => q (bgc_iff.mpr ⟨h1.mp z.1, h2.mp z.2.1, z.2.2⟩))]
theorem first_of {p : Nat → Prop} : ∀ k, p k → ∃ j, j ≤ k ∧ p j ∧ ∀ i, i < j → ¬ p i := by
  intro k
  induction k using Nat.strongRecOn with
  | _ k ih =>
    intro h
    by_cases hx : ∃ m, m < k ∧ p m
    · obtain ⟨m, h1, h2⟩ := hx
      obtain ⟨j, h3, h4⟩ := ih m h1 h2
      exact ⟨j, by omega, h4⟩
    · exact ⟨k, Nat.le_refl k, h, fun i hi hp => hx ⟨i, hi, hp⟩⟩
theorem last_of {p : Nat → Prop} {n : Nat} : ∀ (m k : Nat), k + m = n → p k → ∃ j, k ≤ j ∧ j ≤ n ∧ p j ∧ (j = n ∨ ¬ p (j + 1))
  | 0, k, e, h => ⟨k, Nat.le_refl k, by omega, h, Or.inl (by omega)⟩
  | m + 1, k, e, h => by
    by_cases hx : p (k + 1)
    · obtain ⟨j, h1, h2⟩ := last_of (n := n) m (k + 1) (by omega) hx
      exact ⟨j, by omega, h2⟩
    · exact ⟨k, Nat.le_refl k, by omega, h, Or.inr hx⟩
/-- the pieces are as many on both sides -/
theorem pieces_eq {L H : Nat → Int64} {s d : Nat} {P : Nat → Int64} (hs1 : 1 ≤ s) (h1 : 1 ≤ d) (hB : Bw L H s) (hP : Pts L H s P (2 * s)) : cntB (bgc L H s d) s = cntB (bgn L H s d P) (2 * s - 1) := by
  apply Nat.le_antisymm
  · refine cnt_inj (fun k => (L k).toInt) (fun k => (P k).toInt) _ _ _ _ (fun k hk hp => ?_) (fun a b ha hb pa pb e => ?_)
    · have q := bgc_iff.mp hp
      obtain ⟨x, x1, x2⟩ := hP.2.2 k (by omega)
      rw [vlP_lo hk] at x2
      obtain ⟨j, j1, j2, j3, j4⟩ := last_of (p := fun y => P y = L k) (n := 2 * s - 1) (2 * s - 1 - x) x (by omega) x2
      have j5 : j < 2 * s - 1 := by
        rcases Nat.lt_or_ge j (2 * s - 1) with z | z
        · exact z
        · have := (VI_out h1 hB hP q.1).2
          rw [← j3, show j = 2 * s - 1 by omega] at this
          omega
      have j6 : (P j).toInt < (P (j + 1)).toInt := by
        have a1 := (i64_le _ _).mp (hP.1 j (j + 1) (by omega) (by omega))
        have a2 : (P (j + 1)).toInt ≠ (P j).toInt := fun e => by
          rcases j4 with z | z
          · omega
          · exact z (by rw [← j3]; exact Int64.toInt.inj e)
        omega
      exact ⟨j, j5, bgn_iff.mpr ⟨j6, by rw [j3]; exact q.1, by rw [j3]; exact q.2.1⟩, by show (P j).toInt = (L k).toInt; rw [j3]⟩
    · have qa := bgc_iff.mp pa
      have qb := bgc_iff.mp pb
      have e2 : L a = L b := Int64.toInt.inj e
      rcases Nat.lt_trichotomy a b with z | z | z
      · exact absurd ⟨a, z, e2⟩ qb.2.2
      · exact z
      · exact absurd ⟨b, z, e2.symm⟩ qa.2.2
  · refine cnt_inj (fun k => (P k).toInt) (fun k => (L k).toInt) _ _ _ _ (fun k hk hp => ?_) (fun a b ha hb pa pb e => ?_)
    · have q := bgn_iff.mp hp
      obtain ⟨x, x1, x2⟩ := VI_beg (L := L) (H := H) (s := s) (t := (P k).toInt) (by have := q.2.1; have := q.2.2; unfold Ad at *; omega)
      obtain ⟨j, j1, j2, j3⟩ := first_of (p := fun y => (L y).toInt = (P k).toInt) x x2
      exact ⟨j, by omega, bgc_iff.mpr ⟨by rw [j2]; exact q.2.1, by rw [j2]; exact q.2.2, fun ⟨i, i1, i2⟩ => j3 i i1 (by show (L i).toInt = _; rw [i2]; exact j2)⟩, j2⟩
    · have qa := bgn_iff.mp pa
      have qb := bgn_iff.mp pb
      have e2 : (P a).toInt = (P b).toInt := e
      rcases Nat.lt_trichotomy a b with z | z | z
      · have : (P (a + 1)).toInt ≤ (P b).toInt := by
          rcases Nat.lt_or_ge (a + 1) b with y | y
          · exact (i64_le _ _).mp (hP.1 (a + 1) b y (by omega))
          · rw [show a + 1 = b by omega]; exact Int.le_refl _
        have := qa.1
        omega
      · exact z
      · have : (P (b + 1)).toInt ≤ (P a).toInt := by
          rcases Nat.lt_or_ge (b + 1) a with y | y
          · exact (i64_le _ _).mp (hP.1 (b + 1) a y (by omega))
          · rw [show b + 1 = a by omega]; exact Int.le_refl _
        have := qb.1
        omega
/-! both councils with one answer -/
theorem PS_bgc {W1 : Nat → Int32} {L1 H1 : Nat → Int64} {W2 : Nat → Int32} {L2 H2 : Nat → Int64} {s d : Nat} (h : PM W1 L1 H1 s W2 L2 H2 s) : cntB (bgc L1 H1 s d) s ≤ cntB (bgc L2 H2 s d) s := by
  refine cnt_inj (fun k => L1 k) (fun k => L2 k) _ _ _ _ (fun k hk hp => ?_) (fun a b ha hb pa pb e => ?_)
  · have q := bgc_iff.mp hp
    obtain ⟨x, x1, _, x2, _⟩ := h.1.1 k hk
    obtain ⟨j, j1, j2, j3⟩ := first_of (p := fun y => L2 y = L1 k) x x2
    refine ⟨j, by omega, bgc_iff.mpr ⟨?_, ?_, fun ⟨i, i1, i2⟩ => j3 i i1 (by show L2 i = _; rw [i2]; exact j2)⟩, j2⟩
    · rw [j2]; unfold Ad; rw [← PM_VI h]; exact q.1
    · rw [j2]; unfold Ad; rw [← PM_VI h]; exact q.2.1
  · have qa := bgc_iff.mp pa
    have qb := bgc_iff.mp pb
    rcases Nat.lt_trichotomy a b with z | z | z
    · exact absurd ⟨a, z, e⟩ qb.2.2
    · exact z
    · exact absurd ⟨b, z, Eq.symm e⟩ qa.2.2
theorem PM_sym {W1 : Nat → Int32} {L1 H1 : Nat → Int64} {s1 : Nat} {W2 : Nat → Int32} {L2 H2 : Nat → Int64} {s2 : Nat} (h : PM W1 L1 H1 s1 W2 L2 H2 s2) : PM W2 L2 H2 s2 W1 L1 H1 s1 := ⟨h.2, h.1⟩
theorem PM_Bw {W1 : Nat → Int32} {L1 H1 : Nat → Int64} {s1 : Nat} {W2 : Nat → Int32} {L2 H2 : Nat → Int64} {s2 : Nat} (h : PM W1 L1 H1 s1 W2 L2 H2 s2) (hB : Bw L1 H1 s1) : Bw L2 H2 s2 := fun k hk => by
  obtain ⟨x, x1, _, x2, x3⟩ := h.2.1 k hk
  have := hB x x1
  rw [x2, x3] at this
  exact this
theorem council_eq {W1 : Nat → Int32} {L1 H1 : Nat → Int64} {W2 : Nat → Int32} {L2 H2 : Nat → Int64} {s d : Nat} {P : Nat → Int64} {c0 c1 : Int64} (h : PM W1 L1 H1 s W2 L2 H2 s) (hs : s ≤ 10) (h1 : 1 ≤ d) (hd : d ≤ s) (hB : Bw L1 H1 s) (hP : Pts L2 H2 s P (2 * s)) {r : Nat × Int32 × Int64 × Int64} (hr : r = swp P (fun t => hvN L2 H2 t s) (nI d) c0 c1 (2 * s - 1)) : pcN L1 H1 s (nI d) s = r.1 ∧ ((lsN L1 H1 s (nI d) s = NOv ∧ grN L1 H1 s (nI d) s = NOv ∧ r.1 = 0) ∨ (¬ lsN L1 H1 s (nI d) s = NOv ∧ ¬ grN L1 H1 s (nI d) s = NOv ∧ ¬ r.1 = 0 ∧ lsN L1 H1 s (nI d) s = r.2.2.1 ∧ grN L1 H1 s (nI d) s = r.2.2.2 ∧ ∃ a b, a < s ∧ b < s ∧ lsN L1 H1 s (nI d) s = L1 a ∧ grN L1 H1 s (nI d) s = H1 b)) := by
  have hB2 := PM_Bw h hB
  have hA : Ad L1 H1 s d = Ad L2 H2 s d := by funext t; unfold Ad; rw [PM_VI h]
  obtain ⟨m1, m2⟩ := swp_cs hs h1 hd hB2 hP hr
  refine ⟨?_, ?_⟩
  · rw [pcN_cnt hs hd hB s (Nat.le_refl s), Nat.le_antisymm (PS_bgc h) (PS_bgc (PM_sym h)), pieces_eq (by omega) h1 hB2 hP, m1]
  · have c := cls_sp hs h1 hd hB
    rw [hA] at c
    rcases c with ⟨a1, a2, a3⟩ | ⟨a1, a2, a3⟩
    · rcases m2 with ⟨b1, _⟩ | ⟨_, b2⟩
      · exact Or.inl ⟨a1, a2, b1⟩
      · exact absurd b2.1 (a3 _)
    · rcases m2 with ⟨_, b2⟩ | ⟨b1, b2⟩
      · exact absurd a3.1 (b2 _)
      · have e := CS_uq a3 b2
        refine Or.inr ⟨a1, a2, b1, Int64.toInt.inj e.1, Int64.toInt.inj e.2, ?_⟩
        rcases lsN_sp hs hd hB s (Nat.le_refl s) with ⟨z, _⟩ | ⟨_, k, k1, k2, _⟩
        · exact absurd z a1
        · rcases grN_sp hs hd hB s (Nat.le_refl s) with ⟨z, _⟩ | ⟨_, q, q1, q2, _⟩
          · exact absurd z a2
          · exact ⟨k, q, k1, q1, k2, q2⟩
def bl (x : Int64) (k : Nat) : Bool := x.toBitVec.getLsbD k
theorem bl_or (x y : Int64) (k : Nat) : bl (x ||| y) k = (bl x k || bl y k) := by
  unfold bl; rw [Int64.toBitVec_or, BitVec.getLsbD_or]
theorem bl_0 (k : Nat) : bl 0 k = false := by unfold bl; show (0#64).getLsbD k = false; simp
theorem bl_1 : ∀ g, g < 10 → ∀ k, k < 64 → bl (1 <<< (Int32.toInt64 (nI g) &&& 63)) k = decide (k = g) := by decide
theorem bl_ext {x y : Int64} (h : ∀ k, k < 64 → bl x k = bl y k) : x = y := by
  apply Int64.toBitVec.inj
  apply BitVec.eq_of_getLsbD_eq
  exact h
theorem bl_wid (x : Int32) (k : Nat) (hk : k < 64) : bl (Int32.toInt64 x) k = if k < 32 then bt x k else bt x 31 := by
  unfold bl bt
  rw [show (Int32.toInt64 x).toBitVec = x.toBitVec.signExtend 64 from Int32.toBitVec_toInt64 x, BitVec.getLsbD_signExtend]
  simp [hk, BitVec.msb_eq_getLsbD_last]
theorem apN_bit {W : Nat → Int32} {L H : Nat → Int64} {lo hi : Int64} {b : Nat} (hb : b < 32) : ∀ n, (∀ k, k < n → ∃ w, w < 10 ∧ W k = nI w) → (bt (apN W L H lo hi n) b = true ↔ ∃ k, k < n ∧ (H k < lo ∨ hi < L k) ∧ W k = nI b)
  | 0, _ => by
    rw [show apN W L H lo hi 0 = 0 from rfl, bt_0]
    exact ⟨fun h => Bool.noConfusion h, fun ⟨k, h, _⟩ => absurd h (Nat.not_lt_zero _)⟩
  | n + 1, hw => by
    have ih := apN_bit (W := W) (L := L) (H := H) (lo := lo) (hi := hi) hb n (fun k hk => hw k (by omega))
    obtain ⟨w, w1, w2⟩ := hw n (by omega)
    have hwb : W n = nI b ↔ b = w := by
      rw [w2]
      constructor
      · intro e
        have : (nI w).toInt = (nI b).toInt := by rw [e]
        rw [nIt (by omega), nIt (by omega)] at this
        omega
      · intro e; rw [e]
    rw [apN]
    by_cases hc : H n < lo ∨ hi < L n
    · rw [if_pos hc, bt_or, w2, bt_1 w (by omega) b hb, Bool.or_eq_true, ih, decide_eq_true_eq]
      constructor
      · rintro (⟨k, a, c⟩ | e)
        · exact ⟨k, by omega, c⟩
        · exact ⟨n, by omega, hc, hwb.mpr e⟩
      · rintro ⟨k, a, c, e⟩
        rcases Nat.lt_succ_iff_lt_or_eq.mp a with z | z
        · exact Or.inl ⟨k, z, c, e⟩
        · subst z; exact Or.inr (hwb.mp e)
    · rw [if_neg hc, ih]
      constructor
      · rintro ⟨k, a, c⟩; exact ⟨k, by omega, c⟩
      · rintro ⟨k, a, c, e⟩
        rcases Nat.lt_succ_iff_lt_or_eq.mp a with z | z
        · exact ⟨k, z, c, e⟩
        · subst z; exact absurd c hc
theorem lir_bit {W : Nat → Int32} {L H : Nat → Int64} {lo hi : Int64} {b : Nat} (hb : b < 64) : ∀ n, (∀ k, k < n → ∃ w, w < 10 ∧ W k = nI w) → (bl (lir W L H lo hi n) b = true ↔ ∃ k, k < n ∧ (H k < lo ∨ hi < L k) ∧ W k = nI b)
  | 0, _ => by
    rw [show lir W L H lo hi 0 = 0 from rfl, bl_0]
    exact ⟨fun h => Bool.noConfusion h, fun ⟨k, h, _⟩ => absurd h (Nat.not_lt_zero _)⟩
  | n + 1, hw => by
    have ih := lir_bit (W := W) (L := L) (H := H) (lo := lo) (hi := hi) hb n (fun k hk => hw k (by omega))
    obtain ⟨w, w1, w2⟩ := hw n (by omega)
    have hwb : W n = nI b ↔ b = w := by
      rw [w2]
      constructor
      · intro e
        have : (nI w).toInt = (nI b).toInt := by rw [e]
        rw [nIt (by omega), nIt (by omega)] at this
        omega
      · intro e; rw [e]
    rw [lir, bl_or]
    by_cases hc : H n < lo ∨ hi < L n
    · rw [if_pos hc, w2, bl_1 w w1 b hb, Bool.or_eq_true, ih, decide_eq_true_eq]
      constructor
      · rintro (⟨k, a, c⟩ | e)
        · exact ⟨k, by omega, c⟩
        · exact ⟨n, by omega, hc, hwb.mpr e⟩
      · rintro ⟨k, a, c, e⟩
        rcases Nat.lt_succ_iff_lt_or_eq.mp a with z | z
        · exact Or.inl ⟨k, z, c, e⟩
        · subst z; exact Or.inr (hwb.mp e)
    · rw [if_neg hc, bl_0, Bool.or_false, ih]
      constructor
      · rintro ⟨k, a, c⟩; exact ⟨k, by omega, c⟩
      · rintro ⟨k, a, c, e⟩
        rcases Nat.lt_succ_iff_lt_or_eq.mp a with z | z
        · exact ⟨k, z, c, e⟩
        · subst z; exact absurd c hc
theorem apart_eq {W1 : Nat → Int32} {L1 H1 : Nat → Int64} {W2 : Nat → Int32} {L2 H2 : Nat → Int64} {s : Nat} {lo hi : Int64} (h : PM W1 L1 H1 s W2 L2 H2 s) (hw : ∀ k, k < s → ∃ w, w < 10 ∧ W1 k = nI w) : Int32.toInt64 (apN W1 L1 H1 lo hi s) = lir W2 L2 H2 lo hi s := by
  have hw2 : ∀ k, k < s → ∃ w, w < 10 ∧ W2 k = nI w := fun k hk => by
    obtain ⟨x, x1, x2, _⟩ := h.2.1 k hk
    obtain ⟨w, w1, w2⟩ := hw x x1
    exact ⟨w, w1, by rw [← x2]; exact w2⟩
  have hh : ∀ b, (∃ k, k < s ∧ (H1 k < lo ∨ hi < L1 k) ∧ W1 k = nI b) ↔ (∃ k, k < s ∧ (H2 k < lo ∨ hi < L2 k) ∧ W2 k = nI b) := fun b => by
    constructor
    · rintro ⟨k, a, c, e⟩
      obtain ⟨x, x1, x2, x3, x4⟩ := h.1.1 k a
      exact ⟨x, x1, by rw [x3, x4]; exact c, by rw [x2]; exact e⟩
    · rintro ⟨k, a, c, e⟩
      obtain ⟨x, x1, x2, x3, x4⟩ := h.2.1 k a
      exact ⟨x, x1, by rw [x3, x4]; exact c, by rw [x2]; exact e⟩
  apply bl_ext
  intro b hb
  rw [bl_wid _ _ hb]
  have hbig : ∀ k b, k < s → 10 ≤ b → b < 64 → W1 k = nI b → False := fun k b hk h1 h2 e => by
    obtain ⟨w, w1, w2⟩ := hw k hk
    have : (nI w).toInt = (nI b).toInt := by rw [← w2, e]
    rw [nIt (by omega), nIt (by omega)] at this
    omega
  split
  · rename_i z
    rw [Bool.eq_iff_iff, apN_bit z s hw, lir_bit hb s hw2, hh]
  · rename_i z
    rw [Bool.eq_iff_iff, apN_bit (by decide) s hw, lir_bit hb s hw2, ← hh]
    exact ⟨fun ⟨k, a, _, e⟩ => (hbig k 31 a (by decide) (by decide) e).elim, fun ⟨k, a, _, e⟩ => (hbig k b a (by omega) hb e).elim⟩
theorem I_and1 (y : Int32) : (y &&& 1) = 0 ∨ (y &&& 1) = 1 := by
  have e1 : ∀ k, k < 32 → bt 1 k = decide (k = 0) := by decide
  have ex : ∀ a b : Int32, (∀ k, k < 32 → bt a k = bt b k) → a = b := fun a b h => by
    apply Int32.toBitVec.inj
    apply BitVec.eq_of_getLsbD_eq
    exact h
  have e2 : ∀ k, k < 32 → bt (y &&& 1) k = (bt y k && decide (k = 0)) := fun k hk => by
    have : bt (y &&& 1) k = (bt y k && bt 1 k) := by unfold bt; rw [Int32.toBitVec_and, BitVec.getLsbD_and]
    rw [this, e1 k hk]
  cases hy : bt y 0
  · refine Or.inl (ex _ _ (fun k hk => ?_))
    rw [e2 k hk, bt_0]
    by_cases z : k = 0
    · subst z; rw [hy]; rfl
    · simp [z]
  · refine Or.inr (ex _ _ (fun k hk => ?_))
    rw [e2 k hk, e1 k hk]
    by_cases z : k = 0
    · subst z; rw [hy]; rfl
    · simp [z]
theorem bl_shr (x : Int64) : ∀ g, g < 10 → (x >>> (Int32.toInt64 (nI g) &&& 63) &&& 1 = 1 ↔ bl x g = true) := by
  intro g hg
  have e1 : ∀ k, k < 64 → bl 1 k = decide (k = 0) := by decide
  have e2 : ∀ g, g < 10 → ((Int32.toInt64 (nI g) &&& 63).toBitVec.smod 64).toNat = g := by decide
  have e3 : bl (x >>> (Int32.toInt64 (nI g) &&& 63)) 0 = bl x g := by
    unfold bl
    rw [Int64.toBitVec_shiftRight, BitVec.sshiftRight', e2 g hg, BitVec.getLsbD_sshiftRight]
    have : g < 64 := by omega
    simp [this]
  have e4 : ∀ k, k < 64 → bl (x >>> (Int32.toInt64 (nI g) &&& 63) &&& 1) k = (bl (x >>> (Int32.toInt64 (nI g) &&& 63)) k && decide (k = 0)) := fun k hk => by
    rw [← e1 k hk]; unfold bl; rw [Int64.toBitVec_and, BitVec.getLsbD_and]
  constructor
  · intro h
    have := e4 0 (by decide)
    rw [h, e3] at this
    rw [e1 0 (by decide)] at this
    simpa using this.symm
  · intro h
    apply bl_ext
    intro k hk
    rw [e4 k hk, e1 k hk]
    by_cases z : k = 0
    · subst z; rw [e3, h]; rfl
    · simp [z]
theorem bt1_eq (x : Int32) : ∀ w, w < 10 → x >>> (nI w &&& 31) &&& 1 = bt1 (Int32.toInt64 x) w := by
  intro w hw
  have h1 := bt_shr x w (by omega)
  have h2 := bl_shr (Int32.toInt64 x) w hw
  rw [bl_wid x w (by omega), if_pos (by omega)] at h2
  unfold bt1
  cases e : bt x w
  · rw [if_neg (fun z => by have := h2.mp z; rw [e] at this; cases this)]
    exact h1.mpr e
  · rw [if_pos (h2.mpr e)]
    rcases I_and1 (x >>> (nI w &&& 31)) with z | z
    · have := h1.mp z; rw [e] at this; cases this
    · exact z
