/-! what both sides gather -/
theorem gz_1 (h : HP) (i : Nat) : ∀ n, 1 ≤ gz h i n
  | 0 => Nat.le_refl 1
  | n + 1 => by have := gz_1 h i n; show 1 ≤ gz h i n + _; omega
theorem gaH_r {h : HP} {s k : Nat} {num : Int32} {lo hi : Int64} : (vI (gaH h s num lo hi) 6 k = if k = s then num else vI h 6 k) ∧ (vL (gaH h s num lo hi) 7 k = if k = s then lo else vL h 7 k) ∧ (vL (gaH h s num lo hi) 8 k = if k = s then hi else vL h 8 k) := by
  unfold gaH
  by_cases e : k = s
  · subst e
    rw [if_pos rfl, if_pos rfl, if_pos rfl]
    refine ⟨?_, ?_, ?_⟩
    · rw [vI_ne (by omega), vI_sL, vI_sL, vIs]
    · rw [vL_sI, vL_ne (by omega), vLs]
    · rw [vL_sI, vLs]
  · rw [if_neg e, if_neg e, if_neg e]
    refine ⟨?_, ?_, ?_⟩
    · rw [vI_ne (by omega), vI_sL, vI_sL, vI_ne (by omega)]
    · rw [vL_sI, vL_ne (by omega), vL_ne (by omega), vL_sI]
    · rw [vL_sI, vL_ne (by omega), vL_ne (by omega), vL_sI]
theorem ga_at (h : HP) (i : Nat) : ∀ n k, k < gz h i n → (k = 0 ∧ vI (gtH h i n) 6 k = nI i ∧ vL (gtH h i n) 7 k = cLo h (1000 + i) (2000 + i) (vL h 1 0) ∧ vL (gtH h i n) 8 k = cHi h (1000 + i) (2000 + i) (vL h 1 0)) ∨ (1 ≤ k ∧ ∃ q b, q < n ∧ hsp h (3000 + i) q = some b ∧ vI (gtH h i n) 6 k = nI q ∧ vL (gtH h i n) 7 k = sLo h b (cCn h (1000 + i) (vL h 1 0)) (vI h (1000 + i) 2) ∧ vL (gtH h i n) 8 k = sHi h b (cCn h (1000 + i) (vL h 1 0)) (vI h (1000 + i) 2))
  | 0, k, hk => by
    have e : k = 0 := by have : gz h i 0 = 1 := rfl; omega
    subst e
    have g := gaH_r (h := sI h 5 3 0) (s := 0) (k := 0) (num := nI i) (lo := cLo h (1000 + i) (2000 + i) (vL h 1 0)) (hi := cHi h (1000 + i) (2000 + i) (vL h 1 0))
    exact Or.inl ⟨rfl, g.1, g.2.1, g.2.2⟩
  | n + 1, k, hk => by
    cases hv : hsp h (3000 + i) n with
    | none =>
      rw [gz_no hv] at hk
      rw [gtH_no hv]
      rcases ga_at h i n k hk with z | ⟨z1, q, b, z2, z3⟩
      · exact Or.inl z
      · exact Or.inr ⟨z1, q, b, by omega, z3⟩
    | some c =>
      rw [gz_yes hv] at hk
      rw [gtH_yes hv, gaH_r.1, gaH_r.2.1, gaH_r.2.2]
      by_cases e : k = gz h i n
      · rw [if_pos e, if_pos e, if_pos e]
        exact Or.inr ⟨by have := gz_1 h i n; omega, n, c, by omega, hv, rfl, rfl, rfl⟩
      · rw [if_neg e, if_neg e, if_neg e]
        rcases ga_at h i n k (by omega) with z | ⟨z1, q, b, z2, z3⟩
        · exact Or.inl z
        · exact Or.inr ⟨z1, q, b, by omega, z3⟩
theorem ga_has (h : HP) (i : Nat) : ∀ n q b, q < n → hsp h (3000 + i) q = some b → ∃ k, k < gz h i n ∧ vI (gtH h i n) 6 k = nI q ∧ vL (gtH h i n) 7 k = sLo h b (cCn h (1000 + i) (vL h 1 0)) (vI h (1000 + i) 2) ∧ vL (gtH h i n) 8 k = sHi h b (cCn h (1000 + i) (vL h 1 0)) (vI h (1000 + i) 2)
  | 0, q, _, hq, _ => absurd hq (Nat.not_lt_zero _)
  | n + 1, q, b, hq, hb => by
    rcases Nat.lt_succ_iff_lt_or_eq.mp hq with z | z
    · obtain ⟨k, k1, k2⟩ := ga_has h i n q b z hb
      cases hv : hsp h (3000 + i) n with
      | none => rw [gz_no hv, gtH_no hv]; exact ⟨k, k1, k2⟩
      | some c =>
        rw [gz_yes hv, gtH_yes hv]
        refine ⟨k, by omega, ?_⟩
        rw [gaH_r.1, gaH_r.2.1, gaH_r.2.2, if_neg (by omega), if_neg (by omega), if_neg (by omega)]
        exact k2
    · subst z
      rw [gz_yes hb, gtH_yes hb]
      refine ⟨gz h i q, by omega, ?_⟩
      rw [gaH_r.1, gaH_r.2.1, gaH_r.2.2, if_pos rfl, if_pos rfl, if_pos rfl]
      exact ⟨rfl, rfl, rfl⟩
theorem nI_inj {a b : Nat} (ha : a ≤ 1000) (hb : b ≤ 1000) (e : nI a = nI b) : a = b := by
  have : (nI a).toInt = (nI b).toInt := by rw [e]
  rw [nIt (by omega), nIt (by omega)] at this
  omega
theorem ga_inj (h : HP) (i : Nat) (hs : hsp h (3000 + i) i = none) (hi : i < 10) : ∀ n, n ≤ 10 → ∀ a b, a < b → b < gz h i n → ¬ vI (gtH h i n) 6 a = vI (gtH h i n) 6 b
  | 0, _, a, b, h1, h2 => by have : gz h i 0 = 1 := rfl; omega
  | n + 1, hn, a, b, h1, h2 => by
    cases hv : hsp h (3000 + i) n with
    | none =>
      rw [gz_no hv] at h2
      rw [gtH_no hv]; exact ga_inj h i hs hi n (by omega) a b h1 h2
    | some c =>
      rw [gz_yes hv] at h2
      rw [gtH_yes hv, gaH_r.1, gaH_r.1, if_neg (by omega : ¬ a = gz h i n)]
      by_cases e : b = gz h i n
      · rw [if_pos e]
        intro q
        rcases ga_at h i n a (by omega) with ⟨_, z, _⟩ | ⟨_, m, c', z1, z2, z3, _⟩
        · rw [z] at q
          have := nI_inj (by omega) (by omega) q
          rw [← this, hs] at hv
          cases hv
        · rw [z3] at q
          have := nI_inj (by omega) (by omega) q
          omega
      · rw [if_neg e]
        exact ga_inj h i hs hi n (by omega) a b h1 (by omega)
theorem mg_inj (h : HP) (m : Nat) : ∀ n, n ≤ 10 → ∀ a b, a < b → b < mz h m n → ¬ vI (mgH h m n) 142 a = vI (mgH h m n) 142 b
  | 0, _, a, b, h1, h2 => absurd h2 (Nat.not_lt_zero _)
  | n + 1, hn, a, b, h1, h2 => by
    by_cases hv : mIn h m n
    · rw [mz_y hv] at h2
      rw [mg_y hv]
      unfold maH
      have ra : ∀ k, vI (sI (sL (sL (sI (mgH h m n) 142 (mz h m n) (nI n)) 143 (mz h m n) (mSL h m n)) 144 (mz h m n) (mSH h m n)) 100 40 (nI (mz h m n + 1))) 142 k = if k = mz h m n then nI n else vI (mgH h m n) 142 k := fun k => by
        rw [vI_ne (by omega), vI_sL, vI_sL]
        by_cases e : k = mz h m n
        · rw [if_pos e, e, vIs]
        · rw [if_neg e, vI_ne (by omega)]
      rw [ra, ra, if_neg (by omega : ¬ a = mz h m n)]
      by_cases e : b = mz h m n
      · rw [if_pos e]
        intro q
        obtain ⟨y, y1, _, y2, _⟩ := mg_at h m n a (by omega)
        rw [y2] at q
        have := nI_inj (by omega) (by omega) q
        omega
      · rw [if_neg e]; exact mg_inj h m n (by omega) a b h1 (by omega)
    · rw [mz_n hv] at h2
      rw [mg_n hv]; exact mg_inj h m n (by omega) a b h1 h2
theorem inj_of {W : Nat → Int32} {s : Nat} (h : ∀ a b, a < b → b < s → ¬ W a = W b) : ∀ a b, a < s → b < s → W a = W b → a = b := fun a b ha hb e => by
  rcases Nat.lt_trichotomy a b with z | z | z
  · exact absurd e (h a b z hb)
  · exact z
  · exact absurd e.symm (h b a z ha)
section
variable {n : Nat} {h : HP} {nm nl ns ne nk : Nat} {fr to : Nat → Nat} {E : Nat → Nat → Prop}
theorem ME_s {h1 : HP} (e : ME h h1) (m q : Nat) : mSL h1 m q = mSL h m q ∧ mSH h1 m q = mSH h m q ∧ (mIn h1 m q ↔ mIn h m q) := by
  have F := ME_f e m
  unfold mSL mSH mIn mHL mHH
  rw [F.1, F.2.1, F.2.2.1, F.2.2.2.1, F.2.2.2.2.1, e.1 119 _ (by omega), e.2.1 120 _ (by omega), e.2.1 121 _ (by omega), e.2.1 122 _ (by omega)]
  exact ⟨rfl, rfl, Iff.rfl⟩
/-- the rows that the class gathered, and those that the model gathers -/
theorem PM_of (hI : IV n h nm nl ns ne nk fr to E) {h1 : HP} (e : ME h h1) {i : Nat} (hi : i < nm) : PM (vI (gtH h i nm) 6) (vL (gtH h i nm) 7) (vL (gtH h i nm) 8) (gz h i nm) (vI (mgH h1 i nm) 142) (vL (mgH h1 i nm) 143) (vL (mgH h1 i nm) 144) (mz h1 i nm) := by
  have hm := ivnm hI
  have hs := hself hI hi
  refine ⟨⟨fun k hk => ?_, inj_of (fun a b => ga_inj h i hs (by omega) nm hm a b)⟩, ⟨fun k hk => ?_, inj_of (fun a b => mg_inj h1 i nm hm a b)⟩⟩
  · rcases ga_at h i nm k hk with ⟨_, z1, z2, z3⟩ | ⟨_, q, b, z0, z, z1, z2, z3⟩
    · obtain ⟨k', k1, k2, k3, k4⟩ := mg_has h1 i nm i hi (Or.inl rfl)
      refine ⟨k', k1, by rw [k2, z1], ?_, ?_⟩
      · rw [k3, z2, (ME_s e i i).1, cLo_eq hI hi]; unfold mSL; rw [if_pos rfl]
      · rw [k4, z3, (ME_s e i i).2.1, cHi_eq hI hi]; unfold mSH; rw [if_pos rfl]
    · rcases ivHD hI i q hi (by omega) with ⟨_, y⟩ | y
      · rw [y] at z; cases z
      · obtain rfl : 4000 + (10 * i + q) = b := Option.some.inj (y.2.2.2.1.symm.trans z)
        have hin : mIn h i q := Or.inr (by rw [y.2.2.1]; decide)
        obtain ⟨k', k1, k2, k3, k4⟩ := mg_has h1 i nm q z0 ((ME_s e i q).2.2.mpr hin)
        have Y := hLo_eq hI hi y
        refine ⟨k', k1, by rw [k2, z1], ?_, ?_⟩
        · rw [k3, z2, (ME_s e i q).1, Y.1]; unfold mSL; rw [if_neg y.2.1]
        · rw [k4, z3, (ME_s e i q).2.1, Y.2]; unfold mSH; rw [if_neg y.2.1]
  · obtain ⟨q, q1, q2, q3, q4, q5⟩ := mg_at h1 i nm k hk
    have q2 := (ME_s e i q).2.2.mp q2
    by_cases z : q = i
    · subst z
      rcases ga_at h q nm 0 (gz_1 h q nm) with ⟨_, z1, z2, z3⟩ | ⟨z0, _⟩
      · refine ⟨0, gz_1 h q nm, by rw [z1, q3], ?_, ?_⟩
        · rw [q4, z2, (ME_s e q q).1, cLo_eq hI hi]; unfold mSL; rw [if_pos rfl]
        · rw [q5, z3, (ME_s e q q).2.1, cHi_eq hI hi]; unfold mSH; rw [if_pos rfl]
      · omega
    · rcases ivHD hI i q hi (by omega) with ⟨y, _⟩ | y
      · exact absurd y (q2.resolve_left z)
      · obtain ⟨k', k1, k2, k3, k4⟩ := ga_has h i nm q _ q1 y.2.2.2.1
        have Y := hLo_eq hI hi y
        refine ⟨k', k1, by rw [k2, q3], ?_, ?_⟩
        · rw [q4, k3, (ME_s e i q).1, Y.1]; unfold mSL; rw [if_neg z]
        · rw [q5, k4, (ME_s e i q).2.1, Y.2]; unfold mSH; rw [if_neg z]
theorem ga_b (hI : IV n h nm nl ns ne nk fr to E) (hn : n < 64) {i : Nat} (hi : i < nm) : ∀ k, k < gz h i nm → inB (n + 1) (vL (gtH h i nm) 7 k) ∧ inB (n + 1) (vL (gtH h i nm) 8 k) := fun k hk => by
  have hm := ivnm hI
  rcases ga_at h i nm k hk with ⟨_, _, z2, z3⟩ | ⟨_, q, b, z0, z, _, z2, z3⟩
  · rw [z2, z3, cLo_eq hI hi, cHi_eq hI hi]
    exact ⟨mLo_b (by omega) (ivNW hI) (ivRG hI) (ivRB hI) hi, mHi_b (by omega) (ivNW hI) (ivRG hI) (ivRB hI) hi⟩
  · rcases ivHD hI i q hi (by omega) with ⟨_, y⟩ | y
    · rw [y] at z; cases z
    · obtain rfl : 4000 + (10 * i + q) = b := Option.some.inj (y.2.2.2.1.symm.trans z)
      have Y := hLo_eq hI hi y
      rw [z2, z3, Y.1, Y.2]
      exact mHL_b (by omega) (ivNW hI) (ivRG hI) hi y
theorem ga_Bw (hI : IV n h nm nl ns ne nk fr to E) (hn : n < 64) {i : Nat} (hi : i < nm) : Bw (vL (gtH h i nm) 7) (vL (gtH h i nm) 8) (gz h i nm) := fun k hk => by
  have := ga_b hI hn hi k hk
  unfold inB Bn at this
  omega
theorem ME_gt (h : HP) (i k : Nat) : ME h (gtH h i k) := by
  have G := gtH_k h i k
  exact ⟨fun b q c => by rw [G.2.2.1 b (by omega) (by omega)], fun b q c => by rw [G.2.2.2.1 b (by omega) (by omega)], fun b q c => by rw [G.2.1], fun b c => by rw [G.1]⟩
/-- behind a gathering on both sides and a council -/
theorem sc_iv (hI : IV n h nm nl ns ne nk fr to E) {i : Nat} {h' : HP} (hA : AG (mgH (gtH h i nm) i nm) h') : IV (n + 1) h' nm nl ns ne nk fr to E := by
  have G := gtH_k h i nm
  have M := mg_k (gtH h i nm) i nm
  refine IV_fr hI (Nat.le_succ n) (fun b _ => by rw [hA.1, M.1, G.1]) (fun b k _ => by rw [hA.2.1, M.2.1, G.2.1]) (fun b k c => ?_) (fun b k c => ?_)
  · by_cases z : b = 100
    · subst z
      rw [hA.2.2.2.1 k (by omega), M.2.2.2.1 k (by omega), G.2.2.1 100 (by omega) (by omega)]
    · rw [hA.2.2.1 b z, M.2.2.1 b z (by omega), G.2.2.1 b (by omega) (by omega)]
  · by_cases z : b = 100
    · subst z
      rw [hA.2.2.2.2.2 k (by omega) (by omega) (by omega), M.2.2.2.2.1 100 (by omega) (by omega), G.2.2.2.1 100 (by omega) (by omega)]
    · rw [hA.2.2.2.2.1 b z (by omega), M.2.2.2.2.1 b (by omega) (by omega), G.2.2.2.1 b (by omega) (by omega)]
/-- the two councils -/
theorem cou_eq (hI : IV n h nm nl ns ne nk fr to E) (hn : n < 64) {h1 : HP} (e : ME h h1) {i : Nat} (hi : i < nm) {ff : Nat} (hf : ff < gz h i nm) {h' : HP} {P : Nat → Int64} {r : Nat × Int32 × Int64 × Int64} (hF : FCq (mgH h1 i nm) (mz h1 i nm) ff h' P r) : cPc h i nm ff = r.1 ∧ ((cLs h i nm ff = NOv ∧ cGr h i nm ff = NOv ∧ r.1 = 0) ∨ (¬ cLs h i nm ff = NOv ∧ ¬ cGr h i nm ff = NOv ∧ ¬ r.1 = 0 ∧ cLs h i nm ff = r.2.2.1 ∧ cGr h i nm ff = r.2.2.2 ∧ inB (n + 1) (cLs h i nm ff) ∧ inB (n + 1) (cGr h i nm ff) ∧ Int32.toInt64 (cAp h i nm ff) = vL h' 100 48)) := by
  have hm := ivnm hI
  have hp := PM_of hI e hi
  have hs := PM_len hp
  have h10 := gz10 (ivSM hI) hi (hself hI hi)
  rw [← hs] at hp hF
  obtain ⟨_, f2, f3, _, _, _, f7⟩ := hF
  have C := council_eq hp h10 (by omega : 1 ≤ gz h i nm - ff) (by omega) (ga_Bw hI hn hi) f2 f3
  refine ⟨C.1, ?_⟩
  rcases C.2 with z | ⟨z1, z2, z3, z4, z5, a, b, a1, b1, a2, b2⟩
  · exact Or.inl z
  · refine Or.inr ⟨z1, z2, z3, z4, z5, ?_, ?_, ?_⟩
    · show inB (n + 1) (lsN _ _ _ _ _)
      rw [a2]; exact (ga_b hI hn hi a a1).1
    · show inB (n + 1) (grN _ _ _ _ _)
      rw [b2]; exact (ga_b hI hn hi b b1).2
    · rw [f7, if_neg z3, ← z4, ← z5]
      unfold cAp
      exact apart_eq hp (fun k hk => by
        have := gwh_ok hi hm hk
        exact ⟨gwh h i nm k, by omega, this.2⟩)
end
