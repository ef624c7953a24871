section VRows
variable {g : GG} {M : MD} {pc : Nat} {lv : List (Nat × Value)} {st : List Value} {h : HP} {cs ss : Nat} {Post : Option Value → HP → Prop}
theorem wv_iadd {x y : Int32} (v : Int32) (hv : x + y = v) (d : decode (mCode M) pc = .ok (.iadd, 1)) (k : WP g M (pc + 1) lv (.int v :: st) h cs ss Post) : WP g M pc lv (.int y :: .int x :: st) h cs ss Post := by
  subst hv; exact wp_iadd d k
theorem wv_isub {x y : Int32} (v : Int32) (hv : x - y = v) (d : decode (mCode M) pc = .ok (.isub, 1)) (k : WP g M (pc + 1) lv (.int v :: st) h cs ss Post) : WP g M pc lv (.int y :: .int x :: st) h cs ss Post := by
  subst hv; exact wp_isub d k
theorem wv_imul {x y : Int32} (v : Int32) (hv : x * y = v) (d : decode (mCode M) pc = .ok (.imul, 1)) (k : WP g M (pc + 1) lv (.int v :: st) h cs ss Post) : WP g M pc lv (.int y :: .int x :: st) h cs ss Post := by
  subst hv; exact wp_imul d k
theorem wv_i2l {x : Int32} (v : Int64) (hv : x.toInt64 = v) (d : decode (mCode M) pc = .ok (.i2l, 1)) (k : WP g M (pc + 1) lv (.long v :: st) h cs ss Post) : WP g M pc lv (.int x :: st) h cs ss Post := by
  subst hv; exact wp_i2l d k
theorem wv_getI {a i c k : Nat} (x : Int32) (d : decode (mCode M) pc = .ok (.getfield i, 3)) (fl : fLk (mOwn M) i c k) (ht : isI (FT c k) = true) (hk : kd a = c) (hl : liv h a = true) (hx : vI h a k = x) (kk : WP g M (pc + 3) lv (.int x :: st) h cs ss Post) : WP g M pc lv (.ref a :: st) h cs ss Post := by
  subst hx; exact wp_getI d fl ht hk hl kk
theorem wv_getL {a i c k : Nat} (x : Int64) (d : decode (mCode M) pc = .ok (.getfield i, 3)) (fl : fLk (mOwn M) i c k) (ht : FT c k = .long) (hk : kd a = c) (hl : liv h a = true) (hx : vL h a k = x) (kk : WP g M (pc + 3) lv (.long x :: st) h cs ss Post) : WP g M pc lv (.ref a :: st) h cs ss Post := by
  subst hx; exact wp_getL d fl ht hk hl kk
theorem ln_le (a : Nat) : ln a ≤ 1000 := by
  unfold ln ln0
  repeat' split
  all_goals omega
theorem ix_in {i : Int32} {j n : Nat} (hi : i = nI j) (hj : j < n) (hn : n ≤ 1000) : vp_in i n := by rw [hi]; exact vp_in_nI hj (by omega)
theorem ix_cl {i : Int32} {j n : Nat} (hi : i = nI j) (hj : j < n) (hn : n ≤ 1000) : i.toNatClampNeg = j := by rw [hi]; exact nI_clamp (by omega)
theorem wv_iald {a : Nat} {i : Int32} (j : Nat) (x : Int32) (d : decode (mCode M) pc = .ok (.iaload, 1)) (hk : kd a = 8) (hl : liv h a = true) (hi : i = nI j) (hj : j < ln a) (hx : vI h a j = x) (kk : WP g M (pc + 1) lv (.int x :: st) h cs ss Post) : WP g M pc lv (.int i :: .ref a :: st) h cs ss Post :=
  wp_iald d hk hl (ix_in hi hj (ln_le a)) (by rw [ix_cl hi hj (ln_le a), hx]; exact kk)
theorem wv_bald {a : Nat} {i : Int32} (j : Nat) (x : Int32) (d : decode (mCode M) pc = .ok (.baload, 1)) (hk : kd a = 10) (hl : liv h a = true) (hi : i = nI j) (hj : j < ln a) (hx : vI h a j = x) (kk : WP g M (pc + 1) lv (.int x :: st) h cs ss Post) : WP g M pc lv (.int i :: .ref a :: st) h cs ss Post :=
  wp_bald d hk hl (ix_in hi hj (ln_le a)) (by rw [ix_cl hi hj (ln_le a), hx]; exact kk)
theorem wv_lald {a : Nat} {i : Int32} (j : Nat) (x : Int64) (d : decode (mCode M) pc = .ok (.laload, 1)) (hk : kd a = 9) (hl : liv h a = true) (hi : i = nI j) (hj : j < ln a) (hx : vL h a j = x) (kk : WP g M (pc + 1) lv (.long x :: st) h cs ss Post) : WP g M pc lv (.int i :: .ref a :: st) h cs ss Post :=
  wp_lald d hk hl (ix_in hi hj (ln_le a)) (by rw [ix_cl hi hj (ln_le a), hx]; exact kk)
theorem wv_aald {a t : Nat} {i : Int32} (j b : Nat) (d : decode (mCode M) pc = .ok (.aaload, 1)) (hk : kd a = t) (h1 : 10 < t) (h2 : t < 15) (hl : liv h a = true) (hi : i = nI j) (hj : j < ln a) (hx : vP h a j = some b) (kk : WP g M (pc + 1) lv (.ref b :: st) h cs ss Post) : WP g M pc lv (.int i :: .ref a :: st) h cs ss Post :=
  wp_aald (.ref b) d hk h1 h2 hl (ix_in hi hj (ln_le a)) (by rw [ix_cl hi hj (ln_le a), hx]; rfl) kk
theorem wv_aaldN {a t : Nat} {i : Int32} (j : Nat) (d : decode (mCode M) pc = .ok (.aaload, 1)) (hk : kd a = t) (h1 : 10 < t) (h2 : t < 15) (hl : liv h a = true) (hi : i = nI j) (hj : j < ln a) (hx : vP h a j = none) (kk : WP g M (pc + 1) lv (.null :: st) h cs ss Post) : WP g M pc lv (.int i :: .ref a :: st) h cs ss Post :=
  wp_aald .null d hk h1 h2 hl (ix_in hi hj (ln_le a)) (by rw [ix_cl hi hj (ln_le a), hx]; rfl) kk
theorem wv_iast {a : Nat} {i x : Int32} (j : Nat) (d : decode (mCode M) pc = .ok (.iastore, 1)) (hk : kd a = 8) (hl : liv h a = true) (hi : i = nI j) (hj : j < ln a) (kk : WP g M (pc + 1) lv st (sI h a j x) cs ss Post) : WP g M pc lv (.int x :: .int i :: .ref a :: st) h cs ss Post :=
  wp_iast d hk hl (ix_in hi hj (ln_le a)) (by rw [ix_cl hi hj (ln_le a)]; exact kk)
theorem wv_last {a : Nat} {i : Int32} {x : Int64} (j : Nat) (d : decode (mCode M) pc = .ok (.lastore, 1)) (hk : kd a = 9) (hl : liv h a = true) (hi : i = nI j) (hj : j < ln a) (kk : WP g M (pc + 1) lv st (sL h a j x) cs ss Post) : WP g M pc lv (.long x :: .int i :: .ref a :: st) h cs ss Post :=
  wp_last d hk hl (ix_in hi hj (ln_le a)) (by rw [ix_cl hi hj (ln_le a)]; exact kk)
theorem wv_bast {a : Nat} {i x : Int32} (j : Nat) (d : decode (mCode M) pc = .ok (.bastore, 1)) (hk : kd a = 10) (hl : liv h a = true) (hi : i = nI j) (hj : j < ln a) (hn : narrow .boolean (.int x) = .int x) (kk : WP g M (pc + 1) lv st (sI h a j x) cs ss Post) : WP g M pc lv (.int x :: .int i :: .ref a :: st) h cs ss Post :=
  wp_bast d hk hl (ix_in hi hj (ln_le a)) hn (by rw [ix_cl hi hj (ln_le a)]; exact kk)
theorem wv_aast {a b t : Nat} {i : Int32} (j : Nat) (d : decode (mCode M) pc = .ok (.aastore, 1)) (hk : kd a = t) (h1 : 10 < t) (h2 : t < 15) (hl : liv h a = true) (hi : i = nI j) (hj : j < ln a) (hkb : kd b = eC t) (kk : WP g M (pc + 1) lv st (sP h a j (some b)) cs ss Post) : WP g M pc lv (.ref b :: .int i :: .ref a :: st) h cs ss Post :=
  wp_aast d hk h1 h2 hl (ix_in hi hj (ln_le a)) hkb (by rw [ix_cl hi hj (ln_le a)]; exact kk)
/-- lcmp and the branch behind it, together -/
theorem lg_lt (x y : Int64) : lg_cmp x y < 0 ↔ x < y := by
  unfold lg_cmp
  split
  · rename_i h; constructor
    · intro q; exact absurd q (by decide)
    · intro q; exact absurd (Int64.lt_trans h q) Int64.lt_irrefl
  · split
    · rename_i h1 h2; constructor
      · intro q; exact absurd q (by decide)
      · intro q; rw [h2] at q; exact absurd q Int64.lt_irrefl
    · rename_i h1 h2; constructor
      · intro _; exact Int64.lt_of_le_of_ne (Int64.not_lt.mp h1) h2
      · intro _; decide
theorem lg_gt (x y : Int64) : 0 < lg_cmp x y ↔ y < x := by
  unfold lg_cmp
  split
  · rename_i h; exact ⟨fun _ => h, fun _ => by decide⟩
  · split
    · rename_i h1 h2; exact ⟨fun q => absurd q (by decide), fun q => absurd q h1⟩
    · rename_i h1 h2; exact ⟨fun q => absurd q (by decide), fun q => absurd q h1⟩
theorem lg_eq (x y : Int64) : lg_cmp x y = 0 ↔ x = y := by
  unfold lg_cmp
  split
  · rename_i h; exact ⟨fun q => absurd q (by decide), fun q => by rw [q] at h; exact absurd h Int64.lt_irrefl⟩
  · split
    · rename_i h1 h2; exact ⟨fun _ => h2, fun _ => rfl⟩
    · rename_i h1 h2; exact ⟨fun q => absurd q (by decide), fun q => absurd q h2⟩
theorem lg_le (x y : Int64) : lg_cmp x y ≤ 0 ↔ x ≤ y := by
  rw [← Int32.not_lt, lg_gt, Int64.not_lt]
theorem lg_ge (x y : Int64) : 0 ≤ lg_cmp x y ↔ y ≤ x := by
  rw [← Int32.not_lt, lg_lt, Int64.not_lt]
theorem wl_lt {x y : Int64} {off : Int} {tgt : Nat} (d : decode (mCode M) pc = .ok (.lcmp, 1)) (d2 : decode (mCode M) (pc + 1) = .ok (.ifCond .lt off, 3)) (ht : ((pc + 1 : Nat) : Int) + off = (tgt : Int)) (kt : x < y → WP g M tgt lv st h cs ss Post) (kf : ¬ x < y → WP g M (pc + 4) lv st h cs ss Post) : WP g M pc lv (.long y :: .long x :: st) h cs ss Post :=
  wp_lcmp d (wp_if_lt d2 ht (fun z => kt ((lg_lt x y).mp z)) (fun z => kf (fun q => z ((lg_lt x y).mpr q))))
theorem wl_gt {x y : Int64} {off : Int} {tgt : Nat} (d : decode (mCode M) pc = .ok (.lcmp, 1)) (d2 : decode (mCode M) (pc + 1) = .ok (.ifCond .gt off, 3)) (ht : ((pc + 1 : Nat) : Int) + off = (tgt : Int)) (kt : y < x → WP g M tgt lv st h cs ss Post) (kf : ¬ y < x → WP g M (pc + 4) lv st h cs ss Post) : WP g M pc lv (.long y :: .long x :: st) h cs ss Post :=
  wp_lcmp d (wp_if_gt d2 ht (fun z => kt ((lg_gt x y).mp z)) (fun z => kf (fun q => z ((lg_gt x y).mpr q))))
theorem wl_le {x y : Int64} {off : Int} {tgt : Nat} (d : decode (mCode M) pc = .ok (.lcmp, 1)) (d2 : decode (mCode M) (pc + 1) = .ok (.ifCond .le off, 3)) (ht : ((pc + 1 : Nat) : Int) + off = (tgt : Int)) (kt : x ≤ y → WP g M tgt lv st h cs ss Post) (kf : ¬ x ≤ y → WP g M (pc + 4) lv st h cs ss Post) : WP g M pc lv (.long y :: .long x :: st) h cs ss Post :=
  wp_lcmp d (wp_if_le d2 ht (fun z => kt ((lg_le x y).mp z)) (fun z => kf (fun q => z ((lg_le x y).mpr q))))
theorem wl_ge {x y : Int64} {off : Int} {tgt : Nat} (d : decode (mCode M) pc = .ok (.lcmp, 1)) (d2 : decode (mCode M) (pc + 1) = .ok (.ifCond .ge off, 3)) (ht : ((pc + 1 : Nat) : Int) + off = (tgt : Int)) (kt : y ≤ x → WP g M tgt lv st h cs ss Post) (kf : ¬ y ≤ x → WP g M (pc + 4) lv st h cs ss Post) : WP g M pc lv (.long y :: .long x :: st) h cs ss Post :=
  wp_lcmp d (wp_if_ge d2 ht (fun z => kt ((lg_ge x y).mp z)) (fun z => kf (fun q => z ((lg_ge x y).mpr q))))
theorem wl_eq {x y : Int64} {off : Int} {tgt : Nat} (d : decode (mCode M) pc = .ok (.lcmp, 1)) (d2 : decode (mCode M) (pc + 1) = .ok (.ifCond .eq off, 3)) (ht : ((pc + 1 : Nat) : Int) + off = (tgt : Int)) (kt : x = y → WP g M tgt lv st h cs ss Post) (kf : ¬ x = y → WP g M (pc + 4) lv st h cs ss Post) : WP g M pc lv (.long y :: .long x :: st) h cs ss Post :=
  wp_lcmp d (wp_if_eq d2 ht (fun z => kt ((lg_eq x y).mp z)) (fun z => kf (fun q => z ((lg_eq x y).mpr q))))
theorem wl_ne {x y : Int64} {off : Int} {tgt : Nat} (d : decode (mCode M) pc = .ok (.lcmp, 1)) (d2 : decode (mCode M) (pc + 1) = .ok (.ifCond .ne off, 3)) (ht : ((pc + 1 : Nat) : Int) + off = (tgt : Int)) (kt : ¬ x = y → WP g M tgt lv st h cs ss Post) (kf : x = y → WP g M (pc + 4) lv st h cs ss Post) : WP g M pc lv (.long y :: .long x :: st) h cs ss Post :=
  wp_lcmp d (wp_if_ne d2 ht (fun z => kt (fun q => z ((lg_eq x y).mpr q))) (fun z => kf ((lg_eq x y).mp z)))
end VRows
theorem wp_pc {g : GG} {M : MD} {pc pc' : Nat} {lv : List (Nat × Value)} {st : List Value} {h : HP} {cs ss : Nat} {Post : Option Value → HP → Prop} (e : pc = pc') (k : WP g M pc' lv st h cs ss Post) : WP g M pc lv st h cs ss Post := by subst e; exact k
theorem wN_add {x y : Int32} {a b : Nat} (hx : x = nI a) (hy : y = nI b) : x + y = nI (a + b) := by rw [hx, hy]; exact nI_add a b
theorem wN_mul {x y : Int32} {a b : Nat} (hx : x = nI a) (hy : y = nI b) : x * y = nI (a * b) := by rw [hx, hy]; exact pk_mul a b
theorem nb_n {x : Int32} (h : x = 0 ∨ x = 1) : narrow .boolean (.int x) = .int x := by rcases h with rfl | rfl <;> rfl
theorem nb_f {x : Int32} (h : x = 0 ∨ x = 1) : fits .boolean (.int x) = true := by rcases h with rfl | rfl <;> rfl
