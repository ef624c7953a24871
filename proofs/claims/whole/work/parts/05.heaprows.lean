theorem lt8 {P : Nat → Prop} (h0 : P 0) (h1 : P 1) (h2 : P 2) (h3 : P 3) (h4 : P 4) (h5 : P 5) (h6 : P 6) (h7 : P 7) {c : Nat} (hc : c < 8) : P c := by
  match c, hc with
  | 0, _ => exact h0
  | 1, _ => exact h1
  | 2, _ => exact h2
  | 3, _ => exact h3
  | 4, _ => exact h4
  | 5, _ => exact h5
  | 6, _ => exact h6
  | 7, _ => exact h7
  | n + 8, h => exact absurd h (by omega)
theorem cl_at {c : Nat} (hc : c < 8) : vwCl[c]? = some (CN c, TT c, NF c) := lt8 (P := fun c => vwCl[c]? = some (CN c, TT c, NF c)) rfl rfl rfl rfl rfl rfl rfl rfl hc
theorem cl_in {c : Nat} (hc : c < 8) : ∀ w ∈ u_ws (CN c) (TT c) (NF c), w ∈ gw := by
  have k : ∀ w ∈ u_ws (CN c) (TT c) (NF c), w ∈ lw_tbl ∧ goodWord w = true := by
    refine lt8 (P := fun c => ∀ w ∈ u_ws (CN c) (TT c) (NF c), w ∈ lw_tbl ∧ goodWord w = true) ?_ ?_ ?_ ?_ ?_ ?_ ?_ ?_ hc <;> decide +kernel
  exact fun w hw => gw_of (k w hw).1 (k w hw).2
theorem cl_ty {c : Nat} (hc : c < 8) : ∀ k, k < NF c → parseFieldDescriptor (TT c k).2.2.1 = some (FT c k) := lt8 (P := fun c => ∀ k, k < NF c → parseFieldDescriptor (TT c k).2.2.1 = some (FT c k)) tyX0_ok tyX1_ok tyX2_ok tyX3_ok tyX4_ok tyX5_ok tyX6_ok tyX7_ok hc
theorem cl_nm {c : Nat} (hc : c < 8) : ∀ a, a < NF c → ∀ b, b < NF c → a ≠ b → (TT c a).2.1 ≠ (TT c b).2.1 := lt8 (P := fun c => ∀ a, a < NF c → ∀ b, b < NF c → a ≠ b → (TT c a).2.1 ≠ (TT c b).2.1) nmX0 nmX1 nmX2 nmX3 nmX4 nmX5 nmX6 nmX7 hc
/-- a field's link: of the class own, pool entry i, the field k of class c -/
def fLk (own : String) (i c k : Nat) : Prop := c < 8 ∧ k < NF c ∧ Cond.fieldLink own i (TT c k).1 (TT c k).2.1 (TT c k).2.2.1 ∈ lw_tbl
def isI (t : FieldType) : Bool := match t with
  | .int => true
  | .boolean => true
  | _ => false
def isP (t : FieldType) : Bool := match t with
  | .object _ => true
  | .array _ => true
  | _ => false
section HeapRows
variable {g : GG} {M : MD} {pc : Nat} {lv : List (Nat × Value)} {st : List Value} {h : HP} {cs ss : Nat} {Post : Option Value → HP → Prop}
theorem cE_obj {ad : Nat → Nat} {a c : Nat} {H : Heap} (hk : kd a = c) (hc : c < 8) (hE : cE g h ad a H) : t_OB (ad a) (g.2.1.1 c) (NF c) (g.2.1.2 c) H (fun k => fv ad (FT c k) (vI h a k) (vL h a k) (vP h a k)) := by
  subst hk
  unfold cE at hE
  rw [if_pos hc] at hE
  exact hE
theorem cE_arr {ad : Nat → Nat} {a c : Nat} {H : Heap} (hk : kd a = c) (hc : ¬ c < 8) (hE : cE g h ad a H) : H[ad a]? = some (vp_cell (g.2.2 c) (ln a, aF c (vI h a) (vL h a) (fun k => (vP h a k).map ad))) := by
  subst hk
  unfold cE at hE
  rw [if_neg hc] at hE
  exact hE
theorem wp_get {a i c k : Nat} (v : Value) (d : decode (mCode M) pc = .ok (.getfield i, 3)) (fl : fLk (mOwn M) i c k) (hl : liv h a = true) (hk : kd a = c) (hv : ∀ ad, fv ad (FT c k) (vI h a k) (vL h a k) (vP h a k) = rn ad v) (hok : ∀ ad H, Rp g h ad H → rok h v) (kk : WP g M (pc + 3) lv (v :: st) h cs ss Post) : WP g M pc lv (.ref a :: st) h cs ss Post := by
  intro p l e s m args below meth c0 H locs ls ad h0 ad0 hC hR hS hl' ho hq hE
  obtain ⟨hc, hkN, hw⟩ := fl
  obtain ⟨hx, hb, hr, hml, hown, hts, hlk, hnm, hX, hK, hN, hA, hB⟩ := id hC
  obtain ⟨cell, q1, q2, q3, q4⟩ := cE_obj hk hc (Rp_at hR hl (by omega)).2
  obtain ⟨hSl, hfc, kC, hkC, hkind⟩ := hK.1 c _ (cl_at hc)
  obtain ⟨cf, kf, fi, f, hi, hsl⟩ := hSl k hkN
  refine W.getf hx hb hown (hts _ (gw_of hw rfl)) hi (u_facts hfc hkC (u_lays hts (cl_in hc) hkN) hi).1 q1 (by rw [q3]; exact fun h => by cases h) (v := rn ad v) ?_ rfl rfl d (kk p l e s m args below meth c0 H locs ls ad h0 ad0 hC hR hS hl' (fac (hok ad H hR) (fat ho)) hq hE)
  rw [hsl, q4 k hkN]
  exact congrArg some (hv ad)
theorem wp_getI {a i c k : Nat} (d : decode (mCode M) pc = .ok (.getfield i, 3)) (fl : fLk (mOwn M) i c k) (ht : isI (FT c k) = true) (hk : kd a = c) (hl : liv h a = true) (kk : WP g M (pc + 3) lv (.int (vI h a k) :: st) h cs ss Post) : WP g M pc lv (.ref a :: st) h cs ss Post := by
  refine wp_get (.int (vI h a k)) d fl hl hk (fun ad => ?_) (fun _ _ _ => trivial) kk
  cases hf : FT c k <;> rw [hf] at ht <;> first | rfl | cases ht
theorem wp_getL {a i c k : Nat} (d : decode (mCode M) pc = .ok (.getfield i, 3)) (fl : fLk (mOwn M) i c k) (ht : FT c k = .long) (hk : kd a = c) (hl : liv h a = true) (kk : WP g M (pc + 3) lv (.long (vL h a k) :: st) h cs ss Post) : WP g M pc lv (.ref a :: st) h cs ss Post :=
  wp_get (.long (vL h a k)) d fl hl hk (fun ad => by rw [ht]; rfl) (fun _ _ _ => trivial) kk
theorem wp_getP {a i c k b : Nat} (d : decode (mCode M) pc = .ok (.getfield i, 3)) (fl : fLk (mOwn M) i c k) (ht : isP (FT c k) = true) (hk : kd a = c) (hl : liv h a = true) (hb : vP h a k = some b) (kk : WP g M (pc + 3) lv (.ref b :: st) h cs ss Post) : WP g M pc lv (.ref a :: st) h cs ss Post := by
  refine wp_get (.ref b) d fl hl hk (fun ad => ?_) (fun ad H hR => hR.2.2 a k b hl hb) kk
  rw [hb]
  cases hf : FT c k <;> rw [hf] at ht <;> first | rfl | cases ht
theorem wp_getPN {a i c k : Nat} (d : decode (mCode M) pc = .ok (.getfield i, 3)) (fl : fLk (mOwn M) i c k) (ht : isP (FT c k) = true) (hk : kd a = c) (hl : liv h a = true) (hb : vP h a k = none) (kk : WP g M (pc + 3) lv (.null :: st) h cs ss Post) : WP g M pc lv (.ref a :: st) h cs ss Post := by
  refine wp_get .null d fl hl hk (fun ad => ?_) (fun ad H hR => trivial) kk
  rw [hb]
  cases hf : FT c k <;> rw [hf] at ht <;> first | rfl | cases ht
/-- may the field be written here: it isn't final, or this is its constructor -/
def fin (M : MD) (c k : Nat) : Prop := (TT c k).2.2.2 = false ∨ ((TT c k).2.2.2 = true ∧ mNm M = "<init>" ∧ (TT c k).1 = mOwn M)
theorem wp_put {a i c k : Nat} {h' : HP} (v : Value) (d : decode (mCode M) pc = .ok (.putfield i, 3)) (fl : fLk (mOwn M) i c k) (hf : fin M c k) (hl : liv h a = true) (hk : kd a = c)
    (hn : ∀ ad, narrow (FT c k) (rn ad v) = rn ad v) (hfit : ∀ ad, fits (FT c k) (rn ad v) = true)
    (el : liv h' = liv h) (oI : ∀ b, b ≠ a → vI h' b = vI h b) (oL : ∀ b, b ≠ a → vL h' b = vL h b) (oP : ∀ b, b ≠ a → vP h' b = vP h b)
    (hp : ∀ ad H, Rp g h ad H → rok h v → ∀ k b, vP h' a k = some b → liv h b = true)
    (hv : ∀ ad, fv ad (FT c k) (vI h' a k) (vL h' a k) (vP h' a k) = rn ad v) (ho' : ∀ ad j, j ≠ k → fv ad (FT c j) (vI h' a j) (vL h' a j) (vP h' a j) = fv ad (FT c j) (vI h a j) (vL h a j) (vP h a j))
    (kk : WP g M (pc + 3) lv st h' cs ss Post) : WP g M pc lv (v :: .ref a :: st) h cs ss Post := by
  intro p l e s m args below meth c0 H locs ls ad h0 ad0 hC hR hS hl' ho hq hE
  obtain ⟨hc, hkN, hw⟩ := fl
  obtain ⟨hx, hb, hr, hml, hown, hts, hlk, hnm, hX, hK, hN, hA, hB⟩ := id hC
  have hap := va_apart (own := mOwn M) hts (cl_in hc) (FT c) (cl_ty hc) (cl_nm hc) hK (cl_at hc)
  obtain ⟨cell, q1, q2, q3, q4⟩ := cE_obj hk hc (Rp_at hR hl (by omega)).2
  obtain ⟨hSl, hfc, kC, hkC, hkind⟩ := hK.1 c _ (cl_at hc)
  obtain ⟨cf, kf, fi, f, hi, hsl⟩ := hSl k hkN
  have hst := (u_facts hfc hkC (u_lays hts (cl_in hc) hkN) hi).1
  have hlay := hts _ (cl_in hc _ (u_in_lay hkN))
  have rokE : ∀ w, rok h w → rok h' w := by
    intro w hw
    cases w <;> first | trivial | (show liv h' _ = true; rw [el]; exact hw)
  have fin1 : ∀ H' : Heap, H'[ad a]? = some (cell.setSlot f.slot (rn ad v)) → H'.size = H.size → (∀ q, q ≠ ad a → H'[q]? = H[q]?) → W p l e (mRm M) s m args below meth c0 H' (locs ++ [⟨ad a, f.slot⟩]) cs ss (MQ below (QQ g h0 ad0 Post) args s (mRm M).cells (mRm M).slots (BA g)) (F0 m (pc + 3) ls (st.map (rn ad))) := by
    intro H' e1 e2 e3
    rw [hsl] at e1
    have hcE : cE g h' ad a H' := by
      unfold cE
      rw [hk, if_pos hc]
      refine ⟨_, e1, q2, q3, fun j hj => ?_⟩
      rw [t_set q4 hap hkN (rn ad v) j hj]
      by_cases hjk : j = k
      · subst hjk
        simp only [updV, if_true]
        rw [hv ad]
      · simp only [updV, if_neg hjk]
        rw [ho' ad j hjk]
    exact kk p l e s m args below meth c0 H' _ ls ad h0 ad0 hC (Rp_put hR (by omega) hl el oI oL oP (hp ad H hR (fa1 ho)) e3 hcE) (hS.put e2 e3 (Rp_at hR hl (by omega)).1) hl' (fun w hw => rokE w (fat (fat ho) w hw)) (fun q hq' => rokE _ (hq q hq')) (fun b hb => by rw [el]; exact hE b hb)
  rcases hf with hfin | ⟨hfin, hin2, hdecl⟩
  · unfold u_lay at hlay
    rw [if_neg (by rw [hfin]; decide)] at hlay
    have h6 := u_store hfc hkC hkind hlay hi (cl_ty hc k hkN) (hn ad) (hfit ad)
    exact W.putK hx hb (f := f) ⟨hown, hts _ (gw_of hw rfl), ⟨_, _, _, hi⟩, hst⟩ (by rw [q2]; exact h6) q1 q3 (by rw [hsl]; exact k2_hasslot (q4 k hkN)) rfl rfl d fin1
  · unfold u_lay at hlay
    rw [if_pos hfin] at hlay
    have hcf : m.cls = cf := by
      obtain ⟨_, _, c', _, _, _, -, -, hf', -, -, -, hown2, -⟩ := Cond.laysFinal_spec hlay
      have e1 : c' = cf := by have := hi.symm.trans hf'; simp at this; exact this.1.symm
      rw [hdecl] at hown2
      rw [← e1]; exact Option.some.inj (hown.symm.trans hown2)
    have h6 := u_fits hfc hkC hkind (Or.inr hlay) hi (cl_ty hc k hkN) (hn ad) (hfit ad)
    exact W.putFinK hx hb hown (hts _ (gw_of hw rfl)) hi hst hcf (hnm.trans hin2) (by rw [q2]; exact h6) q1 q3 (by rw [hsl]; exact k2_hasslot (q4 k hkN)) rfl rfl d fin1
theorem up2_ne {α : Type} {f : Nat → Nat → α} {a k b : Nat} {v : α} (hb : b ≠ a) : up2 f a k v b = f b := by funext j; simp [up2, hb]
theorem up2_eq {α : Type} {f : Nat → Nat → α} {a k : Nat} {v : α} : up2 f a k v a k = v := by simp [up2]
theorem up2_j {α : Type} {f : Nat → Nat → α} {a b k j : Nat} {v : α} (hj : j ≠ k) : up2 f a k v b j = f b j := by simp [up2, hj]
theorem wp_putI {a i c k : Nat} {x : Int32} (d : decode (mCode M) pc = .ok (.putfield i, 3)) (fl : fLk (mOwn M) i c k) (hf : fin M c k) (ht : isI (FT c k) = true) (hn : narrow (FT c k) (.int x) = .int x) (hfit : fits (FT c k) (.int x) = true) (hk : kd a = c) (hl : liv h a = true) (kk : WP g M (pc + 3) lv st (sI h a k x) cs ss Post) : WP g M pc lv (.int x :: .ref a :: st) h cs ss Post := by
  refine wp_put (h' := sI h a k x) (.int x) d fl hf hl hk (fun _ => hn) (fun _ => hfit) rfl (fun b hb => up2_ne hb) (fun b hb => rfl) (fun b hb => rfl) (fun ad H hR _ j b e => hR.2.2 a j b hl e) (fun ad => ?_) (fun ad j hj => ?_) kk
  · have e : vI (sI h a k x) a k = x := up2_eq
    rw [e]
    cases hft : FT c k <;> rw [hft] at ht <;> first | rfl | cases ht
  · have e : vI (sI h a k x) a j = vI h a j := up2_j hj
    rw [e]
    rfl
theorem wp_putL {a i c k : Nat} {x : Int64} (d : decode (mCode M) pc = .ok (.putfield i, 3)) (fl : fLk (mOwn M) i c k) (hf : fin M c k) (ht : FT c k = .long) (hk : kd a = c) (hl : liv h a = true) (kk : WP g M (pc + 3) lv st (sL h a k x) cs ss Post) : WP g M pc lv (.long x :: .ref a :: st) h cs ss Post := by
  refine wp_put (h' := sL h a k x) (.long x) d fl hf hl hk (fun _ => by rw [ht]; rfl) (fun _ => by rw [ht]; rfl) rfl (fun b hb => rfl) (fun b hb => up2_ne hb) (fun b hb => rfl) (fun ad H hR _ j b e => hR.2.2 a j b hl e) (fun ad => ?_) (fun ad j hj => ?_) kk
  · have e : vL (sL h a k x) a k = x := up2_eq
    rw [e, ht]
    rfl
  · have e : vL (sL h a k x) a j = vL h a j := up2_j hj
    rw [e]
    rfl
theorem wp_putP {a i c k b : Nat} (d : decode (mCode M) pc = .ok (.putfield i, 3)) (fl : fLk (mOwn M) i c k) (hf : fin M c k) (ht : isP (FT c k) = true) (hk : kd a = c) (hl : liv h a = true) (kk : WP g M (pc + 3) lv st (sP h a k (some b)) cs ss Post) : WP g M pc lv (.ref b :: .ref a :: st) h cs ss Post := by
  have e : vP (sP h a k (some b)) a k = some b := up2_eq
  refine wp_put (h' := sP h a k (some b)) (.ref b) d fl hf hl hk (fun ad => ?_) (fun ad => ?_) rfl (fun b hb => rfl) (fun b hb => rfl) (fun b hb => up2_ne hb) (fun ad H hR hok j q e2 => ?_) (fun ad => ?_) (fun ad j hj => ?_) kk
  · cases hft : FT c k <;> rw [hft] at ht <;> first | rfl | cases ht
  · cases hft : FT c k <;> rw [hft] at ht <;> first | rfl | cases ht
  · by_cases hj : j = k
    · subst hj
      rw [e] at e2
      cases e2
      exact hok
    · rw [show vP (sP h a k (some b)) a j = vP h a j from up2_j hj] at e2
      exact hR.2.2 a j q hl e2
  · rw [e]
    cases hft : FT c k <;> rw [hft] at ht <;> first | rfl | cases ht
  · rw [show vP (sP h a k (some b)) a j = vP h a j from up2_j hj]
    rfl
end HeapRows
