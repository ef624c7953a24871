section ArrRows
variable {g : GG} {M : MD} {pc : Nat} {lv : List (Nat × Value)} {st : List Value} {h : HP} {cs ss : Nat} {Post : Option Value → HP → Prop}
theorem one_P {D : va_G} {a : Nat} {e : va_E} {H : Heap} (h : va_at D vwCl (a, e) H) : va_P D vwCl [(a, e)] H := by
  intro k q hk
  match k, hk with
  | 0, hk => cases hk; exact h
  | k + 1, hk => simp at hk
theorem wp_iald {a : Nat} {i : Int32} (d : decode (mCode M) pc = .ok (.iaload, 1)) (hk : kd a = 8) (hl : liv h a = true) (hin : vp_in i (ln a)) (kk : WP g M (pc + 1) lv (.int (vI h a i.toNatClampNeg) :: st) h cs ss Post) : WP g M pc lv (.int i :: .ref a :: st) h cs ss Post := by
  intro p l e s m args below meth c0 H locs ls ad h0 ad0 hC hR hS hl' ho hq hE
  have hc := cE_arr hk (by decide) (Rp_at hR hl (by omega)).2
  exact va_iald (D := g.2.1) (cl := vwCl) (tys := tysOf g) (ws := [(ad a, .inl (g.2.2 8, ln a, .inl (vI h a)))]) hC.1 hC.2.1 hC.2.2.2.2.2.2.2.2.2.1 (one_P hc) 0 0 rfl rfl hin d (kk p l e s m args below meth c0 H locs ls ad h0 ad0 hC hR hS hl' (fac trivial (fat (fat ho))) hq hE)
theorem wp_bald {a : Nat} {i : Int32} (d : decode (mCode M) pc = .ok (.baload, 1)) (hk : kd a = 10) (hl : liv h a = true) (hin : vp_in i (ln a)) (kk : WP g M (pc + 1) lv (.int (vI h a i.toNatClampNeg) :: st) h cs ss Post) : WP g M pc lv (.int i :: .ref a :: st) h cs ss Post := by
  intro p l e s m args below meth c0 H locs ls ad h0 ad0 hC hR hS hl' ho hq hE
  have hc := cE_arr hk (by decide) (Rp_at hR hl (by omega)).2
  exact va_zald (D := g.2.1) (cl := vwCl) (tys := tysOf g) (ws := [(ad a, .inl (g.2.2 10, ln a, .inl (vI h a)))]) hC.1 hC.2.1 hC.2.2.2.2.2.2.2.2.2.1 (one_P hc) 0 2 rfl rfl hin d (kk p l e s m args below meth c0 H locs ls ad h0 ad0 hC hR hS hl' (fac trivial (fat (fat ho))) hq hE)
theorem wp_lald {a : Nat} {i : Int32} (d : decode (mCode M) pc = .ok (.laload, 1)) (hk : kd a = 9) (hl : liv h a = true) (hin : vp_in i (ln a)) (kk : WP g M (pc + 1) lv (.long (vL h a i.toNatClampNeg) :: st) h cs ss Post) : WP g M pc lv (.int i :: .ref a :: st) h cs ss Post := by
  intro p l e s m args below meth c0 H locs ls ad h0 ad0 hC hR hS hl' ho hq hE
  have hc := cE_arr hk (by decide) (Rp_at hR hl (by omega)).2
  exact va_lald (D := g.2.1) (cl := vwCl) (tys := tysOf g) (ws := [(ad a, .inl (g.2.2 9, ln a, .inr (.inl (vL h a))))]) hC.1 hC.2.1 hC.2.2.2.2.2.2.2.2.2.1 (one_P hc) 0 1 rfl rfl hin d (kk p l e s m args below meth c0 H locs ls ad h0 ad0 hC hR hS hl' (fac trivial (fat (fat ho))) hq hE)
/-- arrays of references: 11 to 14 -/
theorem aF_ref {t : Nat} (h1 : 10 < t) (I : Nat → Int32) (L : Nat → Int64) (P : Nat → Option Nat) : aF t I L P = .inr (.inr (.inr (.inr P))) := by
  unfold aF
  split <;> first | omega | rfl
theorem tys_ref {t : Nat} (h1 : 10 < t) (h2 : t < 15) : ∃ (C : String) (k : Nat), AT t = FieldType.object C ∧ (tysOf g)[k]? = some (g.2.2 t, FieldType.object C) := by
  match t, h1, h2 with
  | 11, _, _ => exact ⟨RX2, 3, rfl, rfl⟩
  | 12, _, _ => exact ⟨RX1, 4, rfl, rfl⟩
  | 13, _, _ => exact ⟨RX5, 5, rfl, rfl⟩
  | 14, _, _ => exact ⟨RX4, 6, rfl, rfl⟩
  | n + 15, _, h => exact absurd h (by omega)
theorem wp_aald {a t : Nat} {i : Int32} (v : Value) (d : decode (mCode M) pc = .ok (.aaload, 1)) (hk : kd a = t) (h1 : 10 < t) (h2 : t < 15) (hl : liv h a = true) (hin : vp_in i (ln a)) (hv : va_rf (vP h a i.toNatClampNeg) = v) (kk : WP g M (pc + 1) lv (v :: st) h cs ss Post) : WP g M pc lv (.int i :: .ref a :: st) h cs ss Post := by
  intro p l e s m args below meth c0 H locs ls ad h0 ad0 hC hR hS hl' ho hq hE
  have hc := cE_arr hk (by omega) (Rp_at hR hl (by omega)).2
  rw [aF_ref h1] at hc
  obtain ⟨C, k, -, ht⟩ := tys_ref (g := g) h1 h2
  refine va_aldq (D := g.2.1) (cl := vwCl) (tys := tysOf g) (ws := [(ad a, .inl (g.2.2 t, ln a, .inr (.inr (.inr (.inr (fun k => (vP h a k).map ad))))))]) hC.1 hC.2.1 hC.2.2.2.2.2.2.2.2.2.1 (one_P hc) 0 k rfl ht hin d ?_
  have hv2 : va_rf ((vP h a i.toNatClampNeg).map ad) = rn ad v := by
    rw [← hv]
    cases vP h a i.toNatClampNeg <;> rfl
  have hok : rok h v := by
    rw [← hv]
    cases hz : vP h a i.toNatClampNeg with
    | none => trivial
    | some b => exact hR.2.2 a _ b hl hz
  rw [hv2]
  exact kk p l e s m args below meth c0 H locs ls ad h0 ad0 hC hR hS hl' (fac hok (fat (fat ho))) hq hE
theorem wp_alen {a t : Nat} {n : Int32} (d : decode (mCode M) pc = .ok (.arraylength, 1)) (hk : kd a = t) (h1 : 7 < t) (h2 : t < 15) (hl : liv h a = true) (hn : Int32.ofNat (ln a) = n) (kk : WP g M (pc + 1) lv (.int n :: st) h cs ss Post) : WP g M pc lv (.ref a :: st) h cs ss Post := by
  intro p l e s m args below meth c0 H locs ls ad h0 ad0 hC hR hS hl' ho hq hE
  have hc := cE_arr hk (by omega) (Rp_at hR hl (by omega)).2
  have ht : (tysOf g)[t - 8]? = some (g.2.2 t, AT t) := by
    match t, h1, h2 with
    | 8, _, _ => rfl
    | 9, _, _ => rfl
    | 10, _, _ => rfl
    | 11, _, _ => rfl
    | 12, _, _ => rfl
    | 13, _, _ => rfl
    | 14, _, _ => rfl
    | n + 15, _, h => exact absurd h (by omega)
  exact va_alen (D := g.2.1) (cl := vwCl) (tys := tysOf g) (ws := [(ad a, .inl (g.2.2 t, ln a, aF t (vI h a) (vL h a) (fun k => (vP h a k).map ad)))]) hC.1 hC.2.1 hC.2.2.2.2.2.2.2.2.2.1 (one_P hc) 0 (t - 8) rfl ht hn d (kk p l e s m args below meth c0 H locs ls ad h0 ad0 hC hR hS hl' (fac trivial (fat ho)) hq hE)
/-- behind a store into an array -/
theorem wp_stored {a t : Nat} {h' : HP} {ls : Array Slot} {ad : Nat → Nat} {p : Program} {l : Launch} {e : Env} {s : State} {m : MethodId} {args : Array Value} {below : List Frame} {meth : Method} {c0 : Code} {H H' : Heap} {locs : List Loc} {h0 : HP} {ad0 : Nat → Nat} {i : Nat} {v : Value} {pc' : Nat} {st' : List Value}
    (hk : kd a = t) (ht : ¬ t < 8) (ht2 : t < 15) (hl : liv h a = true) (hC : Cxt g M p s m args meth c0) (hR : Rp g h ad H) (hS : va_S (BA g) s.heap H locs) (hl' : lv_has ls (mLoc M) (lv.map (rq ad))) (ho : ∀ v ∈ st', rok h v) (hq : ∀ q ∈ lv, rok h q.2) (hE : Ext h0 ad0 h ad)
    (el : liv h' = liv h) (oI : ∀ b, b ≠ a → vI h' b = vI h b) (oL : ∀ b, b ≠ a → vL h' b = vL h b) (oP : ∀ b, b ≠ a → vP h' b = vP h b) (hp : ∀ k b, vP h' a k = some b → liv h b = true)
    (e1 : H'[ad a]? = some ((vp_cell (g.2.2 t) (ln a, aF t (vI h a) (vL h a) (fun k => (vP h a k).map ad))).setSlot i v)) (e2 : H'.size = H.size) (e3 : ∀ q, q ≠ ad a → H'[q]? = H[q]?)
    (e4 : (vp_cell (g.2.2 t) (ln a, aF t (vI h a) (vL h a) (fun k => (vP h a k).map ad))).setSlot i v = vp_cell (g.2.2 t) (ln a, aF t (vI h' a) (vL h' a) (fun k => (vP h' a k).map ad)))
    (kk : WP g M pc' lv st' h' cs ss Post) : W p l e (mRm M) s m args below meth c0 H' (locs ++ [⟨ad a, i⟩]) cs ss (MQ below (QQ g h0 ad0 Post) args s (mRm M).cells (mRm M).slots (BA g)) (F0 m pc' ls (st'.map (rn ad))) := by
  have rokE : ∀ w, rok h w → rok h' w := by
    intro w hw
    cases w <;> first | trivial | (show liv h' _ = true; rw [el]; exact hw)
  have hcE : cE g h' ad a H' := by
    unfold cE
    rw [hk, if_neg ht, e1, e4]
  exact kk p l e s m args below meth c0 H' _ ls ad h0 ad0 hC (Rp_put hR (by omega) hl el oI oL oP hp e3 hcE) (hS.put e2 e3 (Rp_at hR hl (by omega)).1) hl' (fun w hw => rokE w (ho w hw)) (fun q hq' => rokE _ (hq q hq')) (fun b hb => by rw [el]; exact hE b hb)
theorem up2_row {α : Type} (f : Nat → Nat → α) (a k : Nat) (v : α) : up2 f a k v a = fun j => if j = k then v else f a j := by funext j; simp [up2]
theorem wp_iast {a : Nat} {i x : Int32} (d : decode (mCode M) pc = .ok (.iastore, 1)) (hk : kd a = 8) (hl : liv h a = true) (hin : vp_in i (ln a)) (kk : WP g M (pc + 1) lv st (sI h a i.toNatClampNeg x) cs ss Post) : WP g M pc lv (.int x :: .int i :: .ref a :: st) h cs ss Post := by
  intro p l e s m args below meth c0 H locs ls ad h0 ad0 hC hR hS hl' ho hq hE
  have hc := cE_arr hk (by decide) (Rp_at hR hl (by omega)).2
  have hK := hC.2.2.2.2.2.2.2.2.2.1
  refine W.iast hC.1 hC.2.1 hc ((hK.2 0 _ rfl).1 (ln a) (fun j => .int (vI h a j))) (fun q => by cases q) (by show ¬ (i < 0 ∨ (arrV _ _ _).slots.size ≤ _); rw [arrV_size]; exact hin) rfl rfl d fun H1 e1 z oq => ?_
  refine wp_stored hk (by decide) (by decide) hl hC hR hS hl' (fat (fat (fat ho))) hq hE (h' := sI h a i.toNatClampNeg x) rfl (fun b hb => up2_ne hb) (fun b hb => rfl) (fun b hb => rfl) (fun k b e => hR.2.2 a k b hl e) e1 z oq ?_ kk
  show (vp_cell (g.2.2 8) (ln a, .inl (vI h a))).setSlot _ _ = vp_cell (g.2.2 8) (ln a, .inl (vI (sI h a i.toNatClampNeg x) a))
  rw [vp_cell_i, vp_cell_i, arrV_store]
  congr 1
  funext q
  show updV (fun j => Value.int (vI h a j)) _ _ q = .int (up2 h.2.1 a _ x a q)
  rw [up2_row]
  unfold updV
  dsimp only
  split <;> rfl
theorem wp_last {a : Nat} {i : Int32} {x : Int64} (d : decode (mCode M) pc = .ok (.lastore, 1)) (hk : kd a = 9) (hl : liv h a = true) (hin : vp_in i (ln a)) (kk : WP g M (pc + 1) lv st (sL h a i.toNatClampNeg x) cs ss Post) : WP g M pc lv (.long x :: .int i :: .ref a :: st) h cs ss Post := by
  intro p l e s m args below meth c0 H locs ls ad h0 ad0 hC hR hS hl' ho hq hE
  have hc := cE_arr hk (by decide) (Rp_at hR hl (by omega)).2
  have hK := hC.2.2.2.2.2.2.2.2.2.1
  refine W.last hC.1 hC.2.1 hc ((hK.2 1 _ rfl).1 (ln a) (fun j => .long (vL h a j))) (fun q => by cases q) (by show ¬ (i < 0 ∨ (arrV _ _ _).slots.size ≤ _); rw [arrV_size]; exact hin) rfl rfl d fun H1 e1 z oq => ?_
  refine wp_stored hk (by decide) (by decide) hl hC hR hS hl' (fat (fat (fat ho))) hq hE (h' := sL h a i.toNatClampNeg x) rfl (fun b hb => rfl) (fun b hb => up2_ne hb) (fun b hb => rfl) (fun k b e => hR.2.2 a k b hl e) e1 z oq ?_ kk
  show (vp_cell (g.2.2 9) (ln a, .inr (.inl (vL h a)))).setSlot _ _ = vp_cell (g.2.2 9) (ln a, .inr (.inl (vL (sL h a i.toNatClampNeg x) a)))
  rw [vp_cell_l, vp_cell_l, arrV_store]
  congr 1
  funext q
  show updV (fun j => Value.long (vL h a j)) _ _ q = .long (up2 h.2.2.1 a _ x a q)
  rw [up2_row]
  unfold updV
  dsimp only
  split <;> rfl
theorem wp_bast {a : Nat} {i x : Int32} (d : decode (mCode M) pc = .ok (.bastore, 1)) (hk : kd a = 10) (hl : liv h a = true) (hin : vp_in i (ln a)) (hn : narrow .boolean (.int x) = .int x) (kk : WP g M (pc + 1) lv st (sI h a i.toNatClampNeg x) cs ss Post) : WP g M pc lv (.int x :: .int i :: .ref a :: st) h cs ss Post := by
  intro p l e s m args below meth c0 H locs ls ad h0 ad0 hC hR hS hl' ho hq hE
  have hc := cE_arr hk (by decide) (Rp_at hR hl (by omega)).2
  have hK := hC.2.2.2.2.2.2.2.2.2.1
  refine W.zast hC.1 hC.2.1 hc ((hK.2 2 _ rfl).1 (ln a) (fun j => .int (vI h a j))) (fun q => by cases q) (by show ¬ (i < 0 ∨ (arrV _ _ _).slots.size ≤ _); rw [arrV_size]; exact hin) rfl rfl d fun H1 e1 z oq => ?_
  rw [hn] at e1
  refine wp_stored hk (by decide) (by decide) hl hC hR hS hl' (fat (fat (fat ho))) hq hE (h' := sI h a i.toNatClampNeg x) rfl (fun b hb => up2_ne hb) (fun b hb => rfl) (fun b hb => rfl) (fun k b e => hR.2.2 a k b hl e) e1 z oq ?_ kk
  show (vp_cell (g.2.2 10) (ln a, .inl (vI h a))).setSlot _ _ = vp_cell (g.2.2 10) (ln a, .inl (vI (sI h a i.toNatClampNeg x) a))
  rw [vp_cell_i, vp_cell_i, arrV_store]
  congr 1
  funext q
  show updV (fun j => Value.int (vI h a j)) _ _ q = .int (up2 h.2.1 a _ x a q)
  rw [up2_row]
  unfold updV
  dsimp only
  split <;> rfl
/-- the class of an array's elements -/
def eC (t : Nat) : Nat := match t with
  | 11 => 2
  | 12 => 1
  | 13 => 5
  | _ => 4
theorem wp_aast {a b t : Nat} {i : Int32} (d : decode (mCode M) pc = .ok (.aastore, 1)) (hk : kd a = t) (h1 : 10 < t) (h2 : t < 15) (hl : liv h a = true) (hin : vp_in i (ln a)) (hkb : kd b = eC t) (kk : WP g M (pc + 1) lv st (sP h a i.toNatClampNeg (some b)) cs ss Post) : WP g M pc lv (.ref b :: .int i :: .ref a :: st) h cs ss Post := by
  intro p l e s m args below meth c0 H locs ls ad h0 ad0 hC hR hS hl' ho hq hE
  have hlb : liv h b = true := fa1 ho
  have hc := cE_arr hk (by omega) (Rp_at hR hl (by omega)).2
  have hK := hC.2.2.2.2.2.2.2.2.2.1
  have hlt : i.toNatClampNeg < ln a := Nat.not_le.mp fun q => hin (Or.inr q)
  have h0i : ¬ i < 0 := fun q => hin (Or.inl q)
  have hec : eC t < 8 := by unfold eC; split <;> decide
  obtain ⟨C, kt, hAT, ht⟩ := tys_ref (g := g) h1 h2
  have hCN : C = CN (eC t) := by
    match t, h1, h2, hAT with
    | 11, _, _, q => cases q; rfl
    | 12, _, _, q => cases q; rfl
    | 13, _, _, q => cases q; rfl
    | 14, _, _, q => cases q; rfl
    | n + 15, _, h, _ => exact absurd h (by omega)
  obtain ⟨cellV, g1, g2, g3, -⟩ := cE_obj hkb hec (Rp_at hR hlb (by omega)).2
  have hcls := (hK.1 (eC t) _ (cl_at hec)).2
  obtain ⟨kA, comp, k1, k2, k3, -⟩ := (hK.2 kt _ ht).2
  rw [hCN] at k3
  have hcomp : comp = g.2.1.1 (eC t) := Option.some.inj (k3.symm.trans hcls.1)
  subst hcomp
  obtain ⟨kC, hkC, -⟩ := id hcls.2
  rw [aF_ref h1] at hc
  refine W.aast hC.1 hC.2.1 hc (fun q h => by cases h) (fun h => by cases h) k1 k2 rfl hkC ⟨h0i, by show _ < (arrV _ _ _).slots.size; rw [arrV_size]; exact hlt⟩ g1 (fun q h => by rw [g3] at h; cases h) (by rw [g2]; exact hkC) (by rw [g2]; exact va_assign hcls) rfl rfl d fun H1 e1 z oq => ?_
  rw [← aF_ref h1 (vI h a) (vL h a)] at e1
  refine wp_stored hk (by omega) (by omega) hl hC hR hS hl' (fat (fat (fat ho))) hq hE (h' := sP h a i.toNatClampNeg (some b)) rfl (fun b hb => rfl) (fun b hb => rfl) (fun b hb => up2_ne hb) (fun k q e => ?_) e1 z oq ?_ kk
  · have e' : up2 h.2.2.2 a i.toNatClampNeg (some b) a k = some q := e
    rw [up2_row] at e'
    dsimp only at e'
    split at e'
    · cases e'; exact hlb
    · exact hR.2.2 a k q hl e'
  · rw [aF_ref h1, aF_ref h1]
    rw [vp_cell_q, vp_cell_q, arrV_store]
    congr 1
    funext q
    show updV (fun j => va_rf ((vP h a j).map ad)) _ _ q = va_rf ((up2 h.2.2.2 a _ (some b) a q).map ad)
    rw [up2_row]
    unfold updV
    dsimp only
    split <;> rfl
end ArrRows
