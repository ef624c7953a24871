section Alloc
variable {g : GG} {M : MD} {pc : Nat} {lv : List (Nat × Value)} {st : List Value} {h : HP} {cs ss : Nat} {Post : Option Value → HP → Prop}
theorem rn_congr {ad ad' : Nat → Nat} {v : Value} (hv : rok h v) (he : ∀ b, liv h b = true → ad' b = ad b) : rn ad' v = rn ad v := by
  cases v <;> first | rfl | (show Value.ref (ad' _) = Value.ref (ad _); rw [he _ hv])
theorem map_rn {ad ad' : Nat → Nat} (he : ∀ b, liv h b = true → ad' b = ad b) (hs : ∀ v ∈ st, rok h v) : st.map (rn ad') = st.map (rn ad) := List.map_congr_left fun v hv => rn_congr (hs v hv) he
theorem map_rq {ad ad' : Nat → Nat} (he : ∀ b, liv h b = true → ad' b = ad b) (hs : ∀ q ∈ lv, rok h q.2) : lv.map (rq ad') = lv.map (rq ad) := List.map_congr_left fun q hq => by
  show (q.1, rn ad' q.2) = (q.1, rn ad q.2)
  rw [rn_congr (hs q hq) he]
theorem rok_mono {h' : HP} (he : ∀ b, liv h b = true → liv h' b = true) {v : Value} (hv : rok h v) : rok h' v := by
  cases v <;> first | trivial | exact he _ hv
theorem wp_alloced {a : Nat} {ls : Array Slot} {ad : Nat → Nat} {p : Program} {l : Launch} {e : Env} {s : State} {m : MethodId} {args : Array Value} {below : List Frame} {meth : Method} {c0 : Code} {H H' : Heap} {locs : List Loc} {h0 : HP} {ad0 : Nat → Nat} {pc' : Nat}
    (hC : Cxt g M p s m args meth c0) (hR : Rp g h ad H) (hS : va_S (BA g) s.heap H locs) (hl' : lv_has ls (mLoc M) (lv.map (rq ad))) (ho : ∀ v ∈ st, rok h v) (hq : ∀ q ∈ lv, rok h q.2) (hE : Ext h0 ad0 h ad) (hka : kd a < 15) (ha : liv h a = false)
    (o1 : ∀ q, q < H.size → H'[q]? = H[q]?) (z1 : H'.size = H.size + 1) (hcE : cE g (sN h a) (up1 ad a H.size) a H') (kk : WP g M pc' lv (.ref a :: st) (sN h a) cs ss Post) :
    W p l e (mRm M) s m args below meth c0 H' locs cs ss (MQ below (QQ g h0 ad0 Post) args s (mRm M).cells (mRm M).slots (BA g)) (F0 m pc' ls (.ref H.size :: st.map (rn ad))) := by
  have hB : g.1 ≤ H.size := Nat.le_trans hC.2.2.2.2.2.2.2.2.2.2.2.2 hS.1
  obtain ⟨hR', key⟩ := Rp_new hR hka ha hB o1 hcE
  have e1 : Value.ref H.size :: st.map (rn ad) = (Value.ref a :: st).map (rn (up1 ad a H.size)) := by
    rw [List.map_cons, map_rn (fun b hb => (key b hb).2) ho]
    show _ = Value.ref (up1 ad a H.size a) :: _
    rw [show up1 ad a H.size a = H.size from if_pos rfl]
  rw [e1]
  refine kk p l e s m args below meth c0 H' locs ls (up1 ad a H.size) h0 ad0 hC hR' ⟨Nat.le_trans hS.1 (by omega), fun x h1 h2 => (o1 x (Nat.lt_of_lt_of_le h1 hS.1)).trans (hS.2.1 x h1 h2), hS.2.2⟩ ?_ (fac ?_ (fun v hv => rok_mono (fun b hb => (key b hb).1) (ho v hv))) (fun q hq' => rok_mono (fun b hb => (key b hb).1) (hq q hq')) (fun b hb => ⟨(key b (hE b hb).1).1, (key b (hE b hb).1).2.trans (hE b hb).2⟩)
  · rw [map_rq (fun b hb => (key b hb).2) hq]
    exact hl'
  · show (if a = a then true else _) = true
    rw [if_pos rfl]
def okT (t : FieldType) : Bool := match t with
  | .int => true
  | .boolean => true
  | .long => true
  | .object _ => true
  | .array _ => true
  | _ => false
theorem cl_ok {c : Nat} (hc : c < 8) : ∀ k, k < NF c → okT (FT c k) = true := by
  refine lt8 (P := fun c => ∀ k, k < NF c → okT (FT c k) = true) ?_ ?_ ?_ ?_ ?_ ?_ ?_ ?_ hc <;> decide +kernel
theorem okT_def {t : FieldType} (ht : okT t = true) (ad : Nat → Nat) : defaultValue t = fv ad t 0 0 none := by
  cases t <;> first | rfl | cases ht
theorem wp_new (a : Nat) {i c : Nat} (d : decode (mCode M) pc = .ok (.new i, 3)) (hc : c < 8) (hw : Cond.classLink (mOwn M) i (CN c) ∈ lw_tbl) (hi : Cond.instantiable (CN c) (NF c) ∈ lw_tbl) (hz : Cond.initialized (CN c) ∈ lw_tbl) (hk : kd a = c) (ha : liv h a = false) (hcs : cs + 1 ≤ (mRm M).cells) (hss : ss + NF c ≤ (mRm M).slots) (kk : WP g M (pc + 3) lv (.ref a :: st) (sN h a) (cs + 1) (ss + NF c) Post) : WP g M pc lv st h cs ss Post := by
  intro p l e s m args below meth c0 H locs ls ad h0 ad0 hC hR hS hl' ho hq hE
  obtain ⟨hx, hb, hr, hml, hown, hts, hlk, hnm, hX, hK, hN, hA, hB⟩ := id hC
  have hKn := hK.1 c _ (cl_at hc)
  refine W.newcK hx hb hown (hts _ (gw_of hw rfl)) (hts _ (gw_of hi rfl)) (hts _ (gw_of hz rfl)) rfl d hcs hss hKn.2.1 rfl fun H1 kC hkC e1 z1 o1 => ?_
  refine wp_alloced hC hR hS hl' ho hq hE (by omega) ha o1 z1 ?_ kk
  unfold cE
  rw [hk, if_pos hc, show up1 ad a H.size a = H.size from if_pos rfl]
  refine (u_born (FT c) hts (cl_in hc) hKn hkC e1 (cl_ty hc)).to (fun k hkN => ?_)
  have eI : vI (sN h a) a k = 0 := by show (if a = a then (fun _ => (0 : Int32)) else _) k = 0; rw [if_pos rfl]
  have eL : vL (sN h a) a k = 0 := by show (if a = a then (fun _ => (0 : Int64)) else _) k = 0; rw [if_pos rfl]
  have eP : vP (sN h a) a k = none := by show (if a = a then (fun _ => (none : Option Nat)) else _) k = none; rw [if_pos rfl]
  rw [eI, eL, eP]
  exact okT_def (cl_ok hc k hkN) _
theorem sN_row (a : Nat) : vI (sN h a) a = (fun _ => 0) ∧ vL (sN h a) a = (fun _ => 0) ∧ vP (sN h a) a = (fun _ => none) := by
  refine ⟨?_, ?_, ?_⟩
  · show (if a = a then _ else _) = _; rw [if_pos rfl]
  · show (if a = a then _ else _) = _; rw [if_pos rfl]
  · show (if a = a then _ else _) = _; rw [if_pos rfl]
theorem wp_newa0 (a : Nat) {t : Nat} {ty : ArrayType} {n : Int32} (d : decode (mCode M) pc = .ok (.newarray ty, 2)) (hty : newarray.typeOf ty = AT t) (htk : ¬ t < 8) (ht15 : t < 15) (hidx : (tysOf g)[t - 8]? = some (g.2.2 t, AT t)) (hprim : ∀ (s : State) (cA : ClassId), va_RA s cA (AT t) = (s.vm.findClass ("[" ++ (AT t).toString) = some cA)) (hw : Cond.arrayClass (AT t) ∈ lw_tbl)
    (hdef : ∀ (cA : ClassId) (N : Nat), vp_cell cA (N, aF t (fun _ => 0) (fun _ => 0) (fun _ => none)) = arrV cA N (fun _ => defaultValue (AT t))) (hk : kd a = t) (ha : liv h a = false) (hn0 : ¬ n < 0) (hn : n.toNatClampNeg = ln a) (hby : ln a * componentBytes (AT t) ≤ 536870912) (hcs : cs + 1 ≤ (mRm M).cells) (hss : ss + ln a ≤ (mRm M).slots)
    (kk : WP g M (pc + 2) lv (.ref a :: st) (sN h a) (cs + 1) (ss + ln a) Post) : WP g M pc lv (.int n :: st) h cs ss Post := by
  intro p l e s m args below meth c0 H locs ls ad h0 ad0 hC hR hS hl' ho hq hE
  obtain ⟨hx, hb, hr, hml, hown, hts, hlk, hnm, hX, hK, hN, hA, hB⟩ := id hC
  refine va_newaK hx hb (atype := ty) (by rw [hty]; exact hts _ (gw_of hw rfl)) rfl d rfl hn0 hn (by rw [hty]; exact hby) hcs hss rfl fun H1 cA e1 z1 o1 hAr hNm => ?_
  have h5 := (hK.2 (t - 8) _ hidx).2
  rw [hprim] at h5
  rw [hty] at hNm e1
  cases hNm.symm.trans h5
  refine wp_alloced hC hR hS hl' (fat ho) hq hE (by omega) ha o1 z1 ?_ kk
  unfold cE
  rw [hk, if_neg htk, show up1 ad a H.size a = H.size from if_pos rfl, e1, (sN_row a).1, (sN_row a).2.1, (sN_row a).2.2, ← hdef]
  rfl
theorem wp_newI (a : Nat) {n : Int32} (d : decode (mCode M) pc = .ok (.newarray .int, 2)) (hk : kd a = 8) (ha : liv h a = false) (hn0 : ¬ n < 0) (hn : n.toNatClampNeg = ln a) (hby : ln a ≤ 1000) (hcs : cs + 1 ≤ (mRm M).cells) (hss : ss + ln a ≤ (mRm M).slots) (kk : WP g M (pc + 2) lv (.ref a :: st) (sN h a) (cs + 1) (ss + ln a) Post) : WP g M pc lv (.int n :: st) h cs ss Post :=
  wp_newa0 a (t := 8) d rfl (by decide) (by decide) rfl (fun _ _ => rfl) (by decide +kernel) (fun _ _ => rfl) hk ha hn0 hn (by show ln a * 4 ≤ _; omega) hcs hss kk
theorem wp_newL (a : Nat) {n : Int32} (d : decode (mCode M) pc = .ok (.newarray .long, 2)) (hk : kd a = 9) (ha : liv h a = false) (hn0 : ¬ n < 0) (hn : n.toNatClampNeg = ln a) (hby : ln a ≤ 1000) (hcs : cs + 1 ≤ (mRm M).cells) (hss : ss + ln a ≤ (mRm M).slots) (kk : WP g M (pc + 2) lv (.ref a :: st) (sN h a) (cs + 1) (ss + ln a) Post) : WP g M pc lv (.int n :: st) h cs ss Post :=
  wp_newa0 a (t := 9) d rfl (by decide) (by decide) rfl (fun _ _ => rfl) (by decide +kernel) (fun _ _ => rfl) hk ha hn0 hn (by show ln a * 8 ≤ _; omega) hcs hss kk
theorem wp_newZ (a : Nat) {n : Int32} (d : decode (mCode M) pc = .ok (.newarray .boolean, 2)) (hk : kd a = 10) (ha : liv h a = false) (hn0 : ¬ n < 0) (hn : n.toNatClampNeg = ln a) (hby : ln a ≤ 1000) (hcs : cs + 1 ≤ (mRm M).cells) (hss : ss + ln a ≤ (mRm M).slots) (kk : WP g M (pc + 2) lv (.ref a :: st) (sN h a) (cs + 1) (ss + ln a) Post) : WP g M pc lv (.int n :: st) h cs ss Post :=
  wp_newa0 a (t := 10) d rfl (by decide) (by decide) rfl (fun _ _ => rfl) (by decide +kernel) (fun _ _ => rfl) hk ha hn0 hn (by show ln a * 1 ≤ _; omega) hcs hss kk
theorem wp_newQ (a : Nat) {i t : Nat} {n : Int32} (d : decode (mCode M) pc = .ok (.anewarray i, 3)) (h1 : 10 < t) (h2 : t < 15) (hw : Cond.classLink (mOwn M) i (CN (eC t)) ∈ lw_tbl) (hk : kd a = t) (ha : liv h a = false) (hn0 : ¬ n < 0) (hn : n.toNatClampNeg = ln a) (hby : ln a ≤ 1000) (hcs : cs + 1 ≤ (mRm M).cells) (hss : ss + ln a ≤ (mRm M).slots) (kk : WP g M (pc + 3) lv (.ref a :: st) (sN h a) (cs + 1) (ss + ln a) Post) : WP g M pc lv (.int n :: st) h cs ss Post := by
  intro p l e s m args below meth c0 H locs ls ad h0 ad0 hC hR hS hl' ho hq hE
  obtain ⟨hx, hb, hr, hml, hown, hts, hlk, hnm, hX, hK, hN, hA, hB⟩ := id hC
  obtain ⟨C, kt, hAT, ht⟩ := tys_ref (g := g) h1 h2
  have hCN : C = CN (eC t) ∧ va_AO C s := by
    match t, h1, h2, hAT with
    | 11, _, _, q => cases q; exact ⟨rfl, hA.1⟩
    | 12, _, _, q => cases q; exact ⟨rfl, hA.2.1⟩
    | 13, _, _, q => cases q; exact ⟨rfl, hA.2.2.1⟩
    | 14, _, _, q => cases q; exact ⟨rfl, hA.2.2.2⟩
    | n + 15, _, h, _ => exact absurd h (by omega)
  obtain ⟨kA2, comp2, -, -, -, hNm⟩ := (hK.2 kt _ ht).2
  refine W.anew hx hb hown (hts _ (gw_of hw rfl)) (by rw [← hCN.1]; exact va_AO.use hCN.2) rfl d rfl hn0 (by rw [hn]; omega) hcs (by rw [hn]; exact hss) fun cA kA comp f1 f2 f3 f4 => ?_
  rw [← hCN.1] at f1
  cases f1.symm.trans hNm
  rw [hn]
  refine wp_alloced hC hR hS hl' (fat ho) hq hE (by omega) ha (fun q hq => by rw [Array.getElem?_push, if_neg (Nat.ne_of_lt hq)]) (by rw [Array.size_push]) ?_ kk
  unfold cE
  rw [hk, if_neg (by omega), show up1 ad a H.size a = H.size from if_pos rfl, Array.getElem?_push_size, arrV_new, (sN_row a).1, (sN_row a).2.1, (sN_row a).2.2, aF_ref h1]
  rfl
end Alloc
