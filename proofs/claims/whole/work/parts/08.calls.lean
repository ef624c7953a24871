section Calls
variable {g : GG} {M M' : MD} {pc : Nat} {lv : List (Nat × Value)} {st rest av : List Value} {h : HP} {cs ss : Nat} {Post : Option Value → HP → Prop} {y : MethodName} {i n : Nat}
theorem args_rq (ad : Nat → Nat) : ∀ (av : List Value) (i : Nat), lv_args i (av.map (rn ad)) = (lv_args i av).map (rq ad)
  | [], _ => rfl
  | v :: vs, i => by
    show (i, rn ad v) :: lv_args (if (rn ad v).category = 2 then i + 2 else i + 1) (vs.map (rn ad)) = rq ad (i, v) :: (lv_args (if v.category = 2 then i + 2 else i + 1) vs).map (rq ad)
    rw [rn_cat, args_rq ad vs]
    rfl
theorem args_len (ad : Nat → Nat) : ∀ (av : List Value), (lg_sl (av.map (rn ad))).length = (lg_sl av).length
  | [] => rfl
  | v :: vs => by
    have ih := args_len ad vs
    unfold lg_sl at ih ⊢
    rw [List.map_cons, List.flatMap_cons, List.flatMap_cons, List.length_append, List.length_append, ih, rn_cat]
    split <;> rfl
theorem args_ok : ∀ (av : List Value) (i : Nat), (∀ v ∈ av, rok h v) → ∀ q ∈ lv_args i av, rok h q.2
  | [], _, _, q, hq => by cases hq
  | v :: vs, i, ha, q, hq => by
    rcases List.mem_cons.mp hq with rfl | hq
    · exact ha v List.mem_cons_self
    · exact args_ok vs _ (fun w hw => ha w (List.mem_cons_of_mem _ hw)) q hq
/-- what is known of a method that is called -/
def isM (y : MethodName) (M : MD) (n : Nat) : Prop := y.cls = mOwn M ∧ y.name = mNm M ∧ plainFor y = true ∧ y.cls ≠ "java/lang/invoke/MethodHandle" ∧ y.cls ≠ "java/lang/invoke/VarHandle" ∧ (parseMethodDescriptor y.desc).map (fun d => d.parameters.length) = some n ∧ Cond.code y (mCode M) (mLoc M) (mRet M) ∈ lw_tbl ∧ Cond.initialized y.cls ∈ lw_tbl
def rmK (M M' : MD) : Prop := (mRm M').frames + 1 ≤ (mRm M).frames ∧ 8 + (mLoc M' + 11) + (mRm M').locals ≤ (mRm M).locals
def wsM (y : MethodName) (M : MD) : List Cond := Cond.code y (mCode M) (mLoc M) (mRet M) :: gw
theorem wsM_good {n : Nat} (hm : isM y M n) : GoodIn gw (wsM y M) := by
  intro w hw
  rcases List.mem_cons.mp hw with rfl | hw
  · exact ⟨gw_of hm.2.2.2.2.2.2.1 rfl, good_of_word rfl⟩
  · exact gw_good w hw
def PcM (g : GG) (av : List Value) (h : HP) (ad : Nat → Nat) : Array Value → State → Prop := fun a U => a = (av.map (rn ad)).toArray ∧ Rp g h ad U.heap ∧ Wd g U
theorem Wd_warm {s U : State} (hW : s.WarmedH U.vm) (hB : g.1 ≤ U.heap.size) (h : Wd g s) : Wd g U := by
  obtain ⟨h1, h2, ⟨a1, a2, a3, a4⟩, -⟩ := h
  exact ⟨va_K.moved hW.alike h1, fun q hq => va_Nw.warmM hW (h2 q hq), ⟨a1.moved hW.alike, a2.moved hW.alike, a3.moved hW.alike, a4.moved hW.alike⟩, hB⟩
theorem PcM_blind {ad : Nat → Nat} : FrameBlind (PcM g av h ad) := by
  intro a U gf mk hq
  obtain ⟨q0, q1, h1, h2, ⟨a1, a2, a3, a4⟩, h4⟩ := hq
  exact ⟨q0, q1, va_K.moved (u := U) (U := U.calling gf mk a) (Vm.Alike.refl U.vm) h1, fun q hq => va_Nw.same rfl (rfl : U.vm = (U.calling gf mk a).vm) (h2 q hq), ⟨a1, a2, a3, a4⟩, h4⟩
theorem met_of (l : Launch) (ad : Nat → Nat) (hc : CT g M av h Post) (hX : ∀ s, mX M s) (hm : isM y M n) (hlen : (lg_sl av).length ≤ mLoc M) (hav : ∀ v ∈ av, rok h v) : Met l y (wsM y M) (mRm M) (PcM g av h ad) (QQ g h ad Post) (mRm M).cells (mRm M).slots (BA g) := by
  obtain ⟨hcls, hnm, hpl, -⟩ := hm
  refine va_MetF (cc := mCode M) (maxL := mLoc M) (ret := mRet M) hpl rfl ?_
  intro p e s m args below meth c s₁ B hml hv
  obtain ⟨rfl, hR, hW⟩ := hv
  have hts := atoms_spec (ws := wsM y M) B.pre
  have hown : s.vm.findClass y.cls = some m.cls := findClass_of_methodNamed B.named
  have hin : meth.name = y.name := (name_of_methodNamed B.named B.method).1
  rw [lg_entry_eq]
  have hl := lv_entry (av.map (rn ad)) (n := mLoc M) (by rw [args_len]; exact hlen)
  rw [args_rq] at hl
  exact hc p l e s m _ below meth c s.heap [] _ ad h ad ⟨B.exec, B.bytes, B.returns, hml, by rw [← hcls]; exact hown, fun w hw => hts w (List.mem_cons_of_mem _ hw), B.notSynchronized, hin.trans hnm, hX s, hW⟩ hR va_S.rf hl (fun v h => by cases h) (args_ok av 0 hav) (fun a ha => ⟨ha, rfl⟩)
theorem wp_ran {ls : Array Slot} {ad : Nat → Nat} {p : Program} {l : Launch} {e : Env} {s : State} {m : MethodId} {args : Array Value} {below : List Frame} {meth : Method} {c0 : Code} {H : Heap} {locs : List Loc} {h0 : HP} {ad0 : Nat → Nat} {mc ms : Nat} {st0 : List Value} {a : Array Value}
    (hr : va_Run p l e (mRm M) s m args below meth c0 H locs cs ss mc ms (F0 m pc ls st0) (rest.map (rn ad)) (QQ g h ad (fun v h' => WP g M (pc + 3) lv (v.toList ++ rest) h' (cs + mc) (ss + ms) Post) a) (BA g))
    (hC : Cxt g M p s m args meth c0) (hS : va_S (BA g) s.heap H locs) (hl' : lv_has ls (mLoc M) (lv.map (rq ad))) (ho : ∀ v ∈ rest, rok h v) (hq : ∀ q ∈ lv, rok h q.2) (hE : Ext h0 ad0 h ad) :
    W p l e (mRm M) s m args below meth c0 H locs cs ss (MQ below (QQ g h0 ad0 Post) args s (mRm M).cells (mRm M).slots (BA g)) (F0 m pc ls st0) := by
  intro T hT X
  obtain ⟨v, st₀, t, T', L, hh, X', hL, e1, e2, ⟨v', h', ad', hv, hpost, hR', hE', hok, hz, hk⟩, st⟩ := hr T hT X
  cases hv
  rw [hh] at hz hk
  have key : ∀ b, liv h b = true → ad' b = ad b := fun b hb => (hE' b hb).2
  obtain ⟨t2, a1, b1⟩ := hpost p l e s m args below meth c0 T'.heap (locs ++ L) ls ad' h0 ad0 hC (by rw [e1]; exact hR')
    ⟨Nat.le_trans hS.1 (by rw [e1]; exact hz), fun q h1 h2 => by rw [e1, hk q (Nat.lt_of_lt_of_le h1 hS.1) h2]; exact hS.2.1 q h1 h2, fun q hq => by
      rcases List.mem_append.mp hq with h | h
      · exact hS.2.2 q h
      · exact hL q h⟩
    (by rw [map_rq key hq]; exact hl') (fun w hw => by
      rcases List.mem_append.mp hw with h | h
      · cases v' with
        | none => cases h
        | some x => rw [Option.toList_some, List.mem_singleton] at h; subst h; exact hok _ rfl
      · exact rok_mono (fun b hb => (hE' b hb).1) (ho w h)) (fun q hq' => rok_mono (fun b hb => (hE' b hb).1) (hq q hq')) (fun b hb => ⟨(hE' b (hE b hb).1).1, (hE' b (hE b hb).1).2.trans (hE b hb).2⟩) T' rfl X'
  refine ⟨t2, st t2 ?_, b1⟩
  have e3 : (v'.map (rn ad')).toList ++ rest.map (rn ad) = (v'.toList ++ rest).map (rn ad') := by
    rw [List.map_append, map_rn key ho]
    cases v' <;> rfl
  rw [e3]
  exact a1
theorem cat_map {ad : Nat → Nat} : ((rest.map (rn ad)).map fun v => v.category).sum = (rest.map fun v => v.category).sum := by
  rw [List.map_map]
  congr 1
  apply List.map_congr_left
  intro v _
  exact rn_cat ad v
theorem rn_args {ad : Nat → Nat} : (av.reverse ++ rest).map (rn ad) = (av.map (rn ad)).reverse ++ rest.map (rn ad) := by rw [List.map_append, List.map_reverse]
theorem isM_b {R : Room} {s : State} {args : Array Value} (hts : ∀ w ∈ gw, w.before args s = true) (hm : isM y M' n) (hl : Cond.methodLink (mOwn M) i y ∈ lw_tbl) (hR : (mRm M').frames + 1 ≤ R.frames ∧ 8 + (mLoc M' + 11) + (mRm M').locals ≤ R.locals) : CallB R s args (mOwn M) i y (mCode M') (mLoc M') (mRet M') (wsM y M') (mRm M') (mRm M').cells (mRm M').slots n :=
  callB_of n hts (wsM_good hm) rfl rfl rfl (hts _ (gw_of hm.2.2.2.2.2.2.2 rfl)) (hts _ (gw_of hl rfl)) ⟨hm.2.2.2.1, hm.2.2.2.2.1, hm.2.2.2.2.2.1⟩ hR
theorem isM_n {R : Room} {s : State} {args : Array Value} {host : String} (hts : ∀ w ∈ gw, w.before args s = true) (hm : isM y M' n) (hl : va_Nw (.methodLinkNest (mOwn M) i y host) s) (hR : (mRm M').frames + 1 ≤ R.frames ∧ 8 + (mLoc M' + 11) + (mRm M').locals ≤ R.locals) : va_CN R s args (mOwn M) i y host (mCode M') (mLoc M') (mRet M') (wsM y M') (mRm M') (mRm M').cells (mRm M').slots n :=
  va_cnB n hts (wsM_good hm) rfl rfl rfl hl (hts _ (gw_of hm.2.2.2.2.2.2.2 rfl)) ⟨hm.2.2.2.1, hm.2.2.2.2.1, hm.2.2.2.2.2.1⟩ hR
theorem rev_ok (ho : ∀ v ∈ av.reverse ++ rest, rok h v) : (∀ v ∈ av, rok h v) ∧ ∀ v ∈ rest, rok h v := ⟨fun v hv => ho v (List.mem_append_left _ (List.mem_reverse.mpr hv)), fun v hv => ho v (List.mem_append_right _ hv)⟩
/-- invokestatic, of the same class -/
theorem wp_callS (M' : MD) (av rest : List Value) (d : decode (mCode M) pc = .ok (.invokestatic i, 3)) (hm : isM y M' n) (hX : ∀ s, mX M' s) (hl : Cond.methodLink (mOwn M) i y ∈ lw_tbl) (hst : Cond.static y ∈ lw_tbl) (hR : rmK M M') (hs : st = av.reverse ++ rest) (hn : av.length = n) (hlen : (lg_sl av).length ≤ mLoc M') (hcat : (rest.map fun v => v.category).sum ≤ 8) (hcs : cs + (mRm M').cells ≤ (mRm M).cells) (hss : ss + (mRm M').slots ≤ (mRm M).slots)
    (kk : CT g M' av h (fun v h' => WP g M (pc + 3) lv (v.toList ++ rest) h' (cs + (mRm M').cells) (ss + (mRm M').slots) Post)) : WP g M pc lv st h cs ss Post := by
  subst hs
  intro p l e s m args below meth c0 H locs ls ad h0 ad0 hC hR' hS hl' ho hq hE
  obtain ⟨hx, hb, hr, hml, hown, hts, hlk, hnm, hX2, hW⟩ := id hC
  obtain ⟨ho1, ho2⟩ := rev_ok ho
  exact wp_ran (va_runS (Ts := gw) (own := mOwn M) ⟨hx, hb, hml, hown, hts⟩ (met_of l ad kk hX hm hlen ho1) ⟨isM_b (M := M) hts hm hl hR, hts _ (gw_of hst rfl)⟩ ⟨PcM_blind, fun U hU hWm => ⟨rfl, by rw [hU]; exact hR', Wd_warm hWm (by rw [hU]; exact Nat.le_trans hW.2.2.2 hS.1) hW⟩⟩ rfl (by rw [List.length_map]; exact hn) hl'.1 rn_args (lv_room (by rw [cat_map]; exact hcat)) d ⟨hcs, hss⟩) hC hS hl' ho2 hq hE
/-- invokestatic of a nest mate's private method -/
theorem wp_callSN (M' : MD) (av rest : List Value) {host : String} (d : decode (mCode M) pc = .ok (.invokestatic i, 3)) (hm : isM y M' n) (hX : ∀ s, mX M' s) (hl : (mOwn M, i, y, host) ∈ nW) (hst : Cond.static y ∈ lw_tbl) (hR : rmK M M') (hs : st = av.reverse ++ rest) (hn : av.length = n) (hlen : (lg_sl av).length ≤ mLoc M') (hcat : (rest.map fun v => v.category).sum ≤ 8) (hcs : cs + (mRm M').cells ≤ (mRm M).cells) (hss : ss + (mRm M').slots ≤ (mRm M).slots)
    (kk : CT g M' av h (fun v h' => WP g M (pc + 3) lv (v.toList ++ rest) h' (cs + (mRm M').cells) (ss + (mRm M').slots) Post)) : WP g M pc lv st h cs ss Post := by
  subst hs
  intro p l e s m args below meth c0 H locs ls ad h0 ad0 hC hR' hS hl' ho hq hE
  obtain ⟨hx, hb, hr, hml, hown, hts, hlk, hnm, hX2, hW⟩ := id hC
  obtain ⟨ho1, ho2⟩ := rev_ok ho
  exact wp_ran (va_runSN (Ts := gw) (own := mOwn M) ⟨hx, hb, hml, hown, hts⟩ (met_of l ad kk hX hm hlen ho1) ⟨isM_n (M := M) hts hm (hW.2.1 _ hl) hR, hts _ (gw_of hst rfl), trivial⟩ ⟨PcM_blind, fun U hU hWm => ⟨rfl, by rw [hU]; exact hR', Wd_warm hWm (by rw [hU]; exact Nat.le_trans hW.2.2.2 hS.1) hW⟩⟩ rfl (by rw [List.length_map]; exact hn) hl'.1 rn_args (lv_room (by rw [cat_map]; exact hcat)) d ⟨hcs, hss⟩) hC hS hl' ho2 hq hE
/-- invokespecial of a constructor -/
theorem wp_callI (M' : MD) (b : Nat) (av rest : List Value) (d : decode (mCode M) pc = .ok (.invokespecial i, 3)) (hm : isM y M' n) (hX : ∀ s, mX M' s) (hre : mRet M' = none) (hin : y.name = "<init>") (hl : Cond.methodLink (mOwn M) i y ∈ lw_tbl) (hst : Cond.instanceMethod y ∈ lw_tbl) (hR : rmK M M') (hs : st = av.reverse ++ .ref b :: rest) (hn : av.length = n) (hlen : (lg_sl (.ref b :: av)).length ≤ mLoc M') (hcat : (rest.map fun v => v.category).sum ≤ 8) (hcs : cs + (mRm M').cells ≤ (mRm M).cells) (hss : ss + (mRm M').slots ≤ (mRm M).slots)
    (kk : CT g M' (.ref b :: av) h (fun v h' => WP g M (pc + 3) lv (v.toList ++ rest) h' (cs + (mRm M').cells) (ss + (mRm M').slots) Post)) : WP g M pc lv st h cs ss Post := by
  subst hs
  intro p l e s m args below meth c0 H locs ls ad h0 ad0 hC hR' hS hl' ho hq hE
  obtain ⟨hx, hb, hr, hml, hown, hts, hlk, hnm, hX2, hW⟩ := id hC
  obtain ⟨ho1, ho2⟩ := rev_ok ho
  have hb1 := isM_b (M := M) hts hm hl hR
  rw [hre] at hb1
  exact wp_ran (va_runI (Ts := gw) (own := mOwn M) (b := ad b) (As := av.map (rn ad)) ⟨hx, hb, hml, hown, hts⟩ (met_of l ad kk hX hm hlen (fac (fa1 ho2) ho1)) ⟨hb1, hin, hts _ (gw_of hst rfl)⟩ ⟨PcM_blind, fun U hU hWm => ⟨rfl, by rw [hU]; exact hR', Wd_warm hWm (by rw [hU]; exact Nat.le_trans hW.2.2.2 hS.1) hW⟩⟩ rfl (by rw [List.length_map]; exact hn) hl'.1 rn_args (lv_room (by rw [cat_map]; exact hcat)) d ⟨hcs, hss⟩) hC hS hl' (fat ho2) hq hE
/-- invokespecial of a nest mate's private constructor -/
theorem wp_callIN (M' : MD) (b : Nat) (av rest : List Value) {host : String} (d : decode (mCode M) pc = .ok (.invokespecial i, 3)) (hm : isM y M' n) (hX : ∀ s, mX M' s) (hre : mRet M' = none) (hin : y.name = "<init>") (hl : (mOwn M, i, y, host) ∈ nW) (hst : Cond.instanceMethod y ∈ lw_tbl) (hR : rmK M M') (hs : st = av.reverse ++ .ref b :: rest) (hn : av.length = n) (hlen : (lg_sl (.ref b :: av)).length ≤ mLoc M') (hcat : (rest.map fun v => v.category).sum ≤ 8) (hcs : cs + (mRm M').cells ≤ (mRm M).cells) (hss : ss + (mRm M').slots ≤ (mRm M).slots)
    (kk : CT g M' (.ref b :: av) h (fun v h' => WP g M (pc + 3) lv (v.toList ++ rest) h' (cs + (mRm M').cells) (ss + (mRm M').slots) Post)) : WP g M pc lv st h cs ss Post := by
  subst hs
  intro p l e s m args below meth c0 H locs ls ad h0 ad0 hC hR' hS hl' ho hq hE
  obtain ⟨hx, hb, hr, hml, hown, hts, hlk, hnm, hX2, hW⟩ := id hC
  obtain ⟨ho1, ho2⟩ := rev_ok ho
  have hb1 := isM_n (M := M) hts hm (hW.2.1 _ hl) hR
  rw [hre] at hb1
  exact wp_ran (va_runIN (Ts := gw) (own := mOwn M) (b := ad b) (As := av.map (rn ad)) ⟨hx, hb, hml, hown, hts⟩ (met_of l ad kk hX hm hlen (fac (fa1 ho2) ho1)) ⟨hb1, hin, hts _ (gw_of hst rfl)⟩ ⟨PcM_blind, fun U hU hWm => ⟨rfl, by rw [hU]; exact hR', Wd_warm hWm (by rw [hU]; exact Nat.le_trans hW.2.2.2 hS.1) hW⟩⟩ rfl (by rw [List.length_map]; exact hn) hl'.1 rn_args (lv_room (by rw [cat_map]; exact hcat)) d ⟨hcs, hss⟩) hC hS hl' (fat ho2) hq hE
/-- invokevirtual -/
theorem wp_callV (M' : MD) (b : Nat) (av rest : List Value) {c : Nat} (d : decode (mCode M) pc = .ok (.invokevirtual i, 3)) (hm : isM y M' n) (hX : ∀ s, mX M' s) (hl : Cond.methodLink (mOwn M) i y ∈ lw_tbl) (hst : Cond.instanceMethod y ∈ lw_tbl) (hse : Cond.selects y.cls y y ∈ lw_tbl) (hcc : c < 8) (hcn : CN c = y.cls) (hk : kd b = c) (hR : rmK M M') (hs : st = av.reverse ++ .ref b :: rest) (hn : av.length = n) (hlen : (lg_sl (.ref b :: av)).length ≤ mLoc M') (hcat : (rest.map fun v => v.category).sum ≤ 8) (hcs : cs + (mRm M').cells ≤ (mRm M).cells) (hss : ss + (mRm M').slots ≤ (mRm M).slots)
    (kk : CT g M' (.ref b :: av) h (fun v h' => WP g M (pc + 3) lv (v.toList ++ rest) h' (cs + (mRm M').cells) (ss + (mRm M').slots) Post)) : WP g M pc lv st h cs ss Post := by
  subst hs
  intro p l e s m args below meth c0 H locs ls ad h0 ad0 hC hR' hS hl' ho hq hE
  obtain ⟨hx, hb, hr, hml, hown, hts, hlk, hnm, hX2, hW⟩ := id hC
  obtain ⟨ho1, ho2⟩ := rev_ok ho
  have hlb : liv h b = true := fa1 ho2
  obtain ⟨cell, g1, g2, g3, -⟩ := cE_obj hk hcc (Rp_at hR' hlb (by omega)).2
  have hcell : ∃ cellB : Cell, H[ad b]? = some cellB ∧ cellB.vm.isStatics = false ∧ s.vm.findClass y.cls = some cellB.cls := ⟨cell, g1, by rw [g3]; rfl, by rw [g2, ← hcn]; exact (hW.1.1 c _ (cl_at hcc)).2.1⟩
  exact wp_ran (va_runV (Ts := gw) (own := mOwn M) (C := y.cls) (b := ad b) (As := av.map (rn ad)) ⟨hx, hb, hml, hown, hts⟩ (met_of l ad kk hX hm hlen (fac hlb ho1)) ⟨isM_b (M := M) hts hm hl hR, hts _ (gw_of hst rfl), hts _ (gw_of hse rfl)⟩ ⟨PcM_blind, hcell, fun U hU hWm => ⟨rfl, by rw [hU]; exact hR', Wd_warm hWm (by rw [hU]; exact Nat.le_trans hW.2.2.2 hS.1) hW⟩⟩ rfl (by rw [List.length_map]; exact hn) hl'.1 rn_args (lv_room (by rw [cat_map]; exact hcat)) d ⟨hcs, hss⟩) hC hS hl' (fat ho2) hq hE
/-- a call with up to 16 words of stack left below it -/
theorem runV16 {p : Program} {l : Launch} {e : Env} {R : Room} {s : State} {m : MethodId} {args : Array Value} {below : List Frame} {meth : Method} {c : Code} {H : Heap} {locs : List Loc} {cells slots : Nat} {y : MethodName} {bytes cc : ByteArray} {maxL nL mc ms n index : Nat} {ret : Option FieldType} {ws : List Cond} {rm : Room} {Pc : Array Value → State → Prop} {Qc : Array Value → State → Outcome → State → Prop} {free : Addr → Prop} {Ts : List Cond} {own C : String} {b : Addr} {As rest : List Value} {g : JFrame}
    (S : CallFix p m c cc nL s args Ts own) (hM : Met l y ws rm Pc Qc mc ms free) (cw : CallW R s args own C index y bytes maxL ret ws rm mc ms n) (hlo16 : 16 + (maxL + 11) + rm.locals ≤ R.locals) (hp : PreV s H C b Pc As)
    (hg : g.method = m) (hn : As.length = n) (hsize : g.locals.size = nL) (hstack : g.stack = As.reverse ++ .ref b :: rest) (hW : 2 * g.monitorRoom + (rest.map fun v => v.category).sum ≤ 16) (hdg : decode cc g.pc = .ok (.invokevirtual index, 3)) (hf : cells + mc ≤ R.cells ∧ slots + ms ≤ R.slots) :
    va_Run p l e R s m args below meth c H locs cells slots mc ms g rest (Qc (Value.ref b :: As).toArray) (free) := by
  obtain ⟨⟨hrc, hrs, hfr, hlo, hws, hcw, hcode, hini, hy, hlen, hl⟩, hin, hse⟩ := cw
  have hK : Back l R p e below s args y 3 16 (PreOf R mc ms Pc) (PostOf Qc mc ms free) := back_of (bytes := bytes) (maxL := maxL) (ret := ret) hM hp.1 hrc hrs hfr hlo16 hws hcw (fun a' U hW => word_at hW (Or.inl (by first | rfl | simp [Cond.onTables, Cond.keeps, Cond.steady])) hini)
  obtain ⟨hx, hb, hml, ho, -⟩ := S
  obtain ⟨-, ⟨cellB, hcB, hoB, hclB⟩, hPc⟩ := hp
  intro T hT X
  obtain ⟨v, vm₁, ⟨U', l2, c2, s2⟩, hW₁, X', ⟨g', mk, t, L, e1, e2, hq, h1, hL, h2, h3⟩, st⟩ := callV X hx (C := C) (bytes := bytes) (maxL := maxL) (ret := ret) ho hl hin hse hcode hy hK (by rw [hT]; exact hcB) hoB hclB hg (hsize.trans hml.symm) (argsL := As) (rest := rest) (fun sig h => hn.trans (hlen sig h)) hstack hW (by rw [hb]; exact hdg)
    (fun vm₁ hW₁ => ⟨hf.1, hf.2, hPc (T.setVm vm₁) hT hW₁⟩)
  dsimp only [Pt.U, Pt.locs, Pt.cells, Pt.slots] at X' e1 e2 h1 h2 h3 st
  subst h1; subst h2; subst h3
  exact ⟨v, (T.setVm vm₁).calling g' mk (Value.ref b :: As).toArray, t, U', L, hT, X', hL, e1, e2, hq, st⟩
/-- invokevirtual, with more stack below -/
theorem wp_callV16 (M' : MD) (b : Nat) (av rest : List Value) {c : Nat} (d : decode (mCode M) pc = .ok (.invokevirtual i, 3)) (hm : isM y M' n) (hX : ∀ s, mX M' s) (hl : Cond.methodLink (mOwn M) i y ∈ lw_tbl) (hst : Cond.instanceMethod y ∈ lw_tbl) (hse : Cond.selects y.cls y y ∈ lw_tbl) (hcc : c < 8) (hcn : CN c = y.cls) (hk : kd b = c) (hR : rmK M M') (hR16 : 16 + (mLoc M' + 11) + (mRm M').locals ≤ (mRm M).locals) (hs : st = av.reverse ++ .ref b :: rest) (hn : av.length = n) (hlen : (lg_sl (.ref b :: av)).length ≤ mLoc M') (hcat : (rest.map fun v => v.category).sum ≤ 16) (hcs : cs + (mRm M').cells ≤ (mRm M).cells) (hss : ss + (mRm M').slots ≤ (mRm M).slots)
    (kk : CT g M' (.ref b :: av) h (fun v h' => WP g M (pc + 3) lv (v.toList ++ rest) h' (cs + (mRm M').cells) (ss + (mRm M').slots) Post)) : WP g M pc lv st h cs ss Post := by
  subst hs
  intro p l e s m args below meth c0 H locs ls ad h0 ad0 hC hR' hS hl' ho hq hE
  obtain ⟨hx, hb, hr, hml, hown, hts, hlk, hnm, hX2, hW⟩ := id hC
  obtain ⟨ho1, ho2⟩ := rev_ok ho
  have hlb : liv h b = true := fa1 ho2
  obtain ⟨cell, g1, g2, g3, -⟩ := cE_obj hk hcc (Rp_at hR' hlb (by omega)).2
  have hcell : ∃ cellB : Cell, H[ad b]? = some cellB ∧ cellB.vm.isStatics = false ∧ s.vm.findClass y.cls = some cellB.cls := ⟨cell, g1, by rw [g3]; rfl, by rw [g2, ← hcn]; exact (hW.1.1 c _ (cl_at hcc)).2.1⟩
  exact wp_ran (runV16 (Ts := gw) (own := mOwn M) (C := y.cls) (b := ad b) (As := av.map (rn ad)) ⟨hx, hb, hml, hown, hts⟩ (met_of l ad kk hX hm hlen (fac hlb ho1)) ⟨isM_b (M := M) hts hm hl hR, hts _ (gw_of hst rfl), hts _ (gw_of hse rfl)⟩ hR16 ⟨PcM_blind, hcell, fun U hU hWm => ⟨rfl, by rw [hU]; exact hR', Wd_warm hWm (by rw [hU]; exact Nat.le_trans hW.2.2.2 hS.1) hW⟩⟩ rfl (by rw [List.length_map]; exact hn) hl'.1 rn_args (by rw [cat_map]; show 2 * 0 + _ ≤ 16; omega) d ⟨hcs, hss⟩) hC hS hl' (fat ho2) hq hE
/-- Object's own constructor -/
theorem wp_obj {a : Nat} (d : decode (mCode M) pc = .ok (.invokespecial i, 3)) (hl : Cond.methodLink (mOwn M) i objectInit ∈ lw_tbl) (hi : Cond.instanceMethod objectInit ∈ lw_tbl) (hc : Cond.code objectInit ⟨#[0xb1]⟩ 1 none ∈ lw_tbl) (hf : 1 ≤ (mRm M).frames) (hlo : (st.map fun v => v.category).sum + 12 ≤ (mRm M).locals) (kk : WP g M (pc + 3) lv st h cs ss Post) : WP g M pc lv (.ref a :: st) h cs ss Post := by
  intro p l e s m args below meth c0 H locs ls ad h0 ad0 hC hR' hS hl' ho hq hE
  obtain ⟨hx, hb, hr, hml, hown, hts, hlk, hnm, hX2, hW⟩ := id hC
  refine W.objInit hx hb hown (hts _ (gw_of hl rfl)) (hts _ (gw_of hi rfl)) (hts _ (gw_of hc rfl)) rfl (by rw [hml]; exact hl'.1) rfl d hf ?_ (kk p l e s m args below meth c0 H locs ls ad h0 ad0 hC hR' hS hl' (fat ho) hq hE)
  rw [cat_map]
  show 2 * 0 + _ + 12 ≤ _
  omega
end Calls
