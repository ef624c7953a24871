/-! the words that every method may use: all of the tables' that are kept over a warming of the machine -/
def gw : List Cond := lw_tbl.filter goodWord
theorem gw_of {w : Cond} (h : w ∈ lw_tbl) (g : goodWord w = true) : w ∈ gw := List.mem_filter.mpr ⟨h, g⟩
theorem gw_good : GoodIn gw gw := fun _ h => ⟨h, good_of_word (List.mem_filter.mp h).2⟩
/-- links to private members of a nest mate: not kept as words, carried beside -/
def nW : List (String × Nat × MethodName × String) := [(RX2, 36, yX4_init, RX6), (RX2, 52, yX6_floorOf, RX6), (RX4, 23, yX6_atLeast, RX6), (RX4, 29, yX6_atMost, RX6), (RX1, 63, yX6_atMost, RX6), (RX3, 84, yX6_ceilOf, RX6)]
def tysOf (g : GG) : List (ClassId × FieldType) := [(g.2.2 8, AT 8), (g.2.2 9, AT 9), (g.2.2 10, AT 10), (g.2.2 11, AT 11), (g.2.2 12, AT 12), (g.2.2 13, AT 13), (g.2.2 14, AT 14)]
def Wd (g : GG) (s : State) : Prop := va_K g.2.1 vwCl (tysOf g) s ∧ (∀ q ∈ nW, va_Nw (.methodLinkNest q.1 q.2.1 q.2.2.1 q.2.2.2) s) ∧ (va_AO RX2 s ∧ va_AO RX1 s ∧ va_AO RX5 s ∧ va_AO RX4 s) ∧ g.1 ≤ s.heap.size
/-- a method: its own part of the names, code, locals, answer's type, name, room, what it asks of its start -/
abbrev MD : Type := String × ByteArray × Nat × Option FieldType × String × Room × (State → Prop)
def mOwn (M : MD) : String := M.1
def mCode (M : MD) : ByteArray := M.2.1
def mLoc (M : MD) : Nat := M.2.2.1
def mRet (M : MD) : Option FieldType := M.2.2.2.1
def mNm (M : MD) : String := M.2.2.2.2.1
def mRm (M : MD) : Room := M.2.2.2.2.2.1
def mX (M : MD) : State → Prop := M.2.2.2.2.2.2
def Cxt (g : GG) (M : MD) (p : Program) (s : State) (m : MethodId) (args : Array Value) (meth : Method) (c : Code) : Prop :=
  p.tables.exec = Jvm.exec ∧ c.code = mCode M ∧ meth.sig.returnType = mRet M ∧ c.maxLocals = mLoc M ∧ s.vm.findClass (mOwn M) = some m.cls ∧ (∀ w ∈ gw, w.before args s = true) ∧ meth.locks = false ∧ meth.name = mNm M ∧ mX M s ∧ Wd g s
def Ext (h0 : HP) (ad0 : Nat → Nat) (h : HP) (ad : Nat → Nat) : Prop := ∀ a, liv h0 a = true → liv h a = true ∧ ad a = ad0 a
def BA (g : GG) : Nat → Prop := fun q => g.1 ≤ q
def QQ (g : GG) (h0 : HP) (ad0 : Nat → Nat) (Post : Option Value → HP → Prop) : Array Value → State → Outcome → State → Prop := fun _ st o t =>
  ∃ (v : Option Value) (h' : HP) (ad' : Nat → Nat), o = .returned (v.map (rn ad')) ∧ Post v h' ∧ Rp g h' ad' t.heap ∧ Ext h0 ad0 h' ad' ∧ (∀ w, v = some w → rok h' w) ∧ va_F (BA g) st t
def WP (g : GG) (M : MD) (pc : Nat) (lv : List (Nat × Value)) (st : List Value) (h : HP) (cs ss : Nat) (Post : Option Value → HP → Prop) : Prop :=
  ∀ (p : Program) (l : Launch) (e : Env) (s : State) (m : MethodId) (args : Array Value) (below : List Frame) (meth : Method) (c : Code) (H : Heap) (locs : List Loc) (ls : Array Slot) (ad : Nat → Nat) (h0 : HP) (ad0 : Nat → Nat),
    Cxt g M p s m args meth c → Rp g h ad H → va_S (BA g) s.heap H locs → lv_has ls (mLoc M) (lv.map (rq ad)) → (∀ v ∈ st, rok h v) → (∀ q ∈ lv, rok h q.2) → Ext h0 ad0 h ad →
    W p l e (mRm M) s m args below meth c H locs cs ss (MQ below (QQ g h0 ad0 Post) args s (mRm M).cells (mRm M).slots (BA g)) (F0 m pc ls (st.map (rn ad)))
/-- a method, called with these arguments -/
def CT (g : GG) (M : MD) (av : List Value) (h : HP) (Post : Option Value → HP → Prop) : Prop := WP g M 0 (lv_args 0 av) [] h 0 0 Post
section Basics
variable {g : GG} {M : MD} {pc : Nat} {lv : List (Nat × Value)} {st : List Value} {h : HP} {cs ss : Nat} {Post : Option Value → HP → Prop}
theorem fa1 {P : Value → Prop} {a : Value} {l : List Value} (h : ∀ v ∈ a :: l, P v) : P a := h a List.mem_cons_self
theorem fat {P : Value → Prop} {a : Value} {l : List Value} (h : ∀ v ∈ a :: l, P v) : ∀ v ∈ l, P v := fun v hv => h v (List.mem_cons_of_mem _ hv)
theorem fac {P : Value → Prop} {a : Value} {l : List Value} (h : P a) (h2 : ∀ v ∈ l, P v) : ∀ v ∈ a :: l, P v := List.forall_mem_cons.mpr ⟨h, h2⟩
theorem rq_at {ad : Nat → Nat} {k i : Nat} {v : Value} (hk : lv[k]? = some (i, v)) : (lv.map (rq ad))[k]? = some (i, rn ad v) := by
  rw [List.getElem?_map, hk]; rfl
theorem rq_ok {k i : Nat} {v : Value} (hk : lv[k]? = some (i, v)) (ho : ∀ q ∈ lv, rok h q.2) : rok h v := ho _ (List.mem_of_getElem? hk)
theorem rn_cat (ad : Nat → Nat) (v : Value) : (rn ad v).category = v.category := by cases v <;> rfl
def stI (lv : List (Nat × Value)) (i : Nat) (v : Value) : List (Nat × Value) := (i, v) :: lv.filter (fun q => !(q.1 == i) && !(q.1 + 1 == i && q.2.category == 2))
def stL (lv : List (Nat × Value)) (i : Nat) (v : Value) : List (Nat × Value) := (i, v) :: lv.filter (fun q => !(q.1 == i) && (!(q.1 == i + 1) && !(q.1 + 1 == i && q.2.category == 2)))
theorem stI_rq (ad : Nat → Nat) (i : Nat) (v : Value) : (i, rn ad v) :: (lv.map (rq ad)).filter (fun q => !(q.1 == i) && !(q.1 + 1 == i && q.2.category == 2)) = (stI lv i v).map (rq ad) := by
  unfold stI
  rw [List.map_cons, List.filter_map]
  congr 1
  congr 1
  apply List.filter_congr
  intro q _
  show (!((rq ad q).1 == i) && !((rq ad q).1 + 1 == i && (rq ad q).2.category == 2)) = _
  rw [show (rq ad q).2.category = q.2.category from rn_cat ad q.2]
  rfl
theorem stL_rq (ad : Nat → Nat) (i : Nat) (v : Value) : (i, rn ad v) :: (lv.map (rq ad)).filter (fun q => !(q.1 == i) && (!(q.1 == i + 1) && !(q.1 + 1 == i && q.2.category == 2))) = (stL lv i v).map (rq ad) := by
  unfold stL
  rw [List.map_cons, List.filter_map]
  congr 1
  congr 1
  apply List.filter_congr
  intro q _
  show (!((rq ad q).1 == i) && (!((rq ad q).1 == i + 1) && !((rq ad q).1 + 1 == i && (rq ad q).2.category == 2))) = _
  rw [show (rq ad q).2.category = q.2.category from rn_cat ad q.2]
  rfl
theorem stI_ok {i : Nat} {v : Value} (hv : rok h v) (ho : ∀ q ∈ lv, rok h q.2) : ∀ q ∈ stI lv i v, rok h q.2 := by
  intro q hq
  rcases List.mem_cons.mp hq with rfl | hq
  · exact hv
  · exact ho q (List.mem_filter.mp hq).1
theorem stL_ok {i : Nat} {v : Value} (hv : rok h v) (ho : ∀ q ∈ lv, rok h q.2) : ∀ q ∈ stL lv i v, rok h q.2 := by
  intro q hq
  rcases List.mem_cons.mp hq with rfl | hq
  · exact hv
  · exact ho q (List.mem_filter.mp hq).1
theorem wp_iconst {n : Int} {v : Int32} (d : decode (mCode M) pc = .ok (.iconst n, 1)) (hv : Int32.ofInt n = v) (k : WP g M (pc + 1) lv (.int v :: st) h cs ss Post) : WP g M pc lv (st) h cs ss Post := by
  intro p l e s m args below meth c H locs ls ad h0 ad0 hC hR hS hl ho hq hE
  exact lv_iconst hC.1 hC.2.1  d hv (k p l e s m args below meth c H locs ls ad h0 ad0 hC hR hS hl (fac trivial ho) hq hE)
theorem wp_bipush {n : Int} {v : Int32} (d : decode (mCode M) pc = .ok (.bipush n, 2)) (hv : (Int8.ofInt n).toInt32 = v) (k : WP g M (pc + 2) lv (.int v :: st) h cs ss Post) : WP g M pc lv (st) h cs ss Post := by
  intro p l e s m args below meth c H locs ls ad h0 ad0 hC hR hS hl ho hq hE
  exact lv_bipush hC.1 hC.2.1  d hv (k p l e s m args below meth c H locs ls ad h0 ad0 hC hR hS hl (fac trivial ho) hq hE)
theorem wp_sipush {n : Int} {v : Int32} (d : decode (mCode M) pc = .ok (.sipush n, 3)) (hv : (Int16.ofInt n).toInt32 = v) (k : WP g M (pc + 3) lv (.int v :: st) h cs ss Post) : WP g M pc lv (st) h cs ss Post := by
  intro p l e s m args below meth c H locs ls ad h0 ad0 hC hR hS hl ho hq hE
  exact lv_sipush hC.1 hC.2.1  d hv (k p l e s m args below meth c H locs ls ad h0 ad0 hC hR hS hl (fac trivial ho) hq hE)
theorem wp_lconst {n : Fin 2} {v : Int64} (d : decode (mCode M) pc = .ok (.lconst n, 1)) (hv : Int64.ofNat (n : Nat) = v) (k : WP g M (pc + 1) lv (.long v :: st) h cs ss Post) : WP g M pc lv (st) h cs ss Post := by
  intro p l e s m args below meth c H locs ls ad h0 ad0 hC hR hS hl ho hq hE
  exact lv_lconst hC.1 hC.2.1  d hv (k p l e s m args below meth c H locs ls ad h0 ad0 hC hR hS hl (fac trivial ho) hq hE)
theorem wp_null  (d : decode (mCode M) pc = .ok (.aconst_null, 1))  (k : WP g M (pc + 1) lv (.null :: st) h cs ss Post) : WP g M pc lv (st) h cs ss Post := by
  intro p l e s m args below meth c H locs ls ad h0 ad0 hC hR hS hl ho hq hE
  exact lv_null hC.1 hC.2.1  d  (k p l e s m args below meth c H locs ls ad h0 ad0 hC hR hS hl (fac trivial ho) hq hE)
theorem wp_ldc {i : Nat} {v : Int32} (d : decode (mCode M) pc = .ok (.ldc i, 2)) (hw : Cond.constant (mOwn M) i v ∈ lw_tbl) (k : WP g M (pc + 2) lv (.int v :: st) h cs ss Post) : WP g M pc lv st h cs ss Post := by
  intro p l e s m args below meth c H locs ls ad h0 ad0 hC hR hS hl ho hq hE
  exact lv_ldc hC.1 hC.2.1 hC.2.2.2.2.1 (hC.2.2.2.2.2.1 _ (gw_of hw rfl)) d (k p l e s m args below meth c H locs ls ad h0 ad0 hC hR hS hl (fac trivial ho) hq hE)
theorem wp_ldc2 {i : Nat} {v : Int64} (d : decode (mCode M) pc = .ok (.ldc2_w i, 3)) (hw : Cond.constantLong (mOwn M) i v ∈ lw_tbl) (k : WP g M (pc + 3) lv (.long v :: st) h cs ss Post) : WP g M pc lv st h cs ss Post := by
  intro p l e s m args below meth c H locs ls ad h0 ad0 hC hR hS hl ho hq hE
  exact lv_ldc2 hC.1 hC.2.1 hC.2.2.2.2.1 (hC.2.2.2.2.2.1 _ (gw_of hw rfl)) d (k p l e s m args below meth c H locs ls ad h0 ad0 hC hR hS hl (fac trivial ho) hq hE)
theorem wp_iload {i : Nat} {x : Int32} (d : decode (mCode M) pc = .ok (.iload i, 2)) (q : Nat) (hk : lv[q]? = some (i, .int x)) (k : WP g M (pc + 2) lv (.int x :: st) h cs ss Post) : WP g M pc lv (st) h cs ss Post := by
  intro p l e s m args below meth c H locs ls ad h0 ad0 hC hR hS hl ho hq hE
  exact lv_iload hC.1 hC.2.1  d (lv_at hl q (rq_at hk)) (k p l e s m args below meth c H locs ls ad h0 ad0 hC hR hS hl (fac (rq_ok hk hq) ho) hq hE)
theorem wp_iload_n {n : Fin 4} {i : Nat} {x : Int32} (d : decode (mCode M) pc = .ok (.iload_n n, 1)) (hi : (n : Nat) = i) (q : Nat) (hk : lv[q]? = some (i, .int x)) (k : WP g M (pc + 1) lv (.int x :: st) h cs ss Post) : WP g M pc lv (st) h cs ss Post := by
  intro p l e s m args below meth c H locs ls ad h0 ad0 hC hR hS hl ho hq hE
  exact lv_iload_n hC.1 hC.2.1  d hi (lv_at hl q (rq_at hk)) (k p l e s m args below meth c H locs ls ad h0 ad0 hC hR hS hl (fac (rq_ok hk hq) ho) hq hE)
theorem wp_lload {i : Nat} {x : Int64} (d : decode (mCode M) pc = .ok (.lload i, 2)) (q : Nat) (hk : lv[q]? = some (i, .long x)) (k : WP g M (pc + 2) lv (.long x :: st) h cs ss Post) : WP g M pc lv (st) h cs ss Post := by
  intro p l e s m args below meth c H locs ls ad h0 ad0 hC hR hS hl ho hq hE
  exact lv_lload hC.1 hC.2.1  d (lv_at hl q (rq_at hk)) (k p l e s m args below meth c H locs ls ad h0 ad0 hC hR hS hl (fac (rq_ok hk hq) ho) hq hE)
theorem wp_lload_n {n : Fin 4} {i : Nat} {x : Int64} (d : decode (mCode M) pc = .ok (.lload_n n, 1)) (hi : (n : Nat) = i) (q : Nat) (hk : lv[q]? = some (i, .long x)) (k : WP g M (pc + 1) lv (.long x :: st) h cs ss Post) : WP g M pc lv (st) h cs ss Post := by
  intro p l e s m args below meth c H locs ls ad h0 ad0 hC hR hS hl ho hq hE
  exact lv_lload_n hC.1 hC.2.1  d hi (lv_at hl q (rq_at hk)) (k p l e s m args below meth c H locs ls ad h0 ad0 hC hR hS hl (fac (rq_ok hk hq) ho) hq hE)
theorem wp_aload {i : Nat} {x : Nat} (d : decode (mCode M) pc = .ok (.aload i, 2)) (q : Nat) (hk : lv[q]? = some (i, .ref x)) (k : WP g M (pc + 2) lv (.ref x :: st) h cs ss Post) : WP g M pc lv (st) h cs ss Post := by
  intro p l e s m args below meth c H locs ls ad h0 ad0 hC hR hS hl ho hq hE
  exact lv_aload hC.1 hC.2.1  d (lv_at hl q (rq_at hk)) (k p l e s m args below meth c H locs ls ad h0 ad0 hC hR hS hl (fac (rq_ok hk hq) ho) hq hE)
theorem wp_aload_n {n : Fin 4} {i : Nat} {x : Nat} (d : decode (mCode M) pc = .ok (.aload_n n, 1)) (hi : (n : Nat) = i) (q : Nat) (hk : lv[q]? = some (i, .ref x)) (k : WP g M (pc + 1) lv (.ref x :: st) h cs ss Post) : WP g M pc lv (st) h cs ss Post := by
  intro p l e s m args below meth c H locs ls ad h0 ad0 hC hR hS hl ho hq hE
  exact lv_aload_n hC.1 hC.2.1  d hi (lv_at hl q (rq_at hk)) (k p l e s m args below meth c H locs ls ad h0 ad0 hC hR hS hl (fac (rq_ok hk hq) ho) hq hE)
theorem wp_aloadN {i : Nat} (d : decode (mCode M) pc = .ok (.aload i, 2)) (q : Nat) (hk : lv[q]? = some (i, .null)) (k : WP g M (pc + 2) lv (.null :: st) h cs ss Post) : WP g M pc lv (st) h cs ss Post := by
  intro p l e s m args below meth c H locs ls ad h0 ad0 hC hR hS hl ho hq hE
  exact lv_aloadN hC.1 hC.2.1  d (lv_at hl q (rq_at hk)) (k p l e s m args below meth c H locs ls ad h0 ad0 hC hR hS hl (fac trivial ho) hq hE)
theorem wp_aload_nN {n : Fin 4} {i : Nat} (d : decode (mCode M) pc = .ok (.aload_n n, 1)) (hi : (n : Nat) = i) (q : Nat) (hk : lv[q]? = some (i, .null)) (k : WP g M (pc + 1) lv (.null :: st) h cs ss Post) : WP g M pc lv (st) h cs ss Post := by
  intro p l e s m args below meth c H locs ls ad h0 ad0 hC hR hS hl ho hq hE
  exact lv_aload_nN hC.1 hC.2.1  d hi (lv_at hl q (rq_at hk)) (k p l e s m args below meth c H locs ls ad h0 ad0 hC hR hS hl (fac trivial ho) hq hE)
theorem wp_istore {i : Nat} {x : Int32} {lv' : List (Nat × Value)} (d : decode (mCode M) pc = .ok (.istore i, 2)) (hn : i < mLoc M) (hlv : stI lv i (.int x) = lv') (k : WP g M (pc + 2) lv' st h cs ss Post) : WP g M pc lv (.int x :: st) h cs ss Post := by
  intro p l e s m args below meth c H locs ls ad h0 ad0 hC hR hS hl ho hq hE
  subst hlv
  exact lv_istore hC.1 hC.2.1 d hl hn (stI_rq ad i (.int x)) (fun ls' hl' => k p l e s m args below meth c H locs ls' ad h0 ad0 hC hR hS hl' (fat ho) (stI_ok (fa1 ho) hq) hE)
theorem wp_istore_n {n : Fin 4} {i : Nat} {x : Int32} {lv' : List (Nat × Value)} (d : decode (mCode M) pc = .ok (.istore_n n, 1)) (hi : (n : Nat) = i) (hn : i < mLoc M) (hlv : stI lv i (.int x) = lv') (k : WP g M (pc + 1) lv' st h cs ss Post) : WP g M pc lv (.int x :: st) h cs ss Post := by
  intro p l e s m args below meth c H locs ls ad h0 ad0 hC hR hS hl ho hq hE
  subst hlv
  exact lv_istore_n hC.1 hC.2.1 d hi hl hn (stI_rq ad i (.int x)) (fun ls' hl' => k p l e s m args below meth c H locs ls' ad h0 ad0 hC hR hS hl' (fat ho) (stI_ok (fa1 ho) hq) hE)
theorem wp_lstore {i : Nat} {x : Int64} {lv' : List (Nat × Value)} (d : decode (mCode M) pc = .ok (.lstore i, 2)) (hn : i + 1 < mLoc M) (hlv : stL lv i (.long x) = lv') (k : WP g M (pc + 2) lv' st h cs ss Post) : WP g M pc lv (.long x :: st) h cs ss Post := by
  intro p l e s m args below meth c H locs ls ad h0 ad0 hC hR hS hl ho hq hE
  subst hlv
  exact lv_lstore hC.1 hC.2.1 d hl hn (stL_rq ad i (.long x)) (fun ls' hl' => k p l e s m args below meth c H locs ls' ad h0 ad0 hC hR hS hl' (fat ho) (stL_ok (fa1 ho) hq) hE)
theorem wp_lstore_n {n : Fin 4} {i : Nat} {x : Int64} {lv' : List (Nat × Value)} (d : decode (mCode M) pc = .ok (.lstore_n n, 1)) (hi : (n : Nat) = i) (hn : i + 1 < mLoc M) (hlv : stL lv i (.long x) = lv') (k : WP g M (pc + 1) lv' st h cs ss Post) : WP g M pc lv (.long x :: st) h cs ss Post := by
  intro p l e s m args below meth c H locs ls ad h0 ad0 hC hR hS hl ho hq hE
  subst hlv
  exact lv_lstore_n hC.1 hC.2.1 d hi hl hn (stL_rq ad i (.long x)) (fun ls' hl' => k p l e s m args below meth c H locs ls' ad h0 ad0 hC hR hS hl' (fat ho) (stL_ok (fa1 ho) hq) hE)
theorem wp_astore {i : Nat} {x : Nat} {lv' : List (Nat × Value)} (d : decode (mCode M) pc = .ok (.astore i, 2)) (hn : i < mLoc M) (hlv : stI lv i (.ref x) = lv') (k : WP g M (pc + 2) lv' st h cs ss Post) : WP g M pc lv (.ref x :: st) h cs ss Post := by
  intro p l e s m args below meth c H locs ls ad h0 ad0 hC hR hS hl ho hq hE
  subst hlv
  exact lv_astore hC.1 hC.2.1 d hl hn (stI_rq ad i (.ref x)) (fun ls' hl' => k p l e s m args below meth c H locs ls' ad h0 ad0 hC hR hS hl' (fat ho) (stI_ok (fa1 ho) hq) hE)
theorem wp_astore_n {n : Fin 4} {i : Nat} {x : Nat} {lv' : List (Nat × Value)} (d : decode (mCode M) pc = .ok (.astore_n n, 1)) (hi : (n : Nat) = i) (hn : i < mLoc M) (hlv : stI lv i (.ref x) = lv') (k : WP g M (pc + 1) lv' st h cs ss Post) : WP g M pc lv (.ref x :: st) h cs ss Post := by
  intro p l e s m args below meth c H locs ls ad h0 ad0 hC hR hS hl ho hq hE
  subst hlv
  exact lv_astore_n hC.1 hC.2.1 d hi hl hn (stI_rq ad i (.ref x)) (fun ls' hl' => k p l e s m args below meth c H locs ls' ad h0 ad0 hC hR hS hl' (fat ho) (stI_ok (fa1 ho) hq) hE)
theorem wp_astoreN {i : Nat} {lv' : List (Nat × Value)} (d : decode (mCode M) pc = .ok (.astore i, 2)) (hn : i < mLoc M) (hlv : stI lv i (.null) = lv') (k : WP g M (pc + 2) lv' st h cs ss Post) : WP g M pc lv (.null :: st) h cs ss Post := by
  intro p l e s m args below meth c H locs ls ad h0 ad0 hC hR hS hl ho hq hE
  subst hlv
  exact lv_astoreN hC.1 hC.2.1 d hl hn (stI_rq ad i (.null)) (fun ls' hl' => k p l e s m args below meth c H locs ls' ad h0 ad0 hC hR hS hl' (fat ho) (stI_ok (fa1 ho) hq) hE)
theorem wp_astore_nN {n : Fin 4} {i : Nat} {lv' : List (Nat × Value)} (d : decode (mCode M) pc = .ok (.astore_n n, 1)) (hi : (n : Nat) = i) (hn : i < mLoc M) (hlv : stI lv i (.null) = lv') (k : WP g M (pc + 1) lv' st h cs ss Post) : WP g M pc lv (.null :: st) h cs ss Post := by
  intro p l e s m args below meth c H locs ls ad h0 ad0 hC hR hS hl ho hq hE
  subst hlv
  exact lv_astore_nN hC.1 hC.2.1 d hi hl hn (stI_rq ad i (.null)) (fun ls' hl' => k p l e s m args below meth c H locs ls' ad h0 ad0 hC hR hS hl' (fat ho) (stI_ok (fa1 ho) hq) hE)
theorem wp_iinc {i q : Nat} {n : Int} {x v : Int32} {lv' : List (Nat × Value)} (d : decode (mCode M) pc = .ok (.iinc i n, 3)) (hk : lv[q]? = some (i, .int x)) (hv : x + Int32.ofInt n = v) (hn : i < mLoc M) (hlv : stI lv i (.int v) = lv') (k : WP g M (pc + 3) lv' st h cs ss Post) : WP g M pc lv st h cs ss Post := by
  intro p l e s m args below meth c H locs ls ad h0 ad0 hC hR hS hl ho hq hE
  subst hlv
  exact lv_iinc hC.1 hC.2.1 d hl (rq_at hk) hv hn (stI_rq ad i (.int v)) (fun ls' hl' => k p l e s m args below meth c H locs ls' ad h0 ad0 hC hR hS hl' ho (stI_ok trivial hq) hE)
theorem wp_dup {v : Value} (d : decode (mCode M) pc = .ok (.dup, 1)) (hv : v.category = 1) (k : WP g M (pc + 1) lv (v :: v :: st) h cs ss Post) : WP g M pc lv (v :: st) h cs ss Post := by
  intro p l e s m args below meth c H locs ls ad h0 ad0 hC hR hS hl ho hq hE
  exact lv_dup hC.1 hC.2.1  d (by rw [rn_cat]; exact hv) (k p l e s m args below meth c H locs ls ad h0 ad0 hC hR hS hl (fac (fa1 ho) ho) hq hE)
theorem wp_dup2_11 {v w : Value} (d : decode (mCode M) pc = .ok (.dup2, 1)) (hv : v.category = 1) (hw : w.category = 1) (k : WP g M (pc + 1) lv (v :: w :: v :: w :: st) h cs ss Post) : WP g M pc lv (v :: w :: st) h cs ss Post := by
  intro p l e s m args below meth c H locs ls ad h0 ad0 hC hR hS hl ho hq hE
  exact lv_dup2_11 hC.1 hC.2.1  d (by rw [rn_cat]; exact hv) (by rw [rn_cat]; exact hw) (k p l e s m args below meth c H locs ls ad h0 ad0 hC hR hS hl (fac (fa1 ho) (fac (fa1 (fat ho)) ho)) hq hE)
theorem wp_dup2_2 {v : Value} (d : decode (mCode M) pc = .ok (.dup2, 1)) (hv : v.category = 2) (k : WP g M (pc + 1) lv (v :: v :: st) h cs ss Post) : WP g M pc lv (v :: st) h cs ss Post := by
  intro p l e s m args below meth c H locs ls ad h0 ad0 hC hR hS hl ho hq hE
  exact lv_dup2_2 hC.1 hC.2.1  d (by rw [rn_cat]; exact hv) (k p l e s m args below meth c H locs ls ad h0 ad0 hC hR hS hl (fac (fa1 ho) ho) hq hE)
theorem wp_dup_x1 {v w : Value} (d : decode (mCode M) pc = .ok (.dup_x1, 1)) (hv : v.category = 1) (hw : w.category = 1) (k : WP g M (pc + 1) lv (v :: w :: v :: st) h cs ss Post) : WP g M pc lv (v :: w :: st) h cs ss Post := by
  intro p l e s m args below meth c H locs ls ad h0 ad0 hC hR hS hl ho hq hE
  exact lv_dup_x1 hC.1 hC.2.1  d (by rw [rn_cat]; exact hv) (by rw [rn_cat]; exact hw) (k p l e s m args below meth c H locs ls ad h0 ad0 hC hR hS hl (fac (fa1 ho) (fac (fa1 (fat ho)) (fac (fa1 ho) (fat (fat ho))))) hq hE)
theorem wp_dup2_x1_2 {v w : Value} (d : decode (mCode M) pc = .ok (.dup2_x1, 1)) (hv : v.category = 2) (hw : w.category = 1) (k : WP g M (pc + 1) lv (v :: w :: v :: st) h cs ss Post) : WP g M pc lv (v :: w :: st) h cs ss Post := by
  intro p l e s m args below meth c H locs ls ad h0 ad0 hC hR hS hl ho hq hE
  exact lv_dup2_x1_2 hC.1 hC.2.1  d (by rw [rn_cat]; exact hv) (by rw [rn_cat]; exact hw) (k p l e s m args below meth c H locs ls ad h0 ad0 hC hR hS hl (fac (fa1 ho) (fac (fa1 (fat ho)) (fac (fa1 ho) (fat (fat ho))))) hq hE)
theorem wp_iadd {x y : Int32} (d : decode (mCode M) pc = .ok (.iadd, 1))  (k : WP g M (pc + 1) lv (.int (x + y) :: st) h cs ss Post) : WP g M pc lv (.int y :: .int x :: st) h cs ss Post := by
  intro p l e s m args below meth c H locs ls ad h0 ad0 hC hR hS hl ho hq hE
  exact lv_iadd hC.1 hC.2.1  d  (k p l e s m args below meth c H locs ls ad h0 ad0 hC hR hS hl (fac trivial (fat (fat ho))) hq hE)
theorem wp_isub {x y : Int32} (d : decode (mCode M) pc = .ok (.isub, 1))  (k : WP g M (pc + 1) lv (.int (x - y) :: st) h cs ss Post) : WP g M pc lv (.int y :: .int x :: st) h cs ss Post := by
  intro p l e s m args below meth c H locs ls ad h0 ad0 hC hR hS hl ho hq hE
  exact lv_isub hC.1 hC.2.1  d  (k p l e s m args below meth c H locs ls ad h0 ad0 hC hR hS hl (fac trivial (fat (fat ho))) hq hE)
theorem wp_imul {x y : Int32} (d : decode (mCode M) pc = .ok (.imul, 1))  (k : WP g M (pc + 1) lv (.int (x * y) :: st) h cs ss Post) : WP g M pc lv (.int y :: .int x :: st) h cs ss Post := by
  intro p l e s m args below meth c H locs ls ad h0 ad0 hC hR hS hl ho hq hE
  exact lv_imul hC.1 hC.2.1  d  (k p l e s m args below meth c H locs ls ad h0 ad0 hC hR hS hl (fac trivial (fat (fat ho))) hq hE)
theorem wp_iand {x y : Int32} (d : decode (mCode M) pc = .ok (.iand, 1))  (k : WP g M (pc + 1) lv (.int (x &&& y) :: st) h cs ss Post) : WP g M pc lv (.int y :: .int x :: st) h cs ss Post := by
  intro p l e s m args below meth c H locs ls ad h0 ad0 hC hR hS hl ho hq hE
  exact lv_iand hC.1 hC.2.1  d  (k p l e s m args below meth c H locs ls ad h0 ad0 hC hR hS hl (fac trivial (fat (fat ho))) hq hE)
theorem wp_ior {x y : Int32} (d : decode (mCode M) pc = .ok (.ior, 1))  (k : WP g M (pc + 1) lv (.int (x ||| y) :: st) h cs ss Post) : WP g M pc lv (.int y :: .int x :: st) h cs ss Post := by
  intro p l e s m args below meth c H locs ls ad h0 ad0 hC hR hS hl ho hq hE
  exact lv_ior hC.1 hC.2.1  d  (k p l e s m args below meth c H locs ls ad h0 ad0 hC hR hS hl (fac trivial (fat (fat ho))) hq hE)
theorem wp_ishl {x y : Int32} (d : decode (mCode M) pc = .ok (.ishl, 1))  (k : WP g M (pc + 1) lv (.int (x <<< (y &&& 31)) :: st) h cs ss Post) : WP g M pc lv (.int y :: .int x :: st) h cs ss Post := by
  intro p l e s m args below meth c H locs ls ad h0 ad0 hC hR hS hl ho hq hE
  exact lv_ishl hC.1 hC.2.1  d  (k p l e s m args below meth c H locs ls ad h0 ad0 hC hR hS hl (fac trivial (fat (fat ho))) hq hE)
theorem wp_ishr {x y : Int32} (d : decode (mCode M) pc = .ok (.ishr, 1))  (k : WP g M (pc + 1) lv (.int (x >>> (y &&& 31)) :: st) h cs ss Post) : WP g M pc lv (.int y :: .int x :: st) h cs ss Post := by
  intro p l e s m args below meth c H locs ls ad h0 ad0 hC hR hS hl ho hq hE
  exact lv_ishr hC.1 hC.2.1  d  (k p l e s m args below meth c H locs ls ad h0 ad0 hC hR hS hl (fac trivial (fat (fat ho))) hq hE)
theorem wp_ladd {x y : Int64} (d : decode (mCode M) pc = .ok (.ladd, 1))  (k : WP g M (pc + 1) lv (.long (x + y) :: st) h cs ss Post) : WP g M pc lv (.long y :: .long x :: st) h cs ss Post := by
  intro p l e s m args below meth c H locs ls ad h0 ad0 hC hR hS hl ho hq hE
  exact lv_ladd hC.1 hC.2.1  d  (k p l e s m args below meth c H locs ls ad h0 ad0 hC hR hS hl (fac trivial (fat (fat ho))) hq hE)
theorem wp_lsub {x y : Int64} (d : decode (mCode M) pc = .ok (.lsub, 1))  (k : WP g M (pc + 1) lv (.long (x - y) :: st) h cs ss Post) : WP g M pc lv (.long y :: .long x :: st) h cs ss Post := by
  intro p l e s m args below meth c H locs ls ad h0 ad0 hC hR hS hl ho hq hE
  exact lv_lsub hC.1 hC.2.1  d  (k p l e s m args below meth c H locs ls ad h0 ad0 hC hR hS hl (fac trivial (fat (fat ho))) hq hE)
theorem wp_lmul {x y : Int64} (d : decode (mCode M) pc = .ok (.lmul, 1))  (k : WP g M (pc + 1) lv (.long (x * y) :: st) h cs ss Post) : WP g M pc lv (.long y :: .long x :: st) h cs ss Post := by
  intro p l e s m args below meth c H locs ls ad h0 ad0 hC hR hS hl ho hq hE
  exact lv_lmul hC.1 hC.2.1  d  (k p l e s m args below meth c H locs ls ad h0 ad0 hC hR hS hl (fac trivial (fat (fat ho))) hq hE)
theorem wp_land {x y : Int64} (d : decode (mCode M) pc = .ok (.land, 1))  (k : WP g M (pc + 1) lv (.long (x &&& y) :: st) h cs ss Post) : WP g M pc lv (.long y :: .long x :: st) h cs ss Post := by
  intro p l e s m args below meth c H locs ls ad h0 ad0 hC hR hS hl ho hq hE
  exact lv_land hC.1 hC.2.1  d  (k p l e s m args below meth c H locs ls ad h0 ad0 hC hR hS hl (fac trivial (fat (fat ho))) hq hE)
theorem wp_lor {x y : Int64} (d : decode (mCode M) pc = .ok (.lor, 1))  (k : WP g M (pc + 1) lv (.long (x ||| y) :: st) h cs ss Post) : WP g M pc lv (.long y :: .long x :: st) h cs ss Post := by
  intro p l e s m args below meth c H locs ls ad h0 ad0 hC hR hS hl ho hq hE
  exact lv_lor hC.1 hC.2.1  d  (k p l e s m args below meth c H locs ls ad h0 ad0 hC hR hS hl (fac trivial (fat (fat ho))) hq hE)
theorem wp_lxor {x y : Int64} (d : decode (mCode M) pc = .ok (.lxor, 1))  (k : WP g M (pc + 1) lv (.long (x ^^^ y) :: st) h cs ss Post) : WP g M pc lv (.long y :: .long x :: st) h cs ss Post := by
  intro p l e s m args below meth c H locs ls ad h0 ad0 hC hR hS hl ho hq hE
  exact lv_lxor hC.1 hC.2.1  d  (k p l e s m args below meth c H locs ls ad h0 ad0 hC hR hS hl (fac trivial (fat (fat ho))) hq hE)
theorem wp_ldiv {x y : Int64} (d : decode (mCode M) pc = .ok (.ldiv, 1)) (hne : ¬ y = 0) (k : WP g M (pc + 1) lv (.long (x / y) :: st) h cs ss Post) : WP g M pc lv (.long y :: .long x :: st) h cs ss Post := by
  intro p l e s m args below meth c H locs ls ad h0 ad0 hC hR hS hl ho hq hE
  exact lv_ldiv hC.1 hC.2.1  d hne (k p l e s m args below meth c H locs ls ad h0 ad0 hC hR hS hl (fac trivial (fat (fat ho))) hq hE)
theorem wp_lrem {x y : Int64} (d : decode (mCode M) pc = .ok (.lrem, 1)) (hne : ¬ y = 0) (k : WP g M (pc + 1) lv (.long (x - x / y * y) :: st) h cs ss Post) : WP g M pc lv (.long y :: .long x :: st) h cs ss Post := by
  intro p l e s m args below meth c H locs ls ad h0 ad0 hC hR hS hl ho hq hE
  exact lv_lrem hC.1 hC.2.1  d hne (k p l e s m args below meth c H locs ls ad h0 ad0 hC hR hS hl (fac trivial (fat (fat ho))) hq hE)
theorem wp_lneg {x : Int64} (d : decode (mCode M) pc = .ok (.lneg, 1))  (k : WP g M (pc + 1) lv (.long (-x) :: st) h cs ss Post) : WP g M pc lv (.long x :: st) h cs ss Post := by
  intro p l e s m args below meth c H locs ls ad h0 ad0 hC hR hS hl ho hq hE
  exact lv_lneg hC.1 hC.2.1  d  (k p l e s m args below meth c H locs ls ad h0 ad0 hC hR hS hl (fac trivial (fat ho)) hq hE)
theorem wp_lshl {x v : Int64} {y : Int32} (d : decode (mCode M) pc = .ok (.lshl, 1)) (hv : x <<< (y.toInt64 &&& 63) = v) (k : WP g M (pc + 1) lv (.long v :: st) h cs ss Post) : WP g M pc lv (.int y :: .long x :: st) h cs ss Post := by
  intro p l e s m args below meth c H locs ls ad h0 ad0 hC hR hS hl ho hq hE
  exact lv_lshl hC.1 hC.2.1  d hv (k p l e s m args below meth c H locs ls ad h0 ad0 hC hR hS hl (fac trivial (fat (fat ho))) hq hE)
theorem wp_lshr {x v : Int64} {y : Int32} (d : decode (mCode M) pc = .ok (.lshr, 1)) (hv : x >>> (y.toInt64 &&& 63) = v) (k : WP g M (pc + 1) lv (.long v :: st) h cs ss Post) : WP g M pc lv (.int y :: .long x :: st) h cs ss Post := by
  intro p l e s m args below meth c H locs ls ad h0 ad0 hC hR hS hl ho hq hE
  exact lv_lshr hC.1 hC.2.1  d hv (k p l e s m args below meth c H locs ls ad h0 ad0 hC hR hS hl (fac trivial (fat (fat ho))) hq hE)
theorem wp_i2l {x : Int32} (d : decode (mCode M) pc = .ok (.i2l, 1))  (k : WP g M (pc + 1) lv (.long x.toInt64 :: st) h cs ss Post) : WP g M pc lv (.int x :: st) h cs ss Post := by
  intro p l e s m args below meth c H locs ls ad h0 ad0 hC hR hS hl ho hq hE
  exact lv_i2l hC.1 hC.2.1  d rfl (k p l e s m args below meth c H locs ls ad h0 ad0 hC hR hS hl (fac trivial (fat ho)) hq hE)
theorem wp_lcmp {x y : Int64} (d : decode (mCode M) pc = .ok (.lcmp, 1))  (k : WP g M (pc + 1) lv (.int (lg_cmp x y) :: st) h cs ss Post) : WP g M pc lv (.long y :: .long x :: st) h cs ss Post := by
  intro p l e s m args below meth c H locs ls ad h0 ad0 hC hR hS hl ho hq hE
  exact W.lcmp hC.1 hC.2.1  d  (k p l e s m args below meth c H locs ls ad h0 ad0 hC hR hS hl (fac trivial (fat (fat ho))) hq hE)
theorem wp_if_eq {x : Int32} {off : Int} {tgt : Nat} (d : decode (mCode M) pc = .ok (.ifCond .eq off, 3)) (ht : (pc : Int) + off = (tgt : Int)) (kt : (x = 0) → WP g M tgt lv st h cs ss Post) (kf : ¬ (x = 0) → WP g M (pc + 3) lv st h cs ss Post) : WP g M pc lv (.int x :: st) h cs ss Post := by
  intro p l e s m args below meth c H locs ls ad h0 ad0 hC hR hS hl ho hq hE
  exact lv_if_eq hC.1 hC.2.1 d ht (fun z => kt z p l e s m args below meth c H locs ls ad h0 ad0 hC hR hS hl (fat ho) hq hE) (fun z => kf z p l e s m args below meth c H locs ls ad h0 ad0 hC hR hS hl (fat ho) hq hE)
theorem wp_if_ne {x : Int32} {off : Int} {tgt : Nat} (d : decode (mCode M) pc = .ok (.ifCond .ne off, 3)) (ht : (pc : Int) + off = (tgt : Int)) (kt : (x ≠ 0) → WP g M tgt lv st h cs ss Post) (kf : x = 0 → WP g M (pc + 3) lv st h cs ss Post) : WP g M pc lv (.int x :: st) h cs ss Post := by
  intro p l e s m args below meth c H locs ls ad h0 ad0 hC hR hS hl ho hq hE
  exact lv_if_ne hC.1 hC.2.1 d ht (fun z => kt z p l e s m args below meth c H locs ls ad h0 ad0 hC hR hS hl (fat ho) hq hE) (fun z => kf z p l e s m args below meth c H locs ls ad h0 ad0 hC hR hS hl (fat ho) hq hE)
theorem wp_if_lt {x : Int32} {off : Int} {tgt : Nat} (d : decode (mCode M) pc = .ok (.ifCond .lt off, 3)) (ht : (pc : Int) + off = (tgt : Int)) (kt : (x < 0) → WP g M tgt lv st h cs ss Post) (kf : ¬ (x < 0) → WP g M (pc + 3) lv st h cs ss Post) : WP g M pc lv (.int x :: st) h cs ss Post := by
  intro p l e s m args below meth c H locs ls ad h0 ad0 hC hR hS hl ho hq hE
  exact lv_if_lt hC.1 hC.2.1 d ht (fun z => kt z p l e s m args below meth c H locs ls ad h0 ad0 hC hR hS hl (fat ho) hq hE) (fun z => kf z p l e s m args below meth c H locs ls ad h0 ad0 hC hR hS hl (fat ho) hq hE)
theorem wp_if_ge {x : Int32} {off : Int} {tgt : Nat} (d : decode (mCode M) pc = .ok (.ifCond .ge off, 3)) (ht : (pc : Int) + off = (tgt : Int)) (kt : (0 ≤ x) → WP g M tgt lv st h cs ss Post) (kf : ¬ (0 ≤ x) → WP g M (pc + 3) lv st h cs ss Post) : WP g M pc lv (.int x :: st) h cs ss Post := by
  intro p l e s m args below meth c H locs ls ad h0 ad0 hC hR hS hl ho hq hE
  exact lv_if_ge hC.1 hC.2.1 d ht (fun z => kt z p l e s m args below meth c H locs ls ad h0 ad0 hC hR hS hl (fat ho) hq hE) (fun z => kf z p l e s m args below meth c H locs ls ad h0 ad0 hC hR hS hl (fat ho) hq hE)
theorem wp_if_gt {x : Int32} {off : Int} {tgt : Nat} (d : decode (mCode M) pc = .ok (.ifCond .gt off, 3)) (ht : (pc : Int) + off = (tgt : Int)) (kt : (0 < x) → WP g M tgt lv st h cs ss Post) (kf : ¬ (0 < x) → WP g M (pc + 3) lv st h cs ss Post) : WP g M pc lv (.int x :: st) h cs ss Post := by
  intro p l e s m args below meth c H locs ls ad h0 ad0 hC hR hS hl ho hq hE
  exact lv_if_gt hC.1 hC.2.1 d ht (fun z => kt z p l e s m args below meth c H locs ls ad h0 ad0 hC hR hS hl (fat ho) hq hE) (fun z => kf z p l e s m args below meth c H locs ls ad h0 ad0 hC hR hS hl (fat ho) hq hE)
theorem wp_if_le {x : Int32} {off : Int} {tgt : Nat} (d : decode (mCode M) pc = .ok (.ifCond .le off, 3)) (ht : (pc : Int) + off = (tgt : Int)) (kt : (x ≤ 0) → WP g M tgt lv st h cs ss Post) (kf : ¬ (x ≤ 0) → WP g M (pc + 3) lv st h cs ss Post) : WP g M pc lv (.int x :: st) h cs ss Post := by
  intro p l e s m args below meth c H locs ls ad h0 ad0 hC hR hS hl ho hq hE
  exact lv_if_le hC.1 hC.2.1 d ht (fun z => kt z p l e s m args below meth c H locs ls ad h0 ad0 hC hR hS hl (fat ho) hq hE) (fun z => kf z p l e s m args below meth c H locs ls ad h0 ad0 hC hR hS hl (fat ho) hq hE)
theorem wp_icmp_eq {x y : Int32} {off : Int} {tgt : Nat} (d : decode (mCode M) pc = .ok (.if_icmp .eq off, 3)) (ht : (pc : Int) + off = (tgt : Int)) (kt : (x = y) → WP g M tgt lv st h cs ss Post) (kf : ¬ (x = y) → WP g M (pc + 3) lv st h cs ss Post) : WP g M pc lv (.int y :: .int x :: st) h cs ss Post := by
  intro p l e s m args below meth c H locs ls ad h0 ad0 hC hR hS hl ho hq hE
  exact lv_icmp_eq hC.1 hC.2.1 d ht (fun z => kt z p l e s m args below meth c H locs ls ad h0 ad0 hC hR hS hl (fat (fat ho)) hq hE) (fun z => kf z p l e s m args below meth c H locs ls ad h0 ad0 hC hR hS hl (fat (fat ho)) hq hE)
theorem wp_icmp_ne {x y : Int32} {off : Int} {tgt : Nat} (d : decode (mCode M) pc = .ok (.if_icmp .ne off, 3)) (ht : (pc : Int) + off = (tgt : Int)) (kt : (x ≠ y) → WP g M tgt lv st h cs ss Post) (kf : x = y → WP g M (pc + 3) lv st h cs ss Post) : WP g M pc lv (.int y :: .int x :: st) h cs ss Post := by
  intro p l e s m args below meth c H locs ls ad h0 ad0 hC hR hS hl ho hq hE
  exact lv_icmp_ne hC.1 hC.2.1 d ht (fun z => kt z p l e s m args below meth c H locs ls ad h0 ad0 hC hR hS hl (fat (fat ho)) hq hE) (fun z => kf z p l e s m args below meth c H locs ls ad h0 ad0 hC hR hS hl (fat (fat ho)) hq hE)
theorem wp_icmp_lt {x y : Int32} {off : Int} {tgt : Nat} (d : decode (mCode M) pc = .ok (.if_icmp .lt off, 3)) (ht : (pc : Int) + off = (tgt : Int)) (kt : (x < y) → WP g M tgt lv st h cs ss Post) (kf : ¬ (x < y) → WP g M (pc + 3) lv st h cs ss Post) : WP g M pc lv (.int y :: .int x :: st) h cs ss Post := by
  intro p l e s m args below meth c H locs ls ad h0 ad0 hC hR hS hl ho hq hE
  exact lv_icmp_lt hC.1 hC.2.1 d ht (fun z => kt z p l e s m args below meth c H locs ls ad h0 ad0 hC hR hS hl (fat (fat ho)) hq hE) (fun z => kf z p l e s m args below meth c H locs ls ad h0 ad0 hC hR hS hl (fat (fat ho)) hq hE)
theorem wp_icmp_ge {x y : Int32} {off : Int} {tgt : Nat} (d : decode (mCode M) pc = .ok (.if_icmp .ge off, 3)) (ht : (pc : Int) + off = (tgt : Int)) (kt : (y ≤ x) → WP g M tgt lv st h cs ss Post) (kf : ¬ (y ≤ x) → WP g M (pc + 3) lv st h cs ss Post) : WP g M pc lv (.int y :: .int x :: st) h cs ss Post := by
  intro p l e s m args below meth c H locs ls ad h0 ad0 hC hR hS hl ho hq hE
  exact lv_icmp_ge hC.1 hC.2.1 d ht (fun z => kt z p l e s m args below meth c H locs ls ad h0 ad0 hC hR hS hl (fat (fat ho)) hq hE) (fun z => kf z p l e s m args below meth c H locs ls ad h0 ad0 hC hR hS hl (fat (fat ho)) hq hE)
theorem wp_icmp_gt {x y : Int32} {off : Int} {tgt : Nat} (d : decode (mCode M) pc = .ok (.if_icmp .gt off, 3)) (ht : (pc : Int) + off = (tgt : Int)) (kt : (y < x) → WP g M tgt lv st h cs ss Post) (kf : ¬ (y < x) → WP g M (pc + 3) lv st h cs ss Post) : WP g M pc lv (.int y :: .int x :: st) h cs ss Post := by
  intro p l e s m args below meth c H locs ls ad h0 ad0 hC hR hS hl ho hq hE
  exact lv_icmp_gt hC.1 hC.2.1 d ht (fun z => kt z p l e s m args below meth c H locs ls ad h0 ad0 hC hR hS hl (fat (fat ho)) hq hE) (fun z => kf z p l e s m args below meth c H locs ls ad h0 ad0 hC hR hS hl (fat (fat ho)) hq hE)
theorem wp_icmp_le {x y : Int32} {off : Int} {tgt : Nat} (d : decode (mCode M) pc = .ok (.if_icmp .le off, 3)) (ht : (pc : Int) + off = (tgt : Int)) (kt : (x ≤ y) → WP g M tgt lv st h cs ss Post) (kf : ¬ (x ≤ y) → WP g M (pc + 3) lv st h cs ss Post) : WP g M pc lv (.int y :: .int x :: st) h cs ss Post := by
  intro p l e s m args below meth c H locs ls ad h0 ad0 hC hR hS hl ho hq hE
  exact lv_icmp_le hC.1 hC.2.1 d ht (fun z => kt z p l e s m args below meth c H locs ls ad h0 ad0 hC hR hS hl (fat (fat ho)) hq hE) (fun z => kf z p l e s m args below meth c H locs ls ad h0 ad0 hC hR hS hl (fat (fat ho)) hq hE)
theorem wp_goto {off : Int} {tgt : Nat} (d : decode (mCode M) pc = .ok (.goto off, 3)) (ht : (pc : Int) + off = (tgt : Int)) (k : WP g M tgt lv st h cs ss Post) : WP g M pc lv st h cs ss Post := by
  intro p l e s m args below meth c H locs ls ad h0 ad0 hC hR hS hl ho hq hE
  exact lv_goto hC.1 hC.2.1 d ht (k p l e s m args below meth c H locs ls ad h0 ad0 hC hR hS hl ho hq hE)
theorem wp_ifnonnull {x : Nat} {off : Int} {tgt : Nat} (d : decode (mCode M) pc = .ok (.ifnonnull off, 3)) (ht : (pc : Int) + off = (tgt : Int)) (k : WP g M tgt lv st h cs ss Post) : WP g M pc lv (.ref x :: st) h cs ss Post := by
  intro p l e s m args below meth c H locs ls ad h0 ad0 hC hR hS hl ho hq hE
  exact lv_ifnonnull hC.1 hC.2.1 d ht (k p l e s m args below meth c H locs ls ad h0 ad0 hC hR hS hl (fat ho) hq hE)
theorem wp_ifnonnullN {off : Int} (d : decode (mCode M) pc = .ok (.ifnonnull off, 3)) (k : WP g M (pc + 3) lv st h cs ss Post) : WP g M pc lv (.null :: st) h cs ss Post := by
  intro p l e s m args below meth c H locs ls ad h0 ad0 hC hR hS hl ho hq hE
  exact lv_ifnonnullN hC.1 hC.2.1 d (k p l e s m args below meth c H locs ls ad h0 ad0 hC hR hS hl (fat ho) hq hE)
theorem wp_ifnull {x : Nat} {off : Int} (d : decode (mCode M) pc = .ok (.ifnull off, 3)) (k : WP g M (pc + 3) lv st h cs ss Post) : WP g M pc lv (.ref x :: st) h cs ss Post := by
  intro p l e s m args below meth c H locs ls ad h0 ad0 hC hR hS hl ho hq hE
  exact lv_ifnull hC.1 hC.2.1 d (k p l e s m args below meth c H locs ls ad h0 ad0 hC hR hS hl (fat ho) hq hE)
theorem wp_ifnullN {off : Int} {tgt : Nat} (d : decode (mCode M) pc = .ok (.ifnull off, 3)) (ht : (pc : Int) + off = (tgt : Int)) (k : WP g M tgt lv st h cs ss Post) : WP g M pc lv (.null :: st) h cs ss Post := by
  intro p l e s m args below meth c H locs ls ad h0 ad0 hC hR hS hl ho hq hE
  exact lv_ifnullN hC.1 hC.2.1 d ht (k p l e s m args below meth c H locs ls ad h0 ad0 hC hR hS hl (fat ho) hq hE)
theorem wp_tableIn {dflt lo hi : Int} {offs : Array Int} {len : Nat} {x : Int32} {off : Int} {tgt : Nat} (d : decode (mCode M) pc = .ok (.tableswitch dflt lo hi offs, len)) (h1 : ¬ x.toInt < lo) (h2 : ¬ hi < x.toInt) (hf : offs[(x.toInt - lo).toNat]? = some off) (ht : (pc : Int) + off = (tgt : Int)) (k : WP g M tgt lv st h cs ss Post) : WP g M pc lv (.int x :: st) h cs ss Post := by
  intro p l e s m args below meth c H locs ls ad h0 ad0 hC hR hS hl ho hq hE
  exact lv_tableIn hC.1 hC.2.1 d h1 h2 hf ht (k p l e s m args below meth c H locs ls ad h0 ad0 hC hR hS hl (fat ho) hq hE)
theorem wp_tableOut {dflt lo hi : Int} {offs : Array Int} {len : Nat} {x : Int32} {tgt : Nat} (d : decode (mCode M) pc = .ok (.tableswitch dflt lo hi offs, len)) (h1 : x.toInt < lo ∨ hi < x.toInt) (ht : (pc : Int) + dflt = (tgt : Int)) (k : WP g M tgt lv st h cs ss Post) : WP g M pc lv (.int x :: st) h cs ss Post := by
  intro p l e s m args below meth c H locs ls ad h0 ad0 hC hR hS hl ho hq hE
  exact lv_tableOut hC.1 hC.2.1 d h1 ht (k p l e s m args below meth c H locs ls ad h0 ad0 hC hR hS hl (fat ho) hq hE)
theorem wp_lookup {dflt : Int} {ps : Array (Int × Int)} {len : Nat} {x : Int32} {off : Int} {tgt : Nat} (d : decode (mCode M) pc = .ok (.lookupswitch dflt ps, len)) (hp : (ps.toList.zip (ps.toList.drop 1)).all (fun (a, next) => a.1 < next.1) = true) (hf : Op.lookupswitch.offset ps.toList dflt x.toInt = off) (ht : (pc : Int) + off = (tgt : Int)) (k : WP g M tgt lv st h cs ss Post) : WP g M pc lv (.int x :: st) h cs ss Post := by
  intro p l e s m args below meth c H locs ls ad h0 ad0 hC hR hS hl ho hq hE
  exact lv_lookup hC.1 hC.2.1 d hp hf ht (k p l e s m args below meth c H locs ls ad h0 ad0 hC hR hS hl (fat ho) hq hE)
theorem wp_sub (ks : List Nat) {lv' : List (Nat × Value)} (hlv : lv_pick lv ks = lv') (k : WP g M pc lv' st h cs ss Post) : WP g M pc lv st h cs ss Post := by
  intro p l e s m args below meth c H locs ls ad h0 ad0 hC hR hS hl ho hq hE
  have e2 : ∀ ks : List Nat, lv_pick (lv.map (rq ad)) ks = (lv_pick lv ks).map (rq ad) := by
    intro ks
    unfold lv_pick
    induction ks with
    | nil => rfl
    | cons a t ih =>
      rw [List.filterMap_cons, List.filterMap_cons, List.getElem?_map]
      cases lv[a]? with
      | none => exact ih
      | some q => exact congrArg _ ih
  refine k p l e s m args below meth c H locs ls ad h0 ad0 hC hR hS (lv_sub hl ks ((e2 ks).trans (congrArg _ hlv))) ho (fun q hq' => ?_) hE
  rw [← hlv] at hq'
  obtain ⟨i, -, hi⟩ := List.mem_filterMap.mp hq'
  exact hq q (List.mem_of_getElem? hi)
theorem wp_widen {cs' ss' : Nat} (h1 : cs ≤ cs') (h2 : ss ≤ ss') (k : WP g M pc lv st h cs' ss' Post) : WP g M pc lv st h cs ss Post := by
  intro p l e s m args below meth c H locs ls ad h0 ad0 hC hR hS hl ho hq hE
  exact W.widen h1 h2 (k p l e s m args below meth c H locs ls ad h0 ad0 hC hR hS hl ho hq hE)
theorem wp_post {Post' : Option Value → HP → Prop} (hp : ∀ v h', Post' v h' → Post v h') (k : WP g M pc lv st h cs ss Post') : WP g M pc lv st h cs ss Post := by
  intro p l e s m args below meth c H locs ls ad h0 ad0 hC hR hS hl ho hq hE
  intro T hT X
  obtain ⟨t, a, o, b1, b2, ⟨v, h', ad', c1, c2, c3⟩, b4⟩ := k p l e s m args below meth c H locs ls ad h0 ad0 hC hR hS hl ho hq hE T hT X
  exact ⟨t, a, o, b1, b2, ⟨v, h', ad', c1, hp v h' c2, c3⟩, b4⟩
theorem wp_lret {x : Int64} (d : decode (mCode M) pc = .ok (.lreturn, 1)) (hr : mRet M = some .long) (hc : cs ≤ (mRm M).cells) (hs : ss ≤ (mRm M).slots)  (hp : Post (some (.long x)) h) : WP g M pc lv (.long x :: []) h cs ss Post := by
  intro p l e s m args below meth c H locs ls ad h0 ad0 hC hR hS hl ho hq hE
  refine W.widen hc hs ?_
  exact W.lret hC.1 hC.2.1 (hC.2.2.1.trans hr) (fun t ht hW => ⟨(some (.long x)), h, ad, rfl, hp, by rw [ht]; exact hR, hE, (fun w hw => by cases hw; exact trivial), hS.F ht⟩) hS.2.2 d hC.2.2.2.2.2.2.1
theorem wp_iret {x : Int32} (d : decode (mCode M) pc = .ok (.ireturn, 1)) (hr : mRet M = some .int) (hc : cs ≤ (mRm M).cells) (hs : ss ≤ (mRm M).slots)  (hp : Post (some (.int x)) h) : WP g M pc lv (.int x :: []) h cs ss Post := by
  intro p l e s m args below meth c H locs ls ad h0 ad0 hC hR hS hl ho hq hE
  refine W.widen hc hs ?_
  exact W.iret hC.1 hC.2.1 (hC.2.2.1.trans hr) (fun t ht hW => ⟨(some (.int x)), h, ad, rfl, hp, by rw [ht]; exact hR, hE, (fun w hw => by cases hw; exact trivial), hS.F ht⟩) hS.2.2 d hC.2.2.2.2.2.2.1
theorem wp_zret {x : Int32} (d : decode (mCode M) pc = .ok (.ireturn, 1)) (hr : mRet M = some .boolean) (hc : cs ≤ (mRm M).cells) (hs : ss ≤ (mRm M).slots) (hn : narrow .boolean (.int x) = .int x) (hp : Post (some (.int x)) h) : WP g M pc lv (.int x :: []) h cs ss Post := by
  intro p l e s m args below meth c H locs ls ad h0 ad0 hC hR hS hl ho hq hE
  refine W.widen hc hs ?_
  exact W.zret hC.1 hC.2.1 (hC.2.2.1.trans hr) hn (fun t ht hW => ⟨(some (.int x)), h, ad, rfl, hp, by rw [ht]; exact hR, hE, (fun w hw => by cases hw; exact trivial), hS.F ht⟩) hS.2.2 d hC.2.2.2.2.2.2.1
theorem wp_vret (d : decode (mCode M) pc = .ok (.return_, 1)) (hr : mRet M = none) (hc : cs ≤ (mRm M).cells) (hs : ss ≤ (mRm M).slots)  (hp : Post none h) : WP g M pc lv ([]) h cs ss Post := by
  intro p l e s m args below meth c H locs ls ad h0 ad0 hC hR hS hl ho hq hE
  refine W.widen hc hs ?_
  exact W.vret hC.1 hC.2.1 (hC.2.2.1.trans hr) (fun t ht hW => ⟨none, h, ad, rfl, hp, by rw [ht]; exact hR, hE, (fun w hw => by cases hw), hS.F ht⟩) hS.2.2 d hC.2.2.2.2.2.2.1
theorem wp_aret {x : Nat} {C : String} (d : decode (mCode M) pc = .ok (.areturn, 1)) (hr : mRet M = some (.object C)) (hc : cs ≤ (mRm M).cells) (hs : ss ≤ (mRm M).slots)  (hp : Post (some (.ref x)) h) : WP g M pc lv (.ref x :: []) h cs ss Post := by
  intro p l e s m args below meth c H locs ls ad h0 ad0 hC hR hS hl ho hq hE
  refine W.widen hc hs ?_
  exact W.aret hC.1 hC.2.1 (hC.2.2.1.trans hr) (Or.inl ⟨_, rfl⟩) (Or.inr ⟨_, rfl⟩) (fun t ht hW => ⟨(some (.ref x)), h, ad, rfl, hp, by rw [ht]; exact hR, hE, (fun w hw => by cases hw; exact fa1 ho), hS.F ht⟩) hS.2.2 d hC.2.2.2.2.2.2.1
theorem wp_aretN {C : String} (d : decode (mCode M) pc = .ok (.areturn, 1)) (hr : mRet M = some (.object C)) (hc : cs ≤ (mRm M).cells) (hs : ss ≤ (mRm M).slots)  (hp : Post (some .null) h) : WP g M pc lv (.null :: []) h cs ss Post := by
  intro p l e s m args below meth c H locs ls ad h0 ad0 hC hR hS hl ho hq hE
  refine W.widen hc hs ?_
  exact W.aret hC.1 hC.2.1 (hC.2.2.1.trans hr) (Or.inl ⟨_, rfl⟩) (Or.inl rfl) (fun t ht hW => ⟨(some .null), h, ad, rfl, hp, by rw [ht]; exact hR, hE, (fun w hw => by cases hw; exact trivial), hS.F ht⟩) hS.2.2 d hC.2.2.2.2.2.2.1
end Basics
