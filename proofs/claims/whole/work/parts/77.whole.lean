/-! from the law's entry -/
set_option maxRecDepth 100000 in
set_option maxHeartbeats 4000000 in
theorem law_all {g : GG} {Post : Option Value → HP → Prop} {nn : String} {b L : Nat} {xs : Nat → Int32} (hb : g.2.2 15 = b) (hL : L ≤ 384) (hp : ∀ h, Post (some (.int 1)) h) {h : HP} (q0 : IQ h [50] []) : CT g (mLw nn b L xs) [.ref 50] h Post := by
  show WP g (mLw nn b L xs) 0 [(0, .ref 50)] [] h 0 0 Post
  refine wp_new 1 (c := 6) dL_law_0 (by decide) clL_7 nsX6 nzX6 rfl (iq_n q0 (by decide)) (Nat.le_of_ble_eq_true rfl) (Nat.le_of_ble_eq_true rfl) ?_
  refine wp_dup dL_law_3 rfl ?_
  refine wp_callI mX6_init 1 [] [.ref 1] dL_law_4 iX6_init (fun _ => trivial) rfl rfl mlL_9 imX6_init ⟨(Nat.le_of_ble_eq_true rfl), (Nat.le_of_ble_eq_true rfl)⟩ rfl rfl (Nat.le_of_ble_eq_true rfl) (Nat.le_of_ble_eq_true rfl) (Nat.le_of_ble_eq_true rfl) (Nat.le_of_ble_eq_true rfl) ?_
  refine ct_Council (iq_new (A := 1) q0 (by decide)) (fun h1 q1 => ?_)
  show WP g (mLw nn b L xs) 7 [(0, .ref 50)] [.ref 1] _ _ _ _
  refine wp_astore_n (lv' := [(1, .ref 1), (0, .ref 50)]) dL_law_7 rfl (Nat.le_of_ble_eq_true rfl) rfl ?_
  refine wp_new 100 (c := 7) dL_law_8 (by decide) clL_10 nsX7 nzX7 rfl (iq_n q1 (by decide)) (Nat.le_of_ble_eq_true rfl) (Nat.le_of_ble_eq_true rfl) ?_
  refine wp_dup dL_law_11 rfl ?_
  refine wp_callI mX7_init 100 [] [.ref 100] dL_law_12 iX7_init (fun _ => trivial) rfl rfl mlL_12 imX7_init ⟨(Nat.le_of_ble_eq_true rfl), (Nat.le_of_ble_eq_true rfl)⟩ rfl rfl (Nat.le_of_ble_eq_true rfl) (Nat.le_of_ble_eq_true rfl) (Nat.le_of_ble_eq_true rfl) (Nat.le_of_ble_eq_true rfl) ?_
  refine ct_Model (iq_new (A := 100) q1 (by decide)) (fun h2 q2 => ?_)
  show WP g (mLw nn b L xs) 15 [(1, .ref 1), (0, .ref 50)] [.ref 100] _ _ _ _
  refine wp_astore_n (lv' := [(2, .ref 100), (1, .ref 1), (0, .ref 50)]) dL_law_15 rfl (Nat.le_of_ble_eq_true rfl) rfl ?_
  refine wp_iconst (v := 0) dL_law_16 (by decide) ?_
  refine wp_istore_n (lv' := [(3, .int 0), (2, .ref 100), (1, .ref 1), (0, .ref 50)]) dL_law_17 rfl (Nat.le_of_ble_eq_true rfl) rfl ?_
  refine wp_sub [3, 2, 1, 0] rfl ?_
  exact law_loop hb hL hp 64 0 _ _ h2 (by omega) (Nat.le_of_ble_eq_true rfl) (Nat.le_of_ble_eq_true rfl) (Inv_0 q2)
def hS : HP := (fun b => b == 50, fun _ _ => 0, fun _ _ => 0, fun _ _ => none)
theorem hS_q : IQ hS [50] [] := ⟨fun _ _ => rfl, fun _ _ => rfl, fun b => by show (b == 50) = true ↔ _; simp, fun a k v => by show none = some v ↔ _; simp⟩
theorem ar_prim {s : State} {args : Array Value} {ty : FieldType} (h : (Cond.arrayClass ty).before args s = true) : ∃ cA, ArrOfT s cA ty ∧ s.vm.findClass ("[" ++ ty.toString) = some cA := by
  obtain ⟨c, k, comp, h1, h2, h3⟩ := Cond.arrayClass_spec h
  exact ⟨c, fun n z => ⟨fun k h => (by cases h), k, h2, comp, h3⟩, h1⟩
theorem ar_obj {s : State} {args : Array Value} {C : String} (h : (Cond.arrayOver (.object C)).before args s = true) : ∃ cA, ArrOfT s cA (.object C) ∧ va_RA s cA (.object C) := by
  obtain ⟨comp, c, k, h1, h2, h3, h4, h5⟩ := Cond.arrayOver_spec h
  exact ⟨c, fun n z => ⟨fun k h => (by cases h), k, h3, comp, h4⟩, k, comp, h3, h4, h1, h5⟩
set_option maxRecDepth 20000 in
theorem whole_start {p : Program} {e : Env} {s : State} {m : MethodId} {below : List Frame} {meth : Method} {c : Code} (l : Launch) {b L : Nat} {xs : Nat → Int32} (hL : L ≤ 384) (C0 : lw_At p s m meth c b L xs) : W p l e room_1 s m #[Value.ref b] below meth c s.heap [] 0 0 (lw_Z below #[Value.ref b] s) (entryFrame m ([Value.ref b] : List Value).toArray 4) := by
  obtain ⟨hx, hcode, hret, hml, hown, hts, hX, hbl, hlk, hgv⟩ := C0
  have hgw : ∀ w ∈ gw, w.before #[Value.ref b] s = true := fun w hw => hts w (List.mem_filter.mp hw).1
  have hinst : ∀ c, c < 8 → Cond.instantiable (CN c) (NF c) ∈ lw_tbl := fun c hc => lt8 (P := fun c => Cond.instantiable (CN c) (NF c) ∈ lw_tbl) nsX0 nsX1 nsX2 nsX3 nsX4 nsX5 nsX6 nsX7 hc
  have hcls : ∀ c : Nat, ∃ q : ClassId × (Nat → Nat), c < 8 → u_Kn s (CN c) (TT c) (NF c) q.1 q.2 := fun c => by
    by_cases hc : c < 8
    · obtain ⟨cC, iS, h⟩ := u_known hgw (cl_in hc) (hts _ (hinst c hc))
      exact ⟨(cC, iS), fun _ => h⟩
    · exact ⟨(0, fun _ => 0), fun z => absurd z hc⟩
  obtain ⟨F, hF⟩ := Classical.axiomOfChoice hcls
  obtain ⟨a8, k8⟩ := ar_prim (hts (Cond.arrayClass .int) (by decide +kernel))
  obtain ⟨a9, k9⟩ := ar_prim (hts (Cond.arrayClass .long) (by decide +kernel))
  obtain ⟨a10, k10⟩ := ar_prim (hts (Cond.arrayClass .boolean) (by decide +kernel))
  have o2 := hts (Cond.arrayOver (.object RX2)) (by decide +kernel)
  have o1 := hts (Cond.arrayOver (.object RX1)) (by decide +kernel)
  have o5 := hts (Cond.arrayOver (.object RX5)) (by decide +kernel)
  have o4 := hts (Cond.arrayOver (.object RX4)) (by decide +kernel)
  obtain ⟨a11, k11⟩ := ar_obj o2
  obtain ⟨a12, k12⟩ := ar_obj o1
  obtain ⟨a13, k13⟩ := ar_obj o5
  obtain ⟨a14, k14⟩ := ar_obj o4
  let A : Nat → ClassId := fun t => match t with
    | 8 => a8 | 9 => a9 | 10 => a10 | 11 => a11 | 12 => a12 | 13 => a13 | 14 => a14 | _ => b
  let g : GG := (s.heap.size, (fun c => (F c).1, fun c => (F c).2), A)
  have hK : va_K g.2.1 vwCl (tysOf g) s := by
    refine ⟨fun c q hq => ?_, fun k q hq => ?_⟩
    · have hc : c < 8 := (List.getElem?_eq_some_iff.mp hq).1
      rw [cl_at hc] at hq
      cases hq
      exact hF c hc
    · have hk : k < 7 := (List.getElem?_eq_some_iff.mp hq).1
      have hk7 : k = 0 ∨ k = 1 ∨ k = 2 ∨ k = 3 ∨ k = 4 ∨ k = 5 ∨ k = 6 := by omega
      rcases hk7 with z | z | z | z | z | z | z
      · rw [z] at hq; rw [← Option.some.inj hq]; exact k8
      · rw [z] at hq; rw [← Option.some.inj hq]; exact k9
      · rw [z] at hq; rw [← Option.some.inj hq]; exact k10
      · rw [z] at hq; rw [← Option.some.inj hq]; exact k11
      · rw [z] at hq; rw [← Option.some.inj hq]; exact k12
      · rw [z] at hq; rw [← Option.some.inj hq]; exact k13
      · rw [z] at hq; rw [← Option.some.inj hq]; exact k14
  have hN : ∀ q ∈ nW, va_Nw (.methodLinkNest q.1 q.2.1 q.2.2.1 q.2.2.2) s := by
    have key : ∀ q ∈ nW, Cond.methodLinkNest q.1 q.2.1 q.2.2.1 q.2.2.2 ∈ lw_tbl := by decide +kernel
    exact fun q hq => va_Nw.of rfl (hts _ (key q hq))
  have hW : Wd g s := ⟨hK, hN, ⟨va_AO.of o2, va_AO.of o1, va_AO.of o5, va_AO.of o4⟩, Nat.le_refl _⟩
  let ad : Nat → Nat := fun _ => b
  have hR : Rp g hS ad s.heap := by
    have e50 : ∀ a, liv hS a = true → a = 50 := fun a ha => by have ha : (a == 50) = true := ha; simpa using ha
    refine ⟨fun a ha => ?_, fun a c ha hc _ => ?_, fun a k v _ hv => ?_⟩
    · rw [e50 a ha]
      exact ⟨fun z => absurd z (by decide), fun _ => ⟨rfl, hbl⟩⟩
    · rw [e50 a ha, e50 c hc]
    · cases hv
  have hl := lv_entry ([Value.ref 50].map (rn ad)) (n := 4) (Nat.le_of_ble_eq_true rfl)
  have key := law_all (g := g) (nn := meth.name) (Post := fun v _ => v = some (.int 1)) (b := b) (L := L) (xs := xs) rfl hL (fun _ => rfl) hS_q
  have K := key p l e s m #[Value.ref b] below meth c s.heap [] _ ad hS ad ⟨hx, hcode, hret, hml, hown, hgw, hlk, rfl, ⟨hX, hbl⟩, hW⟩ hR va_S.rf hl (fun v h => by cases h) (fun q hq => by
    rcases List.mem_cons.mp hq with z | z
    · rw [z]; rfl
    · cases z) (fun a ha => ⟨ha, rfl⟩)
  rw [lg_entry_eq]
  intro T hT X
  obtain ⟨t, st, o, t1, t2, ⟨v, h', ad', ho, hv, _⟩, Ls, hFr, hfree⟩ := K T hT X
  subst hv
  refine ⟨t, st, o, t1, t2, ho, ?_⟩
  obtain ⟨f1, f2, f3, f4, f5, f6, f7, f8⟩ := hFr
  refine ⟨f1, f2, f3, f4, f5, f6, f7, fun a cc ha => ?_⟩
  obtain ⟨c', g1, g2, g3, g4⟩ := f8 a cc ha
  refine ⟨c', g1, g2, g3, fun i _ => g4 i (fun hmem => ?_)⟩
  have q1 : s.heap.size ≤ a := hfree _ hmem
  have q2 : a < s.heap.size := (Array.getElem?_eq_some_iff.mp ha).1
  exact absurd q2 (Nat.not_lt.mpr q1)
