/-! the constructors -/
def IQ (h : HP) (L : List Nat) (P : List (Nat × Nat × Nat)) : Prop := (∀ a k, vI h a k = 0) ∧ (∀ a k, vL h a k = 0) ∧ (∀ b, liv h b = true ↔ b ∈ L) ∧ ∀ a k v, vP h a k = some v ↔ (a, k, v) ∈ P
theorem iq_l {h : HP} {L : List Nat} {P : List (Nat × Nat × Nat)} (q : IQ h L P) {b : Nat} (hb : b ∈ L) : liv h b = true := (q.2.2.1 b).mpr hb
theorem iq_n {h : HP} {L : List Nat} {P : List (Nat × Nat × Nat)} (q : IQ h L P) {b : Nat} (hb : b ∉ L) : liv h b = false := by
  cases e : liv h b
  · rfl
  · exact absurd ((q.2.2.1 b).mp e) hb
theorem iq_p {h : HP} {L : List Nat} {P : List (Nat × Nat × Nat)} (q : IQ h L P) {a k v : Nat} (hb : (a, k, v) ∈ P) : vP h a k = some v := (q.2.2.2 a k v).mpr hb
theorem iq_new {h : HP} {L : List Nat} {P : List (Nat × Nat × Nat)} {A : Nat} (q : IQ h L P) (hp : P.all (fun t => t.1 != A) = true) : IQ (sN h A) (A :: L) P := by
  obtain ⟨q1, q2, q3, q4⟩ := q
  refine ⟨fun a k => ?_, fun a k => ?_, fun b => ?_, fun a k v => ?_⟩
  · by_cases e : a = A
    · rw [e, vI_NN]
    · rw [vI_nN e]; exact q1 a k
  · by_cases e : a = A
    · rw [e, vL_NN]
    · rw [vL_nN e]; exact q2 a k
  · by_cases e : b = A
    · rw [e]; exact ⟨fun _ => List.mem_cons_self, fun _ => liv_new h A⟩
    · rw [liv_other e, q3]
      exact ⟨fun z => List.mem_cons_of_mem _ z, fun z => (List.mem_cons.mp z).resolve_left e⟩
  · by_cases e : a = A
    · rw [e, vP_NN]
      refine ⟨fun z => (by cases z), fun z => ?_⟩
      have := List.all_eq_true.mp hp _ z
      simp at this
    · rw [vP_nN e]; exact q4 a k v
theorem iq_ptr {h : HP} {L : List Nat} {P : List (Nat × Nat × Nat)} {O f A : Nat} (q : IQ h L P) (hp : P.all (fun t => !(t.1 == O && t.2.1 == f)) = true) : IQ (sP h O f (some A)) L ((O, f, A) :: P) := by
  obtain ⟨q1, q2, q3, q4⟩ := q
  refine ⟨q1, q2, q3, fun a k v => ?_⟩
  by_cases e : a = O ∧ k = f
  · obtain ⟨rfl, rfl⟩ := e
    rw [vPs]
    constructor
    · intro z; rw [Option.some.inj z]; exact List.mem_cons_self
    · intro z
      rcases List.mem_cons.mp z with y | y
      · have : A = v := ((Prod.mk.inj (Prod.mk.inj y).2).2).symm
        rw [this]
      · have := List.all_eq_true.mp hp _ y
        simp at this
  · rw [vP_ne e, q4]
    exact ⟨fun z => List.mem_cons_of_mem _ z, fun z => (List.mem_cons.mp z).resolve_left (fun y => e ⟨(Prod.mk.inj y).1, (Prod.mk.inj (Prod.mk.inj y).2).1⟩)⟩
theorem iq_L {h : HP} {L : List Nat} {P : List (Nat × Nat × Nat)} {O f : Nat} (q : IQ h L P) : IQ (sL h O f 0) L P := by
  refine ⟨q.1, fun a k => ?_, q.2.2.1, q.2.2.2⟩
  by_cases e : a = O ∧ k = f
  · obtain ⟨rfl, rfl⟩ := e; exact vLs
  · rw [vL_ne e]; exact q.2.1 a k
theorem iq_I {h : HP} {L : List Nat} {P : List (Nat × Nat × Nat)} {O f : Nat} (q : IQ h L P) : IQ (sI h O f 0) L P := by
  refine ⟨fun a k => ?_, q.2.1, q.2.2.1, q.2.2.2⟩
  by_cases e : a = O ∧ k = f
  · obtain ⟨rfl, rfl⟩ := e; exact vIs
  · rw [vI_ne e]; exact q.1 a k
set_option maxRecDepth 100000 in
set_option maxHeartbeats 4000000 in
theorem ct_Gathering {g : GG} {h0 : HP} {Post : Option Value → HP → Prop} (q0 : IQ h0 [5, 4, 3, 2, 1, 50] [(1, 5, 4), (1, 3, 3), (1, 1, 2)]) (hp : ∀ h', IQ h' [8, 7, 6, 5, 4, 3, 2, 1, 50] [(5, 2, 8), (5, 1, 7), (5, 0, 6), (1, 5, 4), (1, 3, 3), (1, 1, 2)] → Post none h') : CT g mX0_init [.ref 5] h0 Post := by
  show WP g mX0_init 0 [(0, .ref 5)] [] h0 0 0 Post
  refine wp_aload_n dX0_init_0 rfl 0 rfl ?_
  refine wp_obj dX0_init_1 mlX0_3 imObj cdObj (by decide) (Nat.le_of_ble_eq_true rfl) ?_
  refine wp_aload_n dX0_init_4 rfl 0 rfl ?_
  refine wp_bipush (v := 10) dX0_init_5 (by decide) ?_
  refine wp_newI 6 dX0_init_7 rfl (iq_n q0 (by decide)) (by decide) rfl (by decide) (by decide) (by decide) ?_
  refine wp_putP dX0_init_9 flX0_9 (Or.inr ⟨rfl, rfl, rfl⟩) rfl rfl (iq_l q0 (by decide)) ?_
  have q1 := iq_ptr (O := 5) (f := 0) (A := 6) (iq_new (A := 6) q0 (by decide)) (by decide)
  generalize sP (sN h0 6) 5 0 (some 6) = h1 at q1 ⊢
  refine wp_aload_n dX0_init_12 rfl 0 rfl ?_
  refine wp_bipush (v := 10) dX0_init_13 (by decide) ?_
  refine wp_newL 7 dX0_init_15 rfl (iq_n q1 (by decide)) (by decide) rfl (by decide) (by decide) (by decide) ?_
  refine wp_putP dX0_init_17 flX0_15 (Or.inr ⟨rfl, rfl, rfl⟩) rfl rfl (iq_l q1 (by decide)) ?_
  have q2 := iq_ptr (O := 5) (f := 1) (A := 7) (iq_new (A := 7) q1 (by decide)) (by decide)
  generalize sP (sN h1 7) 5 1 (some 7) = h2 at q2 ⊢
  refine wp_aload_n dX0_init_20 rfl 0 rfl ?_
  refine wp_bipush (v := 10) dX0_init_21 (by decide) ?_
  refine wp_newL 8 dX0_init_23 rfl (iq_n q2 (by decide)) (by decide) rfl (by decide) (by decide) (by decide) ?_
  refine wp_putP dX0_init_25 flX0_19 (Or.inr ⟨rfl, rfl, rfl⟩) rfl rfl (iq_l q2 (by decide)) ?_
  have q3 := iq_ptr (O := 5) (f := 2) (A := 8) (iq_new (A := 8) q2 (by decide)) (by decide)
  generalize sP (sN h2 8) 5 2 (some 8) = h3 at q3 ⊢
  refine wp_vret dX0_init_28 rfl (by decide) (by decide) ?_
  exact hp _ q3
set_option maxRecDepth 100000 in
set_option maxHeartbeats 4000000 in
theorem ct_Sorting {g : GG} {h0 : HP} {Post : Option Value → HP → Prop} (q0 : IQ h0 [10, 8, 7, 6, 5, 4, 3, 2, 1, 50] [(1, 7, 5), (5, 2, 8), (5, 1, 7), (5, 0, 6), (1, 5, 4), (1, 3, 3), (1, 1, 2)]) (hp : ∀ h', IQ h' [19, 18, 17, 16, 15, 14, 13, 12, 11, 10, 8, 7, 6, 5, 4, 3, 2, 1, 50] [(10, 10, 19), (10, 9, 18), (10, 8, 17), (10, 7, 16), (10, 6, 15), (10, 4, 14), (10, 3, 13), (10, 1, 12), (10, 0, 11), (1, 7, 5), (5, 2, 8), (5, 1, 7), (5, 0, 6), (1, 5, 4), (1, 3, 3), (1, 1, 2)] → Post none h') : CT g mX3_init [.ref 10] h0 Post := by
  show WP g mX3_init 0 [(0, .ref 10)] [] h0 0 0 Post
  refine wp_aload_n dX3_init_0 rfl 0 rfl ?_
  refine wp_obj dX3_init_1 mlX3_3 imObj cdObj (by decide) (Nat.le_of_ble_eq_true rfl) ?_
  refine wp_aload_n dX3_init_4 rfl 0 rfl ?_
  refine wp_bipush (v := 30) dX3_init_5 (by decide) ?_
  refine wp_newL 11 dX3_init_7 rfl (iq_n q0 (by decide)) (by decide) rfl (by decide) (by decide) (by decide) ?_
  refine wp_putP dX3_init_9 flX3_9 (Or.inr ⟨rfl, rfl, rfl⟩) rfl rfl (iq_l q0 (by decide)) ?_
  have q1 := iq_ptr (O := 10) (f := 0) (A := 11) (iq_new (A := 11) q0 (by decide)) (by decide)
  generalize sP (sN h0 11) 10 0 (some 11) = h1 at q1 ⊢
  refine wp_aload_n dX3_init_12 rfl 0 rfl ?_
  refine wp_bipush (v := 30) dX3_init_13 (by decide) ?_
  refine wp_newL 12 dX3_init_15 rfl (iq_n q1 (by decide)) (by decide) rfl (by decide) (by decide) (by decide) ?_
  refine wp_putP dX3_init_17 flX3_15 (Or.inr ⟨rfl, rfl, rfl⟩) rfl rfl (iq_l q1 (by decide)) ?_
  have q2 := iq_ptr (O := 10) (f := 1) (A := 12) (iq_new (A := 12) q1 (by decide)) (by decide)
  generalize sP (sN h1 12) 10 1 (some 12) = h2 at q2 ⊢
  refine wp_aload_n dX3_init_20 rfl 0 rfl ?_
  refine wp_bipush (v := 60) dX3_init_21 (by decide) ?_
  refine wp_newI 13 dX3_init_23 rfl (iq_n q2 (by decide)) (by decide) rfl (by decide) (by decide) (by decide) ?_
  refine wp_putP dX3_init_25 flX3_18 (Or.inr ⟨rfl, rfl, rfl⟩) rfl rfl (iq_l q2 (by decide)) ?_
  have q3 := iq_ptr (O := 10) (f := 3) (A := 13) (iq_new (A := 13) q2 (by decide)) (by decide)
  generalize sP (sN h2 13) 10 3 (some 13) = h3 at q3 ⊢
  refine wp_aload_n dX3_init_28 rfl 0 rfl ?_
  refine wp_pc (pc' := 29) rfl ?_
  refine wp_bipush (v := 60) dX3_init_29 (by decide) ?_
  refine wp_newI 14 dX3_init_31 rfl (iq_n q3 (by decide)) (by decide) rfl (by decide) (by decide) (by decide) ?_
  refine wp_putP dX3_init_33 flX3_22 (Or.inr ⟨rfl, rfl, rfl⟩) rfl rfl (iq_l q3 (by decide)) ?_
  have q4 := iq_ptr (O := 10) (f := 4) (A := 14) (iq_new (A := 14) q3 (by decide)) (by decide)
  generalize sP (sN h3 14) 10 4 (some 14) = h4 at q4 ⊢
  refine wp_aload_n dX3_init_36 rfl 0 rfl ?_
  refine wp_bipush (v := 30) dX3_init_37 (by decide) ?_
  refine wp_newI 15 dX3_init_39 rfl (iq_n q4 (by decide)) (by decide) rfl (by decide) (by decide) (by decide) ?_
  refine wp_putP dX3_init_41 flX3_25 (Or.inr ⟨rfl, rfl, rfl⟩) rfl rfl (iq_l q4 (by decide)) ?_
  have q5 := iq_ptr (O := 10) (f := 6) (A := 15) (iq_new (A := 15) q4 (by decide)) (by decide)
  generalize sP (sN h4 15) 10 6 (some 15) = h5 at q5 ⊢
  refine wp_aload_n dX3_init_44 rfl 0 rfl ?_
  refine wp_bipush (v := 30) dX3_init_45 (by decide) ?_
  refine wp_newL 16 dX3_init_47 rfl (iq_n q5 (by decide)) (by decide) rfl (by decide) (by decide) (by decide) ?_
  refine wp_putP dX3_init_49 flX3_28 (Or.inr ⟨rfl, rfl, rfl⟩) rfl rfl (iq_l q5 (by decide)) ?_
  have q6 := iq_ptr (O := 10) (f := 7) (A := 16) (iq_new (A := 16) q5 (by decide)) (by decide)
  generalize sP (sN h5 16) 10 7 (some 16) = h6 at q6 ⊢
  refine wp_aload_n dX3_init_52 rfl 0 rfl ?_
  refine wp_bipush (v := 30) dX3_init_53 (by decide) ?_
  refine wp_newI 17 dX3_init_55 rfl (iq_n q6 (by decide)) (by decide) rfl (by decide) (by decide) (by decide) ?_
  refine wp_putP dX3_init_57 flX3_31 (Or.inr ⟨rfl, rfl, rfl⟩) rfl rfl (iq_l q6 (by decide)) ?_
  refine wp_pc (pc' := 60) rfl ?_
  have q7 := iq_ptr (O := 10) (f := 8) (A := 17) (iq_new (A := 17) q6 (by decide)) (by decide)
  generalize sP (sN h6 17) 10 8 (some 17) = h7 at q7 ⊢
  refine wp_aload_n dX3_init_60 rfl 0 rfl ?_
  refine wp_bipush (v := 30) dX3_init_61 (by decide) ?_
  refine wp_newI 18 dX3_init_63 rfl (iq_n q7 (by decide)) (by decide) rfl (by decide) (by decide) (by decide) ?_
  refine wp_putP dX3_init_65 flX3_34 (Or.inr ⟨rfl, rfl, rfl⟩) rfl rfl (iq_l q7 (by decide)) ?_
  have q8 := iq_ptr (O := 10) (f := 9) (A := 18) (iq_new (A := 18) q7 (by decide)) (by decide)
  generalize sP (sN h7 18) 10 9 (some 18) = h8 at q8 ⊢
  refine wp_aload_n dX3_init_68 rfl 0 rfl ?_
  refine wp_bipush (v := 30) dX3_init_69 (by decide) ?_
  refine wp_newI 19 dX3_init_71 rfl (iq_n q8 (by decide)) (by decide) rfl (by decide) (by decide) (by decide) ?_
  refine wp_putP dX3_init_73 flX3_37 (Or.inr ⟨rfl, rfl, rfl⟩) rfl rfl (iq_l q8 (by decide)) ?_
  have q9 := iq_ptr (O := 10) (f := 10) (A := 19) (iq_new (A := 19) q8 (by decide)) (by decide)
  generalize sP (sN h8 19) 10 10 (some 19) = h9 at q9 ⊢
  refine wp_vret dX3_init_76 rfl (by decide) (by decide) ?_
  exact hp _ q9
set_option maxRecDepth 100000 in
set_option maxHeartbeats 4000000 in
theorem ct_Council {g : GG} {h0 : HP} {Post : Option Value → HP → Prop} (q0 : IQ h0 [1, 50] []) (hp : ∀ h', IQ h' [19, 18, 17, 16, 15, 14, 13, 12, 11, 10, 8, 7, 6, 5, 4, 3, 2, 1, 50] [(1, 8, 10), (10, 10, 19), (10, 9, 18), (10, 8, 17), (10, 7, 16), (10, 6, 15), (10, 4, 14), (10, 3, 13), (10, 1, 12), (10, 0, 11), (1, 7, 5), (5, 2, 8), (5, 1, 7), (5, 0, 6), (1, 5, 4), (1, 3, 3), (1, 1, 2)] → Post none h') : CT g mX6_init [.ref 1] h0 Post := by
  show WP g mX6_init 0 [(0, .ref 1)] [] h0 0 0 Post
  refine wp_aload_n dX6_init_0 rfl 0 rfl ?_
  refine wp_obj dX6_init_1 mlX6_1 imObj cdObj (by decide) (Nat.le_of_ble_eq_true rfl) ?_
  refine wp_aload_n dX6_init_4 rfl 0 rfl ?_
  refine wp_lconst (v := 0) dX6_init_5 rfl ?_
  refine wp_putL dX6_init_6 flX6_7 (Or.inl rfl) rfl rfl (iq_l q0 (by decide)) ?_
  have q1 := iq_L (O := 1) (f := 0) q0
  generalize sL h0 1 0 0 = h1 at q1 ⊢
  refine wp_aload_n dX6_init_9 rfl 0 rfl ?_
  refine wp_bipush (v := 10) dX6_init_10 (by decide) ?_
  refine wp_newQ 2 (t := 11) dX6_init_12 (by decide) (by decide) clX6_13 rfl (iq_n q1 (by decide)) (by decide) rfl (by decide) (by decide) (by decide) ?_
  refine wp_putP dX6_init_15 flX6_15 (Or.inr ⟨rfl, rfl, rfl⟩) rfl rfl (iq_l q1 (by decide)) ?_
  have q2 := iq_ptr (O := 1) (f := 1) (A := 2) (iq_new (A := 2) q1 (by decide)) (by decide)
  generalize sP (sN h1 2) 1 1 (some 2) = h2 at q2 ⊢
  refine wp_aload_n dX6_init_18 rfl 0 rfl ?_
  refine wp_iconst (v := 0) dX6_init_19 (by decide) ?_
  refine wp_putI dX6_init_20 flX6_19 (Or.inl rfl) rfl rfl rfl rfl (iq_l q2 (by decide)) ?_
  have q3 := iq_I (O := 1) (f := 2) q2
  generalize sI h2 1 2 0 = h3 at q3 ⊢
  refine wp_aload_n dX6_init_23 rfl 0 rfl ?_
  refine wp_sipush (v := 200) dX6_init_24 (by decide) ?_
  refine wp_newQ 3 (t := 12) dX6_init_27 (by decide) (by decide) clX6_23 rfl (iq_n q3 (by decide)) (by decide) rfl (by decide) (by decide) (by decide) ?_
  refine wp_pc (pc' := 30) rfl ?_
  refine wp_putP dX6_init_30 flX6_25 (Or.inr ⟨rfl, rfl, rfl⟩) rfl rfl (iq_l q3 (by decide)) ?_
  have q4 := iq_ptr (O := 1) (f := 3) (A := 3) (iq_new (A := 3) q3 (by decide)) (by decide)
  generalize sP (sN h3 3) 1 3 (some 3) = h4 at q4 ⊢
  refine wp_aload_n dX6_init_33 rfl 0 rfl ?_
  refine wp_iconst (v := 0) dX6_init_34 (by decide) ?_
  refine wp_putI dX6_init_35 flX6_29 (Or.inl rfl) rfl rfl rfl rfl (iq_l q4 (by decide)) ?_
  have q5 := iq_I (O := 1) (f := 4) q4
  generalize sI h4 1 4 0 = h5 at q5 ⊢
  refine wp_aload_n dX6_init_38 rfl 0 rfl ?_
  refine wp_bipush (v := 100) dX6_init_39 (by decide) ?_
  refine wp_newQ 4 (t := 13) dX6_init_41 (by decide) (by decide) clX6_32 rfl (iq_n q5 (by decide)) (by decide) rfl (by decide) (by decide) (by decide) ?_
  refine wp_putP dX6_init_44 flX6_34 (Or.inr ⟨rfl, rfl, rfl⟩) rfl rfl (iq_l q5 (by decide)) ?_
  have q6 := iq_ptr (O := 1) (f := 5) (A := 4) (iq_new (A := 4) q5 (by decide)) (by decide)
  generalize sP (sN h5 4) 1 5 (some 4) = h6 at q6 ⊢
  refine wp_aload_n dX6_init_47 rfl 0 rfl ?_
  refine wp_iconst (v := 0) dX6_init_48 (by decide) ?_
  refine wp_putI dX6_init_49 flX6_38 (Or.inl rfl) rfl rfl rfl rfl (iq_l q6 (by decide)) ?_
  have q7 := iq_I (O := 1) (f := 6) q6
  generalize sI h6 1 6 0 = h7 at q7 ⊢
  refine wp_aload_n dX6_init_52 rfl 0 rfl ?_
  refine wp_new 5 (c := 0) dX6_init_53 (by decide) clX6_41 nsX0 nzX0 rfl (iq_n q7 (by decide)) (by decide) (by decide) ?_
  refine wp_dup dX6_init_56 rfl ?_
  refine wp_callI mX0_init 5 [] [.ref 5, .ref 1] dX6_init_57 iX0_init (fun _ => trivial) rfl rfl mlX6_43 imX0_init ⟨by decide, by decide⟩ rfl rfl (Nat.le_of_ble_eq_true rfl) (Nat.le_of_ble_eq_true rfl) (by decide) (by decide) ?_
  refine ct_Gathering (iq_new (A := 5) q7 (by decide)) (fun h8 q8 => ?_)
  show WP g mX6_init 60 [(0, .ref 1)] [.ref 5, .ref 1] _ 7 344 _
  refine wp_pc (pc' := 60) rfl ?_
  refine wp_putP dX6_init_60 flX6_44 (Or.inr ⟨rfl, rfl, rfl⟩) rfl rfl (iq_l q8 (by decide)) ?_
  have q9 := iq_ptr (O := 1) (f := 7) (A := 5) q8 (by decide)
  generalize sP h8 1 7 (some 5) = h9 at q9 ⊢
  refine wp_aload_n dX6_init_63 rfl 0 rfl ?_
  refine wp_new 10 (c := 3) dX6_init_64 (by decide) clX6_48 nsX3 nzX3 rfl (iq_n q9 (by decide)) (by decide) (by decide) ?_
  refine wp_dup dX6_init_67 rfl ?_
  refine wp_callI mX3_init 10 [] [.ref 10, .ref 1] dX6_init_68 iX3_init (fun _ => trivial) rfl rfl mlX6_50 imX3_init ⟨by decide, by decide⟩ rfl rfl (Nat.le_of_ble_eq_true rfl) (Nat.le_of_ble_eq_true rfl) (by decide) (by decide) ?_
  refine ct_Sorting (iq_new (A := 10) q9 (by decide)) (fun h10 q10 => ?_)
  show WP g mX6_init 71 [(0, .ref 1)] [.ref 10, .ref 1] _ 17 688 _
  refine wp_putP dX6_init_71 flX6_51 (Or.inr ⟨rfl, rfl, rfl⟩) rfl rfl (iq_l q10 (by decide)) ?_
  have q11 := iq_ptr (O := 1) (f := 8) (A := 10) q10 (by decide)
  generalize sP h10 1 8 (some 10) = h11 at q11 ⊢
  refine wp_vret dX6_init_74 rfl (by decide) (by decide) ?_
  exact hp _ q11
set_option maxRecDepth 100000 in
set_option maxHeartbeats 4000000 in
theorem ct_Model {g : GG} {h0 : HP} {Post : Option Value → HP → Prop} (q0 : IQ h0 [100, 19, 18, 17, 16, 15, 14, 13, 12, 11, 10, 8, 7, 6, 5, 4, 3, 2, 1, 50] [(1, 8, 10), (10, 10, 19), (10, 9, 18), (10, 8, 17), (10, 7, 16), (10, 6, 15), (10, 4, 14), (10, 3, 13), (10, 1, 12), (10, 0, 11), (1, 7, 5), (5, 2, 8), (5, 1, 7), (5, 0, 6), (1, 5, 4), (1, 3, 3), (1, 1, 2)]) (hp : ∀ h', IQ h' [152, 151, 150, 145, 144, 143, 142, 140, 138, 137, 135, 134, 133, 132, 130, 129, 128, 127, 126, 125, 124, 122, 121, 120, 119, 118, 117, 116, 115, 114, 113, 112, 111, 110, 109, 108, 107, 106, 105, 104, 103, 100, 19, 18, 17, 16, 15, 14, 13, 12, 11, 10, 8, 7, 6, 5, 4, 3, 2, 1, 50] [(100, 51, 152), (100, 50, 151), (100, 49, 150), (100, 44, 145), (100, 43, 144), (100, 42, 143), (100, 41, 142), (100, 39, 140), (100, 37, 138), (100, 36, 137), (100, 34, 135), (100, 33, 134), (100, 32, 133), (100, 31, 132), (100, 29, 130), (100, 28, 129), (100, 27, 128), (100, 26, 127), (100, 25, 126), (100, 24, 125), (100, 23, 124), (100, 21, 122), (100, 20, 121), (100, 19, 120), (100, 18, 119), (100, 17, 118), (100, 16, 117), (100, 15, 116), (100, 14, 115), (100, 13, 114), (100, 12, 113), (100, 11, 112), (100, 10, 111), (100, 9, 110), (100, 8, 109), (100, 7, 108), (100, 6, 107), (100, 5, 106), (100, 4, 105), (100, 3, 104), (100, 2, 103), (1, 8, 10), (10, 10, 19), (10, 9, 18), (10, 8, 17), (10, 7, 16), (10, 6, 15), (10, 4, 14), (10, 3, 13), (10, 1, 12), (10, 0, 11), (1, 7, 5), (5, 2, 8), (5, 1, 7), (5, 0, 6), (1, 5, 4), (1, 3, 3), (1, 1, 2)] → Post none h') : CT g mX7_init [.ref 100] h0 Post := by
  show WP g mX7_init 0 [(0, .ref 100)] [] h0 0 0 Post
  refine wp_aload_n dX7_init_0 rfl 0 rfl ?_
  refine wp_obj dX7_init_1 mlX7_1 imObj cdObj (by decide) (Nat.le_of_ble_eq_true rfl) ?_
  refine wp_aload_n dX7_init_4 rfl 0 rfl ?_
  refine wp_bipush (v := 10) dX7_init_5 (by decide) ?_
  refine wp_newI 103 dX7_init_7 rfl (iq_n q0 (by decide)) (by decide) rfl (by decide) (by decide) (by decide) ?_
  refine wp_putP dX7_init_9 flX7_7 (Or.inr ⟨rfl, rfl, rfl⟩) rfl rfl (iq_l q0 (by decide)) ?_
  have q1 := iq_ptr (O := 100) (f := 2) (A := 103) (iq_new (A := 103) q0 (by decide)) (by decide)
  generalize sP (sN h0 103) 100 2 (some 103) = h1 at q1 ⊢
  refine wp_aload_n dX7_init_12 rfl 0 rfl ?_
  refine wp_bipush (v := 10) dX7_init_13 (by decide) ?_
  refine wp_newL 104 dX7_init_15 rfl (iq_n q1 (by decide)) (by decide) rfl (by decide) (by decide) (by decide) ?_
  refine wp_putP dX7_init_17 flX7_13 (Or.inr ⟨rfl, rfl, rfl⟩) rfl rfl (iq_l q1 (by decide)) ?_
  have q2 := iq_ptr (O := 100) (f := 3) (A := 104) (iq_new (A := 104) q1 (by decide)) (by decide)
  generalize sP (sN h1 104) 100 3 (some 104) = h2 at q2 ⊢
  refine wp_aload_n dX7_init_20 rfl 0 rfl ?_
  refine wp_bipush (v := 10) dX7_init_21 (by decide) ?_
  refine wp_newL 105 dX7_init_23 rfl (iq_n q2 (by decide)) (by decide) rfl (by decide) (by decide) (by decide) ?_
  refine wp_putP dX7_init_25 flX7_17 (Or.inr ⟨rfl, rfl, rfl⟩) rfl rfl (iq_l q2 (by decide)) ?_
  have q3 := iq_ptr (O := 100) (f := 4) (A := 105) (iq_new (A := 105) q2 (by decide)) (by decide)
  generalize sP (sN h2 105) 100 4 (some 105) = h3 at q3 ⊢
  refine wp_aload_n dX7_init_28 rfl 0 rfl ?_
  refine wp_pc (pc' := 29) rfl ?_
  refine wp_bipush (v := 10) dX7_init_29 (by decide) ?_
  refine wp_newL 106 dX7_init_31 rfl (iq_n q3 (by decide)) (by decide) rfl (by decide) (by decide) (by decide) ?_
  refine wp_putP dX7_init_33 flX7_20 (Or.inr ⟨rfl, rfl, rfl⟩) rfl rfl (iq_l q3 (by decide)) ?_
  have q4 := iq_ptr (O := 100) (f := 5) (A := 106) (iq_new (A := 106) q3 (by decide)) (by decide)
  generalize sP (sN h3 106) 100 5 (some 106) = h4 at q4 ⊢
  refine wp_aload_n dX7_init_36 rfl 0 rfl ?_
  refine wp_bipush (v := 10) dX7_init_37 (by decide) ?_
  refine wp_newL 107 dX7_init_39 rfl (iq_n q4 (by decide)) (by decide) rfl (by decide) (by decide) (by decide) ?_
  refine wp_putP dX7_init_41 flX7_23 (Or.inr ⟨rfl, rfl, rfl⟩) rfl rfl (iq_l q4 (by decide)) ?_
  have q5 := iq_ptr (O := 100) (f := 6) (A := 107) (iq_new (A := 107) q4 (by decide)) (by decide)
  generalize sP (sN h4 107) 100 6 (some 107) = h5 at q5 ⊢
  refine wp_aload_n dX7_init_44 rfl 0 rfl ?_
  refine wp_bipush (v := 10) dX7_init_45 (by decide) ?_
  refine wp_newL 108 dX7_init_47 rfl (iq_n q5 (by decide)) (by decide) rfl (by decide) (by decide) (by decide) ?_
  refine wp_putP dX7_init_49 flX7_26 (Or.inr ⟨rfl, rfl, rfl⟩) rfl rfl (iq_l q5 (by decide)) ?_
  have q6 := iq_ptr (O := 100) (f := 7) (A := 108) (iq_new (A := 108) q5 (by decide)) (by decide)
  generalize sP (sN h5 108) 100 7 (some 108) = h6 at q6 ⊢
  refine wp_aload_n dX7_init_52 rfl 0 rfl ?_
  refine wp_bipush (v := 10) dX7_init_53 (by decide) ?_
  refine wp_newL 109 dX7_init_55 rfl (iq_n q6 (by decide)) (by decide) rfl (by decide) (by decide) (by decide) ?_
  refine wp_putP dX7_init_57 flX7_29 (Or.inr ⟨rfl, rfl, rfl⟩) rfl rfl (iq_l q6 (by decide)) ?_
  refine wp_pc (pc' := 60) rfl ?_
  have q7 := iq_ptr (O := 100) (f := 8) (A := 109) (iq_new (A := 109) q6 (by decide)) (by decide)
  generalize sP (sN h6 109) 100 8 (some 109) = h7 at q7 ⊢
  refine wp_aload_n dX7_init_60 rfl 0 rfl ?_
  refine wp_bipush (v := 10) dX7_init_61 (by decide) ?_
  refine wp_newL 110 dX7_init_63 rfl (iq_n q7 (by decide)) (by decide) rfl (by decide) (by decide) (by decide) ?_
  refine wp_putP dX7_init_65 flX7_32 (Or.inr ⟨rfl, rfl, rfl⟩) rfl rfl (iq_l q7 (by decide)) ?_
  have q8 := iq_ptr (O := 100) (f := 9) (A := 110) (iq_new (A := 110) q7 (by decide)) (by decide)
  generalize sP (sN h7 110) 100 9 (some 110) = h8 at q8 ⊢
  refine wp_aload_n dX7_init_68 rfl 0 rfl ?_
  refine wp_bipush (v := 10) dX7_init_69 (by decide) ?_
  refine wp_newL 111 dX7_init_71 rfl (iq_n q8 (by decide)) (by decide) rfl (by decide) (by decide) (by decide) ?_
  refine wp_putP dX7_init_73 flX7_35 (Or.inr ⟨rfl, rfl, rfl⟩) rfl rfl (iq_l q8 (by decide)) ?_
  have q9 := iq_ptr (O := 100) (f := 10) (A := 111) (iq_new (A := 111) q8 (by decide)) (by decide)
  generalize sP (sN h8 111) 100 10 (some 111) = h9 at q9 ⊢
  refine wp_aload_n dX7_init_76 rfl 0 rfl ?_
  refine wp_bipush (v := 10) dX7_init_77 (by decide) ?_
  refine wp_newL 112 dX7_init_79 rfl (iq_n q9 (by decide)) (by decide) rfl (by decide) (by decide) (by decide) ?_
  refine wp_putP dX7_init_81 flX7_38 (Or.inr ⟨rfl, rfl, rfl⟩) rfl rfl (iq_l q9 (by decide)) ?_
  have q10 := iq_ptr (O := 100) (f := 11) (A := 112) (iq_new (A := 112) q9 (by decide)) (by decide)
  generalize sP (sN h9 112) 100 11 (some 112) = h10 at q10 ⊢
  refine wp_aload_n dX7_init_84 rfl 0 rfl ?_
  refine wp_bipush (v := 10) dX7_init_85 (by decide) ?_
  refine wp_newL 113 dX7_init_87 rfl (iq_n q10 (by decide)) (by decide) rfl (by decide) (by decide) (by decide) ?_
  refine wp_pc (pc' := 89) rfl ?_
  refine wp_putP dX7_init_89 flX7_41 (Or.inr ⟨rfl, rfl, rfl⟩) rfl rfl (iq_l q10 (by decide)) ?_
  have q11 := iq_ptr (O := 100) (f := 12) (A := 113) (iq_new (A := 113) q10 (by decide)) (by decide)
  generalize sP (sN h10 113) 100 12 (some 113) = h11 at q11 ⊢
  refine wp_aload_n dX7_init_92 rfl 0 rfl ?_
  refine wp_bipush (v := 10) dX7_init_93 (by decide) ?_
  refine wp_newZ 114 dX7_init_95 rfl (iq_n q11 (by decide)) (by decide) rfl (by decide) (by decide) (by decide) ?_
  refine wp_putP dX7_init_97 flX7_44 (Or.inr ⟨rfl, rfl, rfl⟩) rfl rfl (iq_l q11 (by decide)) ?_
  have q12 := iq_ptr (O := 100) (f := 13) (A := 114) (iq_new (A := 114) q11 (by decide)) (by decide)
  generalize sP (sN h11 114) 100 13 (some 114) = h12 at q12 ⊢
  refine wp_aload_n dX7_init_100 rfl 0 rfl ?_
  refine wp_bipush (v := 10) dX7_init_101 (by decide) ?_
  refine wp_newL 115 dX7_init_103 rfl (iq_n q12 (by decide)) (by decide) rfl (by decide) (by decide) (by decide) ?_
  refine wp_putP dX7_init_105 flX7_48 (Or.inr ⟨rfl, rfl, rfl⟩) rfl rfl (iq_l q12 (by decide)) ?_
  have q13 := iq_ptr (O := 100) (f := 14) (A := 115) (iq_new (A := 115) q12 (by decide)) (by decide)
  generalize sP (sN h12 115) 100 14 (some 115) = h13 at q13 ⊢
  refine wp_aload_n dX7_init_108 rfl 0 rfl ?_
  refine wp_bipush (v := 10) dX7_init_109 (by decide) ?_
  refine wp_newL 116 dX7_init_111 rfl (iq_n q13 (by decide)) (by decide) rfl (by decide) (by decide) (by decide) ?_
  refine wp_putP dX7_init_113 flX7_51 (Or.inr ⟨rfl, rfl, rfl⟩) rfl rfl (iq_l q13 (by decide)) ?_
  have q14 := iq_ptr (O := 100) (f := 15) (A := 116) (iq_new (A := 116) q13 (by decide)) (by decide)
  generalize sP (sN h13 116) 100 15 (some 116) = h14 at q14 ⊢
  refine wp_aload_n dX7_init_116 rfl 0 rfl ?_
  refine wp_bipush (v := 10) dX7_init_117 (by decide) ?_
  refine wp_pc (pc' := 119) rfl ?_
  refine wp_newI 117 dX7_init_119 rfl (iq_n q14 (by decide)) (by decide) rfl (by decide) (by decide) (by decide) ?_
  refine wp_putP dX7_init_121 flX7_54 (Or.inr ⟨rfl, rfl, rfl⟩) rfl rfl (iq_l q14 (by decide)) ?_
  have q15 := iq_ptr (O := 100) (f := 16) (A := 117) (iq_new (A := 117) q14 (by decide)) (by decide)
  generalize sP (sN h14 117) 100 16 (some 117) = h15 at q15 ⊢
  refine wp_aload_n dX7_init_124 rfl 0 rfl ?_
  refine wp_bipush (v := 10) dX7_init_125 (by decide) ?_
  refine wp_newI 118 dX7_init_127 rfl (iq_n q15 (by decide)) (by decide) rfl (by decide) (by decide) (by decide) ?_
  refine wp_putP dX7_init_129 flX7_57 (Or.inr ⟨rfl, rfl, rfl⟩) rfl rfl (iq_l q15 (by decide)) ?_
  have q16 := iq_ptr (O := 100) (f := 17) (A := 118) (iq_new (A := 118) q15 (by decide)) (by decide)
  generalize sP (sN h15 118) 100 17 (some 118) = h16 at q16 ⊢
  refine wp_aload_n dX7_init_132 rfl 0 rfl ?_
  refine wp_bipush (v := 100) dX7_init_133 (by decide) ?_
  refine wp_newZ 119 dX7_init_135 rfl (iq_n q16 (by decide)) (by decide) rfl (by decide) (by decide) (by decide) ?_
  refine wp_putP dX7_init_137 flX7_60 (Or.inr ⟨rfl, rfl, rfl⟩) rfl rfl (iq_l q16 (by decide)) ?_
  have q17 := iq_ptr (O := 100) (f := 18) (A := 119) (iq_new (A := 119) q16 (by decide)) (by decide)
  generalize sP (sN h16 119) 100 18 (some 119) = h17 at q17 ⊢
  refine wp_aload_n dX7_init_140 rfl 0 rfl ?_
  refine wp_bipush (v := 100) dX7_init_141 (by decide) ?_
  refine wp_newL 120 dX7_init_143 rfl (iq_n q17 (by decide)) (by decide) rfl (by decide) (by decide) (by decide) ?_
  refine wp_putP dX7_init_145 flX7_63 (Or.inr ⟨rfl, rfl, rfl⟩) rfl rfl (iq_l q17 (by decide)) ?_
  have q18 := iq_ptr (O := 100) (f := 19) (A := 120) (iq_new (A := 120) q17 (by decide)) (by decide)
  generalize sP (sN h17 120) 100 19 (some 120) = h18 at q18 ⊢
  refine wp_aload_n dX7_init_148 rfl 0 rfl ?_
  refine wp_pc (pc' := 149) rfl ?_
  refine wp_bipush (v := 100) dX7_init_149 (by decide) ?_
  refine wp_newL 121 dX7_init_151 rfl (iq_n q18 (by decide)) (by decide) rfl (by decide) (by decide) (by decide) ?_
  refine wp_putP dX7_init_153 flX7_66 (Or.inr ⟨rfl, rfl, rfl⟩) rfl rfl (iq_l q18 (by decide)) ?_
  have q19 := iq_ptr (O := 100) (f := 20) (A := 121) (iq_new (A := 121) q18 (by decide)) (by decide)
  generalize sP (sN h18 121) 100 20 (some 121) = h19 at q19 ⊢
  refine wp_aload_n dX7_init_156 rfl 0 rfl ?_
  refine wp_bipush (v := 100) dX7_init_157 (by decide) ?_
  refine wp_newL 122 dX7_init_159 rfl (iq_n q19 (by decide)) (by decide) rfl (by decide) (by decide) (by decide) ?_
  refine wp_putP dX7_init_161 flX7_69 (Or.inr ⟨rfl, rfl, rfl⟩) rfl rfl (iq_l q19 (by decide)) ?_
  have q20 := iq_ptr (O := 100) (f := 21) (A := 122) (iq_new (A := 122) q19 (by decide)) (by decide)
  generalize sP (sN h19 122) 100 21 (some 122) = h20 at q20 ⊢
  refine wp_aload_n dX7_init_164 rfl 0 rfl ?_
  refine wp_sipush (v := 200) dX7_init_165 (by decide) ?_
  refine wp_newI 124 dX7_init_168 rfl (iq_n q20 (by decide)) (by decide) rfl (by decide) (by decide) (by decide) ?_
  refine wp_putP dX7_init_170 flX7_72 (Or.inr ⟨rfl, rfl, rfl⟩) rfl rfl (iq_l q20 (by decide)) ?_
  have q21 := iq_ptr (O := 100) (f := 23) (A := 124) (iq_new (A := 124) q20 (by decide)) (by decide)
  generalize sP (sN h20 124) 100 23 (some 124) = h21 at q21 ⊢
  refine wp_aload_n dX7_init_173 rfl 0 rfl ?_
  refine wp_sipush (v := 200) dX7_init_174 (by decide) ?_
  refine wp_newI 125 dX7_init_177 rfl (iq_n q21 (by decide)) (by decide) rfl (by decide) (by decide) (by decide) ?_
  refine wp_putP dX7_init_179 flX7_75 (Or.inr ⟨rfl, rfl, rfl⟩) rfl rfl (iq_l q21 (by decide)) ?_
  refine wp_pc (pc' := 182) rfl ?_
  have q22 := iq_ptr (O := 100) (f := 24) (A := 125) (iq_new (A := 125) q21 (by decide)) (by decide)
  generalize sP (sN h21 125) 100 24 (some 125) = h22 at q22 ⊢
  refine wp_aload_n dX7_init_182 rfl 0 rfl ?_
  refine wp_sipush (v := 200) dX7_init_183 (by decide) ?_
  refine wp_newI 126 dX7_init_186 rfl (iq_n q22 (by decide)) (by decide) rfl (by decide) (by decide) (by decide) ?_
  refine wp_putP dX7_init_188 flX7_78 (Or.inr ⟨rfl, rfl, rfl⟩) rfl rfl (iq_l q22 (by decide)) ?_
  have q23 := iq_ptr (O := 100) (f := 25) (A := 126) (iq_new (A := 126) q22 (by decide)) (by decide)
  generalize sP (sN h22 126) 100 25 (some 126) = h23 at q23 ⊢
  refine wp_aload_n dX7_init_191 rfl 0 rfl ?_
  refine wp_sipush (v := 200) dX7_init_192 (by decide) ?_
  refine wp_newL 127 dX7_init_195 rfl (iq_n q23 (by decide)) (by decide) rfl (by decide) (by decide) (by decide) ?_
  refine wp_putP dX7_init_197 flX7_81 (Or.inr ⟨rfl, rfl, rfl⟩) rfl rfl (iq_l q23 (by decide)) ?_
  have q24 := iq_ptr (O := 100) (f := 26) (A := 127) (iq_new (A := 127) q23 (by decide)) (by decide)
  generalize sP (sN h23 127) 100 26 (some 127) = h24 at q24 ⊢
  refine wp_aload_n dX7_init_200 rfl 0 rfl ?_
  refine wp_sipush (v := 200) dX7_init_201 (by decide) ?_
  refine wp_newZ 128 dX7_init_204 rfl (iq_n q24 (by decide)) (by decide) rfl (by decide) (by decide) (by decide) ?_
  refine wp_putP dX7_init_206 flX7_84 (Or.inr ⟨rfl, rfl, rfl⟩) rfl rfl (iq_l q24 (by decide)) ?_
  have q25 := iq_ptr (O := 100) (f := 27) (A := 128) (iq_new (A := 128) q24 (by decide)) (by decide)
  generalize sP (sN h24 128) 100 27 (some 128) = h25 at q25 ⊢
  refine wp_aload_n dX7_init_209 rfl 0 rfl ?_
  refine wp_sipush (v := 200) dX7_init_210 (by decide) ?_
  refine wp_newL 129 dX7_init_213 rfl (iq_n q25 (by decide)) (by decide) rfl (by decide) (by decide) (by decide) ?_
  refine wp_pc (pc' := 215) rfl ?_
  refine wp_putP dX7_init_215 flX7_87 (Or.inr ⟨rfl, rfl, rfl⟩) rfl rfl (iq_l q25 (by decide)) ?_
  have q26 := iq_ptr (O := 100) (f := 28) (A := 129) (iq_new (A := 129) q25 (by decide)) (by decide)
  generalize sP (sN h25 129) 100 28 (some 129) = h26 at q26 ⊢
  refine wp_aload_n dX7_init_218 rfl 0 rfl ?_
  refine wp_sipush (v := 200) dX7_init_219 (by decide) ?_
  refine wp_newL 130 dX7_init_222 rfl (iq_n q26 (by decide)) (by decide) rfl (by decide) (by decide) (by decide) ?_
  refine wp_putP dX7_init_224 flX7_90 (Or.inr ⟨rfl, rfl, rfl⟩) rfl rfl (iq_l q26 (by decide)) ?_
  have q27 := iq_ptr (O := 100) (f := 29) (A := 130) (iq_new (A := 130) q26 (by decide)) (by decide)
  generalize sP (sN h26 130) 100 29 (some 130) = h27 at q27 ⊢
  refine wp_aload_n dX7_init_227 rfl 0 rfl ?_
  refine wp_bipush (v := 100) dX7_init_228 (by decide) ?_
  refine wp_newL 132 dX7_init_230 rfl (iq_n q27 (by decide)) (by decide) rfl (by decide) (by decide) (by decide) ?_
  refine wp_putP dX7_init_232 flX7_93 (Or.inr ⟨rfl, rfl, rfl⟩) rfl rfl (iq_l q27 (by decide)) ?_
  have q28 := iq_ptr (O := 100) (f := 31) (A := 132) (iq_new (A := 132) q27 (by decide)) (by decide)
  generalize sP (sN h27 132) 100 31 (some 132) = h28 at q28 ⊢
  refine wp_aload_n dX7_init_235 rfl 0 rfl ?_
  refine wp_bipush (v := 100) dX7_init_236 (by decide) ?_
  refine wp_newL 133 dX7_init_238 rfl (iq_n q28 (by decide)) (by decide) rfl (by decide) (by decide) (by decide) ?_
  refine wp_putP dX7_init_240 flX7_96 (Or.inr ⟨rfl, rfl, rfl⟩) rfl rfl (iq_l q28 (by decide)) ?_
  have q29 := iq_ptr (O := 100) (f := 32) (A := 133) (iq_new (A := 133) q28 (by decide)) (by decide)
  generalize sP (sN h28 133) 100 32 (some 133) = h29 at q29 ⊢
  refine wp_aload_n dX7_init_243 rfl 0 rfl ?_
  refine wp_bipush (v := 100) dX7_init_244 (by decide) ?_
  refine wp_pc (pc' := 246) rfl ?_
  refine wp_newI 134 dX7_init_246 rfl (iq_n q29 (by decide)) (by decide) rfl (by decide) (by decide) (by decide) ?_
  refine wp_putP dX7_init_248 flX7_99 (Or.inr ⟨rfl, rfl, rfl⟩) rfl rfl (iq_l q29 (by decide)) ?_
  have q30 := iq_ptr (O := 100) (f := 33) (A := 134) (iq_new (A := 134) q29 (by decide)) (by decide)
  generalize sP (sN h29 134) 100 33 (some 134) = h30 at q30 ⊢
  refine wp_aload_n dX7_init_251 rfl 0 rfl ?_
  refine wp_bipush (v := 100) dX7_init_252 (by decide) ?_
  refine wp_newZ 135 dX7_init_254 rfl (iq_n q30 (by decide)) (by decide) rfl (by decide) (by decide) (by decide) ?_
  refine wp_putP dX7_init_256 flX7_102 (Or.inr ⟨rfl, rfl, rfl⟩) rfl rfl (iq_l q30 (by decide)) ?_
  have q31 := iq_ptr (O := 100) (f := 34) (A := 135) (iq_new (A := 135) q30 (by decide)) (by decide)
  generalize sP (sN h30 135) 100 34 (some 135) = h31 at q31 ⊢
  refine wp_aload_n dX7_init_259 rfl 0 rfl ?_
  refine wp_bipush (v := 30) dX7_init_260 (by decide) ?_
  refine wp_newL 137 dX7_init_262 rfl (iq_n q31 (by decide)) (by decide) rfl (by decide) (by decide) (by decide) ?_
  refine wp_putP dX7_init_264 flX7_105 (Or.inr ⟨rfl, rfl, rfl⟩) rfl rfl (iq_l q31 (by decide)) ?_
  have q32 := iq_ptr (O := 100) (f := 36) (A := 137) (iq_new (A := 137) q31 (by decide)) (by decide)
  generalize sP (sN h31 137) 100 36 (some 137) = h32 at q32 ⊢
  refine wp_aload_n dX7_init_267 rfl 0 rfl ?_
  refine wp_bipush (v := 30) dX7_init_268 (by decide) ?_
  refine wp_newL 138 dX7_init_270 rfl (iq_n q32 (by decide)) (by decide) rfl (by decide) (by decide) (by decide) ?_
  refine wp_putP dX7_init_272 flX7_108 (Or.inr ⟨rfl, rfl, rfl⟩) rfl rfl (iq_l q32 (by decide)) ?_
  have q33 := iq_ptr (O := 100) (f := 37) (A := 138) (iq_new (A := 138) q32 (by decide)) (by decide)
  generalize sP (sN h32 138) 100 37 (some 138) = h33 at q33 ⊢
  refine wp_aload_n dX7_init_275 rfl 0 rfl ?_
  refine wp_pc (pc' := 276) rfl ?_
  refine wp_sipush (v := 900) dX7_init_276 (by decide) ?_
  refine wp_newZ 140 dX7_init_279 rfl (iq_n q33 (by decide)) (by decide) rfl (by decide) (by decide) (by decide) ?_
  refine wp_putP dX7_init_281 flX7_111 (Or.inr ⟨rfl, rfl, rfl⟩) rfl rfl (iq_l q33 (by decide)) ?_
  have q34 := iq_ptr (O := 100) (f := 39) (A := 140) (iq_new (A := 140) q33 (by decide)) (by decide)
  generalize sP (sN h33 140) 100 39 (some 140) = h34 at q34 ⊢
  refine wp_aload_n dX7_init_284 rfl 0 rfl ?_
  refine wp_bipush (v := 10) dX7_init_285 (by decide) ?_
  refine wp_newI 142 dX7_init_287 rfl (iq_n q34 (by decide)) (by decide) rfl (by decide) (by decide) (by decide) ?_
  refine wp_putP dX7_init_289 flX7_114 (Or.inr ⟨rfl, rfl, rfl⟩) rfl rfl (iq_l q34 (by decide)) ?_
  have q35 := iq_ptr (O := 100) (f := 41) (A := 142) (iq_new (A := 142) q34 (by decide)) (by decide)
  generalize sP (sN h34 142) 100 41 (some 142) = h35 at q35 ⊢
  refine wp_aload_n dX7_init_292 rfl 0 rfl ?_
  refine wp_bipush (v := 10) dX7_init_293 (by decide) ?_
  refine wp_newL 143 dX7_init_295 rfl (iq_n q35 (by decide)) (by decide) rfl (by decide) (by decide) (by decide) ?_
  refine wp_putP dX7_init_297 flX7_117 (Or.inr ⟨rfl, rfl, rfl⟩) rfl rfl (iq_l q35 (by decide)) ?_
  have q36 := iq_ptr (O := 100) (f := 42) (A := 143) (iq_new (A := 143) q35 (by decide)) (by decide)
  generalize sP (sN h35 143) 100 42 (some 143) = h36 at q36 ⊢
  refine wp_aload_n dX7_init_300 rfl 0 rfl ?_
  refine wp_bipush (v := 10) dX7_init_301 (by decide) ?_
  refine wp_newL 144 dX7_init_303 rfl (iq_n q36 (by decide)) (by decide) rfl (by decide) (by decide) (by decide) ?_
  refine wp_putP dX7_init_305 flX7_120 (Or.inr ⟨rfl, rfl, rfl⟩) rfl rfl (iq_l q36 (by decide)) ?_
  refine wp_pc (pc' := 308) rfl ?_
  have q37 := iq_ptr (O := 100) (f := 43) (A := 144) (iq_new (A := 144) q36 (by decide)) (by decide)
  generalize sP (sN h36 144) 100 43 (some 144) = h37 at q37 ⊢
  refine wp_aload_n dX7_init_308 rfl 0 rfl ?_
  refine wp_bipush (v := 20) dX7_init_309 (by decide) ?_
  refine wp_newL 145 dX7_init_311 rfl (iq_n q37 (by decide)) (by decide) rfl (by decide) (by decide) (by decide) ?_
  refine wp_putP dX7_init_313 flX7_123 (Or.inr ⟨rfl, rfl, rfl⟩) rfl rfl (iq_l q37 (by decide)) ?_
  have q38 := iq_ptr (O := 100) (f := 44) (A := 145) (iq_new (A := 145) q37 (by decide)) (by decide)
  generalize sP (sN h37 145) 100 44 (some 145) = h38 at q38 ⊢
  refine wp_aload_n dX7_init_316 rfl 0 rfl ?_
  refine wp_sipush (v := 900) dX7_init_317 (by decide) ?_
  refine wp_newI 150 dX7_init_320 rfl (iq_n q38 (by decide)) (by decide) rfl (by decide) (by decide) (by decide) ?_
  refine wp_putP dX7_init_322 flX7_126 (Or.inr ⟨rfl, rfl, rfl⟩) rfl rfl (iq_l q38 (by decide)) ?_
  have q39 := iq_ptr (O := 100) (f := 49) (A := 150) (iq_new (A := 150) q38 (by decide)) (by decide)
  generalize sP (sN h38 150) 100 49 (some 150) = h39 at q39 ⊢
  refine wp_aload_n dX7_init_325 rfl 0 rfl ?_
  refine wp_bipush (v := 30) dX7_init_326 (by decide) ?_
  refine wp_newL 151 dX7_init_328 rfl (iq_n q39 (by decide)) (by decide) rfl (by decide) (by decide) (by decide) ?_
  refine wp_putP dX7_init_330 flX7_129 (Or.inr ⟨rfl, rfl, rfl⟩) rfl rfl (iq_l q39 (by decide)) ?_
  have q40 := iq_ptr (O := 100) (f := 50) (A := 151) (iq_new (A := 151) q39 (by decide)) (by decide)
  generalize sP (sN h39 151) 100 50 (some 151) = h40 at q40 ⊢
  refine wp_aload_n dX7_init_333 rfl 0 rfl ?_
  refine wp_bipush (v := 30) dX7_init_334 (by decide) ?_
  refine wp_newI 152 dX7_init_336 rfl (iq_n q40 (by decide)) (by decide) rfl (by decide) (by decide) (by decide) ?_
  refine wp_pc (pc' := 338) rfl ?_
  refine wp_putP dX7_init_338 flX7_132 (Or.inr ⟨rfl, rfl, rfl⟩) rfl rfl (iq_l q40 (by decide)) ?_
  have q41 := iq_ptr (O := 100) (f := 51) (A := 152) (iq_new (A := 152) q40 (by decide)) (by decide)
  generalize sP (sN h40 152) 100 51 (some 152) = h41 at q41 ⊢
  refine wp_vret dX7_init_341 rfl (by decide) (by decide) ?_
  exact hp _ q41
def Lall : List Nat := [152, 151, 150, 145, 144, 143, 142, 140, 138, 137, 135, 134, 133, 132, 130, 129, 128, 127, 126, 125, 124, 122, 121, 120, 119, 118, 117, 116, 115, 114, 113, 112, 111, 110, 109, 108, 107, 106, 105, 104, 103, 100, 19, 18, 17, 16, 15, 14, 13, 12, 11, 10, 8, 7, 6, 5, 4, 3, 2, 1, 50]
def Pall : List (Nat × Nat × Nat) := [(100, 51, 152), (100, 50, 151), (100, 49, 150), (100, 44, 145), (100, 43, 144), (100, 42, 143), (100, 41, 142), (100, 39, 140), (100, 37, 138), (100, 36, 137), (100, 34, 135), (100, 33, 134), (100, 32, 133), (100, 31, 132), (100, 29, 130), (100, 28, 129), (100, 27, 128), (100, 26, 127), (100, 25, 126), (100, 24, 125), (100, 23, 124), (100, 21, 122), (100, 20, 121), (100, 19, 120), (100, 18, 119), (100, 17, 118), (100, 16, 117), (100, 15, 116), (100, 14, 115), (100, 13, 114), (100, 12, 113), (100, 11, 112), (100, 10, 111), (100, 9, 110), (100, 8, 109), (100, 7, 108), (100, 6, 107), (100, 5, 106), (100, 4, 105), (100, 3, 104), (100, 2, 103), (1, 8, 10), (10, 10, 19), (10, 9, 18), (10, 8, 17), (10, 7, 16), (10, 6, 15), (10, 4, 14), (10, 3, 13), (10, 1, 12), (10, 0, 11), (1, 7, 5), (5, 2, 8), (5, 1, 7), (5, 0, 6), (1, 5, 4), (1, 3, 3), (1, 1, 2)]
theorem iq_z {h : HP} (q : IQ h Lall Pall) {b : Nat} (hb : 1000 ≤ b) : liv h b = false := iq_n q (fun z => by
  have : ∀ x ∈ Lall, x < 1000 := by decide
  have := this b z
  omega)
theorem iq_MW {h : HP} (q : IQ h Lall Pall) : MW h := by
  refine ⟨iq_l q (by decide), fun f hf => ?_⟩
  have hf2 : f < 52 := by unfold arrF at hf; simp at hf; exact hf.1
  have key : ∀ f, f < 52 → (arrF f = false ∨ ((101 + f) ∈ Lall ∧ (100, f, 101 + f) ∈ Pall)) := by decide
  have k := (key f hf2).resolve_left (by rw [hf]; decide)
  exact ⟨iq_l q k.1, iq_p q k.2⟩
theorem Inv_0 {h : HP} (q : IQ h Lall Pall) : Inv 0 h := by
  obtain ⟨q1, q2, _, _⟩ := id q
  have noP : ∀ a k, (∀ v, (a, k, v) ∉ Pall) → vP h a k = none := fun a k hn => by
    cases e : vP h a k with
    | none => rfl
    | some v => exact absurd ((q.2.2.2 a k v).mp e) (hn v)
  refine ⟨0, 0, 0, 0, 0, fun _ => 0, fun _ => 0, fun _ _ => False, ?_⟩
  have lt0 : ∀ {a : Nat} {C : Prop}, a < 0 → C := fun z => absurd z (Nat.not_lt_zero _)
  refine ⟨?_, ?_, ?_, ?_, ?_, iq_MW q, ?_, ⟨q1 _ _, q1 _ _, q1 _ _, q1 _ _⟩, ⟨by rw [q2, q2], by rw [q2]; decide, by rw [q2]; decide⟩, ⟨Nat.le_refl 0, Nat.le_refl 0, fun _ z => z⟩,
    fun _ z => lt0 z, fun _ z => lt0 z, fun _ z => lt0 z, fun _ z => lt0 z, fun _ z => lt0 z, fun _ z => lt0 z, fun _ z => lt0 z, fun _ z => lt0 z, fun _ z => lt0 z, fun _ z => lt0 z, fun _ z => lt0 z, fun _ z => lt0 z, fun _ z => lt0 z,
    fun _ z => lt0 z, fun _ z => lt0 z, fun _ z => lt0 z, fun _ _ _ => ⟨q2 _ _, q2 _ _, q2 _ _, q1 _ _, q2 _ _, q1 _ _, q1 _ _⟩, fun _ _ z => lt0 z, fun _ _ _ _ _ => q1 _ _, fun _ z => lt0 z, fun _ z => lt0 z, fun _ z => lt0 z, ⟨fun _ _ _ => q1 _ _, fun _ _ _ _ _ => q1 _ _⟩, Or.inl (q1 _ _)⟩
  · exact ⟨iq_l q (by decide), iq_l q (by decide), iq_l q (by decide), iq_l q (by decide), iq_l q (by decide), iq_p q (by decide), iq_p q (by decide), iq_p q (by decide), iq_p q (by decide), iq_p q (by decide), iq_l q (by decide), iq_l q (by decide), iq_l q (by decide), iq_l q (by decide), iq_p q (by decide), iq_p q (by decide), iq_p q (by decide)⟩
  · exact ⟨Nat.zero_le _, q1 _ _, fun _ z => lt0 z, fun i _ _ => ⟨iq_z q (by omega), iq_z q (by omega), iq_z q (by omega), fun j _ => iq_z q (by omega)⟩⟩
  · exact ⟨by decide, q1 _ _, fun _ z => lt0 z, fun l _ _ => iq_z q (by omega)⟩
  · exact ⟨by decide, q1 _ _, fun _ z => lt0 z, fun l _ _ => iq_z q (by omega)⟩
  · refine ⟨⟨iq_l q (by decide), ⟨iq_l q (by decide), iq_l q (by decide), iq_l q (by decide), iq_l q (by decide), iq_l q (by decide), iq_l q (by decide), iq_l q (by decide), iq_l q (by decide), iq_l q (by decide)⟩, iq_p q (by decide), iq_p q (by decide), iq_p q (by decide), iq_p q (by decide), iq_p q (by decide), iq_p q (by decide), iq_p q (by decide), iq_p q (by decide), iq_p q (by decide)⟩, q1 _ _, by decide, q1 _ _, by decide, fun _ z => lt0 z, fun _ _ z => z.elim, fun _ _ z => z.elim, fun _ _ z => lt0 z⟩
  · exact ⟨iq_MW q, q1 _ _, by decide, fun _ _ z => z.elim, fun _ _ z => lt0 z⟩
