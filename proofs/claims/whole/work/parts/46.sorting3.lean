/-! contracts: the class's Sorting: distances and the ring -/
def dI (D : Nat → Int32) : Nat → Int := fun x => (D x).toInt
/-- inside a step: those below n are done -/
def MI (E : Nat → Nat → Prop) (ne goal t n : Nat) (D : Nat → Int32) (rd nx : Int32) : Prop := (∀ x, x < n → Lv E goal (t + 2) x (D x).toInt) ∧ (∀ x, n ≤ x → x < ne → Lv E goal (t + 1) x (D x).toInt) ∧ (∀ k, k < 32 → (bt rd k = true ↔ k < ne ∧ Mn E t k goal)) ∧ (∀ k, k < 32 → (bt nx k = true ↔ k < n ∧ (D k).toInt = ((t + 1 : Nat) : Int)))
theorem MI_yes {E : Nat → Nat → Prop} {ne goal t n : Nat} {D : Nat → Int32} {rd nx af : Int32} (hne : ne ≤ 30) (hn : n < ne) (ht : t + 1 ≤ 100000) (hM : MI E ne goal t n D rd nx) (haf : ∀ g, g < 32 → (bt af g = true ↔ E n g)) (hd : (D n).toInt < 0) (ha : ¬ (af &&& rd).toInt = 0) : MI E ne goal t (n + 1) (fun q => if q = n then nI (t + 1) else D q) rd (nx ||| 1 <<< (nI n &&& 31)) := by
  obtain ⟨h1, h2, h3, h4⟩ := hM
  have ha2 : ¬ (af &&& rd) = 0 := fun e => ha (by rw [e]; rfl)
  rw [bt_and] at ha2
  have ⟨k, hk⟩ := Classical.not_forall.mp ha2
  have ⟨hk1, hk2⟩ := Classical.not_imp.mp hk
  have ⟨hk3, hk4⟩ := Classical.not_not.mp hk2
  have e1 := (haf k hk1).mp hk3
  have e2 := (h3 k hk1).mp hk4
  have e3 := Lv_yes (h2 n (Nat.le_refl n) hn) hd e1 e2.2
  refine ⟨fun x hx => ?_, fun x hx hx2 => ?_, h3, fun q hq => ?_⟩
  · show Lv E goal (t + 2) x (if x = n then nI (t + 1) else D x).toInt
    split
    · rename_i e; rw [e, nIt ht]; exact e3
    · exact h1 x (by omega)
  · show Lv E goal (t + 1) x (if x = n then nI (t + 1) else D x).toInt
    rw [if_neg (by omega)]; exact h2 x (by omega) hx2
  · show _ ↔ _ ∧ (if q = n then nI (t + 1) else D q).toInt = _
    rw [bt_or, bt_1 n (by omega) q hq, Bool.or_eq_true, h4 q hq]
    by_cases e : q = n
    · subst e; rw [if_pos rfl, nIt ht]; simp
    · rw [if_neg e]; simp [e]; omega
theorem MI_no {E : Nat → Nat → Prop} {ne goal t n : Nat} {D : Nat → Int32} {rd nx af : Int32} (hb : ∀ a b, E a b → a < ne ∧ b < ne) (hne : ne ≤ 30) (hn : n < ne) (hM : MI E ne goal t n D rd nx) (haf : ∀ g, g < 32 → (bt af g = true ↔ E n g)) (hc : 0 ≤ (D n).toInt ∨ (af &&& rd).toInt = 0) : MI E ne goal t (n + 1) D rd nx := by
  obtain ⟨h1, h2, h3, h4⟩ := hM
  have e3 : Lv E goal (t + 2) n (D n).toInt := Lv_no (h2 n (Nat.le_refl n) hn) (fun hv y hy hm => by
    rcases hc with z | z
    · omega
    · have z2 : (af &&& rd) = 0 := Int32.toInt.inj z
      rw [bt_and] at z2
      have hy2 := (hb _ _ hy).2
      exact z2 y (by omega) ⟨(haf y (by omega)).mpr hy, (h3 y (by omega)).mpr ⟨hy2, hm⟩⟩)
  refine ⟨fun x hx => ?_, fun x hx hx2 => h2 x (by omega) hx2, h3, fun q hq => ?_⟩
  · rcases Nat.lt_succ_iff_lt_or_eq.mp hx with z | z
    · exact h1 x z
    · subst z; exact e3
  · rw [h4 q hq]
    constructor
    · intro z; exact ⟨by omega, z.2⟩
    · intro z
      refine ⟨?_, z.2⟩
      rcases Nat.lt_succ_iff_lt_or_eq.mp z.1 with y | y
      · exact y
      · exfalso
        rw [y] at z
        have q1 := (Lv_is e3).mp z.2
        rcases h2 n (Nat.le_refl n) hn with ⟨a1, _⟩ | ⟨d, a1, a2, _⟩ <;> omega
def MT (E : Nat → Nat → Prop) (ne goal t : Nat) (D : Nat → Int32) (rd : Int32) : Prop := (∀ x, x < ne → Lv E goal (t + 1) x (D x).toInt) ∧ (∀ k, k < 32 → (bt rd k = true ↔ k < ne ∧ Mn E t k goal))
theorem MT_in {E : Nat → Nat → Prop} {ne goal t : Nat} {D : Nat → Int32} {rd : Int32} (h : MT E ne goal t D rd) : MI E ne goal t 0 D rd 0 := ⟨fun _ z => absurd z (Nat.not_lt_zero _), fun x _ hx => h.1 x hx, h.2, fun k _ => by rw [bt_0]; simp⟩
theorem MT_out {E : Nat → Nat → Prop} {ne goal t : Nat} {D : Nat → Int32} {rd nx : Int32} (h : MI E ne goal t ne D rd nx) : MT E ne goal (t + 1) D nx := by
  obtain ⟨h1, h2, h3, h4⟩ := h
  refine ⟨h1, fun k hk => ?_⟩
  rw [h4 k hk]
  exact ⟨fun z => ⟨z.1, (Lv_is (h1 k z.1)).mp z.2⟩, fun z => ⟨z.1, (Lv_is (h1 k z.1)).mpr z.2⟩⟩
theorem MT_end {E : Nat → Nat → Prop} {ne goal t : Nat} {D : Nat → Int32} {rd : Int32} (hb : ∀ a b, E a b → a < ne ∧ b < ne) (hg : goal < ne) (hne : ne ≤ 30) (h : MT E ne goal t D rd) (hz : rd.toInt = 0) : ∀ x, x < ne → Ds E goal x (D x).toInt := by
  intro x hx
  refine Lv_end (h.1 x hx) (fun y hy => ?_)
  have hy2 : y < ne := by
    cases t with
    | zero => have e : y = goal := hy.1; omega
    | succ t => exact (Pth_src hb hy.1).1
  have z : rd = 0 := Int32.toInt.inj hz
  have q := (h.2 y (by omega)).mpr ⟨hy2, hy⟩
  rw [z, bt_0] at q
  cases q
set_option maxRecDepth 100000 in
set_option maxHeartbeats 4000000 in
theorem lr_mti {g : GG} {h : HP} {Post : Option Value → HP → Prop} (ne nk : Nat) (fr to : Nat → Nat) (E : Nat → Nat → Prop) (hS : SO h ne nk fr to E) (goal : Nat) (hg : goal < ne) (t : Nat) (ht : t < ne) (rd : Int32) (hnext : ∀ h1 nx, Ai 19 h h1 → MT E ne goal (t + 1) (vI h1 19) nx → WP g mX3_measureTo 38 [(0, .ref 10), (1, .int (nI goal)), (2, .int nx), (3, .int (nI (t + 1 + 1)))] [] h1 0 0 Post) : ∀ (k n : Nat), n + k = ne → ∀ (h' : HP) (nx : Int32), Ai 19 h h' → MI E ne goal t n (vI h' 19) rd nx → WP g mX3_measureTo 56 [(0, .ref 10), (1, .int (nI goal)), (2, .int rd), (3, .int (nI (t + 1))), (4, .int nx), (5, .int (nI n))] [] h' 0 0 Post := by
  intro k
  have hne := hS.2.2.1
  induction k with
  | zero =>
    intro n e0 h' nx hA hM
    refine wp_iload dX3_measureTo_56 5 rfl ?_
    refine wp_aload_n dX3_measureTo_58 rfl 0 rfl ?_
    refine wv_getI (nI ne) dX3_measureTo_59 flX3_40 rfl rfl (by (try simp only [liv_sI, liv_sL]); rw [hA.1]; exact hS.1.1) (by rw [hA.2.2.2 10 (by decide)]; exact hS.2.1) ?_
    refine wi_icmp_ge (tgt := 110) ((n : Nat)) ((ne : Nat)) (nIt (by omega)) (nIt (by omega)) dX3_measureTo_62 (by decide) (fun _ => ?_) (fun c_1 => absurd (by omega) c_1)
    refine wp_iload dX3_measureTo_110 4 rfl ?_
    refine wp_istore_n (lv' := [(2, .int nx), (0, .ref 10), (1, .int (nI goal)), (3, .int (nI (t + 1))), (4, .int nx), (5, .int (nI n))]) dX3_measureTo_112 rfl (by decide) rfl ?_
    refine wp_iinc (q := 3) (x := nI (t + 1)) (v := nI (t + 1 + 1)) (lv' := [(3, .int (nI (t + 1 + 1))), (2, .int nx), (0, .ref 10), (1, .int (nI goal)), (4, .int nx), (5, .int (nI n))]) dX3_measureTo_113 rfl (nI_1 _) (by decide) rfl ?_
    refine wp_goto (tgt := 38) dX3_measureTo_116 (by decide) ?_
    refine wp_sub [2, 3, 1, 0] rfl ?_
    obtain rfl : n = ne := by omega
    exact hnext h' nx hA (MT_out hM)
  | succ k ih =>
    intro n e0 h' nx hA hM
    refine wp_iload dX3_measureTo_56 5 rfl ?_
    refine wp_aload_n dX3_measureTo_58 rfl 0 rfl ?_
    refine wv_getI (nI ne) dX3_measureTo_59 flX3_40 rfl rfl (by (try simp only [liv_sI, liv_sL]); rw [hA.1]; exact hS.1.1) (by rw [hA.2.2.2 10 (by decide)]; exact hS.2.1) ?_
    refine wi_icmp_ge (tgt := 110) ((n : Nat)) ((ne : Nat)) (nIt (by omega)) (nIt (by omega)) dX3_measureTo_62 (by decide) (fun c_1 => absurd c_1 (by omega)) (fun _ => ?_)
    refine wp_aload_n dX3_measureTo_65 rfl 0 rfl ?_
    refine wp_getP (b := 19) dX3_measureTo_66 flX3_37 rfl rfl (by (try simp only [liv_sI, liv_sL]); rw [hA.1]; exact hS.1.1) (by (try simp only [vP_sI, vP_sL]); rw [hA.2.1]; exact hS.1.2.2.2.2.2.2.2.2.2.2) ?_
    refine wp_iload dX3_measureTo_69 5 rfl ?_
    refine wv_iald n (vI h' 19 n) dX3_measureTo_71 rfl (by (try simp only [liv_sI, liv_sL]); rw [hA.1]; exact hS.1.2.1.2.2.2.2.2.2.2.2) rfl (by show n < 30; omega) rfl ?_
    refine wi_if_ge (tgt := 104) (Int32.toInt (vI h' 19 n)) rfl dX3_measureTo_72 (by decide) (fun c_2 => ?_) (fun c_2 => ?_)
    · refine wp_iinc (q := 5) (x := nI n) (v := nI (n + 1)) (lv' := [(5, .int (nI (n + 1))), (0, .ref 10), (1, .int (nI goal)), (2, .int rd), (3, .int (nI (t + 1))), (4, .int nx)]) dX3_measureTo_104 rfl (nI_1 _) (by decide) rfl ?_
      refine wp_goto (tgt := 56) dX3_measureTo_107 (by decide) ?_
      refine wp_sub [1, 2, 3, 4, 5, 0] rfl ?_
      exact ih (n + 1) (by omega) h' nx hA (MI_no hS.2.2.2.2.2.2.1 hne (by omega) hM (fun g hg => hS.2.2.2.2.2.2.2.2 n g (by omega) hg) (Or.inl c_2))
    · refine wp_aload_n dX3_measureTo_75 rfl 0 rfl ?_
      refine wp_getP (b := 15) dX3_measureTo_76 flX3_25 rfl rfl (by (try simp only [liv_sI, liv_sL]); rw [hA.1]; exact hS.1.1) (by (try simp only [vP_sI, vP_sL]); rw [hA.2.1]; exact hS.1.2.2.2.2.2.2.1) ?_
      refine wp_iload dX3_measureTo_79 5 rfl ?_
      refine wv_iald n (vI h 15 n) dX3_measureTo_81 rfl (by (try simp only [liv_sI, liv_sL]); rw [hA.1]; exact hS.1.2.1.2.2.2.2.1) rfl (by show n < 30; omega) (by rw [hA.2.2.2 15 (by decide)]) ?_
      refine wp_iload_n dX3_measureTo_82 rfl 2 rfl ?_
      refine wp_iand dX3_measureTo_83 ?_
      refine wi_if_eq (tgt := 104) (Int32.toInt ((vI h 15 n) &&& rd)) rfl dX3_measureTo_84 (by decide) (fun c_3 => ?_) (fun c_3 => ?_)
      · refine wp_iinc (q := 5) (x := nI n) (v := nI (n + 1)) (lv' := [(5, .int (nI (n + 1))), (0, .ref 10), (1, .int (nI goal)), (2, .int rd), (3, .int (nI (t + 1))), (4, .int nx)]) dX3_measureTo_104 rfl (nI_1 _) (by decide) rfl ?_
        refine wp_goto (tgt := 56) dX3_measureTo_107 (by decide) ?_
        refine wp_sub [1, 2, 3, 4, 5, 0] rfl ?_
        exact ih (n + 1) (by omega) h' nx hA (MI_no hS.2.2.2.2.2.2.1 hne (by omega) hM (fun g hg => hS.2.2.2.2.2.2.2.2 n g (by omega) hg) (Or.inr c_3))
      · refine wp_aload_n dX3_measureTo_87 rfl 0 rfl ?_
        refine wp_getP (b := 19) dX3_measureTo_88 flX3_37 rfl rfl (by (try simp only [liv_sI, liv_sL]); rw [hA.1]; exact hS.1.1) (by (try simp only [vP_sI, vP_sL]); rw [hA.2.1]; exact hS.1.2.2.2.2.2.2.2.2.2.2) ?_
        refine wp_iload dX3_measureTo_91 5 rfl ?_
        refine wp_iload_n dX3_measureTo_93 rfl 3 rfl ?_
        refine wv_iast n dX3_measureTo_94 rfl (by (try simp only [liv_sI, liv_sL]); rw [hA.1]; exact hS.1.2.1.2.2.2.2.2.2.2.2) rfl (by show n < 30; omega) ?_
        refine wp_iload dX3_measureTo_95 4 rfl ?_
        refine wp_iconst (v := 1) dX3_measureTo_97 (by decide) ?_
        refine wp_iload dX3_measureTo_98 5 rfl ?_
        refine wp_ishl dX3_measureTo_100 ?_
        refine wp_ior dX3_measureTo_101 ?_
        refine wp_istore (lv' := [(4, .int (nx ||| (1 <<< ((nI n) &&& 31)))), (0, .ref 10), (1, .int (nI goal)), (2, .int rd), (3, .int (nI (t + 1))), (5, .int (nI n))]) dX3_measureTo_102 (by decide) rfl ?_
        refine wp_iinc (q := 5) (x := nI n) (v := nI (n + 1)) (lv' := [(5, .int (nI (n + 1))), (4, .int (nx ||| (1 <<< ((nI n) &&& 31)))), (0, .ref 10), (1, .int (nI goal)), (2, .int rd), (3, .int (nI (t + 1)))]) dX3_measureTo_104 rfl (nI_1 _) (by decide) rfl ?_
        refine wp_goto (tgt := 56) dX3_measureTo_107 (by decide) ?_
        refine wp_sub [2, 3, 4, 5, 1, 0] rfl ?_
        exact ih (n + 1) (by omega) _ _ (Ai_put hA) (by rw [vI_row]; exact MI_yes hne (by omega) (by omega) hM (fun g hg => hS.2.2.2.2.2.2.2.2 n g (by omega) hg) (by omega) c_3)
set_option maxRecDepth 100000 in
set_option maxHeartbeats 4000000 in
theorem lr_mt {g : GG} {h : HP} {Post : Option Value → HP → Prop} (ne nk : Nat) (fr to : Nat → Nat) (E : Nat → Nat → Prop) (hS : SO h ne nk fr to E) (goal : Nat) (hg : goal < ne) (hp : ∀ h', Ai 19 h h' → (∀ x, x < ne → Ds E goal x (vI h' 19 x).toInt) → Post none h') : ∀ (k t : Nat), t + k = ne → ∀ (h' : HP) (rd : Int32), Ai 19 h h' → MT E ne goal t (vI h' 19) rd → WP g mX3_measureTo 38 [(0, .ref 10), (1, .int (nI goal)), (2, .int rd), (3, .int (nI (t + 1)))] [] h' 0 0 Post := by
  intro k
  have hne := hS.2.2.1
  induction k with
  | zero =>
    intro t e0 h' rd hA hM
    refine wp_iload_n dX3_measureTo_38 rfl 3 rfl ?_
    refine wp_aload_n dX3_measureTo_39 rfl 0 rfl ?_
    refine wv_getI (nI ne) dX3_measureTo_40 flX3_40 rfl rfl (by (try simp only [liv_sI, liv_sL]); rw [hA.1]; exact hS.1.1) (by rw [hA.2.2.2 10 (by decide)]; exact hS.2.1) ?_
    refine wi_icmp_gt (tgt := 119) ((t + 1 : Nat)) ((ne : Nat)) (nIt (by omega)) (nIt (by omega)) dX3_measureTo_43 (by decide) (fun _ => ?_) (fun c_1 => absurd (by omega) c_1)
    refine wp_vret dX3_measureTo_119 rfl (by decide) (by decide) ?_
    exact hp h' hA (fun x hx => Lv_all hS.2.2.2.2.2.2.1 (hM.1 x hx) (by omega) hx)
  | succ k ih =>
    intro t e0 h' rd hA hM
    refine wp_iload_n dX3_measureTo_38 rfl 3 rfl ?_
    refine wp_aload_n dX3_measureTo_39 rfl 0 rfl ?_
    refine wv_getI (nI ne) dX3_measureTo_40 flX3_40 rfl rfl (by (try simp only [liv_sI, liv_sL]); rw [hA.1]; exact hS.1.1) (by rw [hA.2.2.2 10 (by decide)]; exact hS.2.1) ?_
    refine wi_icmp_gt (tgt := 119) ((t + 1 : Nat)) ((ne : Nat)) (nIt (by omega)) (nIt (by omega)) dX3_measureTo_43 (by decide) (fun c_1 => absurd c_1 (by omega)) (fun _ => ?_)
    refine wp_iload_n dX3_measureTo_46 rfl 2 rfl ?_
    refine wi_if_eq (tgt := 119) (Int32.toInt rd) rfl dX3_measureTo_47 (by decide) (fun c_2 => ?_) (fun c_2 => ?_)
    · refine wp_vret dX3_measureTo_119 rfl (by decide) (by decide) ?_
      exact hp h' hA (MT_end hS.2.2.2.2.2.2.1 hg hne hM c_2)
    · refine wp_iconst (v := 0) dX3_measureTo_50 (by decide) ?_
      refine wp_istore (lv' := [(4, .int 0), (0, .ref 10), (1, .int (nI goal)), (2, .int rd), (3, .int (nI (t + 1)))]) dX3_measureTo_51 (by decide) rfl ?_
      refine wp_iconst (v := 0) dX3_measureTo_53 (by decide) ?_
      refine wp_istore (lv' := [(5, .int 0), (4, .int 0), (0, .ref 10), (1, .int (nI goal)), (2, .int rd), (3, .int (nI (t + 1)))]) dX3_measureTo_54 (by decide) rfl ?_
      refine wp_sub [2, 3, 4, 5, 1, 0] rfl ?_
      exact lr_mti ne nk fr to E hS goal hg t (by omega) rd (fun h1 nx a b => ih (t + 1) (by omega) h1 nx a b) ne 0 (by omega) h' 0 hA (MT_in hM)
set_option maxRecDepth 100000 in
set_option maxHeartbeats 4000000 in
theorem lr_m0 {g : GG} {h : HP} {Post : Option Value → HP → Prop} (ne nk : Nat) (fr to : Nat → Nat) (E : Nat → Nat → Prop) (hS : SO h ne nk fr to E) (goal : Nat) (hg : goal < ne) (hp : ∀ h', Ai 19 h h' → (∀ x, x < ne → Ds E goal x (vI h' 19 x).toInt) → Post none h') : ∀ (k n : Nat), n + k = ne → ∀ (h' : HP), Ai 19 h h' → (∀ x, x < n → Lv E goal 1 x (vI h' 19 x).toInt) → WP g mX3_measureTo 2 [(0, .ref 10), (1, .int (nI goal)), (2, .int (nI n))] [] h' 0 0 Post := by
  intro k
  have hne := hS.2.2.1
  induction k with
  | zero =>
    intro n e0 h' hA hI
    refine wp_iload_n dX3_measureTo_2 rfl 2 rfl ?_
    refine wp_aload_n dX3_measureTo_3 rfl 0 rfl ?_
    refine wv_getI (nI ne) dX3_measureTo_4 flX3_40 rfl rfl (by (try simp only [liv_sI, liv_sL]); rw [hA.1]; exact hS.1.1) (by rw [hA.2.2.2 10 (by decide)]; exact hS.2.1) ?_
    refine wi_icmp_ge (tgt := 32) ((n : Nat)) ((ne : Nat)) (nIt (by omega)) (nIt (by omega)) dX3_measureTo_7 (by decide) (fun _ => ?_) (fun c_1 => absurd (by omega) c_1)
    refine wp_iconst (v := 1) dX3_measureTo_32 (by decide) ?_
    refine wp_iload_n dX3_measureTo_33 rfl 1 rfl ?_
    refine wp_ishl dX3_measureTo_34 ?_
    refine wp_istore_n (lv' := [(2, .int (1 <<< ((nI goal) &&& 31))), (0, .ref 10), (1, .int (nI goal))]) dX3_measureTo_35 rfl (by decide) rfl ?_
    refine wp_iconst (v := 1) dX3_measureTo_36 (by decide) ?_
    refine wp_istore_n (lv' := [(3, .int 1), (2, .int (1 <<< ((nI goal) &&& 31))), (0, .ref 10), (1, .int (nI goal))]) dX3_measureTo_37 rfl (by decide) rfl ?_
    refine wp_sub [2, 3, 1, 0] rfl ?_
    obtain rfl : n = ne := by omega
    exact lr_mt n nk fr to E hS goal hg hp n 0 (by omega) h' _ hA ⟨hI, fun k hk => by rw [bt_1 goal (by omega) k hk]; simp only [decide_eq_true_eq]; exact ⟨fun e => ⟨by omega, by rw [e]; exact Mn_0 goal⟩, fun e => e.2.1⟩⟩
  | succ k ih =>
    intro n e0 h' hA hI
    refine wp_iload_n dX3_measureTo_2 rfl 2 rfl ?_
    refine wp_aload_n dX3_measureTo_3 rfl 0 rfl ?_
    refine wv_getI (nI ne) dX3_measureTo_4 flX3_40 rfl rfl (by (try simp only [liv_sI, liv_sL]); rw [hA.1]; exact hS.1.1) (by rw [hA.2.2.2 10 (by decide)]; exact hS.2.1) ?_
    refine wi_icmp_ge (tgt := 32) ((n : Nat)) ((ne : Nat)) (nIt (by omega)) (nIt (by omega)) dX3_measureTo_7 (by decide) (fun c_1 => absurd c_1 (by omega)) (fun _ => ?_)
    refine wp_aload_n dX3_measureTo_10 rfl 0 rfl ?_
    refine wp_getP (b := 19) dX3_measureTo_11 flX3_37 rfl rfl (by (try simp only [liv_sI, liv_sL]); rw [hA.1]; exact hS.1.1) (by (try simp only [vP_sI, vP_sL]); rw [hA.2.1]; exact hS.1.2.2.2.2.2.2.2.2.2.2) ?_
    refine wp_iload_n dX3_measureTo_14 rfl 2 rfl ?_
    refine wp_iload_n dX3_measureTo_15 rfl 2 rfl ?_
    refine wp_iload_n dX3_measureTo_16 rfl 1 rfl ?_
    refine wi_icmp_ne (tgt := 24) ((n : Nat)) ((goal : Nat)) (nIt (by omega)) (nIt (by omega)) dX3_measureTo_17 (by decide) (fun c_2 => ?_) (fun c_2 => ?_)
    · refine wp_iconst (v := -1) dX3_measureTo_24 (by decide) ?_
      refine wv_iast n dX3_measureTo_25 rfl (by (try simp only [liv_sI, liv_sL]); rw [hA.1]; exact hS.1.2.1.2.2.2.2.2.2.2.2) rfl (by show n < 30; omega) ?_
      refine wp_iinc (q := 2) (x := nI n) (v := nI (n + 1)) (lv' := [(2, .int (nI (n + 1))), (0, .ref 10), (1, .int (nI goal))]) dX3_measureTo_26 rfl (nI_1 _) (by decide) rfl ?_
      refine wp_goto (tgt := 2) dX3_measureTo_29 (by decide) ?_
      refine wp_sub [1, 2, 0] rfl ?_
      exact ih (n + 1) (by omega) _ (Ai_put hA) (fun x hx => by rw [vI_row]; show Lv E goal 1 x (if x = n then _ else _ : Int32).toInt; split; (next e => rw [e]; exact Lv_0 (fun e => absurd (by omega) c_2) (fun _ => by decide)); (next e => exact hI x (by omega)))
    · refine wp_iconst (v := 0) dX3_measureTo_20 (by decide) ?_
      refine wp_goto (tgt := 25) dX3_measureTo_21 (by decide) ?_
      refine wv_iast n dX3_measureTo_25 rfl (by (try simp only [liv_sI, liv_sL]); rw [hA.1]; exact hS.1.2.1.2.2.2.2.2.2.2.2) rfl (by show n < 30; omega) ?_
      refine wp_iinc (q := 2) (x := nI n) (v := nI (n + 1)) (lv' := [(2, .int (nI (n + 1))), (0, .ref 10), (1, .int (nI goal))]) dX3_measureTo_26 rfl (nI_1 _) (by decide) rfl ?_
      refine wp_goto (tgt := 2) dX3_measureTo_29 (by decide) ?_
      refine wp_sub [1, 2, 0] rfl ?_
      exact ih (n + 1) (by omega) _ (Ai_put hA) (fun x hx => by rw [vI_row]; show Lv E goal 1 x (if x = n then _ else _ : Int32).toInt; split; (next e => rw [e]; exact Lv_0 (fun _ => by decide) (fun e => absurd (by omega) e)); (next e => exact hI x (by omega)))
set_option maxRecDepth 100000 in
set_option maxHeartbeats 4000000 in
theorem ct_measureTo {g : GG} {h : HP} {Post : Option Value → HP → Prop} (ne nk : Nat) (fr to : Nat → Nat) (E : Nat → Nat → Prop) (hS : SO h ne nk fr to E) (goal : Nat) (hg : goal < ne) (hp : ∀ h', Ai 19 h h' → (∀ x, x < ne → Ds E goal x (vI h' 19 x).toInt) → Post none h') : CT g mX3_measureTo [.ref 10, .int (nI goal)] h Post := by
  show WP g mX3_measureTo 0 [(0, .ref 10), (1, .int (nI goal))] [] h 0 0 Post
  refine wp_iconst (v := 0) dX3_measureTo_0 (by decide) ?_
  refine wp_istore_n (lv' := [(2, .int 0), (0, .ref 10), (1, .int (nI goal))]) dX3_measureTo_1 rfl (by decide) rfl ?_
  refine wp_sub [1, 2, 0] rfl ?_
  exact lr_m0 ne nk fr to E hS goal hg hp ne 0 (by omega) h (Ai_rf 19 h) (fun _ z => absurd z (Nat.not_lt_zero _))
def NA (E : Nat → Nat → Prop) (D : Nat → Int32) (e n : Nat) (v : Int32) : Prop := (v = -1 ∧ ∀ q, q < n → E e q → (D q).toInt < 0) ∨ ∃ f, f < n ∧ v = nI f ∧ E e f ∧ 0 ≤ (D f).toInt ∧ ∀ q, q < n → E e q → 0 ≤ (D q).toInt → (D f).toInt ≤ (D q).toInt ∧ ((D q).toInt = (D f).toInt → f ≤ q)
theorem NA_skip {E : Nat → Nat → Prop} {D : Nat → Int32} {e n : Nat} {v : Int32} (h : NA E D e n v) (hc : E e n → (D n).toInt < 0) : NA E D e (n + 1) v := by
  rcases h with ⟨h1, h2⟩ | ⟨f, h1, h2, h3, h4, h5⟩
  · refine Or.inl ⟨h1, fun q hq hE => ?_⟩
    rcases Nat.lt_succ_iff_lt_or_eq.mp hq with z | z
    · exact h2 q z hE
    · subst z; exact hc hE
  · refine Or.inr ⟨f, by omega, h2, h3, h4, fun q hq hE hd => ?_⟩
    rcases Nat.lt_succ_iff_lt_or_eq.mp hq with z | z
    · exact h5 q z hE hd
    · subst z; have := hc hE; omega
theorem NA_set1 {E : Nat → Nat → Prop} {D : Nat → Int32} {e n : Nat} (h : ∀ q, q < n → E e q → (D q).toInt < 0) (hE : E e n) (hd : 0 ≤ (D n).toInt) : NA E D e (n + 1) (nI n) := by
  refine Or.inr ⟨n, by omega, rfl, hE, hd, fun q hq hEq hdq => ?_⟩
  rcases Nat.lt_succ_iff_lt_or_eq.mp hq with z | z
  · have := h q z hEq; omega
  · subst z; exact ⟨Int.le_refl _, fun _ => Nat.le_refl _⟩
def NF_ (E : Nat → Nat → Prop) (D : Nat → Int32) (e n f : Nat) : Prop := f < n ∧ E e f ∧ 0 ≤ (D f).toInt ∧ ∀ q, q < n → E e q → 0 ≤ (D q).toInt → (D f).toInt ≤ (D q).toInt ∧ ((D q).toInt = (D f).toInt → f ≤ q)
theorem NA_f {E : Nat → Nat → Prop} {D : Nat → Int32} {e n f : Nat} (h : NF_ E D e n f) : NA E D e n (nI f) := Or.inr ⟨f, h.1, rfl, h.2⟩
theorem NA_keep {E : Nat → Nat → Prop} {D : Nat → Int32} {e n f : Nat} (h : NF_ E D e n f) (hc : (D f).toInt ≤ (D n).toInt) : NA E D e (n + 1) (nI f) := by
  obtain ⟨h1, h3, h4, h5⟩ := h
  refine Or.inr ⟨f, by omega, rfl, h3, h4, fun q hq hE hd => ?_⟩
  rcases Nat.lt_succ_iff_lt_or_eq.mp hq with z | z
  · exact h5 q z hE hd
  · subst z; exact ⟨hc, fun _ => by omega⟩
theorem NA_set2 {E : Nat → Nat → Prop} {D : Nat → Int32} {e n f : Nat} (h : NF_ E D e n f) (hE : E e n) (hd : 0 ≤ (D n).toInt) (hc : (D n).toInt < (D f).toInt) : NA E D e (n + 1) (nI n) := by
  obtain ⟨h1, h3, h4, h5⟩ := h
  refine Or.inr ⟨n, by omega, rfl, hE, hd, fun q hq hEq hdq => ?_⟩
  rcases Nat.lt_succ_iff_lt_or_eq.mp hq with z | z
  · have := h5 q z hEq hdq; exact ⟨by omega, fun y => by omega⟩
  · subst z; exact ⟨Int.le_refl _, fun _ => Nat.le_refl _⟩
theorem bt_shY {x : Int32} {g : Nat} {P : Prop} (hg : g < 30) (hx : bt x g = true ↔ P) (c : ¬ (x >>> (nI g &&& 31) &&& 1).toInt = 0) : P := by
  have y : ¬ (x >>> (nI g &&& 31) &&& 1) = 0 := fun z => c (by rw [z]; rfl)
  rw [bt_shr x g hg] at y
  exact hx.mp (by cases q : bt x g; exact absurd q y; rfl)
theorem bt_shN {x : Int32} {g : Nat} {P Q : Prop} (hg : g < 30) (hx : bt x g = true ↔ P) (c : (x >>> (nI g &&& 31) &&& 1).toInt = 0) (p : P) : Q := by
  have y : (x >>> (nI g &&& 31) &&& 1) = 0 := Int32.toInt.inj c
  rw [bt_shr x g hg, hx.mpr p] at y
  cases y
set_option maxRecDepth 100000 in
set_option maxHeartbeats 4000000 in
theorem lr_na {g : GG} {h : HP} {Post : Option Value → HP → Prop} (ne nk : Nat) (fr to : Nat → Nat) (E : Nat → Nat → Prop) (hS : SO h ne nk fr to E) (e : Nat) (he : e < ne) (hp : ∀ v, NA E (vI h 19) e ne v → Post (some (.int v)) h) : ∀ (k n : Nat), n + k = ne → ∀ (v : Int32), NA E (vI h 19) e n v → WP g mX3_nearestAfter 4 [(0, .ref 10), (1, .int (nI e)), (2, .int v), (3, .int (nI n))] [] h 0 0 Post := by
  intro k
  have hne := hS.2.2.1
  induction k with
  | zero =>
    intro n e0 v hN
    refine wp_iload_n dX3_nearestAfter_4 rfl 3 rfl ?_
    refine wp_aload_n dX3_nearestAfter_5 rfl 0 rfl ?_
    refine wv_getI (nI ne) dX3_nearestAfter_6 flX3_40 rfl rfl (by (try simp only [liv_sI, liv_sL]); rw [(Ai_rf 19 h).1]; exact hS.1.1) hS.2.1 ?_
    refine wi_icmp_ge (tgt := 73) ((n : Nat)) ((ne : Nat)) (nIt (by omega)) (nIt (by omega)) dX3_nearestAfter_9 (by decide) (fun _ => ?_) (fun c_1 => absurd (by omega) c_1)
    refine wp_iload_n dX3_nearestAfter_73 rfl 2 rfl ?_
    refine wp_iret dX3_nearestAfter_74 rfl (by decide) (by decide) ?_
    obtain rfl : n = ne := by omega
    exact hp v hN
  | succ k ih =>
    intro n e0 v hN
    rcases hN with ⟨rfl, hq⟩ | ⟨f, hf1, rfl, hf2⟩
    · skip
      refine wp_iload_n dX3_nearestAfter_4 rfl 3 rfl ?_
      refine wp_aload_n dX3_nearestAfter_5 rfl 0 rfl ?_
      refine wv_getI (nI ne) dX3_nearestAfter_6 flX3_40 rfl rfl (by (try simp only [liv_sI, liv_sL]); rw [(Ai_rf 19 h).1]; exact hS.1.1) hS.2.1 ?_
      refine wi_icmp_ge (tgt := 73) ((n : Nat)) ((ne : Nat)) (nIt (by omega)) (nIt (by omega)) dX3_nearestAfter_9 (by decide) (fun c_1 => absurd c_1 (by omega)) (fun _ => ?_)
      refine wp_aload_n dX3_nearestAfter_12 rfl 0 rfl ?_
      refine wp_getP (b := 15) dX3_nearestAfter_13 flX3_25 rfl rfl (by (try simp only [liv_sI, liv_sL]); rw [(Ai_rf 19 h).1]; exact hS.1.1) (by (try simp only [vP_sI, vP_sL]); rw [(Ai_rf 19 h).2.1]; exact hS.1.2.2.2.2.2.2.1) ?_
      refine wp_iload_n dX3_nearestAfter_16 rfl 1 rfl ?_
      refine wv_iald e (vI h 15 e) dX3_nearestAfter_17 rfl (by (try simp only [liv_sI, liv_sL]); rw [(Ai_rf 19 h).1]; exact hS.1.2.1.2.2.2.2.1) rfl (by show e < 30; omega) rfl ?_
      refine wp_iload_n dX3_nearestAfter_18 rfl 3 rfl ?_
      refine wp_ishr dX3_nearestAfter_19 ?_
      refine wp_iconst (v := 1) dX3_nearestAfter_20 (by decide) ?_
      refine wp_iand dX3_nearestAfter_21 ?_
      refine wi_if_eq (tgt := 38) (Int32.toInt (((vI h 15 e) >>> ((nI n) &&& 31)) &&& 1)) rfl dX3_nearestAfter_22 (by decide) (fun c_2 => ?_) (fun c_2 => ?_)
      · refine wp_iconst (v := 0) dX3_nearestAfter_38 (by decide) ?_
        refine wp_istore (lv' := [(4, .int 0), (0, .ref 10), (1, .int (nI e)), (2, .int ((-1))), (3, .int (nI n))]) dX3_nearestAfter_39 (by decide) rfl ?_
        refine wp_iload dX3_nearestAfter_41 0 rfl ?_
        refine wp_if_eq (tgt := 67) dX3_nearestAfter_43 (by decide) (fun _ => ?_) (fun c_3 => absurd (by decide) c_3)
        refine wp_iinc (q := 4) (x := nI n) (v := nI (n + 1)) (lv' := [(3, .int (nI (n + 1))), (4, .int 0), (0, .ref 10), (1, .int (nI e)), (2, .int ((-1)))]) dX3_nearestAfter_67 rfl (nI_1 _) (by decide) rfl ?_
        refine wp_goto (tgt := 4) dX3_nearestAfter_70 (by decide) ?_
        refine wp_sub [2, 3, 4, 0] rfl ?_
        exact ih (n + 1) (by omega) _ (NA_skip (Or.inl ⟨rfl, hq⟩) (fun z => bt_shN (x := vI h 15 e) (g := n) (by omega) (hS.2.2.2.2.2.2.2.2 e n he (by omega)) c_2 z))
      · refine wp_aload_n dX3_nearestAfter_25 rfl 0 rfl ?_
        refine wp_getP (b := 19) dX3_nearestAfter_26 flX3_37 rfl rfl (by (try simp only [liv_sI, liv_sL]); rw [(Ai_rf 19 h).1]; exact hS.1.1) (by (try simp only [vP_sI, vP_sL]); rw [(Ai_rf 19 h).2.1]; exact hS.1.2.2.2.2.2.2.2.2.2.2) ?_
        refine wp_iload_n dX3_nearestAfter_29 rfl 3 rfl ?_
        refine wv_iald n (vI h 19 n) dX3_nearestAfter_30 rfl (by (try simp only [liv_sI, liv_sL]); rw [(Ai_rf 19 h).1]; exact hS.1.2.1.2.2.2.2.2.2.2.2) rfl (by show n < 30; omega) rfl ?_
        refine wi_if_lt (tgt := 38) (Int32.toInt (vI h 19 n)) rfl dX3_nearestAfter_31 (by decide) (fun c_4 => ?_) (fun c_4 => ?_)
        · refine wp_iconst (v := 0) dX3_nearestAfter_38 (by decide) ?_
          refine wp_istore (lv' := [(4, .int 0), (0, .ref 10), (1, .int (nI e)), (2, .int ((-1))), (3, .int (nI n))]) dX3_nearestAfter_39 (by decide) rfl ?_
          refine wp_iload dX3_nearestAfter_41 0 rfl ?_
          refine wp_if_eq (tgt := 67) dX3_nearestAfter_43 (by decide) (fun _ => ?_) (fun c_5 => absurd (by decide) c_5)
          refine wp_iinc (q := 4) (x := nI n) (v := nI (n + 1)) (lv' := [(3, .int (nI (n + 1))), (4, .int 0), (0, .ref 10), (1, .int (nI e)), (2, .int ((-1)))]) dX3_nearestAfter_67 rfl (nI_1 _) (by decide) rfl ?_
          refine wp_goto (tgt := 4) dX3_nearestAfter_70 (by decide) ?_
          refine wp_sub [2, 3, 4, 0] rfl ?_
          exact ih (n + 1) (by omega) _ (NA_skip (Or.inl ⟨rfl, hq⟩) (fun _ => c_4))
        · refine wp_iconst (v := 1) dX3_nearestAfter_34 (by decide) ?_
          refine wp_goto (tgt := 39) dX3_nearestAfter_35 (by decide) ?_
          refine wp_istore (lv' := [(4, .int 1), (0, .ref 10), (1, .int (nI e)), (2, .int ((-1))), (3, .int (nI n))]) dX3_nearestAfter_39 (by decide) rfl ?_
          refine wp_iload dX3_nearestAfter_41 0 rfl ?_
          refine wp_if_eq (tgt := 67) dX3_nearestAfter_43 (by decide) (fun c_6 => absurd c_6 (by decide)) (fun _ => ?_)
          refine wp_iload_n dX3_nearestAfter_46 rfl 3 rfl ?_
          refine wp_if_lt (tgt := 65) dX3_nearestAfter_47 (by decide) (fun _ => ?_) (fun c_7 => absurd (by decide) c_7)
          refine wp_iload_n dX3_nearestAfter_65 rfl 4 rfl ?_
          refine wp_istore_n (lv' := [(2, .int (nI n)), (4, .int 1), (0, .ref 10), (1, .int (nI e)), (3, .int (nI n))]) dX3_nearestAfter_66 rfl (by decide) rfl ?_
          refine wp_iinc (q := 4) (x := nI n) (v := nI (n + 1)) (lv' := [(3, .int (nI (n + 1))), (2, .int (nI n)), (4, .int 1), (0, .ref 10), (1, .int (nI e))]) dX3_nearestAfter_67 rfl (nI_1 _) (by decide) rfl ?_
          refine wp_goto (tgt := 4) dX3_nearestAfter_70 (by decide) ?_
          refine wp_sub [3, 4, 1, 0] rfl ?_
          exact ih (n + 1) (by omega) _ (NA_set1 hq (bt_shY (x := vI h 15 e) (g := n) (by omega) (hS.2.2.2.2.2.2.2.2 e n he (by omega)) c_2) (by omega))
    · have hF : NF_ E (vI h 19) e n f := ⟨hf1, hf2⟩
      refine wp_iload_n dX3_nearestAfter_4 rfl 3 rfl ?_
      refine wp_aload_n dX3_nearestAfter_5 rfl 0 rfl ?_
      refine wv_getI (nI ne) dX3_nearestAfter_6 flX3_40 rfl rfl (by (try simp only [liv_sI, liv_sL]); rw [(Ai_rf 19 h).1]; exact hS.1.1) hS.2.1 ?_
      refine wi_icmp_ge (tgt := 73) ((n : Nat)) ((ne : Nat)) (nIt (by omega)) (nIt (by omega)) dX3_nearestAfter_9 (by decide) (fun c_1 => absurd c_1 (by omega)) (fun _ => ?_)
      refine wp_aload_n dX3_nearestAfter_12 rfl 0 rfl ?_
      refine wp_getP (b := 15) dX3_nearestAfter_13 flX3_25 rfl rfl (by (try simp only [liv_sI, liv_sL]); rw [(Ai_rf 19 h).1]; exact hS.1.1) (by (try simp only [vP_sI, vP_sL]); rw [(Ai_rf 19 h).2.1]; exact hS.1.2.2.2.2.2.2.1) ?_
      refine wp_iload_n dX3_nearestAfter_16 rfl 1 rfl ?_
      refine wv_iald e (vI h 15 e) dX3_nearestAfter_17 rfl (by (try simp only [liv_sI, liv_sL]); rw [(Ai_rf 19 h).1]; exact hS.1.2.1.2.2.2.2.1) rfl (by show e < 30; omega) rfl ?_
      refine wp_iload_n dX3_nearestAfter_18 rfl 3 rfl ?_
      refine wp_ishr dX3_nearestAfter_19 ?_
      refine wp_iconst (v := 1) dX3_nearestAfter_20 (by decide) ?_
      refine wp_iand dX3_nearestAfter_21 ?_
      refine wi_if_eq (tgt := 38) (Int32.toInt (((vI h 15 e) >>> ((nI n) &&& 31)) &&& 1)) rfl dX3_nearestAfter_22 (by decide) (fun c_2 => ?_) (fun c_2 => ?_)
      · refine wp_iconst (v := 0) dX3_nearestAfter_38 (by decide) ?_
        refine wp_istore (lv' := [(4, .int 0), (0, .ref 10), (1, .int (nI e)), (2, .int (nI f)), (3, .int (nI n))]) dX3_nearestAfter_39 (by decide) rfl ?_
        refine wp_iload dX3_nearestAfter_41 0 rfl ?_
        refine wp_if_eq (tgt := 67) dX3_nearestAfter_43 (by decide) (fun _ => ?_) (fun c_3 => absurd (by decide) c_3)
        refine wp_iinc (q := 4) (x := nI n) (v := nI (n + 1)) (lv' := [(3, .int (nI (n + 1))), (4, .int 0), (0, .ref 10), (1, .int (nI e)), (2, .int (nI f))]) dX3_nearestAfter_67 rfl (nI_1 _) (by decide) rfl ?_
        refine wp_goto (tgt := 4) dX3_nearestAfter_70 (by decide) ?_
        refine wp_sub [2, 3, 4, 0] rfl ?_
        exact ih (n + 1) (by omega) _ (NA_skip (NA_f hF) (fun z => bt_shN (x := vI h 15 e) (g := n) (by omega) (hS.2.2.2.2.2.2.2.2 e n he (by omega)) c_2 z))
      · refine wp_aload_n dX3_nearestAfter_25 rfl 0 rfl ?_
        refine wp_getP (b := 19) dX3_nearestAfter_26 flX3_37 rfl rfl (by (try simp only [liv_sI, liv_sL]); rw [(Ai_rf 19 h).1]; exact hS.1.1) (by (try simp only [vP_sI, vP_sL]); rw [(Ai_rf 19 h).2.1]; exact hS.1.2.2.2.2.2.2.2.2.2.2) ?_
        refine wp_iload_n dX3_nearestAfter_29 rfl 3 rfl ?_
        refine wv_iald n (vI h 19 n) dX3_nearestAfter_30 rfl (by (try simp only [liv_sI, liv_sL]); rw [(Ai_rf 19 h).1]; exact hS.1.2.1.2.2.2.2.2.2.2.2) rfl (by show n < 30; omega) rfl ?_
        refine wi_if_lt (tgt := 38) (Int32.toInt (vI h 19 n)) rfl dX3_nearestAfter_31 (by decide) (fun c_4 => ?_) (fun c_4 => ?_)
        · refine wp_iconst (v := 0) dX3_nearestAfter_38 (by decide) ?_
          refine wp_istore (lv' := [(4, .int 0), (0, .ref 10), (1, .int (nI e)), (2, .int (nI f)), (3, .int (nI n))]) dX3_nearestAfter_39 (by decide) rfl ?_
          refine wp_iload dX3_nearestAfter_41 0 rfl ?_
          refine wp_if_eq (tgt := 67) dX3_nearestAfter_43 (by decide) (fun _ => ?_) (fun c_5 => absurd (by decide) c_5)
          refine wp_iinc (q := 4) (x := nI n) (v := nI (n + 1)) (lv' := [(3, .int (nI (n + 1))), (4, .int 0), (0, .ref 10), (1, .int (nI e)), (2, .int (nI f))]) dX3_nearestAfter_67 rfl (nI_1 _) (by decide) rfl ?_
          refine wp_goto (tgt := 4) dX3_nearestAfter_70 (by decide) ?_
          refine wp_sub [2, 3, 4, 0] rfl ?_
          exact ih (n + 1) (by omega) _ (NA_skip (NA_f hF) (fun _ => c_4))
        · refine wp_iconst (v := 1) dX3_nearestAfter_34 (by decide) ?_
          refine wp_goto (tgt := 39) dX3_nearestAfter_35 (by decide) ?_
          refine wp_istore (lv' := [(4, .int 1), (0, .ref 10), (1, .int (nI e)), (2, .int (nI f)), (3, .int (nI n))]) dX3_nearestAfter_39 (by decide) rfl ?_
          refine wp_iload dX3_nearestAfter_41 0 rfl ?_
          refine wp_if_eq (tgt := 67) dX3_nearestAfter_43 (by decide) (fun c_6 => absurd c_6 (by decide)) (fun _ => ?_)
          refine wp_iload_n dX3_nearestAfter_46 rfl 3 rfl ?_
          refine wi_if_lt (tgt := 65) ((f : Nat)) (nIt (by omega)) dX3_nearestAfter_47 (by decide) (fun c_7 => absurd c_7 (by omega)) (fun _ => ?_)
          refine wp_aload_n dX3_nearestAfter_50 rfl 1 rfl ?_
          refine wp_getP (b := 19) dX3_nearestAfter_51 flX3_37 rfl rfl (by (try simp only [liv_sI, liv_sL]); rw [(Ai_rf 19 h).1]; exact hS.1.1) (by (try simp only [vP_sI, vP_sL]); rw [(Ai_rf 19 h).2.1]; exact hS.1.2.2.2.2.2.2.2.2.2.2) ?_
          refine wp_iload_n dX3_nearestAfter_54 rfl 4 rfl ?_
          refine wv_iald n (vI h 19 n) dX3_nearestAfter_55 rfl (by (try simp only [liv_sI, liv_sL]); rw [(Ai_rf 19 h).1]; exact hS.1.2.1.2.2.2.2.2.2.2.2) rfl (by show n < 30; omega) rfl ?_
          refine wp_aload_n dX3_nearestAfter_56 rfl 1 rfl ?_
          refine wp_getP (b := 19) dX3_nearestAfter_57 flX3_37 rfl rfl (by (try simp only [liv_sI, liv_sL]); rw [(Ai_rf 19 h).1]; exact hS.1.1) (by (try simp only [vP_sI, vP_sL]); rw [(Ai_rf 19 h).2.1]; exact hS.1.2.2.2.2.2.2.2.2.2.2) ?_
          refine wp_iload_n dX3_nearestAfter_60 rfl 3 rfl ?_
          refine wp_pc (pc' := 61) rfl ?_
          refine wv_iald f (vI h 19 f) dX3_nearestAfter_61 rfl (by (try simp only [liv_sI, liv_sL]); rw [(Ai_rf 19 h).1]; exact hS.1.2.1.2.2.2.2.2.2.2.2) rfl (by have := hF.1; show f < 30; omega) rfl ?_
          refine wi_icmp_ge (tgt := 67) (Int32.toInt (vI h 19 n)) (Int32.toInt (vI h 19 f)) rfl rfl dX3_nearestAfter_62 (by decide) (fun c_8 => ?_) (fun c_8 => ?_)
          · refine wp_iinc (q := 4) (x := nI n) (v := nI (n + 1)) (lv' := [(3, .int (nI (n + 1))), (4, .int 1), (0, .ref 10), (1, .int (nI e)), (2, .int (nI f))]) dX3_nearestAfter_67 rfl (nI_1 _) (by decide) rfl ?_
            refine wp_goto (tgt := 4) dX3_nearestAfter_70 (by decide) ?_
            refine wp_sub [2, 3, 4, 0] rfl ?_
            exact ih (n + 1) (by omega) _ (NA_keep hF c_8)
          · refine wp_iload_n dX3_nearestAfter_65 rfl 4 rfl ?_
            refine wp_istore_n (lv' := [(2, .int (nI n)), (4, .int 1), (0, .ref 10), (1, .int (nI e)), (3, .int (nI n))]) dX3_nearestAfter_66 rfl (by decide) rfl ?_
            refine wp_iinc (q := 4) (x := nI n) (v := nI (n + 1)) (lv' := [(3, .int (nI (n + 1))), (2, .int (nI n)), (4, .int 1), (0, .ref 10), (1, .int (nI e))]) dX3_nearestAfter_67 rfl (nI_1 _) (by decide) rfl ?_
            refine wp_goto (tgt := 4) dX3_nearestAfter_70 (by decide) ?_
            refine wp_sub [3, 4, 1, 0] rfl ?_
            exact ih (n + 1) (by omega) _ (NA_set2 hF (bt_shY (x := vI h 15 e) (g := n) (by omega) (hS.2.2.2.2.2.2.2.2 e n he (by omega)) c_2) (by omega) (by omega))
set_option maxRecDepth 100000 in
set_option maxHeartbeats 4000000 in
theorem ct_nearestAfter {g : GG} {h : HP} {Post : Option Value → HP → Prop} (ne nk : Nat) (fr to : Nat → Nat) (E : Nat → Nat → Prop) (hS : SO h ne nk fr to E) (e : Nat) (he : e < ne) (hp : ∀ v, NA E (vI h 19) e ne v → Post (some (.int v)) h) : CT g mX3_nearestAfter [.ref 10, .int (nI e)] h Post := by
  show WP g mX3_nearestAfter 0 [(0, .ref 10), (1, .int (nI e))] [] h 0 0 Post
  refine wp_iconst (v := -1) dX3_nearestAfter_0 (by decide) ?_
  refine wp_istore_n (lv' := [(2, .int ((-1))), (0, .ref 10), (1, .int (nI e))]) dX3_nearestAfter_1 rfl (by decide) rfl ?_
  refine wp_iconst (v := 0) dX3_nearestAfter_2 (by decide) ?_
  refine wp_istore_n (lv' := [(3, .int 0), (2, .int ((-1))), (0, .ref 10), (1, .int (nI e))]) dX3_nearestAfter_3 rfl (by decide) rfl ?_
  refine wp_sub [2, 3, 1, 0] rfl ?_
  exact lr_na ne nk fr to E hS e he hp ne 0 (by omega) (-1) (Or.inl ⟨rfl, fun _ z => absurd z (Nat.not_lt_zero _)⟩)
