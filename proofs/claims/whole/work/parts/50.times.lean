/-! contracts: the model's mend, findTimes, order, time -/
def nd (h : HP) (a b : Nat) : Int := (cei (vL h 137 a + Int32.toInt64 (vI h 150 (30 * a + b)) - vL h 138 b) 2).toInt
def WM (ne : Nat) (h : HP) (a n : Nat) (w : Int64) : Prop := 0 ≤ w.toInt ∧ (∀ a' b', b' < ne → (a' < a ∨ a' = a ∧ b' < n) → 0 ≤ xr h a' b' → nd h a' b' ≤ w.toInt) ∧ (w.toInt = 0 ∨ ∃ a' b', a' < ne ∧ b' < ne ∧ 0 ≤ xr h a' b' ∧ w.toInt = nd h a' b')
theorem WM_keep {ne : Nat} {h : HP} {a n : Nat} {w : Int64} (hw : WM ne h a n w) (hc : 0 ≤ xr h a n → nd h a n ≤ w.toInt) : WM ne h a (n + 1) w := by
  refine ⟨hw.1, fun a' b' hb hl h0 => ?_, hw.2.2⟩
  rcases hl with z | ⟨z1, z2⟩
  · exact hw.2.1 a' b' hb (Or.inl z) h0
  · rcases Nat.lt_succ_iff_lt_or_eq.mp z2 with y | y
    · exact hw.2.1 a' b' hb (Or.inr ⟨z1, y⟩) h0
    · subst y; subst z1; exact hc h0
theorem WM_set {ne : Nat} {h : HP} {a n : Nat} {w v : Int64} (ha : a < ne) (hn : n < ne) (hw : WM ne h a n w) (h0 : 0 ≤ xr h a n) (hv : v.toInt = nd h a n) (hc : w.toInt < nd h a n) : WM ne h a (n + 1) v := by
  refine ⟨by have := hw.1; omega, fun a' b' hb hl h0' => ?_, Or.inr ⟨a, n, ha, hn, h0, hv⟩⟩
  rw [hv]
  rcases hl with z | ⟨z1, z2⟩
  · have := hw.2.1 a' b' hb (Or.inl z) h0'; omega
  · rcases Nat.lt_succ_iff_lt_or_eq.mp z2 with y | y
    · have := hw.2.1 a' b' hb (Or.inr ⟨z1, y⟩) h0'; omega
    · subst y; subst z1; exact Int.le_refl _
theorem WM_row {ne : Nat} {h : HP} {a : Nat} {w : Int64} (hw : WM ne h a ne w) : WM ne h (a + 1) 0 w := ⟨hw.1, fun a' b' hb hl h0 => hw.2.1 a' b' hb (by omega) h0, hw.2.2⟩
theorem WM_0 {ne : Nat} {h : HP} : WM ne h 0 0 0 := ⟨by decide, fun _ _ _ hl => by omega, Or.inl (by decide)⟩
set_option maxRecDepth 100000 in
set_option maxHeartbeats 4000000 in
theorem me_b {g : GG} {h : HP} {Post : Option Value → HP → Prop} (ne : Nat) (E : Nat → Nat → Prop) (hM : ML h ne E) (a : Nat) (ha : a < ne) (hnext : ∀ w, WM ne h (a + 1) 0 w → WP g mX7_mend 15 [(0, .ref 100), (1, .long w), (3, .int (nI (a + 1)))] [] h 0 0 Post) : ∀ (k n : Nat), n + k = ne → ∀ (w : Int64), WM ne h a n w → WP g mX7_mend 26 [(0, .ref 100), (1, .long w), (3, .int (nI a)), (4, .int (nI n))] [] h 0 0 Post := by
  intro k
  have hne := hM.2.2.1
  induction k with
  | zero =>
    intro n e0 w hw
    refine wp_iload dX7_mend_26 3 rfl ?_
    refine wp_aload_n dX7_mend_28 rfl 0 rfl ?_
    refine wv_getI (nI ne) dX7_mend_29 flX7_246 rfl rfl hM.1.1 hM.2.1 ?_
    refine wi_icmp_ge (tgt := 104) ((n : Nat)) ((ne : Nat)) (nIt (by omega)) (nIt (by omega)) dX7_mend_32 (by decide) (fun _ => ?_) (fun c_1 => absurd (by omega) c_1)
    refine wp_iinc (q := 2) (x := nI a) (v := nI (a + 1)) (lv' := [(3, .int (nI (a + 1))), (0, .ref 100), (1, .long w), (4, .int (nI n))]) dX7_mend_104 rfl (nI_1 _) (by decide) rfl ?_
    refine wp_goto (tgt := 15) dX7_mend_107 (by decide) ?_
    refine wp_sub [1, 2, 0] rfl ?_
    obtain rfl : n = ne := by omega
    exact hnext w (WM_row hw)
  | succ k ih =>
    intro n e0 w hw
    refine wp_iload dX7_mend_26 3 rfl ?_
    refine wp_aload_n dX7_mend_28 rfl 0 rfl ?_
    refine wv_getI (nI ne) dX7_mend_29 flX7_246 rfl rfl hM.1.1 hM.2.1 ?_
    refine wi_icmp_ge (tgt := 104) ((n : Nat)) ((ne : Nat)) (nIt (by omega)) (nIt (by omega)) dX7_mend_32 (by decide) (fun c_1 => absurd c_1 (by omega)) (fun _ => ?_)
    refine wp_aload_n dX7_mend_35 rfl 0 rfl ?_
    refine wp_getP (b := 150) dX7_mend_36 flX7_126 rfl rfl hM.1.1 (hM.1.2 49 rfl).2 ?_
    refine wp_bipush (v := 30) dX7_mend_39 (by decide) ?_
    refine wp_iload_n dX7_mend_41 rfl 2 rfl ?_
    refine wv_imul (nI (30 * a)) (wN_mul rfl rfl) dX7_mend_42 ?_
    refine wp_iload dX7_mend_43 3 rfl ?_
    refine wv_iadd (nI ((30 * a) + n)) (wN_add rfl rfl) dX7_mend_45 ?_
    refine wv_iald (30 * a + n) (vI h 150 (30 * a + n)) dX7_mend_46 rfl (hM.1.2 49 rfl).1 rfl (by show 30 * a + n < 900; omega) rfl ?_
    refine wp_istore (lv' := [(5, .int (vI h 150 (30 * a + n))), (0, .ref 100), (1, .long w), (3, .int (nI a)), (4, .int (nI n))]) dX7_mend_47 (by decide) rfl ?_
    refine wp_iload dX7_mend_49 0 rfl ?_
    refine wi_if_ge (tgt := 58) (Int32.toInt (vI h 150 (30 * a + n))) rfl dX7_mend_51 (by decide) (fun c_2 => ?_) (fun c_2 => ?_)
    · refine wp_aload_n dX7_mend_58 rfl 1 rfl ?_
      refine wp_getP (b := 137) dX7_mend_59 flX7_105 rfl rfl hM.1.1 (hM.1.2 36 rfl).2 ?_
      refine wp_iload_n dX7_mend_62 rfl 3 rfl ?_
      refine wv_lald a (vL h 137 a) dX7_mend_63 rfl (hM.1.2 36 rfl).1 rfl (by show a < 30; omega) rfl ?_
      refine wp_iload dX7_mend_64 0 rfl ?_
      refine wp_i2l dX7_mend_66 ?_
      refine wp_ladd dX7_mend_67 ?_
      refine wp_aload_n dX7_mend_68 rfl 1 rfl ?_
      refine wp_getP (b := 138) dX7_mend_69 flX7_108 rfl rfl hM.1.1 (hM.1.2 37 rfl).2 ?_
      refine wp_iload dX7_mend_72 4 rfl ?_
      refine wv_lald n (vL h 138 n) dX7_mend_74 rfl (hM.1.2 37 rfl).1 rfl (by show n < 30; omega) rfl ?_
      refine wp_lsub dX7_mend_75 ?_
      refine wp_ldc2 dX7_mend_76 cnX7_203 ?_
      refine wp_callS mX7_ceil [.long (((vL h 137 a) + (Int32.toInt64 (vI h 150 (30 * a + n)))) - (vL h 138 n)), .long 2] [] dX7_mend_79 iX7_ceil (fun _ => trivial) mlX7_177 stX7_ceil ⟨by decide, by decide⟩ rfl rfl (Nat.le_of_ble_eq_true rfl) (Nat.le_of_ble_eq_true rfl) (by decide) (by decide) ?_
      refine ct_cei (((vL h 137 a) + (Int32.toInt64 (vI h 150 (30 * a + n)))) - (vL h 138 n)) 2 (by decide) ?_
      show WP g mX7_mend 82 [(5, .int (vI h 150 (30 * a + n))), (0, .ref 100), (1, .long w), (3, .int (nI a)), (4, .int (nI n))] [.long (cei (((vL h 137 a) + (Int32.toInt64 (vI h 150 (30 * a + n)))) - (vL h 138 n)) 2)] _ 0 0 _
      refine wp_pc (pc' := 82) rfl ?_
      refine wp_lstore (lv' := [(6, .long (cei (((vL h 137 a) + (Int32.toInt64 (vI h 150 (30 * a + n)))) - (vL h 138 n)) 2)), (5, .int (vI h 150 (30 * a + n))), (0, .ref 100), (1, .long w), (3, .int (nI a)), (4, .int (nI n))]) dX7_mend_82 (by decide) rfl ?_
      refine wp_lload dX7_mend_84 0 rfl ?_
      refine wp_lload_n dX7_mend_86 rfl 3 rfl ?_
      refine wil_le (tgt := 96) (Int64.toInt (cei (((vL h 137 a) + (Int32.toInt64 (vI h 150 (30 * a + n)))) - (vL h 138 n)) 2)) (Int64.toInt w) rfl rfl dX7_mend_87 dX7_mend_88 (by decide) (fun c_3 => ?_) (fun c_3 => ?_)
      · refine wp_lload_n dX7_mend_96 rfl 3 rfl ?_
        refine wp_lstore_n (lv' := [(1, .long w), (6, .long (cei (((vL h 137 a) + (Int32.toInt64 (vI h 150 (30 * a + n)))) - (vL h 138 n)) 2)), (5, .int (vI h 150 (30 * a + n))), (0, .ref 100), (3, .int (nI a)), (4, .int (nI n))]) dX7_mend_97 rfl (by decide) rfl ?_
        refine wp_iinc (q := 5) (x := nI n) (v := nI (n + 1)) (lv' := [(4, .int (nI (n + 1))), (1, .long w), (6, .long (cei (((vL h 137 a) + (Int32.toInt64 (vI h 150 (30 * a + n)))) - (vL h 138 n)) 2)), (5, .int (vI h 150 (30 * a + n))), (0, .ref 100), (3, .int (nI a))]) dX7_mend_98 rfl (nI_1 _) (by decide) rfl ?_
        refine wp_goto (tgt := 26) dX7_mend_101 (by decide) ?_
        refine wp_sub [4, 1, 5, 0] rfl ?_
        exact ih (n + 1) (by omega) w (WM_keep hw (fun _ => c_3))
      · refine wp_lload dX7_mend_91 0 rfl ?_
        refine wp_goto (tgt := 97) dX7_mend_93 (by decide) ?_
        refine wp_lstore_n (lv' := [(1, .long (cei (((vL h 137 a) + (Int32.toInt64 (vI h 150 (30 * a + n)))) - (vL h 138 n)) 2)), (6, .long (cei (((vL h 137 a) + (Int32.toInt64 (vI h 150 (30 * a + n)))) - (vL h 138 n)) 2)), (5, .int (vI h 150 (30 * a + n))), (0, .ref 100), (3, .int (nI a)), (4, .int (nI n))]) dX7_mend_97 rfl (by decide) rfl ?_
        refine wp_iinc (q := 5) (x := nI n) (v := nI (n + 1)) (lv' := [(4, .int (nI (n + 1))), (1, .long (cei (((vL h 137 a) + (Int32.toInt64 (vI h 150 (30 * a + n)))) - (vL h 138 n)) 2)), (6, .long (cei (((vL h 137 a) + (Int32.toInt64 (vI h 150 (30 * a + n)))) - (vL h 138 n)) 2)), (5, .int (vI h 150 (30 * a + n))), (0, .ref 100), (3, .int (nI a))]) dX7_mend_98 rfl (nI_1 _) (by decide) rfl ?_
        refine wp_goto (tgt := 26) dX7_mend_101 (by decide) ?_
        refine wp_sub [4, 1, 5, 0] rfl ?_
        exact ih (n + 1) (by omega) _ (WM_set (by omega) (by omega) hw c_2 rfl (Int.not_le.mp c_3))
    · refine wp_lconst (v := 0) dX7_mend_54 rfl ?_
      refine wp_goto (tgt := 82) dX7_mend_55 (by decide) ?_
      refine wp_lstore (lv' := [(6, .long 0), (5, .int (vI h 150 (30 * a + n))), (0, .ref 100), (1, .long w), (3, .int (nI a)), (4, .int (nI n))]) dX7_mend_82 (by decide) rfl ?_
      refine wp_lload dX7_mend_84 0 rfl ?_
      refine wp_lload_n dX7_mend_86 rfl 3 rfl ?_
      refine wil_le (tgt := 96) (0) (Int64.toInt w) (by decide) rfl dX7_mend_87 dX7_mend_88 (by decide) (fun _ => ?_) (fun c_4 => absurd (by have := hw.1; omega) c_4)
      refine wp_lload_n dX7_mend_96 rfl 3 rfl ?_
      refine wp_lstore_n (lv' := [(1, .long w), (6, .long 0), (5, .int (vI h 150 (30 * a + n))), (0, .ref 100), (3, .int (nI a)), (4, .int (nI n))]) dX7_mend_97 rfl (by decide) rfl ?_
      refine wp_iinc (q := 5) (x := nI n) (v := nI (n + 1)) (lv' := [(4, .int (nI (n + 1))), (1, .long w), (6, .long 0), (5, .int (vI h 150 (30 * a + n))), (0, .ref 100), (3, .int (nI a))]) dX7_mend_98 rfl (nI_1 _) (by decide) rfl ?_
      refine wp_goto (tgt := 26) dX7_mend_101 (by decide) ?_
      refine wp_sub [4, 1, 5, 0] rfl ?_
      exact ih (n + 1) (by omega) w (WM_keep hw (fun z => absurd z c_2))
set_option maxRecDepth 100000 in
set_option maxHeartbeats 4000000 in
theorem me_a {g : GG} {h : HP} {Post : Option Value → HP → Prop} (ne : Nat) (E : Nat → Nat → Prop) (hM : ML h ne E) (hp : ∀ w, WM ne h ne 0 w → Post (some (.long w)) h) : ∀ (k n : Nat), n + k = ne → ∀ (w : Int64), WM ne h n 0 w → WP g mX7_mend 15 [(0, .ref 100), (1, .long w), (3, .int (nI n))] [] h 0 0 Post := by
  intro k
  have hne := hM.2.2.1
  induction k with
  | zero =>
    intro n e0 w hw
    refine wp_iload_n dX7_mend_15 rfl 2 rfl ?_
    refine wp_aload_n dX7_mend_16 rfl 0 rfl ?_
    refine wv_getI (nI ne) dX7_mend_17 flX7_246 rfl rfl hM.1.1 hM.2.1 ?_
    refine wi_icmp_ge (tgt := 110) ((n : Nat)) ((ne : Nat)) (nIt (by omega)) (nIt (by omega)) dX7_mend_20 (by decide) (fun _ => ?_) (fun c_1 => absurd (by omega) c_1)
    refine wp_lload_n dX7_mend_110 rfl 1 rfl ?_
    refine wp_lret dX7_mend_111 rfl (by decide) (by decide) ?_
    obtain rfl : n = ne := by omega
    exact hp w hw
  | succ k ih =>
    intro n e0 w hw
    refine wp_iload_n dX7_mend_15 rfl 2 rfl ?_
    refine wp_aload_n dX7_mend_16 rfl 0 rfl ?_
    refine wv_getI (nI ne) dX7_mend_17 flX7_246 rfl rfl hM.1.1 hM.2.1 ?_
    refine wi_icmp_ge (tgt := 110) ((n : Nat)) ((ne : Nat)) (nIt (by omega)) (nIt (by omega)) dX7_mend_20 (by decide) (fun c_1 => absurd c_1 (by omega)) (fun _ => ?_)
    refine wp_iconst (v := 0) dX7_mend_23 (by decide) ?_
    refine wp_istore (lv' := [(4, .int 0), (0, .ref 100), (1, .long w), (3, .int (nI n))]) dX7_mend_24 (by decide) rfl ?_
    refine wp_sub [1, 2, 3, 0] rfl ?_
    exact me_b ne E hM n (by omega) (fun w1 q => ih (n + 1) (by omega) w1 q) ne 0 (by omega) w hw
set_option maxRecDepth 100000 in
set_option maxHeartbeats 4000000 in
theorem cm_mend {g : GG} {h : HP} {Post : Option Value → HP → Prop} (ne : Nat) (E : Nat → Nat → Prop) (hM : ML h ne E) (hp1 : ∀ h' w, Ai 150 h h' → LoN E ne h' ne → WM ne h' ne 0 w → Post (some (.long w)) h') (hp0 : ∀ h', Ai 150 h h' → cyc E → Post (some (.long (-1))) h') : CT g mX7_mend [.ref 100] h Post := by
  show WP g mX7_mend 0 [(0, .ref 100)] [] h 0 0 Post
  refine wp_aload_n dX7_mend_0 rfl 0 rfl ?_
  refine wp_callV mX7_findLongest 100 [] [] (c := 7) dX7_mend_1 iX7_findLongest (fun _ => trivial) mlX7_255 imX7_findLongest seX7_findLongest (by decide) rfl rfl ⟨by decide, by decide⟩ rfl rfl (Nat.le_of_ble_eq_true rfl) (Nat.le_of_ble_eq_true rfl) (by decide) (by decide) ?_
  refine cm_findLongest ne E hM (fun h' hA hL => ?_) (fun h' hA hc => ?_)
  · show WP g mX7_mend 4 [(0, .ref 100)] [.int 1] _ 0 0 _
    refine wp_if_ne (tgt := 11) dX7_mend_4 (by decide) (fun _ => ?_) (fun c_1 => absurd c_1 (by decide))
    refine wp_lconst (v := 0) dX7_mend_11 rfl ?_
    refine wp_lstore_n (lv' := [(1, .long 0), (0, .ref 100)]) dX7_mend_12 rfl (by decide) rfl ?_
    refine wp_iconst (v := 0) dX7_mend_13 (by decide) ?_
    refine wp_istore_n (lv' := [(3, .int 0), (1, .long 0), (0, .ref 100)]) dX7_mend_14 rfl (by decide) rfl ?_
    refine wp_sub [2, 1, 0] rfl ?_
    exact me_a ne E (ML_ai (by decide) hM hA) (fun w q => hp1 h' w hA hL q) ne 0 (by omega) 0 WM_0
  · show WP g mX7_mend 4 [(0, .ref 100)] [.int 0] _ 0 0 _
    refine wp_if_ne (tgt := 11) dX7_mend_4 (by decide) (fun c_2 => absurd (by decide) c_2) (fun _ => ?_)
    refine wp_ldc2 dX7_mend_7 cnX7_244 ?_
    refine wp_lret dX7_mend_10 rfl (by decide) (by decide) ?_
    exact hp0 h' hA hc
def tv (h : HP) (w : Int64) (a b : Nat) : Int := ((vL h 137 a - w) + Int32.toInt64 (vI h 150 (30 * a + b))).toInt
def TM (ne : Nat) (h : HP) (w : Int64) (b n : Nat) (t : Int) : Prop := (vL h 137 b - w).toInt ≤ t ∧ (∀ a, a < n → 0 ≤ xr h a b → tv h w a b ≤ t) ∧ (t = (vL h 137 b - w).toInt ∨ ∃ a, a < ne ∧ 0 ≤ xr h a b ∧ t = tv h w a b)
theorem TM_keep {ne : Nat} {h : HP} {w : Int64} {b n : Nat} {t : Int} (hT : TM ne h w b n t) (hc : 0 ≤ xr h n b → tv h w n b ≤ t) : TM ne h w b (n + 1) t := by
  refine ⟨hT.1, fun a ha h0 => ?_, hT.2.2⟩
  rcases Nat.lt_succ_iff_lt_or_eq.mp ha with z | z
  · exact hT.2.1 a z h0
  · subst z; exact hc h0
theorem TM_set {ne : Nat} {h : HP} {w : Int64} {b n : Nat} {t : Int} (hn : n < ne) (hT : TM ne h w b n t) (h0 : 0 ≤ xr h n b) (hc : t < tv h w n b) : TM ne h w b (n + 1) (tv h w n b) := by
  refine ⟨by have := hT.1; omega, fun a ha h0' => ?_, Or.inr ⟨n, hn, h0, rfl⟩⟩
  rcases Nat.lt_succ_iff_lt_or_eq.mp ha with z | z
  · have := hT.2.1 a z h0'; omega
  · subst z; exact Int.le_refl _
set_option maxRecDepth 100000 in
set_option maxHeartbeats 4000000 in
theorem ft_a {g : GG} {h : HP} {Post : Option Value → HP → Prop} (ne : Nat) (E : Nat → Nat → Prop) (hM : ML h ne E) (w : Int64) (b : Nat) (hb : b < ne) (hnext : ∀ h1, Al 151 h h1 → (∀ b', b' < b + 1 → TM ne h w b' ne (vL h1 151 b').toInt) → WP g mX7_findTimes 15 [(0, .ref 100), (1, .long w), (3, .int (nI (b + 1)))] [] h1 0 0 Post) : ∀ (k n : Nat), n + k = ne → ∀ (h' : HP), Al 151 h h' → (∀ b', b' < b → TM ne h w b' ne (vL h' 151 b').toInt) → TM ne h w b n (vL h' 151 b).toInt → WP g mX7_findTimes 40 [(0, .ref 100), (1, .long w), (3, .int (nI b)), (4, .int (nI n))] [] h' 0 0 Post := by
  intro k
  have hne := hM.2.2.1
  induction k with
  | zero =>
    intro n e0 h' hA hD hT
    refine wp_iload dX7_findTimes_40 3 rfl ?_
    refine wp_aload_n dX7_findTimes_42 rfl 0 rfl ?_
    refine wv_getI (nI ne) dX7_findTimes_43 flX7_246 rfl rfl (by (try simp only [liv_sI, liv_sL]); rw [hA.1]; exact hM.1.1) (by rw [hA.2.2.1]; exact hM.2.1) ?_
    refine wi_icmp_ge (tgt := 116) ((n : Nat)) ((ne : Nat)) (nIt (by omega)) (nIt (by omega)) dX7_findTimes_46 (by decide) (fun _ => ?_) (fun c_1 => absurd (by omega) c_1)
    refine wp_iinc (q := 2) (x := nI b) (v := nI (b + 1)) (lv' := [(3, .int (nI (b + 1))), (0, .ref 100), (1, .long w), (4, .int (nI n))]) dX7_findTimes_116 rfl (nI_1 _) (by decide) rfl ?_
    refine wp_goto (tgt := 15) dX7_findTimes_119 (by decide) ?_
    refine wp_sub [1, 2, 0] rfl ?_
    obtain rfl : n = ne := by omega
    exact hnext h' hA (fun b' hb' => by
      rcases Nat.lt_succ_iff_lt_or_eq.mp hb' with z | z
      · exact hD b' z
      · subst z; exact hT)
  | succ k ih =>
    intro n e0 h' hA hD hT
    refine wp_iload dX7_findTimes_40 3 rfl ?_
    refine wp_aload_n dX7_findTimes_42 rfl 0 rfl ?_
    refine wv_getI (nI ne) dX7_findTimes_43 flX7_246 rfl rfl (by (try simp only [liv_sI, liv_sL]); rw [hA.1]; exact hM.1.1) (by rw [hA.2.2.1]; exact hM.2.1) ?_
    refine wi_icmp_ge (tgt := 116) ((n : Nat)) ((ne : Nat)) (nIt (by omega)) (nIt (by omega)) dX7_findTimes_46 (by decide) (fun c_1 => absurd c_1 (by omega)) (fun _ => ?_)
    refine wp_aload_n dX7_findTimes_49 rfl 0 rfl ?_
    refine wp_getP (b := 150) dX7_findTimes_50 flX7_126 rfl rfl (by (try simp only [liv_sI, liv_sL]); rw [hA.1]; exact hM.1.1) (by (try simp only [vP_sI, vP_sL]); rw [hA.2.1]; exact (hM.1.2 49 rfl).2) ?_
    refine wp_bipush (v := 30) dX7_findTimes_53 (by decide) ?_
    refine wp_iload dX7_findTimes_55 3 rfl ?_
    refine wv_imul (nI (30 * n)) (wN_mul rfl rfl) dX7_findTimes_57 ?_
    refine wp_iload_n dX7_findTimes_58 rfl 2 rfl ?_
    refine wv_iadd (nI ((30 * n) + b)) (wN_add rfl rfl) dX7_findTimes_59 ?_
    refine wv_iald (30 * n + b) (vI h 150 (30 * n + b)) dX7_findTimes_60 rfl (by (try simp only [liv_sI, liv_sL]); rw [hA.1]; exact (hM.1.2 49 rfl).1) rfl (by show 30 * n + b < 900; omega) (by rw [hA.2.2.1]) ?_
    refine wp_istore (lv' := [(5, .int (vI h 150 (30 * n + b))), (0, .ref 100), (1, .long w), (3, .int (nI b)), (4, .int (nI n))]) dX7_findTimes_61 (by decide) rfl ?_
    refine wp_iload dX7_findTimes_63 0 rfl ?_
    refine wi_if_lt (tgt := 110) (Int32.toInt (vI h 150 (30 * n + b))) rfl dX7_findTimes_65 (by decide) (fun c_2 => ?_) (fun c_2 => ?_)
    · refine wp_iinc (q := 4) (x := nI n) (v := nI (n + 1)) (lv' := [(4, .int (nI (n + 1))), (5, .int (vI h 150 (30 * n + b))), (0, .ref 100), (1, .long w), (3, .int (nI b))]) dX7_findTimes_110 rfl (nI_1 _) (by decide) rfl ?_
      refine wp_goto (tgt := 40) dX7_findTimes_113 (by decide) ?_
      refine wp_sub [2, 3, 4, 0] rfl ?_
      exact ih (n + 1) (by omega) h' hA hD (TM_keep hT (fun z => absurd z (by show ¬ 0 ≤ (vI h 150 (30 * n + b)).toInt; omega)))
    · refine wp_aload_n dX7_findTimes_68 rfl 1 rfl ?_
      refine wp_getP (b := 137) dX7_findTimes_69 flX7_105 rfl rfl (by (try simp only [liv_sI, liv_sL]); rw [hA.1]; exact hM.1.1) (by (try simp only [vP_sI, vP_sL]); rw [hA.2.1]; exact (hM.1.2 36 rfl).2) ?_
      refine wp_iload dX7_findTimes_72 4 rfl ?_
      refine wv_lald n (vL h 137 n) dX7_findTimes_74 rfl (by (try simp only [liv_sI, liv_sL]); rw [hA.1]; exact (hM.1.2 36 rfl).1) rfl (by show n < 30; omega) (by rw [hA.2.2.2 137 (by decide)]) ?_
      refine wp_lload_n dX7_findTimes_75 rfl 2 rfl ?_
      refine wp_lsub dX7_findTimes_76 ?_
      refine wp_iload dX7_findTimes_77 0 rfl ?_
      refine wp_i2l dX7_findTimes_79 ?_
      refine wp_ladd dX7_findTimes_80 ?_
      refine wp_aload_n dX7_findTimes_81 rfl 1 rfl ?_
      refine wp_getP (b := 151) dX7_findTimes_82 flX7_129 rfl rfl (by (try simp only [liv_sI, liv_sL]); rw [hA.1]; exact hM.1.1) (by (try simp only [vP_sI, vP_sL]); rw [hA.2.1]; exact (hM.1.2 50 rfl).2) ?_
      refine wp_iload_n dX7_findTimes_85 rfl 3 rfl ?_
      refine wv_lald b (vL h' 151 b) dX7_findTimes_86 rfl (by (try simp only [liv_sI, liv_sL]); rw [hA.1]; exact (hM.1.2 50 rfl).1) rfl (by show b < 30; omega) rfl ?_
      refine wil_le (tgt := 110) (Int64.toInt (((vL h 137 n) - w) + (Int32.toInt64 (vI h 150 (30 * n + b))))) (Int64.toInt (vL h' 151 b)) rfl rfl dX7_findTimes_87 dX7_findTimes_88 (by decide) (fun c_3 => ?_) (fun c_3 => ?_)
      · refine wp_iinc (q := 4) (x := nI n) (v := nI (n + 1)) (lv' := [(4, .int (nI (n + 1))), (5, .int (vI h 150 (30 * n + b))), (0, .ref 100), (1, .long w), (3, .int (nI b))]) dX7_findTimes_110 rfl (nI_1 _) (by decide) rfl ?_
        refine wp_goto (tgt := 40) dX7_findTimes_113 (by decide) ?_
        refine wp_sub [2, 3, 4, 0] rfl ?_
        exact ih (n + 1) (by omega) h' hA hD (TM_keep hT (fun _ => c_3))
      · refine wp_aload_n dX7_findTimes_91 rfl 1 rfl ?_
        refine wp_getP (b := 151) dX7_findTimes_92 flX7_129 rfl rfl (by (try simp only [liv_sI, liv_sL]); rw [hA.1]; exact hM.1.1) (by (try simp only [vP_sI, vP_sL]); rw [hA.2.1]; exact (hM.1.2 50 rfl).2) ?_
        refine wp_iload_n dX7_findTimes_95 rfl 3 rfl ?_
        refine wp_aload_n dX7_findTimes_96 rfl 1 rfl ?_
        refine wp_getP (b := 137) dX7_findTimes_97 flX7_105 rfl rfl (by (try simp only [liv_sI, liv_sL]); rw [hA.1]; exact hM.1.1) (by (try simp only [vP_sI, vP_sL]); rw [hA.2.1]; exact (hM.1.2 36 rfl).2) ?_
        refine wp_iload dX7_findTimes_100 4 rfl ?_
        refine wv_lald n (vL h 137 n) dX7_findTimes_102 rfl (by (try simp only [liv_sI, liv_sL]); rw [hA.1]; exact (hM.1.2 36 rfl).1) rfl (by show n < 30; omega) (by rw [hA.2.2.2 137 (by decide)]) ?_
        refine wp_lload_n dX7_findTimes_103 rfl 2 rfl ?_
        refine wp_lsub dX7_findTimes_104 ?_
        refine wp_iload dX7_findTimes_105 0 rfl ?_
        refine wp_i2l dX7_findTimes_107 ?_
        refine wp_ladd dX7_findTimes_108 ?_
        refine wv_last b dX7_findTimes_109 rfl (by (try simp only [liv_sI, liv_sL]); rw [hA.1]; exact (hM.1.2 50 rfl).1) rfl (by show b < 30; omega) ?_
        refine wp_iinc (q := 4) (x := nI n) (v := nI (n + 1)) (lv' := [(4, .int (nI (n + 1))), (5, .int (vI h 150 (30 * n + b))), (0, .ref 100), (1, .long w), (3, .int (nI b))]) dX7_findTimes_110 rfl (nI_1 _) (by decide) rfl ?_
        refine wp_pc (pc' := 113) rfl ?_
        refine wp_goto (tgt := 40) dX7_findTimes_113 (by decide) ?_
        refine wp_sub [2, 3, 4, 0] rfl ?_
        exact ih (n + 1) (by omega) _ (Al_put hA) (fun b' hb' => by rw [vLj (by omega)]; exact hD b' hb') (by rw [vLs]; exact TM_set (by omega) hT (by show 0 ≤ (vI h 150 (30 * n + b)).toInt; omega) (Int.not_le.mp c_3))
set_option maxRecDepth 100000 in
set_option maxHeartbeats 4000000 in
theorem ft_b {g : GG} {h : HP} {Post : Option Value → HP → Prop} (ne : Nat) (E : Nat → Nat → Prop) (hM : ML h ne E) (w : Int64) (hp : ∀ h', Al 151 h h' → (∀ b', b' < ne → TM ne h w b' ne (vL h' 151 b').toInt) → Post (some (.int 1)) h') : ∀ (k n : Nat), n + k = ne → ∀ (h' : HP), Al 151 h h' → (∀ b', b' < n → TM ne h w b' ne (vL h' 151 b').toInt) → WP g mX7_findTimes 15 [(0, .ref 100), (1, .long w), (3, .int (nI n))] [] h' 0 0 Post := by
  intro k
  have hne := hM.2.2.1
  induction k with
  | zero =>
    intro n e0 h' hA hD
    refine wp_iload_n dX7_findTimes_15 rfl 2 rfl ?_
    refine wp_aload_n dX7_findTimes_16 rfl 0 rfl ?_
    refine wv_getI (nI ne) dX7_findTimes_17 flX7_246 rfl rfl (by (try simp only [liv_sI, liv_sL]); rw [hA.1]; exact hM.1.1) (by rw [hA.2.2.1]; exact hM.2.1) ?_
    refine wi_icmp_ge (tgt := 122) ((n : Nat)) ((ne : Nat)) (nIt (by omega)) (nIt (by omega)) dX7_findTimes_20 (by decide) (fun _ => ?_) (fun c_1 => absurd (by omega) c_1)
    refine wp_iconst (v := 1) dX7_findTimes_122 (by decide) ?_
    refine wp_zret dX7_findTimes_123 rfl (by decide) (by decide) rfl ?_
    obtain rfl : n = ne := by omega
    exact hp h' hA hD
  | succ k ih =>
    intro n e0 h' hA hD
    refine wp_iload_n dX7_findTimes_15 rfl 2 rfl ?_
    refine wp_aload_n dX7_findTimes_16 rfl 0 rfl ?_
    refine wv_getI (nI ne) dX7_findTimes_17 flX7_246 rfl rfl (by (try simp only [liv_sI, liv_sL]); rw [hA.1]; exact hM.1.1) (by rw [hA.2.2.1]; exact hM.2.1) ?_
    refine wi_icmp_ge (tgt := 122) ((n : Nat)) ((ne : Nat)) (nIt (by omega)) (nIt (by omega)) dX7_findTimes_20 (by decide) (fun c_1 => absurd c_1 (by omega)) (fun _ => ?_)
    refine wp_aload_n dX7_findTimes_23 rfl 0 rfl ?_
    refine wp_getP (b := 151) dX7_findTimes_24 flX7_129 rfl rfl (by (try simp only [liv_sI, liv_sL]); rw [hA.1]; exact hM.1.1) (by (try simp only [vP_sI, vP_sL]); rw [hA.2.1]; exact (hM.1.2 50 rfl).2) ?_
    refine wp_iload_n dX7_findTimes_27 rfl 2 rfl ?_
    refine wp_aload_n dX7_findTimes_28 rfl 0 rfl ?_
    refine wp_getP (b := 137) dX7_findTimes_29 flX7_105 rfl rfl (by (try simp only [liv_sI, liv_sL]); rw [hA.1]; exact hM.1.1) (by (try simp only [vP_sI, vP_sL]); rw [hA.2.1]; exact (hM.1.2 36 rfl).2) ?_
    refine wp_iload_n dX7_findTimes_32 rfl 2 rfl ?_
    refine wv_lald n (vL h 137 n) dX7_findTimes_33 rfl (by (try simp only [liv_sI, liv_sL]); rw [hA.1]; exact (hM.1.2 36 rfl).1) rfl (by show n < 30; omega) (by rw [hA.2.2.2 137 (by decide)]) ?_
    refine wp_lload_n dX7_findTimes_34 rfl 1 rfl ?_
    refine wp_lsub dX7_findTimes_35 ?_
    refine wv_last n dX7_findTimes_36 rfl (by (try simp only [liv_sI, liv_sL]); rw [hA.1]; exact (hM.1.2 50 rfl).1) rfl (by show n < 30; omega) ?_
    refine wp_iconst (v := 0) dX7_findTimes_37 (by decide) ?_
    refine wp_pc (pc' := 38) rfl ?_
    refine wp_istore (lv' := [(4, .int 0), (0, .ref 100), (1, .long w), (3, .int (nI n))]) dX7_findTimes_38 (by decide) rfl ?_
    refine wp_sub [1, 2, 3, 0] rfl ?_
    exact ft_a ne E hM w n (by omega) (fun h1 q1 q2 => ih (n + 1) (by omega) h1 q1 q2) ne 0 (by omega) _ (Al_put hA) (fun b' hb' => by rw [vLj (by omega)]; exact hD b' hb') (by rw [vLs]; exact ⟨Int.le_refl _, fun _ z => absurd z (Nat.not_lt_zero _), Or.inl rfl⟩)
set_option maxRecDepth 100000 in
set_option maxHeartbeats 4000000 in
theorem cm_findTimes {g : GG} {h : HP} {Post : Option Value → HP → Prop} (ne : Nat) (E : Nat → Nat → Prop) (hM : ML h ne E) (hp1 : ∀ h1 w h', Ai 150 h h1 → LoN E ne h1 ne → WM ne h1 ne 0 w → Al 151 h1 h' → (∀ b, b < ne → TM ne h1 w b ne (vL h' 151 b).toInt) → Post (some (.int 1)) h') (hp0 : ∀ h1, Ai 150 h h1 → cyc E → Post (some (.int 0)) h1) : CT g mX7_findTimes [.ref 100] h Post := by
  show WP g mX7_findTimes 0 [(0, .ref 100)] [] h 0 0 Post
  refine wp_aload_n dX7_findTimes_0 rfl 0 rfl ?_
  refine wp_callV mX7_mend 100 [] [] (c := 7) dX7_findTimes_1 iX7_mend (fun _ => trivial) mlX7_259 imX7_mend seX7_mend (by decide) rfl rfl ⟨by decide, by decide⟩ rfl rfl (Nat.le_of_ble_eq_true rfl) (Nat.le_of_ble_eq_true rfl) (by decide) (by decide) ?_
  refine cm_mend ne E hM (fun h1 w hA1 hL hw => ?_) (fun h1 hA1 hc => ?_)
  · show WP g mX7_findTimes 4 [(0, .ref 100)] [.long w] _ 0 0 _
    refine wp_lstore_n (lv' := [(1, .long w), (0, .ref 100)]) dX7_findTimes_4 rfl (by decide) rfl ?_
    refine wp_lload_n dX7_findTimes_5 rfl 0 rfl ?_
    refine wp_lconst (v := 0) dX7_findTimes_6 rfl ?_
    refine wil_ge (tgt := 13) (Int64.toInt w) (0) rfl (by decide) dX7_findTimes_7 dX7_findTimes_8 (by decide) (fun _ => ?_) (fun c_1 => absurd hw.1 c_1)
    refine wp_iconst (v := 0) dX7_findTimes_13 (by decide) ?_
    refine wp_istore_n (lv' := [(3, .int 0), (1, .long w), (0, .ref 100)]) dX7_findTimes_14 rfl (by decide) rfl ?_
    refine wp_sub [2, 1, 0] rfl ?_
    exact ft_b ne E (ML_ai (by decide) hM hA1) w (fun h' a b => hp1 h1 w h' hA1 hL hw a b) ne 0 (by omega) h1 (Al_rf 151 h1) (fun _ z => absurd z (Nat.not_lt_zero _))
  · show WP g mX7_findTimes 4 [(0, .ref 100)] [.long ((-1))] _ 0 0 _
    refine wp_lstore_n (lv' := [(1, .long ((-1))), (0, .ref 100)]) dX7_findTimes_4 rfl (by decide) rfl ?_
    refine wp_lload_n dX7_findTimes_5 rfl 0 rfl ?_
    refine wp_lconst (v := 0) dX7_findTimes_6 rfl ?_
    refine wil_ge (tgt := 13) ((-1)) (0) (by decide) (by decide) dX7_findTimes_7 dX7_findTimes_8 (by decide) (fun c_2 => absurd c_2 (by decide)) (fun _ => ?_)
    refine wp_iconst (v := 0) dX7_findTimes_11 (by decide) ?_
    refine wp_zret dX7_findTimes_12 rfl (by decide) (by decide) rfl ?_
    exact hp0 h1 hA1 hc
set_option maxRecDepth 100000 in
set_option maxHeartbeats 4000000 in
theorem cm_time0 {g : GG} {h : HP} {Post : Option Value → HP → Prop} (ne : Nat) (E : Nat → Nat → Prop) (hM : ML h ne E) (x : Int32) (hx : ¬ inR x ne) (hc0 : ∀ h1, Ai 150 h h1 → cyc E → Post (some (.long (-9000000000000000000))) h1) (hp : ∀ h1 w h', Ai 150 h h1 → LoN E ne h1 ne → WM ne h1 ne 0 w → Al 151 h1 h' → (∀ b, b < ne → TM ne h1 w b ne (vL h' 151 b).toInt) → Post (some (.long (-9000000000000000000))) h') : CT g mX7_time [.ref 100, .int x] h Post := by
  show WP g mX7_time 0 [(0, .ref 100), (1, .int x)] [] h 0 0 Post
  have hne := hM.2.2.1
  refine wp_aload_n dX7_time_0 rfl 0 rfl ?_
  refine wp_callV mX7_findTimes 100 [] [] (c := 7) dX7_time_1 iX7_findTimes (fun _ => trivial) mlX7_263 imX7_findTimes seX7_findTimes (by decide) rfl rfl ⟨by decide, by decide⟩ rfl rfl (Nat.le_of_ble_eq_true rfl) (Nat.le_of_ble_eq_true rfl) (by decide) (by decide) ?_
  refine cm_findTimes ne E hM (fun h1 w h' hA1 hL hw hA2 hT => ?_) (fun h1 hA1 hc => ?_)
  · show WP g mX7_time 4 [(0, .ref 100), (1, .int x)] [.int 1] _ 0 0 _
    refine wp_if_eq (tgt := 24) dX7_time_4 (by decide) (fun c_1 => absurd c_1 (by decide)) (fun _ => ?_)
    refine wp_aload_n dX7_time_7 rfl 0 rfl ?_
    refine wp_iload_n dX7_time_8 rfl 1 rfl ?_
    refine wp_callV mX7_isEvent 100 [.int x] [] (c := 7) dX7_time_9 iX7_isEvent (fun _ => trivial) mlX7_249 imX7_isEvent seX7_isEvent (by decide) rfl rfl ⟨by decide, by decide⟩ rfl rfl (Nat.le_of_ble_eq_true rfl) (Nat.le_of_ble_eq_true rfl) (by decide) (by decide) ?_
    refine ct_isEvent0 ne (ML_al (ML_ai (by decide) hM hA1) hA2).1 (ML_al (ML_ai (by decide) hM hA1) hA2).2.1 (by omega) x hx ?_
    show WP g mX7_time 12 [(0, .ref 100), (1, .int x)] [.int 0] _ 0 0 _
    refine wp_if_eq (tgt := 24) dX7_time_12 (by decide) (fun _ => ?_) (fun c_2 => absurd (by decide) c_2)
    refine wp_ldc2 dX7_time_24 cnX7_155 ?_
    refine wp_lret dX7_time_27 rfl (by decide) (by decide) ?_
    exact hp h1 w h' hA1 hL hw hA2 hT
  · show WP g mX7_time 4 [(0, .ref 100), (1, .int x)] [.int 0] _ 0 0 _
    refine wp_if_eq (tgt := 24) dX7_time_4 (by decide) (fun _ => ?_) (fun c_3 => absurd (by decide) c_3)
    refine wp_ldc2 dX7_time_24 cnX7_155 ?_
    refine wp_lret dX7_time_27 rfl (by decide) (by decide) ?_
    exact hc0 h1 hA1 hc
set_option maxRecDepth 100000 in
set_option maxHeartbeats 4000000 in
theorem cm_time {g : GG} {h : HP} {Post : Option Value → HP → Prop} (ne : Nat) (E : Nat → Nat → Prop) (hM : ML h ne E) (i : Nat) (hi : i < ne) (hc0 : ∀ h1, Ai 150 h h1 → cyc E → Post (some (.long (-9000000000000000000))) h1) (hp : ∀ h1 w h', Ai 150 h h1 → LoN E ne h1 ne → WM ne h1 ne 0 w → Al 151 h1 h' → (∀ b, b < ne → TM ne h1 w b ne (vL h' 151 b).toInt) → Post (some (.long (vL h' 151 i))) h') : CT g mX7_time [.ref 100, .int (nI i)] h Post := by
  show WP g mX7_time 0 [(0, .ref 100), (1, .int (nI i))] [] h 0 0 Post
  have hne := hM.2.2.1
  refine wp_aload_n dX7_time_0 rfl 0 rfl ?_
  refine wp_callV mX7_findTimes 100 [] [] (c := 7) dX7_time_1 iX7_findTimes (fun _ => trivial) mlX7_263 imX7_findTimes seX7_findTimes (by decide) rfl rfl ⟨by decide, by decide⟩ rfl rfl (Nat.le_of_ble_eq_true rfl) (Nat.le_of_ble_eq_true rfl) (by decide) (by decide) ?_
  refine cm_findTimes ne E hM (fun h1 w h' hA1 hL hw hA2 hT => ?_) (fun h1 hA1 hc => ?_)
  · show WP g mX7_time 4 [(0, .ref 100), (1, .int (nI i))] [.int 1] _ 0 0 _
    refine wp_if_eq (tgt := 24) dX7_time_4 (by decide) (fun c_1 => absurd c_1 (by decide)) (fun _ => ?_)
    refine wp_aload_n dX7_time_7 rfl 0 rfl ?_
    refine wp_iload_n dX7_time_8 rfl 1 rfl ?_
    refine wp_callV mX7_isEvent 100 [.int (nI i)] [] (c := 7) dX7_time_9 iX7_isEvent (fun _ => trivial) mlX7_249 imX7_isEvent seX7_isEvent (by decide) rfl rfl ⟨by decide, by decide⟩ rfl rfl (Nat.le_of_ble_eq_true rfl) (Nat.le_of_ble_eq_true rfl) (by decide) (by decide) ?_
    refine ct_isEvent ne (ML_al (ML_ai (by decide) hM hA1) hA2).1 (ML_al (ML_ai (by decide) hM hA1) hA2).2.1 (by omega) i hi ?_
    show WP g mX7_time 12 [(0, .ref 100), (1, .int (nI i))] [.int 1] _ 0 0 _
    refine wp_if_eq (tgt := 24) dX7_time_12 (by decide) (fun c_2 => absurd c_2 (by decide)) (fun _ => ?_)
    refine wp_aload_n dX7_time_15 rfl 0 rfl ?_
    refine wp_getP (b := 151) dX7_time_16 flX7_129 rfl rfl (by rw [hA2.1, hA1.1]; exact hM.1.1) (by rw [hA2.2.1, hA1.2.1]; exact (hM.1.2 50 rfl).2) ?_
    refine wp_iload_n dX7_time_19 rfl 1 rfl ?_
    refine wv_lald i (vL h' 151 i) dX7_time_20 rfl (by rw [hA2.1, hA1.1]; exact (hM.1.2 50 rfl).1) rfl (by show i < 30; omega) rfl ?_
    refine wp_goto (tgt := 27) dX7_time_21 (by decide) ?_
    refine wp_lret dX7_time_27 rfl (by decide) (by decide) ?_
    exact hp h1 w h' hA1 hL hw hA2 hT
  · show WP g mX7_time 4 [(0, .ref 100), (1, .int (nI i))] [.int 0] _ 0 0 _
    refine wp_if_eq (tgt := 24) dX7_time_4 (by decide) (fun _ => ?_) (fun c_3 => absurd (by decide) c_3)
    refine wp_ldc2 dX7_time_24 cnX7_155 ?_
    refine wp_lret dX7_time_27 rfl (by decide) (by decide) ?_
    exact hc0 h1 hA1 hc
set_option maxRecDepth 100000 in
set_option maxHeartbeats 4000000 in
theorem cm_order0 {g : GG} {h : HP} {Post : Option Value → HP → Prop} (ne : Nat) (E : Nat → Nat → Prop) (hM : ML h ne E) (x : Int32) (hx : ¬ inR x ne) (hc0 : ∀ h1, Ai 150 h h1 → cyc E → Post (some (.long (-9000000000000000000))) h1) (hp : ∀ h1 w h', Ai 150 h h1 → LoN E ne h1 ne → WM ne h1 ne 0 w → Al 151 h1 h' → (∀ b, b < ne → TM ne h1 w b ne (vL h' 151 b).toInt) → Post (some (.long (-9000000000000000000))) h') : CT g mX7_order [.ref 100, .int x] h Post := by
  show WP g mX7_order 0 [(0, .ref 100), (1, .int x)] [] h 0 0 Post
  have hne := hM.2.2.1
  refine wp_aload_n dX7_order_0 rfl 0 rfl ?_
  refine wp_callV mX7_findTimes 100 [] [] (c := 7) dX7_order_1 iX7_findTimes (fun _ => trivial) mlX7_263 imX7_findTimes seX7_findTimes (by decide) rfl rfl ⟨by decide, by decide⟩ rfl rfl (Nat.le_of_ble_eq_true rfl) (Nat.le_of_ble_eq_true rfl) (by decide) (by decide) ?_
  refine cm_findTimes ne E hM (fun h1 w h' hA1 hL hw hA2 hT => ?_) (fun h1 hA1 hc => ?_)
  · show WP g mX7_order 4 [(0, .ref 100), (1, .int x)] [.int 1] _ 0 0 _
    refine wp_if_eq (tgt := 15) dX7_order_4 (by decide) (fun c_1 => absurd c_1 (by decide)) (fun _ => ?_)
    refine wp_aload_n dX7_order_7 rfl 0 rfl ?_
    refine wp_iload_n dX7_order_8 rfl 1 rfl ?_
    refine wp_callV mX7_isEvent 100 [.int x] [] (c := 7) dX7_order_9 iX7_isEvent (fun _ => trivial) mlX7_249 imX7_isEvent seX7_isEvent (by decide) rfl rfl ⟨by decide, by decide⟩ rfl rfl (Nat.le_of_ble_eq_true rfl) (Nat.le_of_ble_eq_true rfl) (by decide) (by decide) ?_
    refine ct_isEvent0 ne (ML_al (ML_ai (by decide) hM hA1) hA2).1 (ML_al (ML_ai (by decide) hM hA1) hA2).2.1 (by omega) x hx ?_
    show WP g mX7_order 12 [(0, .ref 100), (1, .int x)] [.int 0] _ 0 0 _
    refine wp_if_ne (tgt := 19) dX7_order_12 (by decide) (fun c_2 => absurd (by decide) c_2) (fun _ => ?_)
    refine wp_ldc2 dX7_order_15 cnX7_155 ?_
    refine wp_lret dX7_order_18 rfl (by decide) (by decide) ?_
    exact hp h1 w h' hA1 hL hw hA2 hT
  · show WP g mX7_order 4 [(0, .ref 100), (1, .int x)] [.int 0] _ 0 0 _
    refine wp_if_eq (tgt := 15) dX7_order_4 (by decide) (fun _ => ?_) (fun c_3 => absurd (by decide) c_3)
    refine wp_ldc2 dX7_order_15 cnX7_155 ?_
    refine wp_lret dX7_order_18 rfl (by decide) (by decide) ?_
    exact hc0 h1 hA1 hc
def lxb (X : Nat → Int64) (a b : Nat) : Bool := decide ((X a).toInt < (X b).toInt) || (decide ((X a).toInt = (X b).toInt) && decide (a < b))
theorem lxb_iff (X : Nat → Int64) (a b : Nat) : lxb X a b = true ↔ lx X a b := by unfold lxb lx; simp
def rkN (X : Nat → Int64) (e n : Nat) : Nat := cntB (fun q => lxb X q e) n
theorem rkN_y {X : Nat → Int64} {e n : Nat} (hl : lx X n e) : rkN X e (n + 1) = rkN X e n + 1 := by
  show cntB _ n + (if lxb X n e = true then 1 else 0) = _
  rw [if_pos ((lxb_iff X n e).mpr hl)]; rfl
theorem rkN_n {X : Nat → Int64} {e n : Nat} (hl : ¬ lx X n e) : rkN X e (n + 1) = rkN X e n + 0 := by
  show cntB _ n + (if lxb X n e = true then 1 else 0) = _
  rw [if_neg (fun z => hl ((lxb_iff X n e).mp z))]; rfl
theorem cntB_le (P : Nat → Bool) : ∀ n, cntB P n ≤ n
  | 0 => Nat.le_refl 0
  | n + 1 => by have := cntB_le P n; show cntB P n + (if _ then 1 else 0) ≤ n + 1; split <;> omega
set_option maxRecDepth 100000 in
set_option maxHeartbeats 4000000 in
theorem or_g {g : GG} {h : HP} {Post : Option Value → HP → Prop} (ne : Nat) (E : Nat → Nat → Prop) (hM : ML h ne E) (i e : Nat) (he : e < ne) (hnext : WP g mX7_order 97 [(0, .ref 100), (1, .int (nI i)), (2, .int (nI e)), (3, .int (nI (rkN (vL h 151) e ne)))] [] h 0 0 Post) : ∀ (k n : Nat), n + k = ne → WP g mX7_order 34 [(0, .ref 100), (1, .int (nI i)), (2, .int (nI e)), (3, .int (nI (rkN (vL h 151) e n))), (4, .int (nI n))] [] h 0 0 Post := by
  intro k
  have hne := hM.2.2.1
  induction k with
  | zero =>
    intro n e0
    refine wp_iload dX7_order_34 4 rfl ?_
    refine wp_aload_n dX7_order_36 rfl 0 rfl ?_
    refine wv_getI (nI ne) dX7_order_37 flX7_246 rfl rfl hM.1.1 hM.2.1 ?_
    refine wi_icmp_ge (tgt := 97) ((n : Nat)) ((ne : Nat)) (nIt (by omega)) (nIt (by omega)) dX7_order_40 (by decide) (fun _ => ?_) (fun c_1 => absurd (by omega) c_1)
    refine wp_sub [0, 1, 2, 3] rfl ?_
    obtain rfl : n = ne := by omega
    exact hnext
  | succ k ih =>
    intro n e0
    refine wp_iload dX7_order_34 4 rfl ?_
    refine wp_aload_n dX7_order_36 rfl 0 rfl ?_
    refine wv_getI (nI ne) dX7_order_37 flX7_246 rfl rfl hM.1.1 hM.2.1 ?_
    refine wi_icmp_ge (tgt := 97) ((n : Nat)) ((ne : Nat)) (nIt (by omega)) (nIt (by omega)) dX7_order_40 (by decide) (fun c_1 => absurd c_1 (by omega)) (fun _ => ?_)
    refine wp_iload_n dX7_order_43 rfl 3 rfl ?_
    refine wp_aload_n dX7_order_44 rfl 0 rfl ?_
    refine wp_getP (b := 151) dX7_order_45 flX7_129 rfl rfl hM.1.1 (hM.1.2 50 rfl).2 ?_
    refine wp_iload dX7_order_48 4 rfl ?_
    refine wv_lald n (vL h 151 n) dX7_order_50 rfl (hM.1.2 50 rfl).1 rfl (by show n < 30; omega) rfl ?_
    refine wp_aload_n dX7_order_51 rfl 0 rfl ?_
    refine wp_getP (b := 151) dX7_order_52 flX7_129 rfl rfl hM.1.1 (hM.1.2 50 rfl).2 ?_
    refine wp_iload_n dX7_order_55 rfl 2 rfl ?_
    refine wv_lald e (vL h 151 e) dX7_order_56 rfl (hM.1.2 50 rfl).1 rfl (by show e < 30; omega) rfl ?_
    refine wil_lt (tgt := 84) (Int64.toInt (vL h 151 n)) (Int64.toInt (vL h 151 e)) rfl rfl dX7_order_57 dX7_order_58 (by decide) (fun c_2 => ?_) (fun c_2 => ?_)
    · refine wp_iconst (v := 1) dX7_order_84 (by decide) ?_
      refine wp_goto (tgt := 89) dX7_order_85 (by decide) ?_
      refine wv_iadd (nI ((rkN (vL h 151) e n) + 1)) (wN_add rfl rfl) dX7_order_89 ?_
      refine wp_istore_n (lv' := [(3, .int (nI ((rkN (vL h 151) e n) + 1))), (0, .ref 100), (1, .int (nI i)), (2, .int (nI e)), (4, .int (nI n))]) dX7_order_90 rfl (by decide) rfl ?_
      refine wp_iinc (q := 4) (x := nI n) (v := nI (n + 1)) (lv' := [(4, .int (nI (n + 1))), (3, .int (nI ((rkN (vL h 151) e n) + 1))), (0, .ref 100), (1, .int (nI i)), (2, .int (nI e))]) dX7_order_91 rfl (nI_1 _) (by decide) rfl ?_
      refine wp_goto (tgt := 34) dX7_order_94 (by decide) ?_
      refine wp_sub [2, 3, 4, 1, 0] rfl ?_
      have q := ih (n + 1) (by omega)
      rw [rkN_y (by unfold lx; omega)] at q
      exact q
    · refine wp_aload_n dX7_order_61 rfl 0 rfl ?_
      refine wp_getP (b := 151) dX7_order_62 flX7_129 rfl rfl hM.1.1 (hM.1.2 50 rfl).2 ?_
      refine wp_iload dX7_order_65 4 rfl ?_
      refine wv_lald n (vL h 151 n) dX7_order_67 rfl (hM.1.2 50 rfl).1 rfl (by show n < 30; omega) rfl ?_
      refine wp_aload_n dX7_order_68 rfl 0 rfl ?_
      refine wp_getP (b := 151) dX7_order_69 flX7_129 rfl rfl hM.1.1 (hM.1.2 50 rfl).2 ?_
      refine wp_iload_n dX7_order_72 rfl 2 rfl ?_
      refine wv_lald e (vL h 151 e) dX7_order_73 rfl (hM.1.2 50 rfl).1 rfl (by show e < 30; omega) rfl ?_
      refine wil_ne (tgt := 88) (Int64.toInt (vL h 151 n)) (Int64.toInt (vL h 151 e)) rfl rfl dX7_order_74 dX7_order_75 (by decide) (fun c_3 => ?_) (fun c_3 => ?_)
      · refine wp_iconst (v := 0) dX7_order_88 (by decide) ?_
        refine wv_iadd (nI ((rkN (vL h 151) e n) + 0)) (wN_add rfl rfl) dX7_order_89 ?_
        refine wp_istore_n (lv' := [(3, .int (nI ((rkN (vL h 151) e n) + 0))), (0, .ref 100), (1, .int (nI i)), (2, .int (nI e)), (4, .int (nI n))]) dX7_order_90 rfl (by decide) rfl ?_
        refine wp_iinc (q := 4) (x := nI n) (v := nI (n + 1)) (lv' := [(4, .int (nI (n + 1))), (3, .int (nI ((rkN (vL h 151) e n) + 0))), (0, .ref 100), (1, .int (nI i)), (2, .int (nI e))]) dX7_order_91 rfl (nI_1 _) (by decide) rfl ?_
        refine wp_goto (tgt := 34) dX7_order_94 (by decide) ?_
        refine wp_sub [2, 3, 4, 1, 0] rfl ?_
        have q := ih (n + 1) (by omega)
        rw [rkN_n (by unfold lx; omega)] at q
        exact q
      · refine wp_iload dX7_order_78 4 rfl ?_
        refine wp_iload_n dX7_order_80 rfl 2 rfl ?_
        refine wi_icmp_ge (tgt := 88) ((n : Nat)) ((e : Nat)) (nIt (by omega)) (nIt (by omega)) dX7_order_81 (by decide) (fun c_4 => ?_) (fun c_4 => ?_)
        · refine wp_iconst (v := 0) dX7_order_88 (by decide) ?_
          refine wv_iadd (nI ((rkN (vL h 151) e n) + 0)) (wN_add rfl rfl) dX7_order_89 ?_
          refine wp_istore_n (lv' := [(3, .int (nI ((rkN (vL h 151) e n) + 0))), (0, .ref 100), (1, .int (nI i)), (2, .int (nI e)), (4, .int (nI n))]) dX7_order_90 rfl (by decide) rfl ?_
          refine wp_iinc (q := 4) (x := nI n) (v := nI (n + 1)) (lv' := [(4, .int (nI (n + 1))), (3, .int (nI ((rkN (vL h 151) e n) + 0))), (0, .ref 100), (1, .int (nI i)), (2, .int (nI e))]) dX7_order_91 rfl (nI_1 _) (by decide) rfl ?_
          refine wp_goto (tgt := 34) dX7_order_94 (by decide) ?_
          refine wp_sub [2, 3, 4, 1, 0] rfl ?_
          have q := ih (n + 1) (by omega)
          rw [rkN_n (by unfold lx; omega)] at q
          exact q
        · refine wp_iconst (v := 1) dX7_order_84 (by decide) ?_
          refine wp_goto (tgt := 89) dX7_order_85 (by decide) ?_
          refine wv_iadd (nI ((rkN (vL h 151) e n) + 1)) (wN_add rfl rfl) dX7_order_89 ?_
          refine wp_istore_n (lv' := [(3, .int (nI ((rkN (vL h 151) e n) + 1))), (0, .ref 100), (1, .int (nI i)), (2, .int (nI e)), (4, .int (nI n))]) dX7_order_90 rfl (by decide) rfl ?_
          refine wp_iinc (q := 4) (x := nI n) (v := nI (n + 1)) (lv' := [(4, .int (nI (n + 1))), (3, .int (nI ((rkN (vL h 151) e n) + 1))), (0, .ref 100), (1, .int (nI i)), (2, .int (nI e))]) dX7_order_91 rfl (nI_1 _) (by decide) rfl ?_
          refine wp_goto (tgt := 34) dX7_order_94 (by decide) ?_
          refine wp_sub [2, 3, 4, 1, 0] rfl ?_
          have q := ih (n + 1) (by omega)
          rw [rkN_y (by unfold lx; omega)] at q
          exact q
set_option maxRecDepth 100000 in
set_option maxHeartbeats 4000000 in
theorem or_e {g : GG} {h : HP} {Post : Option Value → HP → Prop} (ne : Nat) (E : Nat → Nat → Prop) (hM : ML h ne E) (i : Nat) (hi : i < ne) (hyes : ∀ e, e < ne → rkN (vL h 151) e ne = i → Post (some (.long (Int32.toInt64 (nI e)))) h) (hno : (∀ e, e < ne → rkN (vL h 151) e ne ≠ i) → Post (some (.long (-9000000000000000000))) h) : ∀ (k n : Nat), n + k = ne → (∀ e, e < n → rkN (vL h 151) e ne ≠ i) → WP g mX7_order 21 [(0, .ref 100), (1, .int (nI i)), (2, .int (nI n))] [] h 0 0 Post := by
  intro k
  have hne := hM.2.2.1
  induction k with
  | zero =>
    intro n e0 hN
    refine wp_iload_n dX7_order_21 rfl 2 rfl ?_
    refine wp_aload_n dX7_order_22 rfl 0 rfl ?_
    refine wv_getI (nI ne) dX7_order_23 flX7_246 rfl rfl hM.1.1 hM.2.1 ?_
    refine wi_icmp_ge (tgt := 111) ((n : Nat)) ((ne : Nat)) (nIt (by omega)) (nIt (by omega)) dX7_order_26 (by decide) (fun _ => ?_) (fun c_1 => absurd (by omega) c_1)
    refine wp_ldc2 dX7_order_111 cnX7_155 ?_
    refine wp_lret dX7_order_114 rfl (by decide) (by decide) ?_
    obtain rfl : n = ne := by omega
    exact hno hN
  | succ k ih =>
    intro n e0 hN
    refine wp_iload_n dX7_order_21 rfl 2 rfl ?_
    refine wp_aload_n dX7_order_22 rfl 0 rfl ?_
    refine wv_getI (nI ne) dX7_order_23 flX7_246 rfl rfl hM.1.1 hM.2.1 ?_
    refine wi_icmp_ge (tgt := 111) ((n : Nat)) ((ne : Nat)) (nIt (by omega)) (nIt (by omega)) dX7_order_26 (by decide) (fun c_1 => absurd c_1 (by omega)) (fun _ => ?_)
    refine wp_iconst (v := 0) dX7_order_29 (by decide) ?_
    refine wp_istore_n (lv' := [(3, .int 0), (0, .ref 100), (1, .int (nI i)), (2, .int (nI n))]) dX7_order_30 rfl (by decide) rfl ?_
    refine wp_iconst (v := 0) dX7_order_31 (by decide) ?_
    refine wp_istore (lv' := [(4, .int 0), (3, .int 0), (0, .ref 100), (1, .int (nI i)), (2, .int (nI n))]) dX7_order_32 (by decide) rfl ?_
    refine wp_sub [2, 3, 4, 1, 0] rfl ?_
    refine or_g ne E hM i n (by omega) ?_ ne 0 (by omega)
    have hcl := cntB_le (fun q => lxb (vL h 151) q n) ne
    have hcl2 : rkN (vL h 151) n ne ≤ ne := hcl
    refine wp_iload_n dX7_order_97 rfl 3 rfl ?_
    refine wp_iload_n dX7_order_98 rfl 1 rfl ?_
    refine wi_icmp_ne (tgt := 105) ((rkN (vL h 151) n ne : Nat)) ((i : Nat)) (nIt (by omega)) (nIt (by omega)) dX7_order_99 (by decide) (fun c_2 => ?_) (fun c_2 => ?_)
    · refine wp_iinc (q := 2) (x := nI n) (v := nI (n + 1)) (lv' := [(2, .int (nI (n + 1))), (0, .ref 100), (1, .int (nI i)), (3, .int (nI (rkN (vL h 151) n ne)))]) dX7_order_105 rfl (nI_1 _) (by decide) rfl ?_
      refine wp_goto (tgt := 21) dX7_order_108 (by decide) ?_
      refine wp_sub [1, 2, 0] rfl ?_
      exact ih (n + 1) (by omega) (fun e' he' => by
      rcases Nat.lt_succ_iff_lt_or_eq.mp he' with z | z
      · exact hN e' z
      · subst z; omega)
    · refine wp_iload_n dX7_order_102 rfl 2 rfl ?_
      refine wp_i2l dX7_order_103 ?_
      refine wp_lret dX7_order_104 rfl (by decide) (by decide) ?_
      exact hyes n (by omega) (by have := c_2; omega)
set_option maxRecDepth 100000 in
set_option maxHeartbeats 4000000 in
theorem cm_order {g : GG} {h : HP} {Post : Option Value → HP → Prop} (ne : Nat) (E : Nat → Nat → Prop) (hM : ML h ne E) (i : Nat) (hi : i < ne) (hc0 : ∀ h1, Ai 150 h h1 → cyc E → Post (some (.long (-9000000000000000000))) h1) (hyes : ∀ h1 w h', Ai 150 h h1 → LoN E ne h1 ne → WM ne h1 ne 0 w → Al 151 h1 h' → (∀ b, b < ne → TM ne h1 w b ne (vL h' 151 b).toInt) → ∀ e, e < ne → rkN (vL h' 151) e ne = i → Post (some (.long (Int32.toInt64 (nI e)))) h') (hno : ∀ h1 w h', Ai 150 h h1 → LoN E ne h1 ne → WM ne h1 ne 0 w → Al 151 h1 h' → (∀ b, b < ne → TM ne h1 w b ne (vL h' 151 b).toInt) → (∀ e, e < ne → rkN (vL h' 151) e ne ≠ i) → Post (some (.long (-9000000000000000000))) h') : CT g mX7_order [.ref 100, .int (nI i)] h Post := by
  show WP g mX7_order 0 [(0, .ref 100), (1, .int (nI i))] [] h 0 0 Post
  have hne := hM.2.2.1
  refine wp_aload_n dX7_order_0 rfl 0 rfl ?_
  refine wp_callV mX7_findTimes 100 [] [] (c := 7) dX7_order_1 iX7_findTimes (fun _ => trivial) mlX7_263 imX7_findTimes seX7_findTimes (by decide) rfl rfl ⟨by decide, by decide⟩ rfl rfl (Nat.le_of_ble_eq_true rfl) (Nat.le_of_ble_eq_true rfl) (by decide) (by decide) ?_
  refine cm_findTimes ne E hM (fun h1 w h' hA1 hL hw hA2 hT => ?_) (fun h1 hA1 hc => ?_)
  · show WP g mX7_order 4 [(0, .ref 100), (1, .int (nI i))] [.int 1] _ 0 0 _
    refine wp_if_eq (tgt := 15) dX7_order_4 (by decide) (fun c_1 => absurd c_1 (by decide)) (fun _ => ?_)
    refine wp_aload_n dX7_order_7 rfl 0 rfl ?_
    refine wp_iload_n dX7_order_8 rfl 1 rfl ?_
    refine wp_callV mX7_isEvent 100 [.int (nI i)] [] (c := 7) dX7_order_9 iX7_isEvent (fun _ => trivial) mlX7_249 imX7_isEvent seX7_isEvent (by decide) rfl rfl ⟨by decide, by decide⟩ rfl rfl (Nat.le_of_ble_eq_true rfl) (Nat.le_of_ble_eq_true rfl) (by decide) (by decide) ?_
    refine ct_isEvent ne (ML_al (ML_ai (by decide) hM hA1) hA2).1 (ML_al (ML_ai (by decide) hM hA1) hA2).2.1 (by omega) i hi ?_
    show WP g mX7_order 12 [(0, .ref 100), (1, .int (nI i))] [.int 1] _ 0 0 _
    refine wp_if_ne (tgt := 19) dX7_order_12 (by decide) (fun _ => ?_) (fun c_2 => absurd c_2 (by decide))
    refine wp_iconst (v := 0) dX7_order_19 (by decide) ?_
    refine wp_istore_n (lv' := [(2, .int 0), (0, .ref 100), (1, .int (nI i))]) dX7_order_20 rfl (by decide) rfl ?_
    refine wp_sub [1, 2, 0] rfl ?_
    exact or_e ne E (ML_al (ML_ai (by decide) hM hA1) hA2) i hi (hyes h1 w h' hA1 hL hw hA2 hT) (hno h1 w h' hA1 hL hw hA2 hT) ne 0 (by omega) (fun _ z => absurd z (Nat.not_lt_zero _))
  · show WP g mX7_order 4 [(0, .ref 100), (1, .int (nI i))] [.int 0] _ 0 0 _
    refine wp_if_eq (tgt := 15) dX7_order_4 (by decide) (fun _ => ?_) (fun c_3 => absurd (by decide) c_3)
    refine wp_ldc2 dX7_order_15 cnX7_155 ?_
    refine wp_lret dX7_order_18 rfl (by decide) (by decide) ?_
    exact hc0 h1 hA1 hc
