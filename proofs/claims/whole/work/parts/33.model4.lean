/-! contracts: the model's gathering and votes -/
theorem vI_sP {h : HP} {a k : Nat} {v : Option Nat} : vI (sP h a k v) = vI h := rfl
theorem vL_sP {h : HP} {a k : Nat} {v : Option Nat} : vL (sP h a k v) = vL h := rfl
theorem vP_sI {h : HP} {a k : Nat} {v : Int32} : vP (sI h a k v) = vP h := rfl
theorem vP_sL {h : HP} {a k : Nat} {v : Int64} : vP (sL h a k v) = vP h := rfl
theorem liv_sI {h : HP} {a k : Nat} {v : Int32} : liv (sI h a k v) = liv h := rfl
theorem liv_sL {h : HP} {a k : Nat} {v : Int64} : liv (sL h a k v) = liv h := rfl
theorem liv_sP {h : HP} {a k : Nat} {v : Option Nat} : liv (sP h a k v) = liv h := rfl
theorem mH_congr {h h' : HP} (e : ∀ a, (a = 100 ∨ (104 ≤ a ∧ a ≤ 111) ∨ (120 ≤ a ∧ a ≤ 122)) → vL h' a = vL h a) (e2 : vI h' 103 = vI h 103) (t q : Nat) : mHL h' t q = mHL h t q ∧ mHH h' t q = mHH h t q := by
  obtain ⟨c1, -, -, c2, c3, -⟩ := mCong (h := h) (h' := h') (fun a ha => e a (by omega)) e2 t
  constructor
  · unfold mHL; rw [c1, c2, e 120 (by omega), e 122 (by omega)]
  · unfold mHH; rw [c1, c3, e 121 (by omega), e 122 (by omega)]
def maH (h : HP) (s : Nat) (n : Nat) (lo hi : Int64) : HP := sI (sL (sL (sI h 142 s (nI n)) 143 s lo) 144 s hi) 100 40 (nI (s + 1))
def mIn (h : HP) (m n : Nat) : Prop := n = m ∨ ¬ vI h 119 (10 * m + n) = 0
def mSL (h : HP) (m n : Nat) : Int64 := if n = m then mLo h m else mHL h m (10 * m + n)
def mSH (h : HP) (m n : Nat) : Int64 := if n = m then mHi h m else mHH h m (10 * m + n)
noncomputable def mz (h : HP) (m : Nat) : Nat → Nat
  | 0 => 0
  | n + 1 => mz h m n + (@ite Nat (mIn h m n) (Classical.propDecidable _) 1 0)
noncomputable def mgH (h : HP) (m : Nat) : Nat → HP
  | 0 => sI h 100 40 0
  | n + 1 => @ite HP (mIn h m n) (Classical.propDecidable _) (maH (mgH h m n) (mz h m n) n (mSL h m n) (mSH h m n)) (mgH h m n)
theorem mz_y {h : HP} {m n : Nat} (hv : mIn h m n) : mz h m (n + 1) = mz h m n + 1 := by show _ + (@ite Nat _ (Classical.propDecidable _) 1 0) = _; rw [if_pos hv]
theorem mz_n {h : HP} {m n : Nat} (hv : ¬ mIn h m n) : mz h m (n + 1) = mz h m n := by show _ + (@ite Nat _ (Classical.propDecidable _) 1 0) = _; rw [if_neg hv]; rfl
theorem mg_y {h : HP} {m n : Nat} (hv : mIn h m n) : mgH h m (n + 1) = maH (mgH h m n) (mz h m n) n (mSL h m n) (mSH h m n) := by show @ite HP _ (Classical.propDecidable _) _ _ = _; rw [if_pos hv]
theorem mg_n {h : HP} {m n : Nat} (hv : ¬ mIn h m n) : mgH h m (n + 1) = mgH h m n := by show @ite HP _ (Classical.propDecidable _) _ _ = _; rw [if_neg hv]
theorem mz_le (h : HP) (m : Nat) : ∀ n, mz h m n ≤ n
  | 0 => Nat.le_refl 0
  | n + 1 => by
    have := mz_le h m n
    show _ + (@ite Nat _ (Classical.propDecidable _) 1 0) ≤ _
    split <;> omega
theorem mg_k (h : HP) (m : Nat) : ∀ n, liv (mgH h m n) = liv h ∧ vP (mgH h m n) = vP h ∧ (∀ a, a ≠ 100 → a ≠ 142 → vI (mgH h m n) a = vI h a) ∧ (∀ k, k ≠ 40 → vI (mgH h m n) 100 k = vI h 100 k) ∧ (∀ a, a ≠ 143 → a ≠ 144 → vL (mgH h m n) a = vL h a) ∧ vI (mgH h m n) 100 40 = nI (mz h m n)
  | 0 => ⟨rfl, rfl, fun a h1 _ => vIn h1, fun k hk => vIj hk, fun _ _ _ => rfl, vIs⟩
  | n + 1 => by
    obtain ⟨h1, h2, h3, h4, h5, h6⟩ := mg_k h m n
    by_cases hv : mIn h m n
    · rw [mg_y hv, mz_y hv]
      refine ⟨h1, h2, fun a q1 q2 => ?_, fun k hk => ?_, fun a q1 q2 => ?_, vIs⟩
      · unfold maH; rw [vIn q1, vI_sL, vI_sL, vIn q2]; exact h3 a q1 q2
      · unfold maH; rw [vIj hk, vI_sL, vI_sL, vIn (by decide)]; exact h4 k hk
      · unfold maH; rw [vL_sI, vLn q2, vLn q1, vL_sI]; exact h5 a q1 q2
    · rw [mg_n hv, mz_n hv]; exact ⟨h1, h2, h3, h4, h5, h6⟩
set_option maxRecDepth 100000 in
set_option maxHeartbeats 4000000 in
theorem lm_gather {g : GG} {h : HP} {Post : Option Value → HP → Prop} (nm m : Nat) (hm : m < 10) (hW : MW h) (hc1 : vI h 100 1 = nI nm) (hnm : nm ≤ 10) (hd : DV h m) (hp : Post none (mgH h m nm)) : ∀ (k n : Nat), n + k = nm → WP g mX7_gather 7 [(0, .ref 100), (1, .int (nI m)), (2, .int (nI n))] [] (mgH h m n) 0 0 Post := by
  intro k
  induction k with
  | zero =>
    intro n e0
    refine wp_iload_n dX7_gather_7 rfl 2 rfl ?_
    refine wp_aload_n dX7_gather_8 rfl 0 rfl ?_
    refine wv_getI (nI nm) dX7_gather_9 flX7_139 rfl rfl (by (try simp only [liv_sI, liv_sL]); rw [(mg_k h m n).1]; exact hW.1) (by rw [(mg_k h m n).2.2.2.1 1 (by decide)]; exact hc1) ?_
    refine wp_icmp_ge (tgt := 116) dX7_gather_12 (by decide) (fun _ => ?_) (fun c_1 => absurd (nI_le (by omega) (by omega)) c_1)
    refine wp_vret dX7_gather_116 rfl (by decide) (by decide) ?_
    rw [show n = nm by omega]
    exact hp
  | succ k ih =>
    intro n e0
    refine wp_iload_n dX7_gather_7 rfl 2 rfl ?_
    refine wp_aload_n dX7_gather_8 rfl 0 rfl ?_
    refine wv_getI (nI nm) dX7_gather_9 flX7_139 rfl rfl (by (try simp only [liv_sI, liv_sL]); rw [(mg_k h m n).1]; exact hW.1) (by rw [(mg_k h m n).2.2.2.1 1 (by decide)]; exact hc1) ?_
    refine wp_icmp_ge (tgt := 116) dX7_gather_12 (by decide) (fun c_1 => absurd c_1 (nI_ge (by omega) (by omega))) (fun _ => ?_)
    by_cases enm : n = m
    · refine wp_iload_n dX7_gather_15 rfl 2 rfl ?_
      refine wp_iload_n dX7_gather_16 rfl 1 rfl ?_
      refine wp_icmp_eq (tgt := 34) dX7_gather_17 (by decide) (fun _ => ?_) (fun c_2 => absurd (by rw [enm]) c_2)
      refine wp_aload_n dX7_gather_34 rfl 0 rfl ?_
      refine wp_getP (b := 142) dX7_gather_35 flX7_114 rfl rfl (by (try simp only [liv_sI, liv_sL]); rw [(mg_k h m n).1]; exact hW.1) (by (try simp only [vP_sI, vP_sL]); rw [(mg_k h m n).2.1]; exact (hW.2 41 rfl).2) ?_
      refine wp_aload_n dX7_gather_38 rfl 0 rfl ?_
      refine wv_getI (nI (mz h m n)) dX7_gather_39 flX7_212 rfl rfl (by (try simp only [liv_sI, liv_sL]); rw [(mg_k h m n).1]; exact hW.1) (mg_k h m n).2.2.2.2.2 ?_
      refine wp_iload_n dX7_gather_42 rfl 2 rfl ?_
      refine wv_iast (mz h m n) dX7_gather_43 rfl (by (try simp only [liv_sI, liv_sL]); rw [(mg_k h m n).1]; exact (hW.2 41 rfl).1) rfl (by have := mz_le h m n; show mz h m n < 10; omega) ?_
      refine wp_aload_n dX7_gather_44 rfl 0 rfl ?_
      refine wp_getP (b := 143) dX7_gather_45 flX7_117 rfl rfl (by (try simp only [liv_sI, liv_sL]); rw [(mg_k h m n).1]; exact hW.1) (by (try simp only [vP_sI, vP_sL]); rw [(mg_k h m n).2.1]; exact (hW.2 42 rfl).2) ?_
      refine wp_pc (pc' := 48) rfl ?_
      refine wp_aload_n dX7_gather_48 rfl 0 rfl ?_
      refine wv_getI (nI (mz h m n)) dX7_gather_49 flX7_212 rfl rfl (by (try simp only [liv_sI, liv_sL]); rw [(mg_k h m n).1]; exact hW.1) (by (try simp only [vI_sL]); rw [vIn (by decide)]; exact (mg_k h m n).2.2.2.2.2) ?_
      refine wp_iload_n dX7_gather_52 rfl 2 rfl ?_
      refine wp_iload_n dX7_gather_53 rfl 1 rfl ?_
      refine wp_icmp_ne (tgt := 65) dX7_gather_54 (by decide) (fun c_3 => absurd (by rw [enm]) c_3) (fun _ => ?_)
      refine wp_aload_n dX7_gather_57 rfl 0 rfl ?_
      refine wp_iload_n dX7_gather_58 rfl 1 rfl ?_
      refine wp_callV mX7_lowOf 100 [.int (nI m)] [.int (nI (mz h m n)), .ref 143] (c := 7) dX7_gather_59 iX7_lowOf (fun _ => trivial) mlX7_187 imX7_lowOf seX7_lowOf (by decide) rfl rfl ⟨by decide, by decide⟩ rfl rfl (Nat.le_of_ble_eq_true rfl) (Nat.le_of_ble_eq_true rfl) (by decide) (by decide) ?_
      have mc := mCong (h := h) (h' := (sI (mgH h m n) 142 (mz h m n) (nI n))) (fun a ha => by (repeat first | rw [vL_sI] | rw [vLn (by omega)]); exact (mg_k h m n).2.2.2.2.1 a (by omega) (by omega)) (by (repeat first | rw [vI_sL] | rw [vIn (by decide)]); exact (mg_k h m n).2.2.1 103 (by decide) (by decide)) m
      refine cm_lowOf m hm (MW_eq (h := h) (h' := (sI (mgH h m n) 142 (mz h m n) (nI n))) (by (try simp only [liv_sI, liv_sL]); exact (mg_k h m n).1) (by (try simp only [vP_sI, vP_sL]); exact (mg_k h m n).2.1) hW) (mc.2.2.2.2.2 hd) ?_
      rw [mc.2.1]
      show WP g mX7_gather 62 [(0, .ref 100), (1, .int (nI m)), (2, .int (nI n))] [.long (mLo h m), .int (nI (mz h m n)), .ref 143] _ 0 0 _
      refine wp_goto (tgt := 71) dX7_gather_62 (by decide) ?_
      refine wv_last (mz h m n) dX7_gather_71 rfl (by (try simp only [liv_sI, liv_sL]); rw [(mg_k h m n).1]; exact (hW.2 42 rfl).1) rfl (by have := mz_le h m n; show mz h m n < 10; omega) ?_
      refine wp_aload_n dX7_gather_72 rfl 0 rfl ?_
      refine wp_getP (b := 144) dX7_gather_73 flX7_120 rfl rfl (by (try simp only [liv_sI, liv_sL]); rw [(mg_k h m n).1]; exact hW.1) (by (try simp only [vP_sI, vP_sL]); rw [(mg_k h m n).2.1]; exact (hW.2 43 rfl).2) ?_
      refine wp_aload_n dX7_gather_76 rfl 0 rfl ?_
      refine wv_getI (nI (mz h m n)) dX7_gather_77 flX7_212 rfl rfl (by (try simp only [liv_sI, liv_sL]); rw [(mg_k h m n).1]; exact hW.1) (by (try simp only [vI_sL]); rw [vIn (by decide)]; exact (mg_k h m n).2.2.2.2.2) ?_
      refine wp_iload_n dX7_gather_80 rfl 2 rfl ?_
      refine wp_pc (pc' := 81) rfl ?_
      refine wp_iload_n dX7_gather_81 rfl 1 rfl ?_
      refine wp_icmp_ne (tgt := 93) dX7_gather_82 (by decide) (fun c_4 => absurd (by rw [enm]) c_4) (fun _ => ?_)
      refine wp_aload_n dX7_gather_85 rfl 0 rfl ?_
      refine wp_iload_n dX7_gather_86 rfl 1 rfl ?_
      refine wp_callV mX7_highOf 100 [.int (nI m)] [.int (nI (mz h m n)), .ref 144] (c := 7) dX7_gather_87 iX7_highOf (fun _ => trivial) mlX7_190 imX7_highOf seX7_highOf (by decide) rfl rfl ⟨by decide, by decide⟩ rfl rfl (Nat.le_of_ble_eq_true rfl) (Nat.le_of_ble_eq_true rfl) (by decide) (by decide) ?_
      have mc := mCong (h := h) (h' := (sL (sI (mgH h m n) 142 (mz h m n) (nI n)) 143 (mz h m n) (mLo h m))) (fun a ha => by (repeat first | rw [vL_sI] | rw [vLn (by omega)]); exact (mg_k h m n).2.2.2.2.1 a (by omega) (by omega)) (by (repeat first | rw [vI_sL] | rw [vIn (by decide)]); exact (mg_k h m n).2.2.1 103 (by decide) (by decide)) m
      refine cm_highOf m hm (MW_eq (h := h) (h' := (sL (sI (mgH h m n) 142 (mz h m n) (nI n)) 143 (mz h m n) (mLo h m))) (by (try simp only [liv_sI, liv_sL]); exact (mg_k h m n).1) (by (try simp only [vP_sI, vP_sL]); exact (mg_k h m n).2.1) hW) (mc.2.2.2.2.2 hd) ?_
      rw [mc.2.2.1]
      show WP g mX7_gather 90 [(0, .ref 100), (1, .int (nI m)), (2, .int (nI n))] [.long (mHi h m), .int (nI (mz h m n)), .ref 144] _ 0 0 _
      refine wp_goto (tgt := 99) dX7_gather_90 (by decide) ?_
      refine wv_last (mz h m n) dX7_gather_99 rfl (by (try simp only [liv_sI, liv_sL]); rw [(mg_k h m n).1]; exact (hW.2 43 rfl).1) rfl (by have := mz_le h m n; show mz h m n < 10; omega) ?_
      refine wp_aload_n dX7_gather_100 rfl 0 rfl ?_
      refine wp_dup dX7_gather_101 rfl ?_
      refine wv_getI (nI (mz h m n)) dX7_gather_102 flX7_212 rfl rfl (by (try simp only [liv_sI, liv_sL]); rw [(mg_k h m n).1]; exact hW.1) (by (try simp only [vI_sL]); rw [vIn (by decide)]; exact (mg_k h m n).2.2.2.2.2) ?_
      refine wp_iconst (v := 1) dX7_gather_105 (by decide) ?_
      refine wv_iadd (nI ((mz h m n) + 1)) (wN_add rfl rfl) dX7_gather_106 ?_
      refine wp_putI dX7_gather_107 flX7_212 (Or.inl rfl) rfl rfl rfl rfl (by (try simp only [liv_sI, liv_sL]); rw [(mg_k h m n).1]; exact hW.1) ?_
      refine wp_iinc (q := 2) (x := nI n) (v := nI (n + 1)) (lv' := [(2, .int (nI (n + 1))), (0, .ref 100), (1, .int (nI m))]) dX7_gather_110 rfl (nI_1 _) (by decide) rfl ?_
      refine wp_goto (tgt := 7) dX7_gather_113 (by decide) ?_
      refine wp_pc (pc' := 7) rfl ?_
      refine wp_sub [1, 2, 0] rfl ?_
      have q := ih (n + 1) (by omega)
      rw [mg_y (Or.inl enm), show mSL h m n = mLo h m from if_pos enm, show mSH h m n = mHi h m from if_pos enm] at q
      exact q
    · refine wp_iload_n dX7_gather_15 rfl 2 rfl ?_
      refine wp_iload_n dX7_gather_16 rfl 1 rfl ?_
      refine wp_icmp_eq (tgt := 34) dX7_gather_17 (by decide) (fun c_5 => absurd c_5 (fun z => enm ((nI_eq (by omega) (by omega)).mp z))) (fun _ => ?_)
      refine wp_aload_n dX7_gather_20 rfl 0 rfl ?_
      refine wp_getP (b := 119) dX7_gather_21 flX7_60 rfl rfl (by (try simp only [liv_sI, liv_sL]); rw [(mg_k h m n).1]; exact hW.1) (by (try simp only [vP_sI, vP_sL]); rw [(mg_k h m n).2.1]; exact (hW.2 18 rfl).2) ?_
      refine wp_bipush (v := 10) dX7_gather_24 (by decide) ?_
      refine wp_iload_n dX7_gather_26 rfl 1 rfl ?_
      refine wv_imul (nI (10 * m)) (wN_mul rfl rfl) dX7_gather_27 ?_
      refine wp_iload_n dX7_gather_28 rfl 2 rfl ?_
      refine wv_iadd (nI ((10 * m) + n)) (wN_add rfl rfl) dX7_gather_29 ?_
      refine wv_bald (10 * m + n) (vI h 119 (10 * m + n)) dX7_gather_30 rfl (by (try simp only [liv_sI, liv_sL]); rw [(mg_k h m n).1]; exact (hW.2 18 rfl).1) rfl (by show 10 * m + n < 100; omega) (by rw [(mg_k h m n).2.2.1 119 (by decide) (by decide)]) ?_
      refine wp_pc (pc' := 31) rfl ?_
      refine wp_if_eq (tgt := 110) dX7_gather_31 (by decide) (fun c_6 => ?_) (fun c_6 => ?_)
      · refine wp_iinc (q := 2) (x := nI n) (v := nI (n + 1)) (lv' := [(2, .int (nI (n + 1))), (0, .ref 100), (1, .int (nI m))]) dX7_gather_110 rfl (nI_1 _) (by decide) rfl ?_
        refine wp_goto (tgt := 7) dX7_gather_113 (by decide) ?_
        refine wp_sub [1, 2, 0] rfl ?_
        have q := ih (n + 1) (by omega)
        rw [mg_n (fun z => z.elim enm (fun y => y c_6))] at q
        exact q
      · refine wp_aload_n dX7_gather_34 rfl 0 rfl ?_
        refine wp_getP (b := 142) dX7_gather_35 flX7_114 rfl rfl (by (try simp only [liv_sI, liv_sL]); rw [(mg_k h m n).1]; exact hW.1) (by (try simp only [vP_sI, vP_sL]); rw [(mg_k h m n).2.1]; exact (hW.2 41 rfl).2) ?_
        refine wp_aload_n dX7_gather_38 rfl 0 rfl ?_
        refine wv_getI (nI (mz h m n)) dX7_gather_39 flX7_212 rfl rfl (by (try simp only [liv_sI, liv_sL]); rw [(mg_k h m n).1]; exact hW.1) (mg_k h m n).2.2.2.2.2 ?_
        refine wp_iload_n dX7_gather_42 rfl 2 rfl ?_
        refine wv_iast (mz h m n) dX7_gather_43 rfl (by (try simp only [liv_sI, liv_sL]); rw [(mg_k h m n).1]; exact (hW.2 41 rfl).1) rfl (by have := mz_le h m n; show mz h m n < 10; omega) ?_
        refine wp_aload_n dX7_gather_44 rfl 0 rfl ?_
        refine wp_getP (b := 143) dX7_gather_45 flX7_117 rfl rfl (by (try simp only [liv_sI, liv_sL]); rw [(mg_k h m n).1]; exact hW.1) (by (try simp only [vP_sI, vP_sL]); rw [(mg_k h m n).2.1]; exact (hW.2 42 rfl).2) ?_
        refine wp_aload_n dX7_gather_48 rfl 0 rfl ?_
        refine wv_getI (nI (mz h m n)) dX7_gather_49 flX7_212 rfl rfl (by (try simp only [liv_sI, liv_sL]); rw [(mg_k h m n).1]; exact hW.1) (by (try simp only [vI_sL]); rw [vIn (by decide)]; exact (mg_k h m n).2.2.2.2.2) ?_
        refine wp_iload_n dX7_gather_52 rfl 2 rfl ?_
        refine wp_iload_n dX7_gather_53 rfl 1 rfl ?_
        refine wp_icmp_ne (tgt := 65) dX7_gather_54 (by decide) (fun _ => ?_) (fun c_7 => absurd c_7 (fun z => enm ((nI_eq (by omega) (by omega)).mp z)))
        refine wp_aload_n dX7_gather_65 rfl 0 rfl ?_
        refine wp_pc (pc' := 66) rfl ?_
        refine wp_iload_n dX7_gather_66 rfl 1 rfl ?_
        refine wp_iload_n dX7_gather_67 rfl 2 rfl ?_
        refine wp_callV mX7_heardLowOf 100 [.int (nI m), .int (nI n)] [.int (nI (mz h m n)), .ref 143] (c := 7) dX7_gather_68 iX7_heardLowOf (fun _ => trivial) mlX7_205 imX7_heardLowOf seX7_heardLowOf (by decide) rfl rfl ⟨by decide, by decide⟩ rfl rfl (Nat.le_of_ble_eq_true rfl) (Nat.le_of_ble_eq_true rfl) (by decide) (by decide) ?_
        have mc := mCong (h := h) (h' := (sI (mgH h m n) 142 (mz h m n) (nI n))) (fun a ha => by (repeat first | rw [vL_sI] | rw [vLn (by omega)]); exact (mg_k h m n).2.2.2.2.1 a (by omega) (by omega)) (by (repeat first | rw [vI_sL] | rw [vIn (by decide)]); exact (mg_k h m n).2.2.1 103 (by decide) (by decide)) m
        have mh := mH_congr (h := h) (h' := (sI (mgH h m n) 142 (mz h m n) (nI n))) (fun a ha => by (repeat first | rw [vL_sI] | rw [vLn (by omega)]); exact (mg_k h m n).2.2.2.2.1 a (by omega) (by omega)) (by (repeat first | rw [vI_sL] | rw [vIn (by decide)]); exact (mg_k h m n).2.2.1 103 (by decide) (by decide)) m (10 * m + n)
        refine cm_heardLowOf m hm (MW_eq (h := h) (h' := (sI (mgH h m n) 142 (mz h m n) (nI n))) (by (try simp only [liv_sI, liv_sL]); exact (mg_k h m n).1) (by (try simp only [vP_sI, vP_sL]); exact (mg_k h m n).2.1) hW) (mc.2.2.2.2.2 hd) n (by omega) ?_
        rw [mh.1]
        show WP g mX7_gather 71 [(0, .ref 100), (1, .int (nI m)), (2, .int (nI n))] [.long (mHL h m (10 * m + n)), .int (nI (mz h m n)), .ref 143] _ 0 0 _
        refine wv_last (mz h m n) dX7_gather_71 rfl (by (try simp only [liv_sI, liv_sL]); rw [(mg_k h m n).1]; exact (hW.2 42 rfl).1) rfl (by have := mz_le h m n; show mz h m n < 10; omega) ?_
        refine wp_aload_n dX7_gather_72 rfl 0 rfl ?_
        refine wp_getP (b := 144) dX7_gather_73 flX7_120 rfl rfl (by (try simp only [liv_sI, liv_sL]); rw [(mg_k h m n).1]; exact hW.1) (by (try simp only [vP_sI, vP_sL]); rw [(mg_k h m n).2.1]; exact (hW.2 43 rfl).2) ?_
        refine wp_aload_n dX7_gather_76 rfl 0 rfl ?_
        refine wv_getI (nI (mz h m n)) dX7_gather_77 flX7_212 rfl rfl (by (try simp only [liv_sI, liv_sL]); rw [(mg_k h m n).1]; exact hW.1) (by (try simp only [vI_sL]); rw [vIn (by decide)]; exact (mg_k h m n).2.2.2.2.2) ?_
        refine wp_iload_n dX7_gather_80 rfl 2 rfl ?_
        refine wp_iload_n dX7_gather_81 rfl 1 rfl ?_
        refine wp_icmp_ne (tgt := 93) dX7_gather_82 (by decide) (fun _ => ?_) (fun c_8 => absurd c_8 (fun z => enm ((nI_eq (by omega) (by omega)).mp z)))
        refine wp_aload_n dX7_gather_93 rfl 0 rfl ?_
        refine wp_iload_n dX7_gather_94 rfl 1 rfl ?_
        refine wp_iload_n dX7_gather_95 rfl 2 rfl ?_
        refine wp_callV mX7_heardHighOf 100 [.int (nI m), .int (nI n)] [.int (nI (mz h m n)), .ref 144] (c := 7) dX7_gather_96 iX7_heardHighOf (fun _ => trivial) mlX7_209 imX7_heardHighOf seX7_heardHighOf (by decide) rfl rfl ⟨by decide, by decide⟩ rfl rfl (Nat.le_of_ble_eq_true rfl) (Nat.le_of_ble_eq_true rfl) (by decide) (by decide) ?_
        have mc := mCong (h := h) (h' := (sL (sI (mgH h m n) 142 (mz h m n) (nI n)) 143 (mz h m n) (mHL h m (10 * m + n)))) (fun a ha => by (repeat first | rw [vL_sI] | rw [vLn (by omega)]); exact (mg_k h m n).2.2.2.2.1 a (by omega) (by omega)) (by (repeat first | rw [vI_sL] | rw [vIn (by decide)]); exact (mg_k h m n).2.2.1 103 (by decide) (by decide)) m
        have mh := mH_congr (h := h) (h' := (sL (sI (mgH h m n) 142 (mz h m n) (nI n)) 143 (mz h m n) (mHL h m (10 * m + n)))) (fun a ha => by (repeat first | rw [vL_sI] | rw [vLn (by omega)]); exact (mg_k h m n).2.2.2.2.1 a (by omega) (by omega)) (by (repeat first | rw [vI_sL] | rw [vIn (by decide)]); exact (mg_k h m n).2.2.1 103 (by decide) (by decide)) m (10 * m + n)
        refine cm_heardHighOf m hm (MW_eq (h := h) (h' := (sL (sI (mgH h m n) 142 (mz h m n) (nI n)) 143 (mz h m n) (mHL h m (10 * m + n)))) (by (try simp only [liv_sI, liv_sL]); exact (mg_k h m n).1) (by (try simp only [vP_sI, vP_sL]); exact (mg_k h m n).2.1) hW) (mc.2.2.2.2.2 hd) n (by omega) ?_
        rw [mh.2]
        show WP g mX7_gather 99 [(0, .ref 100), (1, .int (nI m)), (2, .int (nI n))] [.long (mHH h m (10 * m + n)), .int (nI (mz h m n)), .ref 144] _ 0 0 _
        refine wp_pc (pc' := 99) rfl ?_
        refine wv_last (mz h m n) dX7_gather_99 rfl (by (try simp only [liv_sI, liv_sL]); rw [(mg_k h m n).1]; exact (hW.2 43 rfl).1) rfl (by have := mz_le h m n; show mz h m n < 10; omega) ?_
        refine wp_aload_n dX7_gather_100 rfl 0 rfl ?_
        refine wp_dup dX7_gather_101 rfl ?_
        refine wv_getI (nI (mz h m n)) dX7_gather_102 flX7_212 rfl rfl (by (try simp only [liv_sI, liv_sL]); rw [(mg_k h m n).1]; exact hW.1) (by (try simp only [vI_sL]); rw [vIn (by decide)]; exact (mg_k h m n).2.2.2.2.2) ?_
        refine wp_iconst (v := 1) dX7_gather_105 (by decide) ?_
        refine wv_iadd (nI ((mz h m n) + 1)) (wN_add rfl rfl) dX7_gather_106 ?_
        refine wp_putI dX7_gather_107 flX7_212 (Or.inl rfl) rfl rfl rfl rfl (by (try simp only [liv_sI, liv_sL]); rw [(mg_k h m n).1]; exact hW.1) ?_
        refine wp_iinc (q := 2) (x := nI n) (v := nI (n + 1)) (lv' := [(2, .int (nI (n + 1))), (0, .ref 100), (1, .int (nI m))]) dX7_gather_110 rfl (nI_1 _) (by decide) rfl ?_
        refine wp_goto (tgt := 7) dX7_gather_113 (by decide) ?_
        refine wp_sub [1, 2, 0] rfl ?_
        have q := ih (n + 1) (by omega)
        rw [mg_y (Or.inr c_6), show mSL h m n = _ from if_neg enm, show mSH h m n = _ from if_neg enm] at q
        exact q
set_option maxRecDepth 100000 in
set_option maxHeartbeats 4000000 in
theorem cm_gather {g : GG} {h : HP} {Post : Option Value → HP → Prop} (nm m : Nat) (hm : m < 10) (hW : MW h) (hc1 : vI h 100 1 = nI nm) (hnm : nm ≤ 10) (hd : DV h m) (hp : Post none (mgH h m nm)) : CT g mX7_gather [.ref 100, .int (nI m)] h Post := by
  show WP g mX7_gather 0 [(0, .ref 100), (1, .int (nI m))] [] h 0 0 Post
  refine wp_aload_n dX7_gather_0 rfl 0 rfl ?_
  refine wp_iconst (v := 0) dX7_gather_1 (by decide) ?_
  refine wp_putI dX7_gather_2 flX7_212 (Or.inl rfl) rfl rfl rfl rfl hW.1 ?_
  refine wp_iconst (v := 0) dX7_gather_5 (by decide) ?_
  refine wp_istore_n (lv' := [(2, .int 0), (0, .ref 100), (1, .int (nI m))]) dX7_gather_6 rfl (by decide) rfl ?_
  refine wp_sub [1, 2, 0] rfl ?_
  exact lm_gather nm m hm hW hc1 hnm hd hp nm 0 (by omega)
set_option maxRecDepth 100000 in
set_option maxHeartbeats 4000000 in
theorem lm_votesFor {g : GG} {h : HP} {Post : Option Value → HP → Prop} (s : Nat) (hs : s ≤ 10) (hW : MW h) (hc40 : vI h 100 40 = nI s) (t : Int64) (hp : Post (some (.int (nI (hvN (vL h 143) (vL h 144) t s)))) h) : ∀ (k n : Nat), n + k = s → WP g mX7_votesFor 5 [(0, .ref 100), (1, .long t), (3, .int (nI (hvN (vL h 143) (vL h 144) t n))), (4, .int (nI n))] [] h 0 0 Post := by
  intro k
  induction k with
  | zero =>
    intro n e0
    refine wp_iload dX7_votesFor_5 3 rfl ?_
    refine wp_aload_n dX7_votesFor_7 rfl 0 rfl ?_
    refine wv_getI (nI s) dX7_votesFor_8 flX7_212 rfl rfl hW.1 hc40 ?_
    refine wp_icmp_ge (tgt := 49) dX7_votesFor_11 (by decide) (fun _ => ?_) (fun c_1 => absurd (nI_le (by omega) (by omega)) c_1)
    refine wp_iload_n dX7_votesFor_49 rfl 2 rfl ?_
    refine wp_iret dX7_votesFor_50 rfl (by decide) (by decide) ?_
    rw [show n = s by omega]
    exact hp
  | succ k ih =>
    intro n e0
    refine wp_iload dX7_votesFor_5 3 rfl ?_
    refine wp_aload_n dX7_votesFor_7 rfl 0 rfl ?_
    refine wv_getI (nI s) dX7_votesFor_8 flX7_212 rfl rfl hW.1 hc40 ?_
    refine wp_icmp_ge (tgt := 49) dX7_votesFor_11 (by decide) (fun c_1 => absurd c_1 (nI_ge (by omega) (by omega))) (fun _ => ?_)
    refine wp_iload_n dX7_votesFor_14 rfl 2 rfl ?_
    refine wp_lload_n dX7_votesFor_15 rfl 1 rfl ?_
    refine wp_aload_n dX7_votesFor_16 rfl 0 rfl ?_
    refine wp_getP (b := 143) dX7_votesFor_17 flX7_117 rfl rfl hW.1 (hW.2 42 rfl).2 ?_
    refine wp_iload dX7_votesFor_20 3 rfl ?_
    refine wv_lald n (vL h 143 n) dX7_votesFor_22 rfl (hW.2 42 rfl).1 rfl (by show n < 10; omega) rfl ?_
    refine wp_aload_n dX7_votesFor_23 rfl 0 rfl ?_
    refine wp_getP (b := 144) dX7_votesFor_24 flX7_120 rfl rfl hW.1 (hW.2 43 rfl).2 ?_
    refine wp_iload dX7_votesFor_27 3 rfl ?_
    refine wv_lald n (vL h 144 n) dX7_votesFor_29 rfl (hW.2 43 rfl).1 rfl (by show n < 10; omega) rfl ?_
    refine wp_callS mX7_in [.long t, .long (vL h 143 n), .long (vL h 144 n)] [.int (nI (hvN (vL h 143) (vL h 144) t n))] dX7_votesFor_30 iX7_in (fun _ => trivial) mlX7_143 stX7_in ⟨by decide, by decide⟩ rfl rfl (Nat.le_of_ble_eq_true rfl) (Nat.le_of_ble_eq_true rfl) (by decide) (by decide) ?_
    refine ct_in t (vL h 143 n) (vL h 144 n) _ _ _ rfl rfl rfl (fun z => ?_) (fun z => ?_)
    · show WP g mX7_votesFor 33 [(0, .ref 100), (1, .long t), (3, .int (nI (hvN (vL h 143) (vL h 144) t n))), (4, .int (nI n))] [.int 1, .int (nI (hvN (vL h 143) (vL h 144) t n))] _ 0 0 _
      refine wp_if_eq (tgt := 40) dX7_votesFor_33 (by decide) (fun c_2 => absurd c_2 (by decide)) (fun _ => ?_)
      refine wp_pc (pc' := 36) rfl ?_
      refine wp_iconst (v := 1) dX7_votesFor_36 (by decide) ?_
      refine wp_goto (tgt := 41) dX7_votesFor_37 (by decide) ?_
      refine wv_iadd (nI ((hvN (vL h 143) (vL h 144) t n) + 1)) (wN_add rfl rfl) dX7_votesFor_41 ?_
      refine wp_istore_n (lv' := [(3, .int (nI ((hvN (vL h 143) (vL h 144) t n) + 1))), (0, .ref 100), (1, .long t), (4, .int (nI n))]) dX7_votesFor_42 rfl (by decide) rfl ?_
      refine wp_iinc (q := 3) (x := nI n) (v := nI (n + 1)) (lv' := [(4, .int (nI (n + 1))), (3, .int (nI ((hvN (vL h 143) (vL h 144) t n) + 1))), (0, .ref 100), (1, .long t)]) dX7_votesFor_43 rfl (nI_1 _) (by decide) rfl ?_
      refine wp_goto (tgt := 5) dX7_votesFor_46 (by decide) ?_
      refine wp_sub [2, 3, 1, 0] rfl ?_
      have q := ih (n + 1) (by omega)
      rw [hvN_yes ((i64_le _ _).mpr z.1) ((i64_le _ _).mpr z.2)] at q
      exact q
    · show WP g mX7_votesFor 33 [(0, .ref 100), (1, .long t), (3, .int (nI (hvN (vL h 143) (vL h 144) t n))), (4, .int (nI n))] [.int 0, .int (nI (hvN (vL h 143) (vL h 144) t n))] _ 0 0 _
      refine wp_if_eq (tgt := 40) dX7_votesFor_33 (by decide) (fun _ => ?_) (fun c_3 => absurd (by decide) c_3)
      refine wp_pc (pc' := 40) rfl ?_
      refine wp_iconst (v := 0) dX7_votesFor_40 (by decide) ?_
      refine wv_iadd (nI ((hvN (vL h 143) (vL h 144) t n) + 0)) (wN_add rfl rfl) dX7_votesFor_41 ?_
      refine wp_istore_n (lv' := [(3, .int (nI ((hvN (vL h 143) (vL h 144) t n) + 0))), (0, .ref 100), (1, .long t), (4, .int (nI n))]) dX7_votesFor_42 rfl (by decide) rfl ?_
      refine wp_iinc (q := 3) (x := nI n) (v := nI (n + 1)) (lv' := [(4, .int (nI (n + 1))), (3, .int (nI ((hvN (vL h 143) (vL h 144) t n) + 0))), (0, .ref 100), (1, .long t)]) dX7_votesFor_43 rfl (nI_1 _) (by decide) rfl ?_
      refine wp_goto (tgt := 5) dX7_votesFor_46 (by decide) ?_
      refine wp_sub [2, 3, 1, 0] rfl ?_
      have q := ih (n + 1) (by omega)
      rw [hvN_no (fun y => z ⟨(i64_le _ _).mp y.1, (i64_le _ _).mp y.2⟩), ← Nat.add_zero (hvN (vL h 143) (vL h 144) t n)] at q
      exact q
set_option maxRecDepth 100000 in
set_option maxHeartbeats 4000000 in
theorem cm_votesFor {g : GG} {h : HP} {Post : Option Value → HP → Prop} (s : Nat) (hs : s ≤ 10) (hW : MW h) (hc40 : vI h 100 40 = nI s) (t : Int64) (hp : Post (some (.int (nI (hvN (vL h 143) (vL h 144) t s)))) h) : CT g mX7_votesFor [.ref 100, .long t] h Post := by
  show WP g mX7_votesFor 0 [(0, .ref 100), (1, .long t)] [] h 0 0 Post
  refine wp_iconst (v := 0) dX7_votesFor_0 (by decide) ?_
  refine wp_istore_n (lv' := [(3, .int 0), (0, .ref 100), (1, .long t)]) dX7_votesFor_1 rfl (by decide) rfl ?_
  refine wp_iconst (v := 0) dX7_votesFor_2 (by decide) ?_
  refine wp_istore (lv' := [(4, .int 0), (3, .int 0), (0, .ref 100), (1, .long t)]) dX7_votesFor_3 (by decide) rfl ?_
  refine wp_sub [2, 3, 1, 0] rfl ?_
  exact lm_votesFor s hs hW hc40 t hp s 0 (by omega)
set_option maxRecDepth 100000 in
set_option maxHeartbeats 4000000 in
theorem cm_votes0 {g : GG} {h : HP} {Post : Option Value → HP → Prop} (t : Int64) (nm : Nat) (hW : MW h) (hc1 : vI h 100 1 = nI nm) (hnm : nm ≤ 10) (x : Int32) (hx : ¬ inR x nm) (hp : Post (some (.long (-9000000000000000000))) h) : CT g mX7_votes [.ref 100, .int x, .long t] h Post := by
  show WP g mX7_votes 0 [(0, .ref 100), (1, .int x), (2, .long t)] [] h 0 0 Post
  refine wp_aload_n dX7_votes_0 rfl 0 rfl ?_
  refine wp_iload_n dX7_votes_1 rfl 1 rfl ?_
  refine wp_callV mX7_isMember 100 [.int x] [] (c := 7) dX7_votes_2 iX7_isMember (fun _ => trivial) mlX7_163 imX7_isMember seX7_isMember (by decide) rfl rfl ⟨by decide, by decide⟩ rfl rfl (Nat.le_of_ble_eq_true rfl) (Nat.le_of_ble_eq_true rfl) (by decide) (by decide) ?_
  refine ct_isMember0 nm hW hc1 (by omega) x hx ?_
  show WP g mX7_votes 5 [(0, .ref 100), (1, .int x), (2, .long t)] [.int 0] _ 0 0 _
  refine wp_if_ne (tgt := 12) dX7_votes_5 (by decide) (fun c_1 => absurd (by decide) c_1) (fun _ => ?_)
  refine wp_ldc2 dX7_votes_8 cnX7_155 ?_
  refine wp_lret dX7_votes_11 rfl (by decide) (by decide) ?_
  exact hp
set_option maxRecDepth 100000 in
set_option maxHeartbeats 4000000 in
theorem cm_votes {g : GG} {h : HP} {Post : Option Value → HP → Prop} (nm : Nat) (hW : MW h) (hc1 : vI h 100 1 = nI nm) (hnm : nm ≤ 10) (i : Nat) (hi : i < nm) (hd : DV h i) (t : Int64) (hp : Post (some (.long (Int32.toInt64 (nI (hvN (vL (mgH h i nm) 143) (vL (mgH h i nm) 144) t (mz h i nm)))))) (mgH h i nm)) : CT g mX7_votes [.ref 100, .int (nI i), .long t] h Post := by
  show WP g mX7_votes 0 [(0, .ref 100), (1, .int (nI i)), (2, .long t)] [] h 0 0 Post
  refine wp_aload_n dX7_votes_0 rfl 0 rfl ?_
  refine wp_iload_n dX7_votes_1 rfl 1 rfl ?_
  refine wp_callV mX7_isMember 100 [.int (nI i)] [] (c := 7) dX7_votes_2 iX7_isMember (fun _ => trivial) mlX7_163 imX7_isMember seX7_isMember (by decide) rfl rfl ⟨by decide, by decide⟩ rfl rfl (Nat.le_of_ble_eq_true rfl) (Nat.le_of_ble_eq_true rfl) (by decide) (by decide) ?_
  refine ct_isMember nm hW hc1 (by omega) i hi ?_
  show WP g mX7_votes 5 [(0, .ref 100), (1, .int (nI i)), (2, .long t)] [.int 1] _ 0 0 _
  refine wp_if_ne (tgt := 12) dX7_votes_5 (by decide) (fun _ => ?_) (fun c_1 => absurd c_1 (by decide))
  refine wp_aload_n dX7_votes_12 rfl 0 rfl ?_
  refine wp_iload_n dX7_votes_13 rfl 1 rfl ?_
  refine wp_callV mX7_gather 100 [.int (nI i)] [] (c := 7) dX7_votes_14 iX7_gather (fun _ => trivial) mlX7_215 imX7_gather seX7_gather (by decide) rfl rfl ⟨by decide, by decide⟩ rfl rfl (Nat.le_of_ble_eq_true rfl) (Nat.le_of_ble_eq_true rfl) (by decide) (by decide) ?_
  refine cm_gather nm i (by omega) hW hc1 hnm hd ?_
  show WP g mX7_votes 17 [(0, .ref 100), (1, .int (nI i)), (2, .long t)] [] _ 0 0 _
  refine wp_aload_n dX7_votes_17 rfl 0 rfl ?_
  refine wp_lload_n dX7_votes_18 rfl 2 rfl ?_
  refine wp_callV mX7_votesFor 100 [.long t] [] (c := 7) dX7_votes_19 iX7_votesFor (fun _ => trivial) mlX7_219 imX7_votesFor seX7_votesFor (by decide) rfl rfl ⟨by decide, by decide⟩ rfl rfl (Nat.le_of_ble_eq_true rfl) (Nat.le_of_ble_eq_true rfl) (by decide) (by decide) ?_
  refine cm_votesFor (mz h i nm) (by have := mz_le h i nm; omega) (MW_eq (mg_k h i nm).1 (mg_k h i nm).2.1 hW) (mg_k h i nm).2.2.2.2.2 t ?_
  show WP g mX7_votes 22 [(0, .ref 100), (1, .int (nI i)), (2, .long t)] [.int (nI (hvN (vL (mgH h i nm) 143) (vL (mgH h i nm) 144) t (mz h i nm)))] _ 0 0 _
  refine wp_i2l dX7_votes_22 ?_
  refine wp_lret dX7_votes_23 rfl (by decide) (by decide) ?_
  exact hp
