/-! contracts: the model's council and meet -/
theorem mz_pos {h : HP} {m : Nat} : ∀ n, m < n → 1 ≤ mz h m n
  | 0, hm => absurd hm (Nat.not_lt_zero _)
  | n + 1, hm => by
    rcases Nat.lt_succ_iff_lt_or_eq.mp hm with z | z
    · have := mz_pos (h := h) n z
      by_cases hv : mIn h m n
      · rw [mz_y hv]; omega
      · rw [mz_n hv]; exact this
    · rw [mz_y (Or.inl z.symm)]; omega
theorem mg_at (h : HP) (m : Nat) : ∀ n k, k < mz h m n → ∃ q, q < n ∧ mIn h m q ∧ vI (mgH h m n) 142 k = nI q ∧ vL (mgH h m n) 143 k = mSL h m q ∧ vL (mgH h m n) 144 k = mSH h m q
  | 0, k, hk => absurd hk (Nat.not_lt_zero _)
  | n + 1, k, hk => by
    by_cases hv : mIn h m n
    · rw [mz_y hv] at hk
      rw [mg_y hv]
      unfold maH
      by_cases e : k = mz h m n
      · subst e
        refine ⟨n, by omega, hv, ?_, ?_, ?_⟩
        · rw [vIn (by decide), vI_sL, vI_sL]; exact vIs
        · rw [vL_sI, vLn (by decide)]; exact vLs
        · rw [vL_sI]; exact vLs
      · obtain ⟨q, h1, h2, h3, h4, h5⟩ := mg_at h m n k (by omega)
        refine ⟨q, by omega, h2, ?_, ?_, ?_⟩
        · rw [vIn (by decide), vI_sL, vI_sL, vIj e]; exact h3
        · rw [vL_sI, vLn (by decide), vLj e, vL_sI]; exact h4
        · rw [vL_sI, vLj e, vLn (by decide), vL_sI]; exact h5
    · rw [mz_n hv] at hk
      rw [mg_n hv]
      obtain ⟨q, h1, h2⟩ := mg_at h m n k hk
      exact ⟨q, by omega, h2⟩
theorem mg_has (h : HP) (m : Nat) : ∀ n q, q < n → mIn h m q → ∃ k, k < mz h m n ∧ vI (mgH h m n) 142 k = nI q ∧ vL (mgH h m n) 143 k = mSL h m q ∧ vL (mgH h m n) 144 k = mSH h m q
  | 0, q, hq, _ => absurd hq (Nat.not_lt_zero _)
  | n + 1, q, hq, hin => by
    rcases Nat.lt_succ_iff_lt_or_eq.mp hq with z | z
    · obtain ⟨k, h1, h2, h3, h4⟩ := mg_has h m n q z hin
      by_cases hv : mIn h m n
      · rw [mz_y hv, mg_y hv]
        unfold maH
        refine ⟨k, by omega, ?_, ?_, ?_⟩
        · rw [vIn (by decide), vI_sL, vI_sL, vIj (by omega)]; exact h2
        · rw [vL_sI, vLn (by decide), vLj (by omega), vL_sI]; exact h3
        · rw [vL_sI, vLj (by omega), vLn (by decide), vL_sI]; exact h4
      · rw [mz_n hv, mg_n hv]; exact ⟨k, h1, h2, h3, h4⟩
    · subst z
      rw [mz_y hin, mg_y hin]
      unfold maH
      refine ⟨mz h m q, by omega, ?_, ?_, ?_⟩
      · rw [vIn (by decide), vI_sL, vI_sL]; exact vIs
      · rw [vL_sI, vLn (by decide)]; exact vLs
      · rw [vL_sI]; exact vLs
noncomputable def mwh (h : HP) (m n k : Nat) : Nat := (vI (mgH h m n) 142 k).toNatClampNeg
theorem mwh_ok {h : HP} {m nm k : Nat} (hnm : nm ≤ 10) (hk : k < mz h m nm) : mwh h m nm k < nm ∧ mIn h m (mwh h m nm k) ∧ vI (mgH h m nm) 142 k = nI (mwh h m nm k) ∧ vL (mgH h m nm) 143 k = mSL h m (mwh h m nm k) ∧ vL (mgH h m nm) 144 k = mSH h m (mwh h m nm k) := by
  obtain ⟨q, h1, h2, h3, h4⟩ := mg_at h m nm k hk
  have e : mwh h m nm k = q := by unfold mwh; rw [h3]; exact nI_clamp (by omega)
  rw [e]
  exact ⟨h1, h2, h3, h4⟩
set_option maxRecDepth 100000 in
set_option maxHeartbeats 4000000 in
theorem cm_council0 {g : GG} {h : HP} {Post : Option Value → HP → Prop} (f wh : Int32) (nm : Nat) (hW : MW h) (hc1 : vI h 100 1 = nI nm) (hnm : nm ≤ 10) (x : Int32) (hx : ¬ inR x nm) (hp : Post (some (.long (-9000000000000000000))) h) : CT g mX7_council [.ref 100, .int x, .int f, .int wh] h Post := by
  show WP g mX7_council 0 [(0, .ref 100), (1, .int x), (2, .int f), (3, .int wh)] [] h 0 0 Post
  refine wp_aload_n dX7_council_0 rfl 0 rfl ?_
  refine wp_iload_n dX7_council_1 rfl 1 rfl ?_
  refine wp_callV mX7_isMember 100 [.int x] [] (c := 7) dX7_council_2 iX7_isMember (fun _ => trivial) mlX7_163 imX7_isMember seX7_isMember (by decide) rfl rfl ⟨by decide, by decide⟩ rfl rfl (Nat.le_of_ble_eq_true rfl) (Nat.le_of_ble_eq_true rfl) (by decide) (by decide) ?_
  refine ct_isMember0 nm hW hc1 (by omega) x hx ?_
  show WP g mX7_council 5 [(0, .ref 100), (1, .int x), (2, .int f), (3, .int wh)] [.int 0] _ 0 0 _
  refine wp_if_eq (tgt := 20) dX7_council_5 (by decide) (fun _ => ?_) (fun c_1 => absurd (by decide) c_1)
  refine wp_ldc2 dX7_council_20 cnX7_155 ?_
  refine wp_lret dX7_council_23 rfl (by decide) (by decide) ?_
  exact hp
set_option maxRecDepth 100000 in
set_option maxHeartbeats 4000000 in
theorem cm_council_x {g : GG} {h : HP} {Post : Option Value → HP → Prop} (nm : Nat) (hW : MW h) (hc1 : vI h 100 1 = nI nm) (hnm : nm ≤ 10) (i : Nat) (hi : i < nm) (hd : DV h i) (f wh : Int32) (hw : ¬ inR wh 5) (hp : Post (some (.long (-9000000000000000000))) h) : CT g mX7_council [.ref 100, .int (nI i), .int f, .int wh] h Post := by
  show WP g mX7_council 0 [(0, .ref 100), (1, .int (nI i)), (2, .int f), (3, .int wh)] [] h 0 0 Post
  refine wp_aload_n dX7_council_0 rfl 0 rfl ?_
  refine wp_iload_n dX7_council_1 rfl 1 rfl ?_
  refine wp_callV mX7_isMember 100 [.int (nI i)] [] (c := 7) dX7_council_2 iX7_isMember (fun _ => trivial) mlX7_163 imX7_isMember seX7_isMember (by decide) rfl rfl ⟨by decide, by decide⟩ rfl rfl (Nat.le_of_ble_eq_true rfl) (Nat.le_of_ble_eq_true rfl) (by decide) (by decide) ?_
  refine ct_isMember nm hW hc1 (by omega) i hi ?_
  show WP g mX7_council 5 [(0, .ref 100), (1, .int (nI i)), (2, .int f), (3, .int wh)] [.int 1] _ 0 0 _
  refine wp_if_eq (tgt := 20) dX7_council_5 (by decide) (fun c_1 => absurd c_1 (by decide)) (fun _ => ?_)
  refine wp_iload_n dX7_council_8 rfl 3 rfl ?_
  refine wp_i2l dX7_council_9 ?_
  refine wp_lconst (v := 0) dX7_council_10 rfl ?_
  refine wp_ldc2 dX7_council_11 cnX7_157 ?_
  refine wp_callS mX7_in [.long (Int32.toInt64 wh), .long 0, .long 4] [] dX7_council_14 iX7_in (fun _ => trivial) mlX7_143 stX7_in ⟨by decide, by decide⟩ rfl rfl (Nat.le_of_ble_eq_true rfl) (Nat.le_of_ble_eq_true rfl) (by decide) (by decide) ?_
  refine ct_in (Int32.toInt64 wh) 0 4 (Int32.toInt wh) (0) (4) ((wid _).trans rfl) (by decide) (by decide) (fun c_2 => ?_) (fun c_2 => ?_)
  · show WP g mX7_council 17 [(0, .ref 100), (1, .int (nI i)), (2, .int f), (3, .int wh)] [.int 1] _ 0 0 _
    refine wp_if_ne (tgt := 24) dX7_council_17 (by decide) (fun _ => ?_) (fun c_3 => absurd c_3 (by decide))
    exact absurd (show inR wh 5 from ⟨by omega, by omega⟩) hw
  · show WP g mX7_council 17 [(0, .ref 100), (1, .int (nI i)), (2, .int f), (3, .int wh)] [.int 0] _ 0 0 _
    refine wp_if_ne (tgt := 24) dX7_council_17 (by decide) (fun c_4 => absurd (by decide) c_4) (fun _ => ?_)
    refine wp_ldc2 dX7_council_20 cnX7_155 ?_
    refine wp_lret dX7_council_23 rfl (by decide) (by decide) ?_
    exact hp
set_option maxRecDepth 100000 in
set_option maxHeartbeats 4000000 in
theorem cm_council_f {g : GG} {h : HP} {Post : Option Value → HP → Prop} (nm : Nat) (hW : MW h) (hc1 : vI h 100 1 = nI nm) (hnm : nm ≤ 10) (i : Nat) (hi : i < nm) (hd : DV h i) (f wh : Int32) (hw : inR wh 5) (hf : ¬ inR f (mz h i nm)) (hp : Post (some (.long (-9000000000000000000))) (mgH h i nm)) : CT g mX7_council [.ref 100, .int (nI i), .int f, .int wh] h Post := by
  show WP g mX7_council 0 [(0, .ref 100), (1, .int (nI i)), (2, .int f), (3, .int wh)] [] h 0 0 Post
  have hz1 : 1 ≤ mz h i nm := mz_pos nm hi
  have hz2 : mz h i nm ≤ 10 := Nat.le_trans (mz_le h i nm) hnm
  have hw2 := id hw
  unfold inR at hw2
  refine wp_aload_n dX7_council_0 rfl 0 rfl ?_
  refine wp_iload_n dX7_council_1 rfl 1 rfl ?_
  refine wp_callV mX7_isMember 100 [.int (nI i)] [] (c := 7) dX7_council_2 iX7_isMember (fun _ => trivial) mlX7_163 imX7_isMember seX7_isMember (by decide) rfl rfl ⟨by decide, by decide⟩ rfl rfl (Nat.le_of_ble_eq_true rfl) (Nat.le_of_ble_eq_true rfl) (by decide) (by decide) ?_
  refine ct_isMember nm hW hc1 (by omega) i hi ?_
  show WP g mX7_council 5 [(0, .ref 100), (1, .int (nI i)), (2, .int f), (3, .int wh)] [.int 1] _ 0 0 _
  refine wp_if_eq (tgt := 20) dX7_council_5 (by decide) (fun c_1 => absurd c_1 (by decide)) (fun _ => ?_)
  refine wp_iload_n dX7_council_8 rfl 3 rfl ?_
  refine wp_i2l dX7_council_9 ?_
  refine wp_lconst (v := 0) dX7_council_10 rfl ?_
  refine wp_ldc2 dX7_council_11 cnX7_157 ?_
  refine wp_callS mX7_in [.long (Int32.toInt64 wh), .long 0, .long 4] [] dX7_council_14 iX7_in (fun _ => trivial) mlX7_143 stX7_in ⟨by decide, by decide⟩ rfl rfl (Nat.le_of_ble_eq_true rfl) (Nat.le_of_ble_eq_true rfl) (by decide) (by decide) ?_
  refine ct_in (Int32.toInt64 wh) 0 4 (Int32.toInt wh) 0 4 ((wid _).trans rfl) (by decide) (by decide) (fun _ => ?_) (fun z => absurd (by omega) z)
  show WP g mX7_council 17 [(0, .ref 100), (1, .int (nI i)), (2, .int f), (3, .int wh)] [.int 1] _ 0 0 _
  refine wp_if_ne (tgt := 24) dX7_council_17 (by decide) (fun _ => ?_) (fun c_2 => absurd c_2 (by decide))
  refine wp_aload_n dX7_council_24 rfl 0 rfl ?_
  refine wp_iload_n dX7_council_25 rfl 1 rfl ?_
  refine wp_callV mX7_gather 100 [.int (nI i)] [] (c := 7) dX7_council_26 iX7_gather (fun _ => trivial) mlX7_215 imX7_gather seX7_gather (by decide) rfl rfl ⟨by decide, by decide⟩ rfl rfl (Nat.le_of_ble_eq_true rfl) (Nat.le_of_ble_eq_true rfl) (by decide) (by decide) ?_
  refine cm_gather nm i (by omega) hW hc1 hnm hd ?_
  show WP g mX7_council 29 [(0, .ref 100), (1, .int (nI i)), (2, .int f), (3, .int wh)] [] _ 0 0 _
  refine wp_iload_n dX7_council_29 rfl 2 rfl ?_
  refine wp_i2l dX7_council_30 ?_
  refine wp_pc (pc' := 31) rfl ?_
  refine wp_lconst (v := 0) dX7_council_31 rfl ?_
  refine wp_aload_n dX7_council_32 rfl 0 rfl ?_
  refine wv_getI (nI (mz h i nm)) dX7_council_33 flX7_212 rfl rfl (by (try simp only [liv_sI, liv_sL]); rw [(mg_k h i nm).1]; exact hW.1) (mg_k h i nm).2.2.2.2.2 ?_
  refine wp_i2l dX7_council_36 ?_
  refine wp_lconst (v := 1) dX7_council_37 rfl ?_
  refine wp_lsub dX7_council_38 ?_
  refine wp_callS mX7_in [.long (Int32.toInt64 f), .long 0, .long ((Int32.toInt64 (nI (mz h i nm))) - 1)] [] dX7_council_39 iX7_in (fun _ => trivial) mlX7_143 stX7_in ⟨by decide, by decide⟩ rfl rfl (Nat.le_of_ble_eq_true rfl) (Nat.le_of_ble_eq_true rfl) (by decide) (by decide) ?_
  refine ct_in (Int32.toInt64 f) 0 ((Int32.toInt64 (nI (mz h i nm))) - 1) (Int32.toInt f) 0 ((mz h i nm : Nat) - 1 : Int) ((wid _).trans rfl) (by decide) (i64_sub1 (by omega)) (fun z => absurd (show inR f (mz h i nm) from ⟨by omega, by omega⟩) hf) (fun _ => ?_)
  show WP g mX7_council 42 [(0, .ref 100), (1, .int (nI i)), (2, .int f), (3, .int wh)] [.int 0] _ 0 0 _
  refine wp_if_ne (tgt := 49) dX7_council_42 (by decide) (fun c_3 => absurd (by decide) c_3) (fun _ => ?_)
  refine wp_ldc2 dX7_council_45 cnX7_155 ?_
  refine wp_lret dX7_council_48 rfl (by decide) (by decide) ?_
  exact hp
set_option maxRecDepth 100000 in
set_option maxHeartbeats 4000000 in
theorem cm_council_0 {g : GG} {h : HP} {Post : Option Value → HP → Prop} (nm : Nat) (hW : MW h) (hc1 : vI h 100 1 = nI nm) (hnm : nm ≤ 10) (i : Nat) (hi : i < nm) (hd : DV h i) (ff : Nat) (hff : ff < mz h i nm) (hp : ∀ h' P r, FCq (mgH h i nm) (mz h i nm) ff h' P r → Post (some (.long (Int32.toInt64 (nI (mz h i nm))))) h') : CT g mX7_council [.ref 100, .int (nI i), .int (nI ff), .int 0] h Post := by
  show WP g mX7_council 0 [(0, .ref 100), (1, .int (nI i)), (2, .int (nI ff)), (3, .int 0)] [] h 0 0 Post
  have hz1 : 1 ≤ mz h i nm := mz_pos nm hi
  have hz2 : mz h i nm ≤ 10 := Nat.le_trans (mz_le h i nm) hnm
  refine wp_aload_n dX7_council_0 rfl 0 rfl ?_
  refine wp_iload_n dX7_council_1 rfl 1 rfl ?_
  refine wp_callV mX7_isMember 100 [.int (nI i)] [] (c := 7) dX7_council_2 iX7_isMember (fun _ => trivial) mlX7_163 imX7_isMember seX7_isMember (by decide) rfl rfl ⟨by decide, by decide⟩ rfl rfl (Nat.le_of_ble_eq_true rfl) (Nat.le_of_ble_eq_true rfl) (by decide) (by decide) ?_
  refine ct_isMember nm hW hc1 (by omega) i hi ?_
  show WP g mX7_council 5 [(0, .ref 100), (1, .int (nI i)), (2, .int (nI ff)), (3, .int 0)] [.int 1] _ 0 0 _
  refine wp_if_eq (tgt := 20) dX7_council_5 (by decide) (fun c_1 => absurd c_1 (by decide)) (fun _ => ?_)
  refine wp_iload_n dX7_council_8 rfl 3 rfl ?_
  refine wp_i2l dX7_council_9 ?_
  refine wp_lconst (v := 0) dX7_council_10 rfl ?_
  refine wp_ldc2 dX7_council_11 cnX7_157 ?_
  refine wp_callS mX7_in [.long (Int32.toInt64 (0 : Int32)), .long 0, .long 4] [] dX7_council_14 iX7_in (fun _ => trivial) mlX7_143 stX7_in ⟨by decide, by decide⟩ rfl rfl (Nat.le_of_ble_eq_true rfl) (Nat.le_of_ble_eq_true rfl) (by decide) (by decide) ?_
  refine ct_in (Int32.toInt64 (0 : Int32)) 0 4 (0) 0 4 ((wid _).trans (by decide)) (by decide) (by decide) (fun _ => ?_) (fun z => absurd (by omega) z)
  show WP g mX7_council 17 [(0, .ref 100), (1, .int (nI i)), (2, .int (nI ff)), (3, .int 0)] [.int 1] _ 0 0 _
  refine wp_if_ne (tgt := 24) dX7_council_17 (by decide) (fun _ => ?_) (fun c_2 => absurd c_2 (by decide))
  refine wp_aload_n dX7_council_24 rfl 0 rfl ?_
  refine wp_iload_n dX7_council_25 rfl 1 rfl ?_
  refine wp_callV mX7_gather 100 [.int (nI i)] [] (c := 7) dX7_council_26 iX7_gather (fun _ => trivial) mlX7_215 imX7_gather seX7_gather (by decide) rfl rfl ⟨by decide, by decide⟩ rfl rfl (Nat.le_of_ble_eq_true rfl) (Nat.le_of_ble_eq_true rfl) (by decide) (by decide) ?_
  refine cm_gather nm i (by omega) hW hc1 hnm hd ?_
  show WP g mX7_council 29 [(0, .ref 100), (1, .int (nI i)), (2, .int (nI ff)), (3, .int 0)] [] _ 0 0 _
  refine wp_iload_n dX7_council_29 rfl 2 rfl ?_
  refine wp_i2l dX7_council_30 ?_
  refine wp_pc (pc' := 31) rfl ?_
  refine wp_lconst (v := 0) dX7_council_31 rfl ?_
  refine wp_aload_n dX7_council_32 rfl 0 rfl ?_
  refine wv_getI (nI (mz h i nm)) dX7_council_33 flX7_212 rfl rfl (by (try simp only [liv_sI, liv_sL]); rw [(mg_k h i nm).1]; exact hW.1) (mg_k h i nm).2.2.2.2.2 ?_
  refine wp_i2l dX7_council_36 ?_
  refine wp_lconst (v := 1) dX7_council_37 rfl ?_
  refine wp_lsub dX7_council_38 ?_
  refine wp_callS mX7_in [.long (Int32.toInt64 (nI ff)), .long 0, .long ((Int32.toInt64 (nI (mz h i nm))) - 1)] [] dX7_council_39 iX7_in (fun _ => trivial) mlX7_143 stX7_in ⟨by decide, by decide⟩ rfl rfl (Nat.le_of_ble_eq_true rfl) (Nat.le_of_ble_eq_true rfl) (by decide) (by decide) ?_
  refine ct_in (Int32.toInt64 (nI ff)) 0 ((Int32.toInt64 (nI (mz h i nm))) - 1) ((ff : Nat)) 0 ((mz h i nm : Nat) - 1 : Int) ((wid _).trans (nIt (by omega))) (by decide) (i64_sub1 (by omega)) (fun _ => ?_) (fun z => absurd ⟨by omega, by omega⟩ z)
  show WP g mX7_council 42 [(0, .ref 100), (1, .int (nI i)), (2, .int (nI ff)), (3, .int 0)] [.int 1] _ 0 0 _
  refine wp_if_ne (tgt := 49) dX7_council_42 (by decide) (fun _ => ?_) (fun c_3 => absurd c_3 (by decide))
  refine wp_aload_n dX7_council_49 rfl 0 rfl ?_
  refine wp_iload_n dX7_council_50 rfl 2 rfl ?_
  refine wp_callV mX7_findCouncil 100 [.int (nI ff)] [] (c := 7) dX7_council_51 iX7_findCouncil (fun _ => trivial) mlX7_235 imX7_findCouncil seX7_findCouncil (by decide) rfl rfl ⟨by decide, by decide⟩ rfl rfl (Nat.le_of_ble_eq_true rfl) (Nat.le_of_ble_eq_true rfl) (by decide) (by decide) ?_
  refine cm_findCouncil (mz h i nm) ff hz1 hz2 (MW_eq (mg_k h i nm).1 (mg_k h i nm).2.1 hW) (mg_k h i nm).2.2.2.2.2 hff trivial (fun h' P r hF hr => ?_) (fun h' P r hF hr => ?_)
  · show WP g mX7_council 54 [(0, .ref 100), (1, .int (nI i)), (2, .int (nI ff)), (3, .int 0)] [.int 1] _ 0 0 _
    refine wp_istore (lv' := [(4, .int 1), (0, .ref 100), (1, .int (nI i)), (2, .int (nI ff)), (3, .int 0)]) dX7_council_54 (by decide) rfl ?_
    refine wp_iload_n dX7_council_56 rfl 4 rfl ?_
    refine wp_iconst (v := 2) dX7_council_57 (by decide) ?_
    refine wp_icmp_ge (tgt := 79) dX7_council_58 (by decide) (fun c_4 => absurd c_4 (by decide)) (fun _ => ?_)
    refine wp_iload_n dX7_council_61 rfl 4 rfl ?_
    refine wp_pc (pc' := 62) rfl ?_
    refine wp_if_ne (tgt := 73) dX7_council_62 (by decide) (fun c_5 => absurd (by decide) c_5) (fun _ => ?_)
    refine wp_aload_n dX7_council_65 rfl 1 rfl ?_
    refine wv_getI (nI (mz h i nm)) dX7_council_66 flX7_212 rfl rfl (by (try simp only [liv_sI, liv_sL]); rw [hF.1.1, (mg_k h i nm).1]; exact hW.1) (by rw [hF.1.2.2.2.1 40 (by decide)]; exact (mg_k h i nm).2.2.2.2.2) ?_
    refine wp_i2l dX7_council_69 ?_
    refine wp_goto (tgt := 78) dX7_council_70 (by decide) ?_
    refine wp_lret dX7_council_78 rfl (by decide) (by decide) ?_
    exact hp h' P r hF
  · show WP g mX7_council 54 [(0, .ref 100), (1, .int (nI i)), (2, .int (nI ff)), (3, .int 0)] [.int 0] _ 0 0 _
    refine wp_istore (lv' := [(4, .int 0), (0, .ref 100), (1, .int (nI i)), (2, .int (nI ff)), (3, .int 0)]) dX7_council_54 (by decide) rfl ?_
    refine wp_iload_n dX7_council_56 rfl 4 rfl ?_
    refine wp_iconst (v := 2) dX7_council_57 (by decide) ?_
    refine wp_icmp_ge (tgt := 79) dX7_council_58 (by decide) (fun c_6 => absurd c_6 (by decide)) (fun _ => ?_)
    refine wp_iload_n dX7_council_61 rfl 4 rfl ?_
    refine wp_pc (pc' := 62) rfl ?_
    refine wp_if_ne (tgt := 73) dX7_council_62 (by decide) (fun c_7 => absurd (by decide) c_7) (fun _ => ?_)
    refine wp_aload_n dX7_council_65 rfl 1 rfl ?_
    refine wv_getI (nI (mz h i nm)) dX7_council_66 flX7_212 rfl rfl (by (try simp only [liv_sI, liv_sL]); rw [hF.1.1, (mg_k h i nm).1]; exact hW.1) (by rw [hF.1.2.2.2.1 40 (by decide)]; exact (mg_k h i nm).2.2.2.2.2) ?_
    refine wp_i2l dX7_council_69 ?_
    refine wp_goto (tgt := 78) dX7_council_70 (by decide) ?_
    refine wp_lret dX7_council_78 rfl (by decide) (by decide) ?_
    exact hp h' P r hF
set_option maxRecDepth 100000 in
set_option maxHeartbeats 4000000 in
theorem cm_council_1 {g : GG} {h : HP} {Post : Option Value → HP → Prop} (nm : Nat) (hW : MW h) (hc1 : vI h 100 1 = nI nm) (hnm : nm ≤ 10) (i : Nat) (hi : i < nm) (hd : DV h i) (ff : Nat) (hff : ff < mz h i nm) (hp : ∀ h' P r, FCq (mgH h i nm) (mz h i nm) ff h' P r → Post (some (.long (Int32.toInt64 (nI r.1)))) h') : CT g mX7_council [.ref 100, .int (nI i), .int (nI ff), .int 1] h Post := by
  show WP g mX7_council 0 [(0, .ref 100), (1, .int (nI i)), (2, .int (nI ff)), (3, .int 1)] [] h 0 0 Post
  have hz1 : 1 ≤ mz h i nm := mz_pos nm hi
  have hz2 : mz h i nm ≤ 10 := Nat.le_trans (mz_le h i nm) hnm
  refine wp_aload_n dX7_council_0 rfl 0 rfl ?_
  refine wp_iload_n dX7_council_1 rfl 1 rfl ?_
  refine wp_callV mX7_isMember 100 [.int (nI i)] [] (c := 7) dX7_council_2 iX7_isMember (fun _ => trivial) mlX7_163 imX7_isMember seX7_isMember (by decide) rfl rfl ⟨by decide, by decide⟩ rfl rfl (Nat.le_of_ble_eq_true rfl) (Nat.le_of_ble_eq_true rfl) (by decide) (by decide) ?_
  refine ct_isMember nm hW hc1 (by omega) i hi ?_
  show WP g mX7_council 5 [(0, .ref 100), (1, .int (nI i)), (2, .int (nI ff)), (3, .int 1)] [.int 1] _ 0 0 _
  refine wp_if_eq (tgt := 20) dX7_council_5 (by decide) (fun c_1 => absurd c_1 (by decide)) (fun _ => ?_)
  refine wp_iload_n dX7_council_8 rfl 3 rfl ?_
  refine wp_i2l dX7_council_9 ?_
  refine wp_lconst (v := 0) dX7_council_10 rfl ?_
  refine wp_ldc2 dX7_council_11 cnX7_157 ?_
  refine wp_callS mX7_in [.long (Int32.toInt64 (1 : Int32)), .long 0, .long 4] [] dX7_council_14 iX7_in (fun _ => trivial) mlX7_143 stX7_in ⟨by decide, by decide⟩ rfl rfl (Nat.le_of_ble_eq_true rfl) (Nat.le_of_ble_eq_true rfl) (by decide) (by decide) ?_
  refine ct_in (Int32.toInt64 (1 : Int32)) 0 4 (1) 0 4 ((wid _).trans (by decide)) (by decide) (by decide) (fun _ => ?_) (fun z => absurd (by omega) z)
  show WP g mX7_council 17 [(0, .ref 100), (1, .int (nI i)), (2, .int (nI ff)), (3, .int 1)] [.int 1] _ 0 0 _
  refine wp_if_ne (tgt := 24) dX7_council_17 (by decide) (fun _ => ?_) (fun c_2 => absurd c_2 (by decide))
  refine wp_aload_n dX7_council_24 rfl 0 rfl ?_
  refine wp_iload_n dX7_council_25 rfl 1 rfl ?_
  refine wp_callV mX7_gather 100 [.int (nI i)] [] (c := 7) dX7_council_26 iX7_gather (fun _ => trivial) mlX7_215 imX7_gather seX7_gather (by decide) rfl rfl ⟨by decide, by decide⟩ rfl rfl (Nat.le_of_ble_eq_true rfl) (Nat.le_of_ble_eq_true rfl) (by decide) (by decide) ?_
  refine cm_gather nm i (by omega) hW hc1 hnm hd ?_
  show WP g mX7_council 29 [(0, .ref 100), (1, .int (nI i)), (2, .int (nI ff)), (3, .int 1)] [] _ 0 0 _
  refine wp_iload_n dX7_council_29 rfl 2 rfl ?_
  refine wp_i2l dX7_council_30 ?_
  refine wp_pc (pc' := 31) rfl ?_
  refine wp_lconst (v := 0) dX7_council_31 rfl ?_
  refine wp_aload_n dX7_council_32 rfl 0 rfl ?_
  refine wv_getI (nI (mz h i nm)) dX7_council_33 flX7_212 rfl rfl (by (try simp only [liv_sI, liv_sL]); rw [(mg_k h i nm).1]; exact hW.1) (mg_k h i nm).2.2.2.2.2 ?_
  refine wp_i2l dX7_council_36 ?_
  refine wp_lconst (v := 1) dX7_council_37 rfl ?_
  refine wp_lsub dX7_council_38 ?_
  refine wp_callS mX7_in [.long (Int32.toInt64 (nI ff)), .long 0, .long ((Int32.toInt64 (nI (mz h i nm))) - 1)] [] dX7_council_39 iX7_in (fun _ => trivial) mlX7_143 stX7_in ⟨by decide, by decide⟩ rfl rfl (Nat.le_of_ble_eq_true rfl) (Nat.le_of_ble_eq_true rfl) (by decide) (by decide) ?_
  refine ct_in (Int32.toInt64 (nI ff)) 0 ((Int32.toInt64 (nI (mz h i nm))) - 1) ((ff : Nat)) 0 ((mz h i nm : Nat) - 1 : Int) ((wid _).trans (nIt (by omega))) (by decide) (i64_sub1 (by omega)) (fun _ => ?_) (fun z => absurd ⟨by omega, by omega⟩ z)
  show WP g mX7_council 42 [(0, .ref 100), (1, .int (nI i)), (2, .int (nI ff)), (3, .int 1)] [.int 1] _ 0 0 _
  refine wp_if_ne (tgt := 49) dX7_council_42 (by decide) (fun _ => ?_) (fun c_3 => absurd c_3 (by decide))
  refine wp_aload_n dX7_council_49 rfl 0 rfl ?_
  refine wp_iload_n dX7_council_50 rfl 2 rfl ?_
  refine wp_callV mX7_findCouncil 100 [.int (nI ff)] [] (c := 7) dX7_council_51 iX7_findCouncil (fun _ => trivial) mlX7_235 imX7_findCouncil seX7_findCouncil (by decide) rfl rfl ⟨by decide, by decide⟩ rfl rfl (Nat.le_of_ble_eq_true rfl) (Nat.le_of_ble_eq_true rfl) (by decide) (by decide) ?_
  refine cm_findCouncil (mz h i nm) ff hz1 hz2 (MW_eq (mg_k h i nm).1 (mg_k h i nm).2.1 hW) (mg_k h i nm).2.2.2.2.2 hff trivial (fun h' P r hF hr => ?_) (fun h' P r hF hr => ?_)
  · show WP g mX7_council 54 [(0, .ref 100), (1, .int (nI i)), (2, .int (nI ff)), (3, .int 1)] [.int 1] _ 0 0 _
    refine wp_istore (lv' := [(4, .int 1), (0, .ref 100), (1, .int (nI i)), (2, .int (nI ff)), (3, .int 1)]) dX7_council_54 (by decide) rfl ?_
    refine wp_iload_n dX7_council_56 rfl 4 rfl ?_
    refine wp_iconst (v := 2) dX7_council_57 (by decide) ?_
    refine wp_icmp_ge (tgt := 79) dX7_council_58 (by decide) (fun c_4 => absurd c_4 (by decide)) (fun _ => ?_)
    refine wp_iload_n dX7_council_61 rfl 4 rfl ?_
    refine wp_pc (pc' := 62) rfl ?_
    refine wp_if_ne (tgt := 73) dX7_council_62 (by decide) (fun _ => ?_) (fun c_5 => absurd c_5 (by decide))
    refine wp_aload_n dX7_council_73 rfl 1 rfl ?_
    refine wv_getI (nI r.1) dX7_council_74 flX7_223 rfl rfl (by (try simp only [liv_sI, liv_sL]); rw [hF.1.1, (mg_k h i nm).1]; exact hW.1) hF.2.2.2.1 ?_
    refine wp_i2l dX7_council_77 ?_
    refine wp_lret dX7_council_78 rfl (by decide) (by decide) ?_
    exact hp h' P r hF
  · show WP g mX7_council 54 [(0, .ref 100), (1, .int (nI i)), (2, .int (nI ff)), (3, .int 1)] [.int 0] _ 0 0 _
    refine wp_istore (lv' := [(4, .int 0), (0, .ref 100), (1, .int (nI i)), (2, .int (nI ff)), (3, .int 1)]) dX7_council_54 (by decide) rfl ?_
    refine wp_iload_n dX7_council_56 rfl 4 rfl ?_
    refine wp_iconst (v := 2) dX7_council_57 (by decide) ?_
    refine wp_icmp_ge (tgt := 79) dX7_council_58 (by decide) (fun c_6 => absurd c_6 (by decide)) (fun _ => ?_)
    refine wp_iload_n dX7_council_61 rfl 4 rfl ?_
    refine wp_pc (pc' := 62) rfl ?_
    refine wp_if_ne (tgt := 73) dX7_council_62 (by decide) (fun _ => ?_) (fun c_7 => absurd c_7 (by decide))
    refine wp_aload_n dX7_council_73 rfl 1 rfl ?_
    refine wv_getI (nI r.1) dX7_council_74 flX7_223 rfl rfl (by (try simp only [liv_sI, liv_sL]); rw [hF.1.1, (mg_k h i nm).1]; exact hW.1) hF.2.2.2.1 ?_
    refine wp_i2l dX7_council_77 ?_
    refine wp_lret dX7_council_78 rfl (by decide) (by decide) ?_
    exact hp h' P r hF
set_option maxRecDepth 100000 in
set_option maxHeartbeats 4000000 in
theorem cm_council_2 {g : GG} {h : HP} {Post : Option Value → HP → Prop} (nm : Nat) (hW : MW h) (hc1 : vI h 100 1 = nI nm) (hnm : nm ≤ 10) (i : Nat) (hi : i < nm) (hd : DV h i) (ff : Nat) (hff : ff < mz h i nm) (hno : ∀ h' P r, FCq (mgH h i nm) (mz h i nm) ff h' P r → r.1 = 0 → Post (some (.long (-9000000000000000000))) h') (hyes : ∀ h' P r, FCq (mgH h i nm) (mz h i nm) ff h' P r → ¬ r.1 = 0 → Post (some (.long (r.2.2.1))) h') : CT g mX7_council [.ref 100, .int (nI i), .int (nI ff), .int 2] h Post := by
  show WP g mX7_council 0 [(0, .ref 100), (1, .int (nI i)), (2, .int (nI ff)), (3, .int 2)] [] h 0 0 Post
  have hz1 : 1 ≤ mz h i nm := mz_pos nm hi
  have hz2 : mz h i nm ≤ 10 := Nat.le_trans (mz_le h i nm) hnm
  refine wp_aload_n dX7_council_0 rfl 0 rfl ?_
  refine wp_iload_n dX7_council_1 rfl 1 rfl ?_
  refine wp_callV mX7_isMember 100 [.int (nI i)] [] (c := 7) dX7_council_2 iX7_isMember (fun _ => trivial) mlX7_163 imX7_isMember seX7_isMember (by decide) rfl rfl ⟨by decide, by decide⟩ rfl rfl (Nat.le_of_ble_eq_true rfl) (Nat.le_of_ble_eq_true rfl) (by decide) (by decide) ?_
  refine ct_isMember nm hW hc1 (by omega) i hi ?_
  show WP g mX7_council 5 [(0, .ref 100), (1, .int (nI i)), (2, .int (nI ff)), (3, .int 2)] [.int 1] _ 0 0 _
  refine wp_if_eq (tgt := 20) dX7_council_5 (by decide) (fun c_1 => absurd c_1 (by decide)) (fun _ => ?_)
  refine wp_iload_n dX7_council_8 rfl 3 rfl ?_
  refine wp_i2l dX7_council_9 ?_
  refine wp_lconst (v := 0) dX7_council_10 rfl ?_
  refine wp_ldc2 dX7_council_11 cnX7_157 ?_
  refine wp_callS mX7_in [.long (Int32.toInt64 (2 : Int32)), .long 0, .long 4] [] dX7_council_14 iX7_in (fun _ => trivial) mlX7_143 stX7_in ⟨by decide, by decide⟩ rfl rfl (Nat.le_of_ble_eq_true rfl) (Nat.le_of_ble_eq_true rfl) (by decide) (by decide) ?_
  refine ct_in (Int32.toInt64 (2 : Int32)) 0 4 (2) 0 4 ((wid _).trans (by decide)) (by decide) (by decide) (fun _ => ?_) (fun z => absurd (by omega) z)
  show WP g mX7_council 17 [(0, .ref 100), (1, .int (nI i)), (2, .int (nI ff)), (3, .int 2)] [.int 1] _ 0 0 _
  refine wp_if_ne (tgt := 24) dX7_council_17 (by decide) (fun _ => ?_) (fun c_2 => absurd c_2 (by decide))
  refine wp_aload_n dX7_council_24 rfl 0 rfl ?_
  refine wp_iload_n dX7_council_25 rfl 1 rfl ?_
  refine wp_callV mX7_gather 100 [.int (nI i)] [] (c := 7) dX7_council_26 iX7_gather (fun _ => trivial) mlX7_215 imX7_gather seX7_gather (by decide) rfl rfl ⟨by decide, by decide⟩ rfl rfl (Nat.le_of_ble_eq_true rfl) (Nat.le_of_ble_eq_true rfl) (by decide) (by decide) ?_
  refine cm_gather nm i (by omega) hW hc1 hnm hd ?_
  show WP g mX7_council 29 [(0, .ref 100), (1, .int (nI i)), (2, .int (nI ff)), (3, .int 2)] [] _ 0 0 _
  refine wp_iload_n dX7_council_29 rfl 2 rfl ?_
  refine wp_i2l dX7_council_30 ?_
  refine wp_pc (pc' := 31) rfl ?_
  refine wp_lconst (v := 0) dX7_council_31 rfl ?_
  refine wp_aload_n dX7_council_32 rfl 0 rfl ?_
  refine wv_getI (nI (mz h i nm)) dX7_council_33 flX7_212 rfl rfl (by (try simp only [liv_sI, liv_sL]); rw [(mg_k h i nm).1]; exact hW.1) (mg_k h i nm).2.2.2.2.2 ?_
  refine wp_i2l dX7_council_36 ?_
  refine wp_lconst (v := 1) dX7_council_37 rfl ?_
  refine wp_lsub dX7_council_38 ?_
  refine wp_callS mX7_in [.long (Int32.toInt64 (nI ff)), .long 0, .long ((Int32.toInt64 (nI (mz h i nm))) - 1)] [] dX7_council_39 iX7_in (fun _ => trivial) mlX7_143 stX7_in ⟨by decide, by decide⟩ rfl rfl (Nat.le_of_ble_eq_true rfl) (Nat.le_of_ble_eq_true rfl) (by decide) (by decide) ?_
  refine ct_in (Int32.toInt64 (nI ff)) 0 ((Int32.toInt64 (nI (mz h i nm))) - 1) ((ff : Nat)) 0 ((mz h i nm : Nat) - 1 : Int) ((wid _).trans (nIt (by omega))) (by decide) (i64_sub1 (by omega)) (fun _ => ?_) (fun z => absurd ⟨by omega, by omega⟩ z)
  show WP g mX7_council 42 [(0, .ref 100), (1, .int (nI i)), (2, .int (nI ff)), (3, .int 2)] [.int 1] _ 0 0 _
  refine wp_if_ne (tgt := 49) dX7_council_42 (by decide) (fun _ => ?_) (fun c_3 => absurd c_3 (by decide))
  refine wp_aload_n dX7_council_49 rfl 0 rfl ?_
  refine wp_iload_n dX7_council_50 rfl 2 rfl ?_
  refine wp_callV mX7_findCouncil 100 [.int (nI ff)] [] (c := 7) dX7_council_51 iX7_findCouncil (fun _ => trivial) mlX7_235 imX7_findCouncil seX7_findCouncil (by decide) rfl rfl ⟨by decide, by decide⟩ rfl rfl (Nat.le_of_ble_eq_true rfl) (Nat.le_of_ble_eq_true rfl) (by decide) (by decide) ?_
  refine cm_findCouncil (mz h i nm) ff hz1 hz2 (MW_eq (mg_k h i nm).1 (mg_k h i nm).2.1 hW) (mg_k h i nm).2.2.2.2.2 hff trivial (fun h' P r hF hr => ?_) (fun h' P r hF hr => ?_)
  · show WP g mX7_council 54 [(0, .ref 100), (1, .int (nI i)), (2, .int (nI ff)), (3, .int 2)] [.int 1] _ 0 0 _
    refine wp_istore (lv' := [(4, .int 1), (0, .ref 100), (1, .int (nI i)), (2, .int (nI ff)), (3, .int 2)]) dX7_council_54 (by decide) rfl ?_
    refine wp_iload_n dX7_council_56 rfl 4 rfl ?_
    refine wp_iconst (v := 2) dX7_council_57 (by decide) ?_
    refine wp_icmp_ge (tgt := 79) dX7_council_58 (by decide) (fun _ => ?_) (fun c_4 => absurd (by decide) c_4)
    refine wp_iload dX7_council_79 0 rfl ?_
    refine wp_pc (pc' := 81) rfl ?_
    refine wp_if_ne (tgt := 90) dX7_council_81 (by decide) (fun _ => ?_) (fun c_5 => absurd c_5 (by decide))
    refine wp_iload_n dX7_council_90 rfl 4 rfl ?_
    refine wp_iconst (v := 2) dX7_council_91 (by decide) ?_
    refine wp_icmp_ne (tgt := 102) dX7_council_92 (by decide) (fun c_6 => absurd (by decide) c_6) (fun _ => ?_)
    refine wp_aload_n dX7_council_95 rfl 1 rfl ?_
    refine wv_getL (r.2.2.1) dX7_council_96 flX7_226 rfl rfl (by (try simp only [liv_sI, liv_sL]); rw [hF.1.1, (mg_k h i nm).1]; exact hW.1) hF.2.2.2.2.1 ?_
    refine wp_goto (tgt := 118) dX7_council_99 (by decide) ?_
    refine wp_lret dX7_council_118 rfl (by decide) (by decide) ?_
    exact hyes h' P r hF hr
  · show WP g mX7_council 54 [(0, .ref 100), (1, .int (nI i)), (2, .int (nI ff)), (3, .int 2)] [.int 0] _ 0 0 _
    refine wp_istore (lv' := [(4, .int 0), (0, .ref 100), (1, .int (nI i)), (2, .int (nI ff)), (3, .int 2)]) dX7_council_54 (by decide) rfl ?_
    refine wp_iload_n dX7_council_56 rfl 4 rfl ?_
    refine wp_iconst (v := 2) dX7_council_57 (by decide) ?_
    refine wp_icmp_ge (tgt := 79) dX7_council_58 (by decide) (fun _ => ?_) (fun c_7 => absurd (by decide) c_7)
    refine wp_iload dX7_council_79 0 rfl ?_
    refine wp_pc (pc' := 81) rfl ?_
    refine wp_if_ne (tgt := 90) dX7_council_81 (by decide) (fun c_8 => absurd (by decide) c_8) (fun _ => ?_)
    refine wp_ldc2 dX7_council_84 cnX7_155 ?_
    refine wp_goto (tgt := 118) dX7_council_87 (by decide) ?_
    refine wp_lret dX7_council_118 rfl (by decide) (by decide) ?_
    exact hno h' P r hF hr
set_option maxRecDepth 100000 in
set_option maxHeartbeats 4000000 in
theorem cm_council_3 {g : GG} {h : HP} {Post : Option Value → HP → Prop} (nm : Nat) (hW : MW h) (hc1 : vI h 100 1 = nI nm) (hnm : nm ≤ 10) (i : Nat) (hi : i < nm) (hd : DV h i) (ff : Nat) (hff : ff < mz h i nm) (hno : ∀ h' P r, FCq (mgH h i nm) (mz h i nm) ff h' P r → r.1 = 0 → Post (some (.long (-9000000000000000000))) h') (hyes : ∀ h' P r, FCq (mgH h i nm) (mz h i nm) ff h' P r → ¬ r.1 = 0 → Post (some (.long (r.2.2.2))) h') : CT g mX7_council [.ref 100, .int (nI i), .int (nI ff), .int 3] h Post := by
  show WP g mX7_council 0 [(0, .ref 100), (1, .int (nI i)), (2, .int (nI ff)), (3, .int 3)] [] h 0 0 Post
  have hz1 : 1 ≤ mz h i nm := mz_pos nm hi
  have hz2 : mz h i nm ≤ 10 := Nat.le_trans (mz_le h i nm) hnm
  refine wp_aload_n dX7_council_0 rfl 0 rfl ?_
  refine wp_iload_n dX7_council_1 rfl 1 rfl ?_
  refine wp_callV mX7_isMember 100 [.int (nI i)] [] (c := 7) dX7_council_2 iX7_isMember (fun _ => trivial) mlX7_163 imX7_isMember seX7_isMember (by decide) rfl rfl ⟨by decide, by decide⟩ rfl rfl (Nat.le_of_ble_eq_true rfl) (Nat.le_of_ble_eq_true rfl) (by decide) (by decide) ?_
  refine ct_isMember nm hW hc1 (by omega) i hi ?_
  show WP g mX7_council 5 [(0, .ref 100), (1, .int (nI i)), (2, .int (nI ff)), (3, .int 3)] [.int 1] _ 0 0 _
  refine wp_if_eq (tgt := 20) dX7_council_5 (by decide) (fun c_1 => absurd c_1 (by decide)) (fun _ => ?_)
  refine wp_iload_n dX7_council_8 rfl 3 rfl ?_
  refine wp_i2l dX7_council_9 ?_
  refine wp_lconst (v := 0) dX7_council_10 rfl ?_
  refine wp_ldc2 dX7_council_11 cnX7_157 ?_
  refine wp_callS mX7_in [.long (Int32.toInt64 (3 : Int32)), .long 0, .long 4] [] dX7_council_14 iX7_in (fun _ => trivial) mlX7_143 stX7_in ⟨by decide, by decide⟩ rfl rfl (Nat.le_of_ble_eq_true rfl) (Nat.le_of_ble_eq_true rfl) (by decide) (by decide) ?_
  refine ct_in (Int32.toInt64 (3 : Int32)) 0 4 (3) 0 4 ((wid _).trans (by decide)) (by decide) (by decide) (fun _ => ?_) (fun z => absurd (by omega) z)
  show WP g mX7_council 17 [(0, .ref 100), (1, .int (nI i)), (2, .int (nI ff)), (3, .int 3)] [.int 1] _ 0 0 _
  refine wp_if_ne (tgt := 24) dX7_council_17 (by decide) (fun _ => ?_) (fun c_2 => absurd c_2 (by decide))
  refine wp_aload_n dX7_council_24 rfl 0 rfl ?_
  refine wp_iload_n dX7_council_25 rfl 1 rfl ?_
  refine wp_callV mX7_gather 100 [.int (nI i)] [] (c := 7) dX7_council_26 iX7_gather (fun _ => trivial) mlX7_215 imX7_gather seX7_gather (by decide) rfl rfl ⟨by decide, by decide⟩ rfl rfl (Nat.le_of_ble_eq_true rfl) (Nat.le_of_ble_eq_true rfl) (by decide) (by decide) ?_
  refine cm_gather nm i (by omega) hW hc1 hnm hd ?_
  show WP g mX7_council 29 [(0, .ref 100), (1, .int (nI i)), (2, .int (nI ff)), (3, .int 3)] [] _ 0 0 _
  refine wp_iload_n dX7_council_29 rfl 2 rfl ?_
  refine wp_i2l dX7_council_30 ?_
  refine wp_pc (pc' := 31) rfl ?_
  refine wp_lconst (v := 0) dX7_council_31 rfl ?_
  refine wp_aload_n dX7_council_32 rfl 0 rfl ?_
  refine wv_getI (nI (mz h i nm)) dX7_council_33 flX7_212 rfl rfl (by (try simp only [liv_sI, liv_sL]); rw [(mg_k h i nm).1]; exact hW.1) (mg_k h i nm).2.2.2.2.2 ?_
  refine wp_i2l dX7_council_36 ?_
  refine wp_lconst (v := 1) dX7_council_37 rfl ?_
  refine wp_lsub dX7_council_38 ?_
  refine wp_callS mX7_in [.long (Int32.toInt64 (nI ff)), .long 0, .long ((Int32.toInt64 (nI (mz h i nm))) - 1)] [] dX7_council_39 iX7_in (fun _ => trivial) mlX7_143 stX7_in ⟨by decide, by decide⟩ rfl rfl (Nat.le_of_ble_eq_true rfl) (Nat.le_of_ble_eq_true rfl) (by decide) (by decide) ?_
  refine ct_in (Int32.toInt64 (nI ff)) 0 ((Int32.toInt64 (nI (mz h i nm))) - 1) ((ff : Nat)) 0 ((mz h i nm : Nat) - 1 : Int) ((wid _).trans (nIt (by omega))) (by decide) (i64_sub1 (by omega)) (fun _ => ?_) (fun z => absurd ⟨by omega, by omega⟩ z)
  show WP g mX7_council 42 [(0, .ref 100), (1, .int (nI i)), (2, .int (nI ff)), (3, .int 3)] [.int 1] _ 0 0 _
  refine wp_if_ne (tgt := 49) dX7_council_42 (by decide) (fun _ => ?_) (fun c_3 => absurd c_3 (by decide))
  refine wp_aload_n dX7_council_49 rfl 0 rfl ?_
  refine wp_iload_n dX7_council_50 rfl 2 rfl ?_
  refine wp_callV mX7_findCouncil 100 [.int (nI ff)] [] (c := 7) dX7_council_51 iX7_findCouncil (fun _ => trivial) mlX7_235 imX7_findCouncil seX7_findCouncil (by decide) rfl rfl ⟨by decide, by decide⟩ rfl rfl (Nat.le_of_ble_eq_true rfl) (Nat.le_of_ble_eq_true rfl) (by decide) (by decide) ?_
  refine cm_findCouncil (mz h i nm) ff hz1 hz2 (MW_eq (mg_k h i nm).1 (mg_k h i nm).2.1 hW) (mg_k h i nm).2.2.2.2.2 hff trivial (fun h' P r hF hr => ?_) (fun h' P r hF hr => ?_)
  · show WP g mX7_council 54 [(0, .ref 100), (1, .int (nI i)), (2, .int (nI ff)), (3, .int 3)] [.int 1] _ 0 0 _
    refine wp_istore (lv' := [(4, .int 1), (0, .ref 100), (1, .int (nI i)), (2, .int (nI ff)), (3, .int 3)]) dX7_council_54 (by decide) rfl ?_
    refine wp_iload_n dX7_council_56 rfl 4 rfl ?_
    refine wp_iconst (v := 2) dX7_council_57 (by decide) ?_
    refine wp_icmp_ge (tgt := 79) dX7_council_58 (by decide) (fun _ => ?_) (fun c_4 => absurd (by decide) c_4)
    refine wp_iload dX7_council_79 0 rfl ?_
    refine wp_pc (pc' := 81) rfl ?_
    refine wp_if_ne (tgt := 90) dX7_council_81 (by decide) (fun _ => ?_) (fun c_5 => absurd c_5 (by decide))
    refine wp_iload_n dX7_council_90 rfl 4 rfl ?_
    refine wp_iconst (v := 2) dX7_council_91 (by decide) ?_
    refine wp_icmp_ne (tgt := 102) dX7_council_92 (by decide) (fun _ => ?_) (fun c_6 => absurd c_6 (by decide))
    refine wp_iload_n dX7_council_102 rfl 4 rfl ?_
    refine wp_iconst (v := 3) dX7_council_103 (by decide) ?_
    refine wp_icmp_ne (tgt := 114) dX7_council_104 (by decide) (fun c_7 => absurd (by decide) c_7) (fun _ => ?_)
    refine wp_aload_n dX7_council_107 rfl 1 rfl ?_
    refine wv_getL (r.2.2.2) dX7_council_108 flX7_229 rfl rfl (by (try simp only [liv_sI, liv_sL]); rw [hF.1.1, (mg_k h i nm).1]; exact hW.1) hF.2.2.2.2.2.1 ?_
    refine wp_goto (tgt := 118) dX7_council_111 (by decide) ?_
    refine wp_lret dX7_council_118 rfl (by decide) (by decide) ?_
    exact hyes h' P r hF hr
  · show WP g mX7_council 54 [(0, .ref 100), (1, .int (nI i)), (2, .int (nI ff)), (3, .int 3)] [.int 0] _ 0 0 _
    refine wp_istore (lv' := [(4, .int 0), (0, .ref 100), (1, .int (nI i)), (2, .int (nI ff)), (3, .int 3)]) dX7_council_54 (by decide) rfl ?_
    refine wp_iload_n dX7_council_56 rfl 4 rfl ?_
    refine wp_iconst (v := 2) dX7_council_57 (by decide) ?_
    refine wp_icmp_ge (tgt := 79) dX7_council_58 (by decide) (fun _ => ?_) (fun c_8 => absurd (by decide) c_8)
    refine wp_iload dX7_council_79 0 rfl ?_
    refine wp_pc (pc' := 81) rfl ?_
    refine wp_if_ne (tgt := 90) dX7_council_81 (by decide) (fun c_9 => absurd (by decide) c_9) (fun _ => ?_)
    refine wp_ldc2 dX7_council_84 cnX7_155 ?_
    refine wp_goto (tgt := 118) dX7_council_87 (by decide) ?_
    refine wp_lret dX7_council_118 rfl (by decide) (by decide) ?_
    exact hno h' P r hF hr
set_option maxRecDepth 100000 in
set_option maxHeartbeats 4000000 in
theorem cm_council_4 {g : GG} {h : HP} {Post : Option Value → HP → Prop} (nm : Nat) (hW : MW h) (hc1 : vI h 100 1 = nI nm) (hnm : nm ≤ 10) (i : Nat) (hi : i < nm) (hd : DV h i) (ff : Nat) (hff : ff < mz h i nm) (hno : ∀ h' P r, FCq (mgH h i nm) (mz h i nm) ff h' P r → r.1 = 0 → Post (some (.long (-9000000000000000000))) h') (hyes : ∀ h' P r, FCq (mgH h i nm) (mz h i nm) ff h' P r → ¬ r.1 = 0 → Post (some (.long (vL h' 100 48))) h') : CT g mX7_council [.ref 100, .int (nI i), .int (nI ff), .int 4] h Post := by
  show WP g mX7_council 0 [(0, .ref 100), (1, .int (nI i)), (2, .int (nI ff)), (3, .int 4)] [] h 0 0 Post
  have hz1 : 1 ≤ mz h i nm := mz_pos nm hi
  have hz2 : mz h i nm ≤ 10 := Nat.le_trans (mz_le h i nm) hnm
  refine wp_aload_n dX7_council_0 rfl 0 rfl ?_
  refine wp_iload_n dX7_council_1 rfl 1 rfl ?_
  refine wp_callV mX7_isMember 100 [.int (nI i)] [] (c := 7) dX7_council_2 iX7_isMember (fun _ => trivial) mlX7_163 imX7_isMember seX7_isMember (by decide) rfl rfl ⟨by decide, by decide⟩ rfl rfl (Nat.le_of_ble_eq_true rfl) (Nat.le_of_ble_eq_true rfl) (by decide) (by decide) ?_
  refine ct_isMember nm hW hc1 (by omega) i hi ?_
  show WP g mX7_council 5 [(0, .ref 100), (1, .int (nI i)), (2, .int (nI ff)), (3, .int 4)] [.int 1] _ 0 0 _
  refine wp_if_eq (tgt := 20) dX7_council_5 (by decide) (fun c_1 => absurd c_1 (by decide)) (fun _ => ?_)
  refine wp_iload_n dX7_council_8 rfl 3 rfl ?_
  refine wp_i2l dX7_council_9 ?_
  refine wp_lconst (v := 0) dX7_council_10 rfl ?_
  refine wp_ldc2 dX7_council_11 cnX7_157 ?_
  refine wp_callS mX7_in [.long (Int32.toInt64 (4 : Int32)), .long 0, .long 4] [] dX7_council_14 iX7_in (fun _ => trivial) mlX7_143 stX7_in ⟨by decide, by decide⟩ rfl rfl (Nat.le_of_ble_eq_true rfl) (Nat.le_of_ble_eq_true rfl) (by decide) (by decide) ?_
  refine ct_in (Int32.toInt64 (4 : Int32)) 0 4 (4) 0 4 ((wid _).trans (by decide)) (by decide) (by decide) (fun _ => ?_) (fun z => absurd (by omega) z)
  show WP g mX7_council 17 [(0, .ref 100), (1, .int (nI i)), (2, .int (nI ff)), (3, .int 4)] [.int 1] _ 0 0 _
  refine wp_if_ne (tgt := 24) dX7_council_17 (by decide) (fun _ => ?_) (fun c_2 => absurd c_2 (by decide))
  refine wp_aload_n dX7_council_24 rfl 0 rfl ?_
  refine wp_iload_n dX7_council_25 rfl 1 rfl ?_
  refine wp_callV mX7_gather 100 [.int (nI i)] [] (c := 7) dX7_council_26 iX7_gather (fun _ => trivial) mlX7_215 imX7_gather seX7_gather (by decide) rfl rfl ⟨by decide, by decide⟩ rfl rfl (Nat.le_of_ble_eq_true rfl) (Nat.le_of_ble_eq_true rfl) (by decide) (by decide) ?_
  refine cm_gather nm i (by omega) hW hc1 hnm hd ?_
  show WP g mX7_council 29 [(0, .ref 100), (1, .int (nI i)), (2, .int (nI ff)), (3, .int 4)] [] _ 0 0 _
  refine wp_iload_n dX7_council_29 rfl 2 rfl ?_
  refine wp_i2l dX7_council_30 ?_
  refine wp_pc (pc' := 31) rfl ?_
  refine wp_lconst (v := 0) dX7_council_31 rfl ?_
  refine wp_aload_n dX7_council_32 rfl 0 rfl ?_
  refine wv_getI (nI (mz h i nm)) dX7_council_33 flX7_212 rfl rfl (by (try simp only [liv_sI, liv_sL]); rw [(mg_k h i nm).1]; exact hW.1) (mg_k h i nm).2.2.2.2.2 ?_
  refine wp_i2l dX7_council_36 ?_
  refine wp_lconst (v := 1) dX7_council_37 rfl ?_
  refine wp_lsub dX7_council_38 ?_
  refine wp_callS mX7_in [.long (Int32.toInt64 (nI ff)), .long 0, .long ((Int32.toInt64 (nI (mz h i nm))) - 1)] [] dX7_council_39 iX7_in (fun _ => trivial) mlX7_143 stX7_in ⟨by decide, by decide⟩ rfl rfl (Nat.le_of_ble_eq_true rfl) (Nat.le_of_ble_eq_true rfl) (by decide) (by decide) ?_
  refine ct_in (Int32.toInt64 (nI ff)) 0 ((Int32.toInt64 (nI (mz h i nm))) - 1) ((ff : Nat)) 0 ((mz h i nm : Nat) - 1 : Int) ((wid _).trans (nIt (by omega))) (by decide) (i64_sub1 (by omega)) (fun _ => ?_) (fun z => absurd ⟨by omega, by omega⟩ z)
  show WP g mX7_council 42 [(0, .ref 100), (1, .int (nI i)), (2, .int (nI ff)), (3, .int 4)] [.int 1] _ 0 0 _
  refine wp_if_ne (tgt := 49) dX7_council_42 (by decide) (fun _ => ?_) (fun c_3 => absurd c_3 (by decide))
  refine wp_aload_n dX7_council_49 rfl 0 rfl ?_
  refine wp_iload_n dX7_council_50 rfl 2 rfl ?_
  refine wp_callV mX7_findCouncil 100 [.int (nI ff)] [] (c := 7) dX7_council_51 iX7_findCouncil (fun _ => trivial) mlX7_235 imX7_findCouncil seX7_findCouncil (by decide) rfl rfl ⟨by decide, by decide⟩ rfl rfl (Nat.le_of_ble_eq_true rfl) (Nat.le_of_ble_eq_true rfl) (by decide) (by decide) ?_
  refine cm_findCouncil (mz h i nm) ff hz1 hz2 (MW_eq (mg_k h i nm).1 (mg_k h i nm).2.1 hW) (mg_k h i nm).2.2.2.2.2 hff trivial (fun h' P r hF hr => ?_) (fun h' P r hF hr => ?_)
  · show WP g mX7_council 54 [(0, .ref 100), (1, .int (nI i)), (2, .int (nI ff)), (3, .int 4)] [.int 1] _ 0 0 _
    refine wp_istore (lv' := [(4, .int 1), (0, .ref 100), (1, .int (nI i)), (2, .int (nI ff)), (3, .int 4)]) dX7_council_54 (by decide) rfl ?_
    refine wp_iload_n dX7_council_56 rfl 4 rfl ?_
    refine wp_iconst (v := 2) dX7_council_57 (by decide) ?_
    refine wp_icmp_ge (tgt := 79) dX7_council_58 (by decide) (fun _ => ?_) (fun c_4 => absurd (by decide) c_4)
    refine wp_iload dX7_council_79 0 rfl ?_
    refine wp_pc (pc' := 81) rfl ?_
    refine wp_if_ne (tgt := 90) dX7_council_81 (by decide) (fun _ => ?_) (fun c_5 => absurd c_5 (by decide))
    refine wp_iload_n dX7_council_90 rfl 4 rfl ?_
    refine wp_iconst (v := 2) dX7_council_91 (by decide) ?_
    refine wp_icmp_ne (tgt := 102) dX7_council_92 (by decide) (fun _ => ?_) (fun c_6 => absurd c_6 (by decide))
    refine wp_iload_n dX7_council_102 rfl 4 rfl ?_
    refine wp_iconst (v := 3) dX7_council_103 (by decide) ?_
    refine wp_icmp_ne (tgt := 114) dX7_council_104 (by decide) (fun _ => ?_) (fun c_7 => absurd c_7 (by decide))
    refine wp_aload_n dX7_council_114 rfl 1 rfl ?_
    refine wp_getL dX7_council_115 flX7_232 rfl rfl (by (try simp only [liv_sI, liv_sL]); rw [hF.1.1, (mg_k h i nm).1]; exact hW.1) ?_
    refine wp_lret dX7_council_118 rfl (by decide) (by decide) ?_
    exact hyes h' P r hF hr
  · show WP g mX7_council 54 [(0, .ref 100), (1, .int (nI i)), (2, .int (nI ff)), (3, .int 4)] [.int 0] _ 0 0 _
    refine wp_istore (lv' := [(4, .int 0), (0, .ref 100), (1, .int (nI i)), (2, .int (nI ff)), (3, .int 4)]) dX7_council_54 (by decide) rfl ?_
    refine wp_iload_n dX7_council_56 rfl 4 rfl ?_
    refine wp_iconst (v := 2) dX7_council_57 (by decide) ?_
    refine wp_icmp_ge (tgt := 79) dX7_council_58 (by decide) (fun _ => ?_) (fun c_8 => absurd (by decide) c_8)
    refine wp_iload dX7_council_79 0 rfl ?_
    refine wp_pc (pc' := 81) rfl ?_
    refine wp_if_ne (tgt := 90) dX7_council_81 (by decide) (fun c_9 => absurd (by decide) c_9) (fun _ => ?_)
    refine wp_ldc2 dX7_council_84 cnX7_155 ?_
    refine wp_goto (tgt := 118) dX7_council_87 (by decide) ?_
    refine wp_lret dX7_council_118 rfl (by decide) (by decide) ?_
    exact hno h' P r hF hr
set_option maxRecDepth 100000 in
set_option maxHeartbeats 4000000 in
theorem cm_meet0 {g : GG} {h : HP} {Post : Option Value → HP → Prop} (f : Int32) (nm : Nat) (hW : MW h) (hc1 : vI h 100 1 = nI nm) (hnm : nm ≤ 10) (x : Int32) (hx : ¬ inR x nm) (hp : Post (some (.long (-9000000000000000000))) h) : CT g mX7_meet [.ref 100, .int x, .int f] h Post := by
  show WP g mX7_meet 0 [(0, .ref 100), (1, .int x), (2, .int f)] [] h 0 0 Post
  refine wp_aload_n dX7_meet_0 rfl 0 rfl ?_
  refine wp_iload_n dX7_meet_1 rfl 1 rfl ?_
  refine wp_callV mX7_isMember 100 [.int x] [] (c := 7) dX7_meet_2 iX7_isMember (fun _ => trivial) mlX7_163 imX7_isMember seX7_isMember (by decide) rfl rfl ⟨by decide, by decide⟩ rfl rfl (Nat.le_of_ble_eq_true rfl) (Nat.le_of_ble_eq_true rfl) (by decide) (by decide) ?_
  refine ct_isMember0 nm hW hc1 (by omega) x hx ?_
  show WP g mX7_meet 5 [(0, .ref 100), (1, .int x), (2, .int f)] [.int 0] _ 0 0 _
  refine wp_if_eq (tgt := 27) dX7_meet_5 (by decide) (fun _ => ?_) (fun c_1 => absurd (by decide) c_1)
  refine wp_ldc2 dX7_meet_27 cnX7_155 ?_
  refine wp_lret dX7_meet_30 rfl (by decide) (by decide) ?_
  exact hp
def okMm (h : HP) (i : Nat) : Prop := 2 ≤ (vI h 103 i).toInt ∧ (vI h 114 i).toInt = 0
set_option maxRecDepth 100000 in
set_option maxHeartbeats 4000000 in
theorem cm_meet_k {g : GG} {h : HP} {Post : Option Value → HP → Prop} (nm : Nat) (hW : MW h) (hc1 : vI h 100 1 = nI nm) (hnm : nm ≤ 10) (i : Nat) (hi : i < nm) (hd : DV h i) (f : Int32) (hk0 : ¬ okMm h i) (hp : Post (some (.long (-9000000000000000000))) h) : CT g mX7_meet [.ref 100, .int (nI i), .int f] h Post := by
  show WP g mX7_meet 0 [(0, .ref 100), (1, .int (nI i)), (2, .int f)] [] h 0 0 Post
  refine wp_aload_n dX7_meet_0 rfl 0 rfl ?_
  refine wp_iload_n dX7_meet_1 rfl 1 rfl ?_
  refine wp_callV mX7_isMember 100 [.int (nI i)] [] (c := 7) dX7_meet_2 iX7_isMember (fun _ => trivial) mlX7_163 imX7_isMember seX7_isMember (by decide) rfl rfl ⟨by decide, by decide⟩ rfl rfl (Nat.le_of_ble_eq_true rfl) (Nat.le_of_ble_eq_true rfl) (by decide) (by decide) ?_
  refine ct_isMember nm hW hc1 (by omega) i hi ?_
  show WP g mX7_meet 5 [(0, .ref 100), (1, .int (nI i)), (2, .int f)] [.int 1] _ 0 0 _
  refine wp_if_eq (tgt := 27) dX7_meet_5 (by decide) (fun c_1 => absurd c_1 (by decide)) (fun _ => ?_)
  refine wp_aload_n dX7_meet_8 rfl 0 rfl ?_
  refine wp_getP (b := 103) dX7_meet_9 flX7_7 rfl rfl hW.1 (hW.2 2 rfl).2 ?_
  refine wp_iload_n dX7_meet_12 rfl 1 rfl ?_
  refine wv_iald i (vI h 103 i) dX7_meet_13 rfl (hW.2 2 rfl).1 rfl (by show i < 10; omega) rfl ?_
  refine wp_iconst (v := 2) dX7_meet_14 (by decide) ?_
  refine wi_icmp_lt (tgt := 27) (Int32.toInt (vI h 103 i)) (2) rfl (by decide) dX7_meet_15 (by decide) (fun c_2 => ?_) (fun c_2 => ?_)
  · refine wp_ldc2 dX7_meet_27 cnX7_155 ?_
    refine wp_lret dX7_meet_30 rfl (by decide) (by decide) ?_
    exact hp
  · refine wp_aload_n dX7_meet_18 rfl 0 rfl ?_
    refine wp_getP (b := 114) dX7_meet_19 flX7_44 rfl rfl hW.1 (hW.2 13 rfl).2 ?_
    refine wp_iload_n dX7_meet_22 rfl 1 rfl ?_
    refine wv_bald i (vI h 114 i) dX7_meet_23 rfl (hW.2 13 rfl).1 rfl (by show i < 10; omega) rfl ?_
    refine wi_if_eq (tgt := 31) (Int32.toInt (vI h 114 i)) rfl dX7_meet_24 (by decide) (fun c_3 => ?_) (fun c_3 => ?_)
    · exact absurd (show okMm h i from ⟨by omega, by omega⟩) hk0
    · refine wp_ldc2 dX7_meet_27 cnX7_155 ?_
      refine wp_lret dX7_meet_30 rfl (by decide) (by decide) ?_
      exact hp
set_option maxRecDepth 100000 in
set_option maxHeartbeats 4000000 in
theorem cm_meet_f {g : GG} {h : HP} {Post : Option Value → HP → Prop} (nm : Nat) (hW : MW h) (hc1 : vI h 100 1 = nI nm) (hnm : nm ≤ 10) (i : Nat) (hi : i < nm) (hd : DV h i) (f : Int32) (hk0 : okMm h i) (hf : ¬ inR f (mz h i nm)) (hp : Post (some (.long (-9000000000000000000))) (mgH h i nm)) : CT g mX7_meet [.ref 100, .int (nI i), .int f] h Post := by
  show WP g mX7_meet 0 [(0, .ref 100), (1, .int (nI i)), (2, .int f)] [] h 0 0 Post
  have hz1 : 1 ≤ mz h i nm := mz_pos nm hi
  have hz2 : mz h i nm ≤ 10 := Nat.le_trans (mz_le h i nm) hnm
  refine wp_aload_n dX7_meet_0 rfl 0 rfl ?_
  refine wp_iload_n dX7_meet_1 rfl 1 rfl ?_
  refine wp_callV mX7_isMember 100 [.int (nI i)] [] (c := 7) dX7_meet_2 iX7_isMember (fun _ => trivial) mlX7_163 imX7_isMember seX7_isMember (by decide) rfl rfl ⟨by decide, by decide⟩ rfl rfl (Nat.le_of_ble_eq_true rfl) (Nat.le_of_ble_eq_true rfl) (by decide) (by decide) ?_
  refine ct_isMember nm hW hc1 (by omega) i hi ?_
  show WP g mX7_meet 5 [(0, .ref 100), (1, .int (nI i)), (2, .int f)] [.int 1] _ 0 0 _
  refine wp_if_eq (tgt := 27) dX7_meet_5 (by decide) (fun c_1 => absurd c_1 (by decide)) (fun _ => ?_)
  refine wp_aload_n dX7_meet_8 rfl 0 rfl ?_
  refine wp_getP (b := 103) dX7_meet_9 flX7_7 rfl rfl hW.1 (hW.2 2 rfl).2 ?_
  refine wp_iload_n dX7_meet_12 rfl 1 rfl ?_
  refine wv_iald i (vI h 103 i) dX7_meet_13 rfl (hW.2 2 rfl).1 rfl (by show i < 10; omega) rfl ?_
  refine wp_iconst (v := 2) dX7_meet_14 (by decide) ?_
  refine wi_icmp_lt (tgt := 27) (Int32.toInt (vI h 103 i)) (2) rfl (by decide) dX7_meet_15 (by decide) (fun c_2 => absurd c_2 (by have := hk0.1; omega)) (fun _ => ?_)
  refine wp_aload_n dX7_meet_18 rfl 0 rfl ?_
  refine wp_getP (b := 114) dX7_meet_19 flX7_44 rfl rfl hW.1 (hW.2 13 rfl).2 ?_
  refine wp_iload_n dX7_meet_22 rfl 1 rfl ?_
  refine wv_bald i (vI h 114 i) dX7_meet_23 rfl (hW.2 13 rfl).1 rfl (by show i < 10; omega) rfl ?_
  refine wi_if_eq (tgt := 31) (Int32.toInt (vI h 114 i)) rfl dX7_meet_24 (by decide) (fun _ => ?_) (fun c_3 => absurd hk0.2 c_3)
  refine wp_pc (pc' := 31) rfl ?_
  refine wp_aload_n dX7_meet_31 rfl 0 rfl ?_
  refine wp_iload_n dX7_meet_32 rfl 1 rfl ?_
  refine wp_callV mX7_gather 100 [.int (nI i)] [] (c := 7) dX7_meet_33 iX7_gather (fun _ => trivial) mlX7_215 imX7_gather seX7_gather (by decide) rfl rfl ⟨by decide, by decide⟩ rfl rfl (Nat.le_of_ble_eq_true rfl) (Nat.le_of_ble_eq_true rfl) (by decide) (by decide) ?_
  refine cm_gather nm i (by omega) hW hc1 hnm hd ?_
  show WP g mX7_meet 36 [(0, .ref 100), (1, .int (nI i)), (2, .int f)] [] _ 0 0 _
  refine wp_iload_n dX7_meet_36 rfl 2 rfl ?_
  refine wp_i2l dX7_meet_37 ?_
  refine wp_lconst (v := 0) dX7_meet_38 rfl ?_
  refine wp_aload_n dX7_meet_39 rfl 0 rfl ?_
  refine wv_getI (nI (mz h i nm)) dX7_meet_40 flX7_212 rfl rfl (by (try simp only [liv_sI, liv_sL]); rw [(mg_k h i nm).1]; exact hW.1) (mg_k h i nm).2.2.2.2.2 ?_
  refine wp_i2l dX7_meet_43 ?_
  refine wp_lconst (v := 1) dX7_meet_44 rfl ?_
  refine wp_lsub dX7_meet_45 ?_
  refine wp_callS mX7_in [.long (Int32.toInt64 f), .long 0, .long ((Int32.toInt64 (nI (mz h i nm))) - 1)] [] dX7_meet_46 iX7_in (fun _ => trivial) mlX7_143 stX7_in ⟨by decide, by decide⟩ rfl rfl (Nat.le_of_ble_eq_true rfl) (Nat.le_of_ble_eq_true rfl) (by decide) (by decide) ?_
  refine ct_in (Int32.toInt64 f) 0 ((Int32.toInt64 (nI (mz h i nm))) - 1) (Int32.toInt f) 0 ((mz h i nm : Nat) - 1 : Int) ((wid _).trans rfl) (by decide) (i64_sub1 (by omega)) (fun z => absurd (show inR f (mz h i nm) from ⟨by omega, by omega⟩) hf) (fun _ => ?_)
  show WP g mX7_meet 49 [(0, .ref 100), (1, .int (nI i)), (2, .int f)] [.int 0] _ 0 0 _
  refine wp_if_eq (tgt := 60) dX7_meet_49 (by decide) (fun _ => ?_) (fun c_4 => absurd (by decide) c_4)
  refine wp_ldc2 dX7_meet_60 cnX7_155 ?_
  refine wp_lret dX7_meet_63 rfl (by decide) (by decide) ?_
  exact hp
def bt1 (l : Int64) (k : Nat) : Int32 := if l >>> (Int32.toInt64 (nI k) &&& 63) &&& 1 = 1 then 1 else 0
def mnt (h : HP) (l : Int64) (w : Nat → Nat) : Nat → HP
  | 0 => h
  | k + 1 => sI (sI (mnt h l w k) 118 (w k) (vI (mnt h l w k) 118 (w k) + 1)) 117 (w k) (vI (mnt h l w k) 117 (w k) + bt1 l (w k))
theorem mnt_k (h : HP) (l : Int64) (w : Nat → Nat) : ∀ k, liv (mnt h l w k) = liv h ∧ vL (mnt h l w k) = vL h ∧ vP (mnt h l w k) = vP h ∧ ∀ a, a ≠ 117 → a ≠ 118 → vI (mnt h l w k) a = vI h a
  | 0 => ⟨rfl, rfl, rfl, fun _ _ _ => rfl⟩
  | k + 1 => by
    obtain ⟨h1, h2, h3, h4⟩ := mnt_k h l w k
    exact ⟨h1, h2, h3, fun a q1 q2 => by show vI (sI (sI _ 118 _ _) 117 _ _) a = _; rw [vIn q1, vIn q2]; exact h4 a q1 q2⟩
def clr (h : HP) (i : Nat) : Nat → HP
  | 0 => h
  | n + 1 => sI (clr h i n) 119 (10 * i + n) 0
theorem clr_k (h : HP) (i : Nat) : ∀ n, liv (clr h i n) = liv h ∧ vL (clr h i n) = vL h ∧ vP (clr h i n) = vP h ∧ ∀ a, a ≠ 119 → vI (clr h i n) a = vI h a
  | 0 => ⟨rfl, rfl, rfl, fun _ _ => rfl⟩
  | n + 1 => by
    obtain ⟨h1, h2, h3, h4⟩ := clr_k h i n
    exact ⟨h1, h2, h3, fun a q => by show vI (sI _ 119 _ _) a = _; rw [vIn q]; exact h4 a q⟩
set_option maxRecDepth 100000 in
set_option maxHeartbeats 4000000 in
theorem lm_clr {g : GG} {h : HP} {Post : Option Value → HP → Prop} (i : Nat) (hi : i < 10) (hW : MW h) (hp : Post (some (.long (vL h 100 48))) (clr h i 10)) : ∀ (k n : Nat), n + k = 10 → WP g mX7_meet 165 [(0, .ref 100), (1, .int (nI i)), (3, .int (nI n))] [] (clr h i n) 0 0 Post := by
  intro k
  induction k with
  | zero =>
    intro n e0
    refine wp_iload_n dX7_meet_165 rfl 2 rfl ?_
    refine wp_bipush (v := 10) dX7_meet_166 (by decide) ?_
    refine wp_icmp_ge (tgt := 189) dX7_meet_168 (by decide) (fun _ => ?_) (fun c_1 => absurd (nI_le (a := 10) (b := n) (by omega) (by omega)) c_1)
    refine wp_aload_n dX7_meet_189 rfl 0 rfl ?_
    refine wv_getL (vL h 100 48) dX7_meet_190 flX7_232 rfl rfl (by rw [(clr_k h i n).1]; exact hW.1) (by rw [(clr_k h i n).2.1]) ?_
    refine wp_lret dX7_meet_193 rfl (by decide) (by decide) ?_
    obtain rfl : n = 10 := by omega
    exact hp
  | succ k ih =>
    intro n e0
    refine wp_iload_n dX7_meet_165 rfl 2 rfl ?_
    refine wp_bipush (v := 10) dX7_meet_166 (by decide) ?_
    refine wp_icmp_ge (tgt := 189) dX7_meet_168 (by decide) (fun c_1 => absurd c_1 (nI_ge (a := n) (b := 10) (by omega) (by omega))) (fun _ => ?_)
    refine wp_aload_n dX7_meet_171 rfl 0 rfl ?_
    refine wp_getP (b := 119) dX7_meet_172 flX7_60 rfl rfl (by rw [(clr_k h i n).1]; exact hW.1) (by rw [(clr_k h i n).2.2.1]; exact (hW.2 18 rfl).2) ?_
    refine wp_bipush (v := 10) dX7_meet_175 (by decide) ?_
    refine wp_iload_n dX7_meet_177 rfl 1 rfl ?_
    refine wv_imul (nI (10 * i)) (wN_mul rfl rfl) dX7_meet_178 ?_
    refine wp_iload_n dX7_meet_179 rfl 2 rfl ?_
    refine wv_iadd (nI ((10 * i) + n)) (wN_add rfl rfl) dX7_meet_180 ?_
    refine wp_iconst (v := 0) dX7_meet_181 (by decide) ?_
    refine wv_bast (10 * i + n) dX7_meet_182 rfl (by rw [(clr_k h i n).1]; exact (hW.2 18 rfl).1) rfl (by show 10 * i + n < 100; omega) rfl ?_
    refine wp_iinc (q := 2) (x := nI n) (v := nI (n + 1)) (lv' := [(3, .int (nI (n + 1))), (0, .ref 100), (1, .int (nI i))]) dX7_meet_183 rfl (nI_1 _) (by decide) rfl ?_
    refine wp_goto (tgt := 165) dX7_meet_186 (by decide) ?_
    refine wp_sub [1, 2, 0] rfl ?_
    exact ih (n + 1) (by omega)
def mtM (h : HP) (i : Nat) (lo hi c : Int64) : HP := clr (sL (sL (sL h 109 i lo) 110 i hi) 111 i c) i 10
set_option maxRecDepth 100000 in
set_option maxHeartbeats 4000000 in
theorem lm_mid {g : GG} {h : HP} {Post : Option Value → HP → Prop} (i : Nat) (hi : i < 10) (hW : MW h) (hd : DV h i) (hp : Post (some (.long (vL h 100 48))) (mtM h i (vL h 100 46) (vL h 100 47) (mCn h i))) : WP g mX7_meet 132 [(0, .ref 100), (1, .int (nI i))] [] h 0 0 Post := by
  refine wp_aload_n dX7_meet_132 rfl 0 rfl ?_
  refine wp_getP (b := 109) dX7_meet_133 flX7_29 rfl rfl hW.1 (hW.2 8 rfl).2 ?_
  refine wp_iload_n dX7_meet_136 rfl 1 rfl ?_
  refine wp_aload_n dX7_meet_137 rfl 0 rfl ?_
  refine wp_getL dX7_meet_138 flX7_226 rfl rfl hW.1 ?_
  refine wv_last i dX7_meet_141 rfl (hW.2 8 rfl).1 rfl (by show i < 10; omega) ?_
  refine wp_aload_n dX7_meet_142 rfl 0 rfl ?_
  refine wp_getP (b := 110) dX7_meet_143 flX7_32 rfl rfl hW.1 (hW.2 9 rfl).2 ?_
  refine wp_iload_n dX7_meet_146 rfl 1 rfl ?_
  refine wp_aload_n dX7_meet_147 rfl 0 rfl ?_
  refine wv_getL (vL h 100 47) dX7_meet_148 flX7_229 rfl rfl hW.1 (by simp [vI, vL, vP, sI, sL, sP, up2]) ?_
  refine wv_last i dX7_meet_151 rfl (hW.2 9 rfl).1 rfl (by show i < 10; omega) ?_
  refine wp_aload_n dX7_meet_152 rfl 0 rfl ?_
  refine wp_getP (b := 111) dX7_meet_153 flX7_35 rfl rfl hW.1 (hW.2 10 rfl).2 ?_
  refine wp_iload_n dX7_meet_156 rfl 1 rfl ?_
  refine wp_pc (pc' := 157) rfl ?_
  refine wp_aload_n dX7_meet_157 rfl 0 rfl ?_
  refine wp_iload_n dX7_meet_158 rfl 1 rfl ?_
  refine wp_callV mX7_counterOf 100 [.int (nI i)] [.int (nI i), .ref 111] (c := 7) dX7_meet_159 iX7_counterOf (fun _ => trivial) mlX7_173 imX7_counterOf seX7_counterOf (by decide) rfl rfl ⟨by decide, by decide⟩ rfl rfl (Nat.le_of_ble_eq_true rfl) (Nat.le_of_ble_eq_true rfl) (by decide) (by decide) ?_
  have mc : mCn (sL (sL h 109 i (vL h 100 46)) 110 i (vL h 100 47)) i = mCn h i ∧ DV (sL (sL h 109 i (vL h 100 46)) 110 i (vL h 100 47)) i := by
      refine ⟨?_, DV_eq ?_ ?_ hd⟩
      · unfold mCn; simp [vL, sL, up2]
      · simp [vL, sL, up2]
      · simp [vL, sL, up2]
  refine cm_counterOf i hi (MW_eq (h := h) rfl rfl hW) mc.2 ?_
  rw [mc.1]
  show WP g mX7_meet 162 [(0, .ref 100), (1, .int (nI i))] [.long (mCn h i), .int (nI i), .ref 111] _ 0 0 _
  refine wv_last i dX7_meet_162 rfl (hW.2 10 rfl).1 rfl (by show i < 10; omega) ?_
  refine wp_iconst (v := 0) dX7_meet_163 (by decide) ?_
  refine wp_istore_n (lv' := [(3, .int 0), (0, .ref 100), (1, .int (nI i))]) dX7_meet_164 rfl (by decide) rfl ?_
  refine wp_sub [1, 2, 0] rfl ?_
  exact lm_clr (h := sL (sL (sL h 109 i (vL h 100 46)) 110 i (vL h 100 47)) 111 i (mCn h i)) i hi (MW_eq (h := h) rfl rfl hW) (by rw [show vL (sL (sL (sL h 109 i (vL h 100 46)) 110 i (vL h 100 47)) 111 i (mCn h i)) 100 48 = vL h 100 48 by simp [vL, sL, up2]]; exact hp) 10 0 (by omega)
set_option maxRecDepth 100000 in
set_option maxHeartbeats 4000000 in
theorem lm_note {g : GG} {h : HP} {Post : Option Value → HP → Prop} (i s : Nat) (l : Int64) (w : Nat → Nat) (hs : s ≤ 10) (hW : MW h) (hc40 : vI h 100 40 = nI s) (hl48 : vL h 100 48 = l) (hw : ∀ k, k < s → w k < 10 ∧ vI h 142 k = nI (w k)) (hnext : WP g mX7_meet 132 [(0, .ref 100), (1, .int (nI i))] [] (mnt h l w s) 0 0 Post) : ∀ (k n : Nat), n + k = s → WP g mX7_meet 66 [(0, .ref 100), (1, .int (nI i)), (3, .int (nI n))] [] (mnt h l w n) 0 0 Post := by
  intro k
  induction k with
  | zero =>
    intro n e0
    refine wp_iload_n dX7_meet_66 rfl 2 rfl ?_
    refine wp_aload_n dX7_meet_67 rfl 0 rfl ?_
    refine wv_getI (nI s) dX7_meet_68 flX7_212 rfl rfl (by (try simp only [liv_sI]); rw [(mnt_k h l w n).1]; exact hW.1) (by rw [(mnt_k h l w n).2.2.2 100 (by decide) (by decide)]; exact hc40) ?_
    refine wp_icmp_ge (tgt := 132) dX7_meet_71 (by decide) (fun _ => ?_) (fun c_1 => absurd (nI_le (by omega) (by omega)) c_1)
    refine wp_sub [0, 1] rfl ?_
    obtain rfl : n = s := by omega
    exact hnext
  | succ k ih =>
    intro n e0
    refine wp_iload_n dX7_meet_66 rfl 2 rfl ?_
    refine wp_aload_n dX7_meet_67 rfl 0 rfl ?_
    refine wv_getI (nI s) dX7_meet_68 flX7_212 rfl rfl (by (try simp only [liv_sI]); rw [(mnt_k h l w n).1]; exact hW.1) (by rw [(mnt_k h l w n).2.2.2 100 (by decide) (by decide)]; exact hc40) ?_
    refine wp_icmp_ge (tgt := 132) dX7_meet_71 (by decide) (fun c_1 => absurd c_1 (nI_ge (by omega) (by omega))) (fun _ => ?_)
    refine wp_aload_n dX7_meet_74 rfl 0 rfl ?_
    refine wp_getP (b := 118) dX7_meet_75 flX7_57 rfl rfl (by (try simp only [liv_sI]); rw [(mnt_k h l w n).1]; exact hW.1) (by (try simp only [vP_sI]); rw [(mnt_k h l w n).2.2.1]; exact (hW.2 17 rfl).2) ?_
    refine wp_aload_n dX7_meet_78 rfl 0 rfl ?_
    refine wp_getP (b := 142) dX7_meet_79 flX7_114 rfl rfl (by (try simp only [liv_sI]); rw [(mnt_k h l w n).1]; exact hW.1) (by (try simp only [vP_sI]); rw [(mnt_k h l w n).2.2.1]; exact (hW.2 41 rfl).2) ?_
    refine wp_iload_n dX7_meet_82 rfl 2 rfl ?_
    refine wv_iald n (nI (w n)) dX7_meet_83 rfl (by (try simp only [liv_sI]); rw [(mnt_k h l w n).1]; exact (hW.2 41 rfl).1) rfl (by show n < 10; omega) (by (try rw [vIn (by decide)]); rw [(mnt_k h l w n).2.2.2 142 (by decide) (by decide)]; exact (hw n (by omega)).2) ?_
    refine wp_dup2_11 dX7_meet_84 rfl rfl ?_
    refine wv_iald (w n) (vI (mnt h l w n) 118 (w n)) dX7_meet_85 rfl (by (try simp only [liv_sI]); rw [(mnt_k h l w n).1]; exact (hW.2 17 rfl).1) rfl (by have := (hw n (by omega)).1; show w n < 10; omega) rfl ?_
    refine wp_iconst (v := 1) dX7_meet_86 (by decide) ?_
    refine wp_iadd dX7_meet_87 ?_
    refine wv_iast (w n) dX7_meet_88 rfl (by (try simp only [liv_sI]); rw [(mnt_k h l w n).1]; exact (hW.2 17 rfl).1) rfl (by have := (hw n (by omega)).1; show w n < 10; omega) ?_
    refine wp_pc (pc' := 89) rfl ?_
    refine wp_aload_n dX7_meet_89 rfl 0 rfl ?_
    refine wp_getP (b := 117) dX7_meet_90 flX7_54 rfl rfl (by (try simp only [liv_sI]); rw [(mnt_k h l w n).1]; exact hW.1) (by (try simp only [vP_sI]); rw [(mnt_k h l w n).2.2.1]; exact (hW.2 16 rfl).2) ?_
    refine wp_aload_n dX7_meet_93 rfl 0 rfl ?_
    refine wp_getP (b := 142) dX7_meet_94 flX7_114 rfl rfl (by (try simp only [liv_sI]); rw [(mnt_k h l w n).1]; exact hW.1) (by (try simp only [vP_sI]); rw [(mnt_k h l w n).2.2.1]; exact (hW.2 41 rfl).2) ?_
    refine wp_iload_n dX7_meet_97 rfl 2 rfl ?_
    refine wv_iald n (nI (w n)) dX7_meet_98 rfl (by (try simp only [liv_sI]); rw [(mnt_k h l w n).1]; exact (hW.2 41 rfl).1) rfl (by show n < 10; omega) (by (try rw [vIn (by decide)]); rw [(mnt_k h l w n).2.2.2 142 (by decide) (by decide)]; exact (hw n (by omega)).2) ?_
    refine wp_dup2_11 dX7_meet_99 rfl rfl ?_
    refine wv_iald (w n) (vI (mnt h l w n) 117 (w n)) dX7_meet_100 rfl (by (try simp only [liv_sI]); rw [(mnt_k h l w n).1]; exact (hW.2 16 rfl).1) rfl (by have := (hw n (by omega)).1; show w n < 10; omega) (by rw [vIn (by decide)]) ?_
    refine wp_aload_n dX7_meet_101 rfl 0 rfl ?_
    refine wv_getL (l) dX7_meet_102 flX7_232 rfl rfl (by (try simp only [liv_sI]); rw [(mnt_k h l w n).1]; exact hW.1) (by (try simp only [vL_sI]); rw [(mnt_k h l w n).2.1]; exact hl48) ?_
    refine wp_aload_n dX7_meet_105 rfl 0 rfl ?_
    refine wp_getP (b := 142) dX7_meet_106 flX7_114 rfl rfl (by (try simp only [liv_sI]); rw [(mnt_k h l w n).1]; exact hW.1) (by (try simp only [vP_sI]); rw [(mnt_k h l w n).2.2.1]; exact (hW.2 41 rfl).2) ?_
    refine wp_iload_n dX7_meet_109 rfl 2 rfl ?_
    refine wv_iald n (nI (w n)) dX7_meet_110 rfl (by (try simp only [liv_sI]); rw [(mnt_k h l w n).1]; exact (hW.2 41 rfl).1) rfl (by show n < 10; omega) (by (try rw [vIn (by decide)]); rw [(mnt_k h l w n).2.2.2 142 (by decide) (by decide)]; exact (hw n (by omega)).2) ?_
    refine wp_lshr dX7_meet_111 rfl ?_
    refine wp_pc (pc' := 112) rfl ?_
    refine wp_lconst (v := 1) dX7_meet_112 rfl ?_
    refine wp_land dX7_meet_113 ?_
    refine wp_lconst (v := 1) dX7_meet_114 rfl ?_
    refine wl_ne (tgt := 123) dX7_meet_115 dX7_meet_116 (by decide) (fun c_2 => ?_) (fun c_2 => ?_)
    · refine wp_iconst (v := 0) dX7_meet_123 (by decide) ?_
      refine wp_iadd dX7_meet_124 ?_
      refine wv_iast (w n) dX7_meet_125 rfl (by (try simp only [liv_sI]); rw [(mnt_k h l w n).1]; exact (hW.2 16 rfl).1) rfl (by have := (hw n (by omega)).1; show w n < 10; omega) ?_
      refine wp_iinc (q := 2) (x := nI n) (v := nI (n + 1)) (lv' := [(3, .int (nI (n + 1))), (0, .ref 100), (1, .int (nI i))]) dX7_meet_126 rfl (nI_1 _) (by decide) rfl ?_
      refine wp_goto (tgt := 66) dX7_meet_129 (by decide) ?_
      refine wp_sub [1, 2, 0] rfl ?_
      have q := ih (n + 1) (by omega)
      unfold mnt at q
      rw [show bt1 l (w n) = 0 from if_neg c_2] at q
      exact q
    · refine wp_iconst (v := 1) dX7_meet_119 (by decide) ?_
      refine wp_goto (tgt := 124) dX7_meet_120 (by decide) ?_
      refine wp_iadd dX7_meet_124 ?_
      refine wv_iast (w n) dX7_meet_125 rfl (by (try simp only [liv_sI]); rw [(mnt_k h l w n).1]; exact (hW.2 16 rfl).1) rfl (by have := (hw n (by omega)).1; show w n < 10; omega) ?_
      refine wp_iinc (q := 2) (x := nI n) (v := nI (n + 1)) (lv' := [(3, .int (nI (n + 1))), (0, .ref 100), (1, .int (nI i))]) dX7_meet_126 rfl (nI_1 _) (by decide) rfl ?_
      refine wp_goto (tgt := 66) dX7_meet_129 (by decide) ?_
      refine wp_sub [1, 2, 0] rfl ?_
      have q := ih (n + 1) (by omega)
      unfold mnt at q
      rw [show bt1 l (w n) = 1 from if_pos c_2] at q
      exact q
set_option maxRecDepth 100000 in
set_option maxHeartbeats 4000000 in
theorem cm_meet_y {g : GG} {h : HP} {Post : Option Value → HP → Prop} (nm : Nat) (hW : MW h) (hc1 : vI h 100 1 = nI nm) (hnm : nm ≤ 10) (i : Nat) (hi : i < nm) (hd : DV h i) (ff : Nat) (hff : ff < mz h i nm) (hk0 : okMm h i) (hno : ∀ h' P r, FCq (mgH h i nm) (mz h i nm) ff h' P r → r.1 = 0 → Post (some (.long (-9000000000000000000))) h') (hyes : ∀ h' P r, FCq (mgH h i nm) (mz h i nm) ff h' P r → ¬ r.1 = 0 → Post (some (.long (vL h' 100 48))) (mtM (mnt h' (vL h' 100 48) (mwh h i nm) (mz h i nm)) i r.2.2.1 r.2.2.2 (mCn h i))) : CT g mX7_meet [.ref 100, .int (nI i), .int (nI ff)] h Post := by
  show WP g mX7_meet 0 [(0, .ref 100), (1, .int (nI i)), (2, .int (nI ff))] [] h 0 0 Post
  have hz1 : 1 ≤ mz h i nm := mz_pos nm hi
  have hz2 : mz h i nm ≤ 10 := Nat.le_trans (mz_le h i nm) hnm
  refine wp_aload_n dX7_meet_0 rfl 0 rfl ?_
  refine wp_iload_n dX7_meet_1 rfl 1 rfl ?_
  refine wp_callV mX7_isMember 100 [.int (nI i)] [] (c := 7) dX7_meet_2 iX7_isMember (fun _ => trivial) mlX7_163 imX7_isMember seX7_isMember (by decide) rfl rfl ⟨by decide, by decide⟩ rfl rfl (Nat.le_of_ble_eq_true rfl) (Nat.le_of_ble_eq_true rfl) (by decide) (by decide) ?_
  refine ct_isMember nm hW hc1 (by omega) i hi ?_
  show WP g mX7_meet 5 [(0, .ref 100), (1, .int (nI i)), (2, .int (nI ff))] [.int 1] _ 0 0 _
  refine wp_if_eq (tgt := 27) dX7_meet_5 (by decide) (fun c_1 => absurd c_1 (by decide)) (fun _ => ?_)
  refine wp_aload_n dX7_meet_8 rfl 0 rfl ?_
  refine wp_getP (b := 103) dX7_meet_9 flX7_7 rfl rfl hW.1 (hW.2 2 rfl).2 ?_
  refine wp_iload_n dX7_meet_12 rfl 1 rfl ?_
  refine wv_iald i (vI h 103 i) dX7_meet_13 rfl (hW.2 2 rfl).1 rfl (by show i < 10; omega) rfl ?_
  refine wp_iconst (v := 2) dX7_meet_14 (by decide) ?_
  refine wi_icmp_lt (tgt := 27) (Int32.toInt (vI h 103 i)) (2) rfl (by decide) dX7_meet_15 (by decide) (fun c_2 => absurd c_2 (by have := hk0.1; omega)) (fun _ => ?_)
  refine wp_aload_n dX7_meet_18 rfl 0 rfl ?_
  refine wp_getP (b := 114) dX7_meet_19 flX7_44 rfl rfl hW.1 (hW.2 13 rfl).2 ?_
  refine wp_iload_n dX7_meet_22 rfl 1 rfl ?_
  refine wv_bald i (vI h 114 i) dX7_meet_23 rfl (hW.2 13 rfl).1 rfl (by show i < 10; omega) rfl ?_
  refine wi_if_eq (tgt := 31) (Int32.toInt (vI h 114 i)) rfl dX7_meet_24 (by decide) (fun _ => ?_) (fun c_3 => absurd hk0.2 c_3)
  refine wp_pc (pc' := 31) rfl ?_
  refine wp_aload_n dX7_meet_31 rfl 0 rfl ?_
  refine wp_iload_n dX7_meet_32 rfl 1 rfl ?_
  refine wp_callV mX7_gather 100 [.int (nI i)] [] (c := 7) dX7_meet_33 iX7_gather (fun _ => trivial) mlX7_215 imX7_gather seX7_gather (by decide) rfl rfl ⟨by decide, by decide⟩ rfl rfl (Nat.le_of_ble_eq_true rfl) (Nat.le_of_ble_eq_true rfl) (by decide) (by decide) ?_
  refine cm_gather nm i (by omega) hW hc1 hnm hd ?_
  show WP g mX7_meet 36 [(0, .ref 100), (1, .int (nI i)), (2, .int (nI ff))] [] _ 0 0 _
  refine wp_iload_n dX7_meet_36 rfl 2 rfl ?_
  refine wp_i2l dX7_meet_37 ?_
  refine wp_lconst (v := 0) dX7_meet_38 rfl ?_
  refine wp_aload_n dX7_meet_39 rfl 0 rfl ?_
  refine wv_getI (nI (mz h i nm)) dX7_meet_40 flX7_212 rfl rfl (by (try simp only [liv_sI, liv_sL]); rw [(mg_k h i nm).1]; exact hW.1) (mg_k h i nm).2.2.2.2.2 ?_
  refine wp_i2l dX7_meet_43 ?_
  refine wp_lconst (v := 1) dX7_meet_44 rfl ?_
  refine wp_lsub dX7_meet_45 ?_
  refine wp_callS mX7_in [.long (Int32.toInt64 (nI ff)), .long 0, .long ((Int32.toInt64 (nI (mz h i nm))) - 1)] [] dX7_meet_46 iX7_in (fun _ => trivial) mlX7_143 stX7_in ⟨by decide, by decide⟩ rfl rfl (Nat.le_of_ble_eq_true rfl) (Nat.le_of_ble_eq_true rfl) (by decide) (by decide) ?_
  refine ct_in (Int32.toInt64 (nI ff)) 0 ((Int32.toInt64 (nI (mz h i nm))) - 1) ((ff : Nat)) 0 ((mz h i nm : Nat) - 1 : Int) ((wid _).trans (nIt (by omega))) (by decide) (i64_sub1 (by omega)) (fun _ => ?_) (fun z => absurd ⟨by omega, by omega⟩ z)
  show WP g mX7_meet 49 [(0, .ref 100), (1, .int (nI i)), (2, .int (nI ff))] [.int 1] _ 0 0 _
  refine wp_if_eq (tgt := 60) dX7_meet_49 (by decide) (fun c_4 => absurd c_4 (by decide)) (fun _ => ?_)
  refine wp_aload_n dX7_meet_52 rfl 0 rfl ?_
  refine wp_iload_n dX7_meet_53 rfl 2 rfl ?_
  refine wp_pc (pc' := 54) rfl ?_
  refine wp_callV mX7_findCouncil 100 [.int (nI ff)] [] (c := 7) dX7_meet_54 iX7_findCouncil (fun _ => trivial) mlX7_235 imX7_findCouncil seX7_findCouncil (by decide) rfl rfl ⟨by decide, by decide⟩ rfl rfl (Nat.le_of_ble_eq_true rfl) (Nat.le_of_ble_eq_true rfl) (by decide) (by decide) ?_
  refine cm_findCouncil (mz h i nm) ff hz1 hz2 (MW_eq (mg_k h i nm).1 (mg_k h i nm).2.1 hW) (mg_k h i nm).2.2.2.2.2 hff trivial (fun h' P r hF hr => ?_) (fun h' P r hF hr => ?_)
  · show WP g mX7_meet 57 [(0, .ref 100), (1, .int (nI i)), (2, .int (nI ff))] [.int 1] _ 0 0 _
    refine wp_if_ne (tgt := 64) dX7_meet_57 (by decide) (fun _ => ?_) (fun c_5 => absurd c_5 (by decide))
    refine wp_iconst (v := 0) dX7_meet_64 (by decide) ?_
    refine wp_istore_n (lv' := [(3, .int 0), (0, .ref 100), (1, .int (nI i)), (2, .int (nI ff))]) dX7_meet_65 rfl (by decide) rfl ?_
    refine wp_sub [1, 2, 0] rfl ?_
    have hv' : ∀ a, a ≠ 100 → a ≠ 145 → a ≠ 143 → a ≠ 144 → vL h' a = vL h a := fun a q1 q2 q3 q4 => by rw [hF.1.2.2.2.2.1 a q1 q2, (mg_k h i nm).2.2.2.2.1 a q3 q4]
    have hv0 : vL h' 100 0 = vL h 100 0 := by rw [hF.1.2.2.2.2.2 0 (by decide) (by decide) (by decide), (mg_k h i nm).2.2.2.2.1 100 (by decide) (by decide)]
    have hmk := mnt_k h' (vL h' 100 48) (mwh h i nm) (mz h i nm)
    have hmc : mCn (mnt h' (vL h' 100 48) (mwh h i nm) (mz h i nm)) i = mCn h i := by unfold mCn; rw [hmk.2.1, hv0, hv' 106 (by decide) (by decide) (by decide) (by decide), hv' 107 (by decide) (by decide) (by decide) (by decide), hv' 108 (by decide) (by decide) (by decide) (by decide)]
    have hW' : MW h' := MW_eq (h := h) (by rw [hF.1.1, (mg_k h i nm).1]) (by rw [hF.1.2.1, (mg_k h i nm).2.1]) hW
    refine lm_note i (mz h i nm) (vL h' 100 48) (mwh h i nm) hz2 hW' (by rw [hF.1.2.2.2.1 40 (by decide)]; exact (mg_k h i nm).2.2.2.2.2) rfl (fun k hk => ⟨by have := (mwh_ok hnm hk).1; omega, by rw [hF.1.2.2.1 142 (by decide)]; exact (mwh_ok hnm hk).2.2.1⟩) ?_ (mz h i nm) 0 (by omega)
    refine lm_mid i (by omega) (MW_eq hmk.1 hmk.2.2.1 hW') (DV_eq (h := h) (by rw [hmk.2.1, hv' 108 (by decide) (by decide) (by decide) (by decide)]) (by rw [hmk.2.1, hv' 104 (by decide) (by decide) (by decide) (by decide)]) hd) ?_
    rw [hmc, hmk.2.1, hF.2.2.2.2.1, hF.2.2.2.2.2.1]
    exact hyes h' P r hF hr
  · show WP g mX7_meet 57 [(0, .ref 100), (1, .int (nI i)), (2, .int (nI ff))] [.int 0] _ 0 0 _
    refine wp_if_ne (tgt := 64) dX7_meet_57 (by decide) (fun c_6 => absurd (by decide) c_6) (fun _ => ?_)
    refine wp_ldc2 dX7_meet_60 cnX7_155 ?_
    refine wp_lret dX7_meet_63 rfl (by decide) (by decide) ?_
    exact hno h' P r hF hr
