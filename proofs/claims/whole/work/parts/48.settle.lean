/-! contracts: settling; mend, order, time, ring -/
def Dn (E : Nat → Nat → Prop) (ne : Nat) (h : HP) : Prop := (¬ cyc E ∧ vI h 10 11 = 0 ∧ (∀ b, b < ne → (vL h 11 b).toInt ≤ (vL h 16 b).toInt) ∧ Att E ne (tI (vL h 11)) (tI (vL h 16)) ∧ Sat E (tI (vL h 16)) ∧ vL h 10 12 = wdN (vL h 16) (vL h 12) ne ∧ RkP (vL h 16) ne (vI h 17)) ∨ (cyc E ∧ vL h 10 12 = -1 ∧ ∃ f L, 1 ≤ L ∧ L ≤ ne ∧ RgN (Qc E) ne f L ∧ vI h 10 11 = nI L ∧ RgQ E f L (vI h 18) L)
def As (h h' : HP) : Prop := liv h' = liv h ∧ vP h' = vP h ∧ (∀ b, b ≠ 10 → b ≠ 17 → b ≠ 18 → b ≠ 19 → vI h' b = vI h b) ∧ (∀ k, k ≠ 11 → k ≠ 13 → vI h' 10 k = vI h 10 k) ∧ ∀ b, b ≠ 10 → b ≠ 16 → vL h' b = vL h b
theorem As_rf (h : HP) : As h h := ⟨rfl, rfl, fun _ _ _ _ _ => rfl, fun _ _ _ => rfl, fun _ _ _ => rfl⟩
theorem As_0 {h : HP} : As h (sI (sI h 10 13 1) 10 11 0) := ⟨rfl, rfl, fun b q1 _ _ _ => by rw [vIn q1, vIn q1], fun k q1 q2 => by rw [vIj q1, vIj q2], fun _ _ _ => rfl⟩
theorem As_al {a : Nat} {h h' h1 : HP} (ha : a = 10 ∨ a = 16) (hA : As h h') (h2 : Al a h' h1) : As h h1 := ⟨h2.1.trans hA.1, h2.2.1.trans hA.2.1, fun b q1 q2 q3 q4 => by rw [h2.2.2.1]; exact hA.2.2.1 b q1 q2 q3 q4, fun k q1 q2 => by rw [h2.2.2.1]; exact hA.2.2.2.1 k q1 q2, fun b q1 q2 => (h2.2.2.2 b (by omega)).trans (hA.2.2.2.2 b q1 q2)⟩
theorem As_17 {h h' h1 : HP} (hA : As h h') (h2 : Ai 17 h' h1) : As h h1 := ⟨h2.1.trans hA.1, h2.2.1.trans hA.2.1, fun b q1 q2 q3 q4 => (h2.2.2.2 b q2).trans (hA.2.2.1 b q1 q2 q3 q4), fun k q1 q2 => by rw [h2.2.2.2 10 (by decide)]; exact hA.2.2.2.1 k q1 q2, fun b q1 q2 => by rw [h2.2.2.1]; exact hA.2.2.2.2 b q1 q2⟩
theorem As_12 {h h' : HP} {v : Int64} (hA : As h h') : As h (sL h' 10 12 v) := ⟨hA.1, hA.2.1, hA.2.2.1, hA.2.2.2.1, fun b q1 q2 => by rw [vLn q1]; exact hA.2.2.2.2 b q1 q2⟩
theorem As_ar {h h' h1 : HP} (hA : As h h') (h2 : Ar h' h1) : As h h1 := ⟨h2.1.trans hA.1, h2.2.1.trans hA.2.1, fun b q1 q2 q3 q4 => (h2.2.2.2.1 b q1 q3 q4).trans (hA.2.2.1 b q1 q2 q3 q4), fun k q1 q2 => (h2.2.2.2.2 k q1).trans (hA.2.2.2.1 k q1 q2), fun b q1 q2 => by rw [h2.2.2.1]; exact hA.2.2.2.2 b q1 q2⟩
theorem SO_as {h h' : HP} {ne nk : Nat} {fr to : Nat → Nat} {E : Nat → Nat → Prop} (hS : SO h ne nk fr to E) (hA : As h h') : SO h' ne nk fr to E := SO_eq hS hA.1 hA.2.1 (hA.2.2.2.1 2 (by decide) (by decide)) (hA.2.2.2.1 5 (by decide) (by decide)) (hA.2.2.1 13 (by decide) (by decide) (by decide) (by decide)) (hA.2.2.1 14 (by decide) (by decide) (by decide) (by decide)) (hA.2.2.1 15 (by decide) (by decide) (by decide) (by decide))
theorem cyc_q {E : Nat → Nat → Prop} {ne : Nat} (hb : ∀ a b, E a b → a < ne ∧ b < ne) (hc : cyc E) (hn : ∀ e m, e < ne → ¬ Qc E m e) : False := by
  obtain ⟨c, k, h1, h2⟩ := hc
  obtain ⟨k, rfl⟩ : ∃ q, k = q + 1 := ⟨k - 1, by omega⟩
  exact hn c (k + 1) (Pth_src hb h2).1 ⟨h1, h2⟩
set_option maxRecDepth 100000 in
set_option maxHeartbeats 4000000 in
theorem ct_settle {g : GG} {h : HP} {Post : Option Value → HP → Prop} (ne nk : Nat) (fr to : Nat → Nat) (E : Nat → Nat → Prop) (hS : SO h ne nk fr to E) (hlo : ∀ b, b < ne → (vL h 11 b).toInt ≤ 2305843009213693952) (hst : vI h 10 13 = 0 ∨ vI h 10 13 = 1 ∧ Dn E ne h) (hp : ∀ h', As h h' → vI h' 10 13 = 1 → Dn E ne h' → Post none h') : CT g mX3_settle [.ref 10] h Post := by
  show WP g mX3_settle 0 [(0, .ref 10)] [] h 0 0 Post
  rcases hst with hst | hst
  · skip
    refine wp_aload_n dX3_settle_0 rfl 0 rfl ?_
    refine wv_getI (0) dX3_settle_1 flX3_46 rfl rfl hS.1.1 hst ?_
    refine wp_if_eq (tgt := 8) dX3_settle_4 (by decide) (fun _ => ?_) (fun c_1 => absurd (by decide) c_1)
    refine wp_aload_n dX3_settle_8 rfl 0 rfl ?_
    refine wp_iconst (v := 1) dX3_settle_9 (by decide) ?_
    refine wp_putI dX3_settle_10 flX3_46 (Or.inl rfl) rfl rfl rfl rfl hS.1.1 ?_
    refine wp_aload_n dX3_settle_13 rfl 0 rfl ?_
    refine wp_iconst (v := 0) dX3_settle_14 (by decide) ?_
    refine wp_putI dX3_settle_15 flX3_57 (Or.inl rfl) rfl rfl rfl rfl hS.1.1 ?_
    refine wp_aload_n dX3_settle_18 rfl 0 rfl ?_
    refine wp_callV mX3_findEarliest 10 [] [] (c := 3) dX3_settle_19 iX3_findEarliest (fun _ => trivial) mlX3_60 imX3_findEarliest seX3_findEarliest (by decide) rfl rfl ⟨by decide, by decide⟩ rfl rfl (Nat.le_of_ble_eq_true rfl) (Nat.le_of_ble_eq_true rfl) (by decide) (by decide) ?_
    refine ct_findEarliest ne nk fr to E (SO_as hS As_0) (tI (vL h 11)) 2305843009213693952 (by decide) (fun b hb => ⟨rfl, hlo b hb⟩) (fun h1 hA1 hl1 hat hsat => ?_) (fun h1 hA1 hcy => ?_)
    · show WP g mX3_settle 22 [(0, .ref 10)] [.int 1] _ 0 0 _
      refine wp_if_ne (tgt := 37) dX3_settle_22 (by decide) (fun _ => ?_) (fun c_2 => absurd c_2 (by decide))
      refine wp_aload_n dX3_settle_37 rfl 0 rfl ?_
      refine wp_callV mX3_findWidening 10 [] [] (c := 3) dX3_settle_38 iX3_findWidening (fun _ => trivial) mlX3_73 imX3_findWidening seX3_findWidening (by decide) rfl rfl ⟨by decide, by decide⟩ rfl rfl (Nat.le_of_ble_eq_true rfl) (Nat.le_of_ble_eq_true rfl) (by decide) (by decide) ?_
      refine ct_findWidening ne nk fr to E (SO_al (SO_as hS As_0) hA1) (fun h2 hA2 hw2 => ?_)
      show WP g mX3_settle 41 [(0, .ref 10)] [] _ 0 0 _
      refine wp_aload_n dX3_settle_41 rfl 0 rfl ?_
      refine wp_callV mX3_rank 10 [] [] (c := 3) dX3_settle_42 iX3_rank (fun _ => trivial) mlX3_76 imX3_rank seX3_rank (by decide) rfl rfl ⟨by decide, by decide⟩ rfl rfl (Nat.le_of_ble_eq_true rfl) (Nat.le_of_ble_eq_true rfl) (by decide) (by decide) ?_
      refine ct_rank ne nk fr to E (SO_al (SO_al (SO_as hS As_0) hA1) hA2) (fun h3 hA3 hR3 => ?_)
      show WP g mX3_settle 45 [(0, .ref 10)] [] _ 0 0 _
      refine wp_pc (pc' := 45) rfl ?_
      refine wp_vret dX3_settle_45 rfl (by decide) (by decide) ?_
      have q1 : vL h3 = vL h2 := hA3.2.2.1
      have i3 : vI h3 10 = vI (sI (sI h 10 13 1) 10 11 0) 10 := by rw [hA3.2.2.2 10 (by decide), hA2.2.2.1, hA1.2.2.1]
      refine hp h3 (As_17 (As_al (Or.inl rfl) (As_al (Or.inr rfl) As_0 hA1) hA2) hA3) (by rw [i3, vIj (by decide)]; exact vIs) (Or.inl ⟨cyc_no _ hsat, by rw [i3]; exact vIs, ?_, ?_, ?_, ?_, ?_⟩)
      · intro b hb; rw [q1, hA2.2.2.2 11 (by decide), hA2.2.2.2 16 (by decide), hA1.2.2.2 11 (by decide)]; exact hl1 b hb
      · rw [q1, hA2.2.2.2 11 (by decide), hA2.2.2.2 16 (by decide), hA1.2.2.2 11 (by decide)]; exact hat
      · rw [q1, hA2.2.2.2 16 (by decide)]; exact hsat
      · rw [q1, hw2, hA2.2.2.2 16 (by decide), hA2.2.2.2 12 (by decide)]
      · rw [q1]; exact hR3
    · show WP g mX3_settle 22 [(0, .ref 10)] [.int 0] _ 0 0 _
      refine wp_if_ne (tgt := 37) dX3_settle_22 (by decide) (fun c_3 => absurd (by decide) c_3) (fun _ => ?_)
      refine wp_aload_n dX3_settle_25 rfl 0 rfl ?_
      refine wp_ldc2 dX3_settle_26 cnX3_64 ?_
      refine wp_putL dX3_settle_29 flX3_66 (Or.inl rfl) rfl rfl (by (try simp only [liv_sL]); rw [hA1.1]; exact hS.1.1) ?_
      refine wp_aload_n dX3_settle_32 rfl 0 rfl ?_
      refine wp_pc (pc' := 33) rfl ?_
      refine wp_callV mX3_findRing 10 [] [] (c := 3) dX3_settle_33 iX3_findRing (fun _ => trivial) mlX3_70 imX3_findRing seX3_findRing (by decide) rfl rfl ⟨by decide, by decide⟩ rfl rfl (Nat.le_of_ble_eq_true rfl) (Nat.le_of_ble_eq_true rfl) (by decide) (by decide) ?_
      refine ct_findRing ne nk fr to E (SO_as (SO_al (SO_as hS As_0) hA1) (As_12 (As_rf _))) (by rw [vI_sL, hA1.2.2.1]; exact vIs) (fun h3 hA3 hn => absurd (cyc_q hS.2.2.2.2.2.2.1 hcy hn) id) (fun h3 f L hA3 hL1 hR h11 hQ => ?_)
      show WP g mX3_settle 36 [(0, .ref 10)] [] _ 0 0 _
      refine wp_vret dX3_settle_36 rfl (by decide) (by decide) ?_
      refine hp h3 (As_ar (As_12 (As_al (Or.inr rfl) As_0 hA1)) hA3) (by rw [hA3.2.2.2.2 13 (by decide), vI_sL, hA1.2.2.1, vIj (by decide)]; exact vIs) (Or.inr ⟨hcy, by rw [hA3.2.2.1]; exact vLs, f, L, hL1, Rg_le hS.2.2.2.2.2.2.1 hR, hR, h11, hQ⟩)
  · skip
    refine wp_aload_n dX3_settle_0 rfl 0 rfl ?_
    refine wv_getI (1) dX3_settle_1 flX3_46 rfl rfl hS.1.1 hst.1 ?_
    refine wp_if_eq (tgt := 8) dX3_settle_4 (by decide) (fun c_1 => absurd c_1 (by decide)) (fun _ => ?_)
    refine wp_vret dX3_settle_7 rfl (by decide) (by decide) ?_
    exact hp h (As_rf h) hst.1 hst.2
set_option maxRecDepth 100000 in
set_option maxHeartbeats 4000000 in
theorem ct_mend {g : GG} {h : HP} {Post : Option Value → HP → Prop} (ne nk : Nat) (fr to : Nat → Nat) (E : Nat → Nat → Prop) (hS : SO h ne nk fr to E) (hr : SR h) (hlo : ∀ b, b < ne → (vL h 11 b).toInt ≤ 2305843009213693952) (hst : vI h 10 13 = 0 ∨ vI h 10 13 = 1 ∧ Dn E ne h) (hp : ∀ h', As h h' → vI h' 10 13 = 1 → Dn E ne h' → Post (some (.long (vL h' 10 12))) h') : CT g mX6_mend [.ref 1] h Post := by
  show WP g mX6_mend 0 [(0, .ref 1)] [] h 0 0 Post
  have hne := hS.2.2.1
  refine wp_aload_n dX6_mend_0 rfl 0 rfl ?_
  refine wp_getP (b := 10) dX6_mend_1 flX6_51 rfl rfl hr.1 hr.2.2.2.2.2.2.2.2.2.1 ?_
  refine wp_callV mX3_settle 10 [] [] (c := 3) dX6_mend_4 iX3_settle (fun _ => trivial) mlX6_295 imX3_settle seX3_settle (by decide) rfl rfl ⟨by decide, by decide⟩ rfl rfl (Nat.le_of_ble_eq_true rfl) (Nat.le_of_ble_eq_true rfl) (by decide) (by decide) ?_
  refine ct_settle ne nk fr to E hS hlo hst (fun h' hA h13 hDn => ?_)
  show WP g mX6_mend 7 [(0, .ref 1)] [] _ 0 0 _
  refine wp_aload_n dX6_mend_7 rfl 0 rfl ?_
  refine wp_getP (b := 10) dX6_mend_8 flX6_51 rfl rfl (by rw [hA.1]; exact hr.1) (by rw [hA.2.1]; exact hr.2.2.2.2.2.2.2.2.2.1) ?_
  refine wv_getL (vL h' 10 12) dX6_mend_11 flX6_298 rfl rfl (by rw [hA.1]; exact hS.1.1) rfl ?_
  refine wp_lret dX6_mend_14 rfl (by decide) (by decide) ?_
  exact hp h' hA h13 hDn
set_option maxRecDepth 100000 in
set_option maxHeartbeats 4000000 in
theorem ct_order0 {g : GG} {h : HP} {Post : Option Value → HP → Prop} (ne nk : Nat) (fr to : Nat → Nat) (E : Nat → Nat → Prop) (hS : SO h ne nk fr to E) (hr : SR h) (hlo : ∀ b, b < ne → (vL h 11 b).toInt ≤ 2305843009213693952) (hst : vI h 10 13 = 0 ∨ vI h 10 13 = 1 ∧ Dn E ne h) (x : Int32) (hx : ¬ inR x ne) (hp : ∀ h', As h h' → vI h' 10 13 = 1 → Dn E ne h' → Post (some (.long (-9000000000000000000))) h') : CT g mX6_order [.ref 1, .int x] h Post := by
  show WP g mX6_order 0 [(0, .ref 1), (1, .int x)] [] h 0 0 Post
  have hne := hS.2.2.1
  refine wp_aload_n dX6_order_0 rfl 0 rfl ?_
  refine wp_getP (b := 10) dX6_order_1 flX6_51 rfl rfl hr.1 hr.2.2.2.2.2.2.2.2.2.1 ?_
  refine wp_callV mX3_settle 10 [] [] (c := 3) dX6_order_4 iX3_settle (fun _ => trivial) mlX6_295 imX3_settle seX3_settle (by decide) rfl rfl ⟨by decide, by decide⟩ rfl rfl (Nat.le_of_ble_eq_true rfl) (Nat.le_of_ble_eq_true rfl) (by decide) (by decide) ?_
  refine ct_settle ne nk fr to E hS hlo hst (fun h' hA h13 hDn => ?_)
  show WP g mX6_order 7 [(0, .ref 1), (1, .int x)] [] _ 0 0 _
  refine wp_aload_n dX6_order_7 rfl 0 rfl ?_
  refine wp_getP (b := 10) dX6_order_8 flX6_51 rfl rfl (by rw [hA.1]; exact hr.1) (by rw [hA.2.1]; exact hr.2.2.2.2.2.2.2.2.2.1) ?_
  refine wv_getL (vL h' 10 12) dX6_order_11 flX6_298 rfl rfl (by rw [hA.1]; exact hS.1.1) rfl ?_
  refine wp_lconst (v := 0) dX6_order_14 rfl ?_
  refine wil_lt (tgt := 30) (Int64.toInt (vL h' 10 12)) (0) rfl (by decide) dX6_order_15 dX6_order_16 (by decide) (fun c_1 => ?_) (fun c_1 => ?_)
  · refine wp_ldc2 dX6_order_30 cnX6_58 ?_
    refine wp_goto (tgt := 46) dX6_order_33 (by decide) ?_
    refine wp_lret dX6_order_46 rfl (by decide) (by decide) ?_
    exact hp h' hA h13 hDn
  · refine wp_aload_n dX6_order_19 rfl 0 rfl ?_
    refine wp_getP (b := 10) dX6_order_20 flX6_51 rfl rfl (by rw [hA.1]; exact hr.1) (by rw [hA.2.1]; exact hr.2.2.2.2.2.2.2.2.2.1) ?_
    refine wp_iload_n dX6_order_23 rfl 1 rfl ?_
    refine wp_callV mX3_hasEvent 10 [.int x] [] (c := 3) dX6_order_24 iX3_hasEvent (fun _ => trivial) mlX6_285 imX3_hasEvent seX3_hasEvent (by decide) rfl rfl ⟨by decide, by decide⟩ rfl rfl (Nat.le_of_ble_eq_true rfl) (Nat.le_of_ble_eq_true rfl) (by decide) (by decide) ?_
    refine ct_hasEvent ne x (SO_as hS hA).1 (SO_as hS hA).2.1 hS.2.2.1 (fun z => absurd z hx) (fun _ => ?_)
    show WP g mX6_order 27 [(0, .ref 1), (1, .int x)] [.int 0] _ 0 0 _
    refine wp_if_ne (tgt := 36) dX6_order_27 (by decide) (fun c_2 => absurd (by decide) c_2) (fun _ => ?_)
    refine wp_ldc2 dX6_order_30 cnX6_58 ?_
    refine wp_goto (tgt := 46) dX6_order_33 (by decide) ?_
    refine wp_lret dX6_order_46 rfl (by decide) (by decide) ?_
    exact hp h' hA h13 hDn
set_option maxRecDepth 100000 in
set_option maxHeartbeats 4000000 in
theorem ct_order {g : GG} {h : HP} {Post : Option Value → HP → Prop} (ne nk : Nat) (fr to : Nat → Nat) (E : Nat → Nat → Prop) (hS : SO h ne nk fr to E) (hr : SR h) (hlo : ∀ b, b < ne → (vL h 11 b).toInt ≤ 2305843009213693952) (hst : vI h 10 13 = 0 ∨ vI h 10 13 = 1 ∧ Dn E ne h) (i : Nat) (hi : i < ne) (hno : ∀ h', As h h' → vI h' 10 13 = 1 → Dn E ne h' → (vL h' 10 12).toInt < 0 → Post (some (.long (-9000000000000000000))) h') (hyes : ∀ h', As h h' → vI h' 10 13 = 1 → Dn E ne h' → 0 ≤ (vL h' 10 12).toInt → Post (some (.long (Int32.toInt64 (vI h' 17 i)))) h') : CT g mX6_order [.ref 1, .int (nI i)] h Post := by
  show WP g mX6_order 0 [(0, .ref 1), (1, .int (nI i))] [] h 0 0 Post
  have hne := hS.2.2.1
  refine wp_aload_n dX6_order_0 rfl 0 rfl ?_
  refine wp_getP (b := 10) dX6_order_1 flX6_51 rfl rfl hr.1 hr.2.2.2.2.2.2.2.2.2.1 ?_
  refine wp_callV mX3_settle 10 [] [] (c := 3) dX6_order_4 iX3_settle (fun _ => trivial) mlX6_295 imX3_settle seX3_settle (by decide) rfl rfl ⟨by decide, by decide⟩ rfl rfl (Nat.le_of_ble_eq_true rfl) (Nat.le_of_ble_eq_true rfl) (by decide) (by decide) ?_
  refine ct_settle ne nk fr to E hS hlo hst (fun h' hA h13 hDn => ?_)
  show WP g mX6_order 7 [(0, .ref 1), (1, .int (nI i))] [] _ 0 0 _
  refine wp_aload_n dX6_order_7 rfl 0 rfl ?_
  refine wp_getP (b := 10) dX6_order_8 flX6_51 rfl rfl (by rw [hA.1]; exact hr.1) (by rw [hA.2.1]; exact hr.2.2.2.2.2.2.2.2.2.1) ?_
  refine wv_getL (vL h' 10 12) dX6_order_11 flX6_298 rfl rfl (by rw [hA.1]; exact hS.1.1) rfl ?_
  refine wp_lconst (v := 0) dX6_order_14 rfl ?_
  refine wil_lt (tgt := 30) (Int64.toInt (vL h' 10 12)) (0) rfl (by decide) dX6_order_15 dX6_order_16 (by decide) (fun c_1 => ?_) (fun c_1 => ?_)
  · refine wp_ldc2 dX6_order_30 cnX6_58 ?_
    refine wp_goto (tgt := 46) dX6_order_33 (by decide) ?_
    refine wp_lret dX6_order_46 rfl (by decide) (by decide) ?_
    exact hno h' hA h13 hDn (by omega)
  · refine wp_aload_n dX6_order_19 rfl 0 rfl ?_
    refine wp_getP (b := 10) dX6_order_20 flX6_51 rfl rfl (by rw [hA.1]; exact hr.1) (by rw [hA.2.1]; exact hr.2.2.2.2.2.2.2.2.2.1) ?_
    refine wp_iload_n dX6_order_23 rfl 1 rfl ?_
    refine wp_callV mX3_hasEvent 10 [.int (nI i)] [] (c := 3) dX6_order_24 iX3_hasEvent (fun _ => trivial) mlX6_285 imX3_hasEvent seX3_hasEvent (by decide) rfl rfl ⟨by decide, by decide⟩ rfl rfl (Nat.le_of_ble_eq_true rfl) (Nat.le_of_ble_eq_true rfl) (by decide) (by decide) ?_
    refine ct_hasEvent ne (nI i) (SO_as hS hA).1 (SO_as hS hA).2.1 hS.2.2.1 (fun _ => ?_) (fun z => absurd (inR_nI hi (by omega)) z)
    show WP g mX6_order 27 [(0, .ref 1), (1, .int (nI i))] [.int 1] _ 0 0 _
    refine wp_if_ne (tgt := 36) dX6_order_27 (by decide) (fun _ => ?_) (fun c_2 => absurd c_2 (by decide))
    refine wp_aload_n dX6_order_36 rfl 0 rfl ?_
    refine wp_getP (b := 10) dX6_order_37 flX6_51 rfl rfl (by rw [hA.1]; exact hr.1) (by rw [hA.2.1]; exact hr.2.2.2.2.2.2.2.2.2.1) ?_
    refine wp_getP (b := 17) dX6_order_40 flX6_301 rfl rfl (by rw [hA.1]; exact hS.1.1) (by rw [hA.2.1]; exact hS.1.2.2.2.2.2.2.2.2.1) ?_
    refine wp_iload_n dX6_order_43 rfl 1 rfl ?_
    refine wv_iald i (vI h' 17 i) dX6_order_44 rfl (by rw [hA.1]; exact hS.1.2.1.2.2.2.2.2.2.1) rfl (by show i < 30; omega) rfl ?_
    refine wp_i2l dX6_order_45 ?_
    refine wp_lret dX6_order_46 rfl (by decide) (by decide) ?_
    exact hyes h' hA h13 hDn (by omega)
set_option maxRecDepth 100000 in
set_option maxHeartbeats 4000000 in
theorem ct_time0 {g : GG} {h : HP} {Post : Option Value → HP → Prop} (ne nk : Nat) (fr to : Nat → Nat) (E : Nat → Nat → Prop) (hS : SO h ne nk fr to E) (hr : SR h) (hlo : ∀ b, b < ne → (vL h 11 b).toInt ≤ 2305843009213693952) (hst : vI h 10 13 = 0 ∨ vI h 10 13 = 1 ∧ Dn E ne h) (x : Int32) (hx : ¬ inR x ne) (hp : ∀ h', As h h' → vI h' 10 13 = 1 → Dn E ne h' → Post (some (.long (-9000000000000000000))) h') : CT g mX6_time [.ref 1, .int x] h Post := by
  show WP g mX6_time 0 [(0, .ref 1), (1, .int x)] [] h 0 0 Post
  have hne := hS.2.2.1
  refine wp_aload_n dX6_time_0 rfl 0 rfl ?_
  refine wp_getP (b := 10) dX6_time_1 flX6_51 rfl rfl hr.1 hr.2.2.2.2.2.2.2.2.2.1 ?_
  refine wp_callV mX3_settle 10 [] [] (c := 3) dX6_time_4 iX3_settle (fun _ => trivial) mlX6_295 imX3_settle seX3_settle (by decide) rfl rfl ⟨by decide, by decide⟩ rfl rfl (Nat.le_of_ble_eq_true rfl) (Nat.le_of_ble_eq_true rfl) (by decide) (by decide) ?_
  refine ct_settle ne nk fr to E hS hlo hst (fun h' hA h13 hDn => ?_)
  show WP g mX6_time 7 [(0, .ref 1), (1, .int x)] [] _ 0 0 _
  refine wp_aload_n dX6_time_7 rfl 0 rfl ?_
  refine wp_getP (b := 10) dX6_time_8 flX6_51 rfl rfl (by rw [hA.1]; exact hr.1) (by rw [hA.2.1]; exact hr.2.2.2.2.2.2.2.2.2.1) ?_
  refine wv_getL (vL h' 10 12) dX6_time_11 flX6_298 rfl rfl (by rw [hA.1]; exact hS.1.1) rfl ?_
  refine wp_lconst (v := 0) dX6_time_14 rfl ?_
  refine wil_lt (tgt := 30) (Int64.toInt (vL h' 10 12)) (0) rfl (by decide) dX6_time_15 dX6_time_16 (by decide) (fun c_1 => ?_) (fun c_1 => ?_)
  · refine wp_ldc2 dX6_time_30 cnX6_58 ?_
    refine wp_goto (tgt := 53) dX6_time_33 (by decide) ?_
    refine wp_lret dX6_time_53 rfl (by decide) (by decide) ?_
    exact hp h' hA h13 hDn
  · refine wp_aload_n dX6_time_19 rfl 0 rfl ?_
    refine wp_getP (b := 10) dX6_time_20 flX6_51 rfl rfl (by rw [hA.1]; exact hr.1) (by rw [hA.2.1]; exact hr.2.2.2.2.2.2.2.2.2.1) ?_
    refine wp_iload_n dX6_time_23 rfl 1 rfl ?_
    refine wp_callV mX3_hasEvent 10 [.int x] [] (c := 3) dX6_time_24 iX3_hasEvent (fun _ => trivial) mlX6_285 imX3_hasEvent seX3_hasEvent (by decide) rfl rfl ⟨by decide, by decide⟩ rfl rfl (Nat.le_of_ble_eq_true rfl) (Nat.le_of_ble_eq_true rfl) (by decide) (by decide) ?_
    refine ct_hasEvent ne x (SO_as hS hA).1 (SO_as hS hA).2.1 hS.2.2.1 (fun z => absurd z hx) (fun _ => ?_)
    show WP g mX6_time 27 [(0, .ref 1), (1, .int x)] [.int 0] _ 0 0 _
    refine wp_if_ne (tgt := 36) dX6_time_27 (by decide) (fun c_2 => absurd (by decide) c_2) (fun _ => ?_)
    refine wp_ldc2 dX6_time_30 cnX6_58 ?_
    refine wp_goto (tgt := 53) dX6_time_33 (by decide) ?_
    refine wp_lret dX6_time_53 rfl (by decide) (by decide) ?_
    exact hp h' hA h13 hDn
set_option maxRecDepth 100000 in
set_option maxHeartbeats 4000000 in
theorem ct_time {g : GG} {h : HP} {Post : Option Value → HP → Prop} (ne nk : Nat) (fr to : Nat → Nat) (E : Nat → Nat → Prop) (hS : SO h ne nk fr to E) (hr : SR h) (hlo : ∀ b, b < ne → (vL h 11 b).toInt ≤ 2305843009213693952) (hst : vI h 10 13 = 0 ∨ vI h 10 13 = 1 ∧ Dn E ne h) (i : Nat) (hi : i < ne) (hno : ∀ h', As h h' → vI h' 10 13 = 1 → Dn E ne h' → (vL h' 10 12).toInt < 0 → Post (some (.long (-9000000000000000000))) h') (hyes : ∀ h', As h h' → vI h' 10 13 = 1 → Dn E ne h' → 0 ≤ (vL h' 10 12).toInt → Post (some (.long (vL h' 16 i - vL h' 10 12))) h') : CT g mX6_time [.ref 1, .int (nI i)] h Post := by
  show WP g mX6_time 0 [(0, .ref 1), (1, .int (nI i))] [] h 0 0 Post
  have hne := hS.2.2.1
  refine wp_aload_n dX6_time_0 rfl 0 rfl ?_
  refine wp_getP (b := 10) dX6_time_1 flX6_51 rfl rfl hr.1 hr.2.2.2.2.2.2.2.2.2.1 ?_
  refine wp_callV mX3_settle 10 [] [] (c := 3) dX6_time_4 iX3_settle (fun _ => trivial) mlX6_295 imX3_settle seX3_settle (by decide) rfl rfl ⟨by decide, by decide⟩ rfl rfl (Nat.le_of_ble_eq_true rfl) (Nat.le_of_ble_eq_true rfl) (by decide) (by decide) ?_
  refine ct_settle ne nk fr to E hS hlo hst (fun h' hA h13 hDn => ?_)
  show WP g mX6_time 7 [(0, .ref 1), (1, .int (nI i))] [] _ 0 0 _
  refine wp_aload_n dX6_time_7 rfl 0 rfl ?_
  refine wp_getP (b := 10) dX6_time_8 flX6_51 rfl rfl (by rw [hA.1]; exact hr.1) (by rw [hA.2.1]; exact hr.2.2.2.2.2.2.2.2.2.1) ?_
  refine wv_getL (vL h' 10 12) dX6_time_11 flX6_298 rfl rfl (by rw [hA.1]; exact hS.1.1) rfl ?_
  refine wp_lconst (v := 0) dX6_time_14 rfl ?_
  refine wil_lt (tgt := 30) (Int64.toInt (vL h' 10 12)) (0) rfl (by decide) dX6_time_15 dX6_time_16 (by decide) (fun c_1 => ?_) (fun c_1 => ?_)
  · refine wp_ldc2 dX6_time_30 cnX6_58 ?_
    refine wp_goto (tgt := 53) dX6_time_33 (by decide) ?_
    refine wp_lret dX6_time_53 rfl (by decide) (by decide) ?_
    exact hno h' hA h13 hDn (by omega)
  · refine wp_aload_n dX6_time_19 rfl 0 rfl ?_
    refine wp_getP (b := 10) dX6_time_20 flX6_51 rfl rfl (by rw [hA.1]; exact hr.1) (by rw [hA.2.1]; exact hr.2.2.2.2.2.2.2.2.2.1) ?_
    refine wp_iload_n dX6_time_23 rfl 1 rfl ?_
    refine wp_callV mX3_hasEvent 10 [.int (nI i)] [] (c := 3) dX6_time_24 iX3_hasEvent (fun _ => trivial) mlX6_285 imX3_hasEvent seX3_hasEvent (by decide) rfl rfl ⟨by decide, by decide⟩ rfl rfl (Nat.le_of_ble_eq_true rfl) (Nat.le_of_ble_eq_true rfl) (by decide) (by decide) ?_
    refine ct_hasEvent ne (nI i) (SO_as hS hA).1 (SO_as hS hA).2.1 hS.2.2.1 (fun _ => ?_) (fun z => absurd (inR_nI hi (by omega)) z)
    show WP g mX6_time 27 [(0, .ref 1), (1, .int (nI i))] [.int 1] _ 0 0 _
    refine wp_if_ne (tgt := 36) dX6_time_27 (by decide) (fun _ => ?_) (fun c_2 => absurd c_2 (by decide))
    refine wp_aload_n dX6_time_36 rfl 0 rfl ?_
    refine wp_getP (b := 10) dX6_time_37 flX6_51 rfl rfl (by rw [hA.1]; exact hr.1) (by rw [hA.2.1]; exact hr.2.2.2.2.2.2.2.2.2.1) ?_
    refine wp_getP (b := 16) dX6_time_40 flX6_305 rfl rfl (by rw [hA.1]; exact hS.1.1) (by rw [hA.2.1]; exact hS.1.2.2.2.2.2.2.2.1) ?_
    refine wp_iload_n dX6_time_43 rfl 1 rfl ?_
    refine wv_lald i (vL h' 16 i) dX6_time_44 rfl (by rw [hA.1]; exact hS.1.2.1.2.2.2.2.2.1) rfl (by show i < 30; omega) rfl ?_
    refine wp_aload_n dX6_time_45 rfl 0 rfl ?_
    refine wp_getP (b := 10) dX6_time_46 flX6_51 rfl rfl (by rw [hA.1]; exact hr.1) (by rw [hA.2.1]; exact hr.2.2.2.2.2.2.2.2.2.1) ?_
    refine wv_getL (vL h' 10 12) dX6_time_49 flX6_298 rfl rfl (by rw [hA.1]; exact hS.1.1) rfl ?_
    refine wp_lsub dX6_time_52 ?_
    refine wp_pc (pc' := 53) rfl ?_
    refine wp_lret dX6_time_53 rfl (by decide) (by decide) ?_
    exact hyes h' hA h13 hDn (by omega)
theorem Dn_le {E : Nat → Nat → Prop} {ne : Nat} {h : HP} (hD : Dn E ne h) (hne : ne ≤ 30 := by assumption) : (vI h 10 11).toInt ≤ 30 := by
  rcases hD with ⟨_, h1, _⟩ | ⟨_, _, f, L, _, h2, _, h3, _⟩
  · rw [h1]; decide
  · rw [h3, nIt (by omega)]; omega
set_option maxRecDepth 100000 in
set_option maxHeartbeats 4000000 in
theorem ct_ring {g : GG} {h : HP} {Post : Option Value → HP → Prop} (ne nk : Nat) (fr to : Nat → Nat) (E : Nat → Nat → Prop) (hS : SO h ne nk fr to E) (hr : SR h) (hlo : ∀ b, b < ne → (vL h 11 b).toInt ≤ 2305843009213693952) (hst : vI h 10 13 = 0 ∨ vI h 10 13 = 1 ∧ Dn E ne h) (x : Int32) (hno : ∀ h', As h h' → vI h' 10 13 = 1 → Dn E ne h' → ((vI h' 10 11).toInt = 0 ∨ x.toInt < 0) → Post (some (.long (-9000000000000000000))) h') (hm1 : ∀ h', As h h' → vI h' 10 13 = 1 → Dn E ne h' → ¬ (vI h' 10 11).toInt = 0 → 0 ≤ x.toInt → (vI h' 10 11).toInt ≤ x.toInt → Post (some (.long (-1))) h') (hyes : ∀ h', As h h' → vI h' 10 13 = 1 → Dn E ne h' → ∀ i, x = nI i → ¬ (vI h' 10 11).toInt = 0 → (i : Int) < (vI h' 10 11).toInt → Post (some (.long (Int32.toInt64 (vI h' 18 i)))) h') : CT g mX6_ring [.ref 1, .int x] h Post := by
  show WP g mX6_ring 0 [(0, .ref 1), (1, .int x)] [] h 0 0 Post
  have hne := hS.2.2.1
  refine wp_aload_n dX6_ring_0 rfl 0 rfl ?_
  refine wp_getP (b := 10) dX6_ring_1 flX6_51 rfl rfl hr.1 hr.2.2.2.2.2.2.2.2.2.1 ?_
  refine wp_callV mX3_settle 10 [] [] (c := 3) dX6_ring_4 iX3_settle (fun _ => trivial) mlX6_295 imX3_settle seX3_settle (by decide) rfl rfl ⟨by decide, by decide⟩ rfl rfl (Nat.le_of_ble_eq_true rfl) (Nat.le_of_ble_eq_true rfl) (by decide) (by decide) ?_
  refine ct_settle ne nk fr to E hS hlo hst (fun h' hA h13 hDn => ?_)
  show WP g mX6_ring 7 [(0, .ref 1), (1, .int x)] [] _ 0 0 _
  refine wp_aload_n dX6_ring_7 rfl 0 rfl ?_
  refine wp_getP (b := 10) dX6_ring_8 flX6_51 rfl rfl (by rw [hA.1]; exact hr.1) (by rw [hA.2.1]; exact hr.2.2.2.2.2.2.2.2.2.1) ?_
  refine wv_getI (vI h' 10 11) dX6_ring_11 flX6_309 rfl rfl (by rw [hA.1]; exact hS.1.1) rfl ?_
  refine wi_if_eq (tgt := 21) (Int32.toInt (vI h' 10 11)) rfl dX6_ring_14 (by decide) (fun c_1 => ?_) (fun c_1 => ?_)
  · refine wp_ldc2 dX6_ring_21 cnX6_58 ?_
    refine wp_lret dX6_ring_24 rfl (by decide) (by decide) ?_
    exact hno h' hA h13 hDn (by omega)
  · refine wp_iload_n dX6_ring_17 rfl 1 rfl ?_
    refine wi_if_ge (tgt := 25) (Int32.toInt x) rfl dX6_ring_18 (by decide) (fun c_2 => ?_) (fun c_2 => ?_)
    · refine wp_iload_n dX6_ring_25 rfl 1 rfl ?_
      refine wp_aload_n dX6_ring_26 rfl 0 rfl ?_
      refine wp_getP (b := 10) dX6_ring_27 flX6_51 rfl rfl (by rw [hA.1]; exact hr.1) (by rw [hA.2.1]; exact hr.2.2.2.2.2.2.2.2.2.1) ?_
      refine wv_getI (vI h' 10 11) dX6_ring_30 flX6_309 rfl rfl (by rw [hA.1]; exact hS.1.1) rfl ?_
      refine wi_icmp_ge (tgt := 49) (Int32.toInt x) (Int32.toInt (vI h' 10 11)) rfl rfl dX6_ring_33 (by decide) (fun c_3 => ?_) (fun c_3 => ?_)
      · refine wp_ldc2 dX6_ring_49 cnX6_265 ?_
        refine wp_lret dX6_ring_52 rfl (by decide) (by decide) ?_
        exact hm1 h' hA h13 hDn (by omega) (by omega) (by omega)
      · obtain ⟨i, hi, rfl⟩ : ∃ i, i < 30 ∧ x = nI i := ofm (by omega) (by have := Dn_le hDn; omega) (by decide)
        have hxi : (nI i).toInt = (i : Int) := nIt (by omega)
        refine wp_aload_n dX6_ring_36 rfl 0 rfl ?_
        refine wp_getP (b := 10) dX6_ring_37 flX6_51 rfl rfl (by rw [hA.1]; exact hr.1) (by rw [hA.2.1]; exact hr.2.2.2.2.2.2.2.2.2.1) ?_
        refine wp_getP (b := 18) dX6_ring_40 flX6_312 rfl rfl (by rw [hA.1]; exact hS.1.1) (by rw [hA.2.1]; exact hS.1.2.2.2.2.2.2.2.2.2.1) ?_
        refine wp_iload_n dX6_ring_43 rfl 1 rfl ?_
        refine wv_iald i (vI h' 18 i) dX6_ring_44 rfl (by rw [hA.1]; exact hS.1.2.1.2.2.2.2.2.2.2.1) rfl (by show i < 30; omega) rfl ?_
        refine wp_i2l dX6_ring_45 ?_
        refine wp_goto (tgt := 52) dX6_ring_46 (by decide) ?_
        refine wp_lret dX6_ring_52 rfl (by decide) (by decide) ?_
        exact hyes h' hA h13 hDn i rfl (by omega) (by omega)
    · refine wp_ldc2 dX6_ring_21 cnX6_58 ?_
      refine wp_lret dX6_ring_24 rfl (by decide) (by decide) ?_
      exact hno h' hA h13 hDn (by omega)
