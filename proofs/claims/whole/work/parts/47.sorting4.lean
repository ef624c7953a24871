/-! contracts: the class's Sorting: the ring, settling; mend, order, time, ring -/
def Ar (h h' : HP) : Prop := liv h' = liv h ∧ vP h' = vP h ∧ vL h' = vL h ∧ (∀ b, b ≠ 10 → b ≠ 18 → b ≠ 19 → vI h' b = vI h b) ∧ ∀ k, k ≠ 11 → vI h' 10 k = vI h 10 k
theorem Ar_rf (h : HP) : Ar h h := ⟨rfl, rfl, rfl, fun _ _ _ _ => rfl, fun _ _ => rfl⟩
theorem Ar_19 {h h' h1 : HP} (hA : Ar h h') (h2 : Ai 19 h' h1) : Ar h h1 := ⟨h2.1.trans hA.1, h2.2.1.trans hA.2.1, h2.2.2.1.trans hA.2.2.1, fun b q1 q2 q3 => (h2.2.2.2 b q3).trans (hA.2.2.2.1 b q1 q2 q3), fun k q => by rw [h2.2.2.2 10 (by decide)]; exact hA.2.2.2.2 k q⟩
theorem Ar_11 {h h' : HP} {v : Int32} (hA : Ar h h') : Ar h (sI h' 10 11 v) := ⟨hA.1, hA.2.1, hA.2.2.1, fun b q1 q2 q3 => by rw [vIn q1]; exact hA.2.2.2.1 b q1 q2 q3, fun k q => by rw [vIj q]; exact hA.2.2.2.2 k q⟩
theorem Ar_18 {h h' : HP} {k : Nat} {v : Int32} (hA : Ar h h') : Ar h (sI h' 18 k v) := ⟨hA.1, hA.2.1, hA.2.2.1, fun b q1 q2 q3 => by rw [vIn q2]; exact hA.2.2.2.1 b q1 q2 q3, fun k q => by rw [vIn (by decide)]; exact hA.2.2.2.2 k q⟩
theorem SO_ar {h h' : HP} {ne nk : Nat} {fr to : Nat → Nat} {E : Nat → Nat → Prop} (hS : SO h ne nk fr to E) (hA : Ar h h') : SO h' ne nk fr to E := SO_eq hS hA.1 hA.2.1 (hA.2.2.2.2 2 (by decide)) (hA.2.2.2.2 5 (by decide)) (hA.2.2.2.1 13 (by decide) (by decide) (by decide)) (hA.2.2.2.1 14 (by decide) (by decide) (by decide)) (hA.2.2.2.1 15 (by decide) (by decide) (by decide))
theorem Na_no {E : Nat → Nat → Prop} {ne n : Nat} {D : Nat → Int32} (hb : ∀ a b, E a b → a < ne ∧ b < ne) (hD : ∀ x, x < ne → Ds E n x (D x).toInt) (hN : ∀ q, q < ne → E n q → (D q).toInt < 0) (m : Nat) : ¬ Qc E m n := by
  intro ⟨h1, h2⟩
  obtain ⟨k, rfl⟩ : ∃ k, m = k + 1 := ⟨m - 1, by omega⟩
  obtain ⟨q, a1, a2⟩ := h2
  have e := (hb _ _ a1).2
  have := hN q e a1
  have := (Ds_pth (hD q e) a2).1
  omega
theorem Na_min {E : Nat → Nat → Prop} {ne n f : Nat} {D : Nat → Int32} (hb : ∀ a b, E a b → a < ne ∧ b < ne) (hD : ∀ x, x < ne → Ds E n x (D x).toInt) (hF : NF_ E D n ne f) : ∃ d : Nat, (D f).toInt = (d : Int) ∧ d < ne ∧ Qc E (d + 1) n ∧ ∀ m, Qc E m n → d + 1 ≤ m := by
  obtain ⟨h1, h2, h3, h4⟩ := hF
  obtain ⟨d, e1, e2⟩ := Ds_ge (hD f h1) h3
  refine ⟨d, e1, Mn_lt hb e2 h1, ⟨by omega, f, h2, e2.1⟩, fun m ⟨m1, m2⟩ => ?_⟩
  obtain ⟨k, rfl⟩ : ∃ k, m = k + 1 := ⟨m - 1, by omega⟩
  obtain ⟨q, a1, a2⟩ := m2
  have e := (hb _ _ a1).2
  have q1 := Ds_pth (hD q e) a2
  have q2 := (h4 q e a1 q1.1).1
  omega
theorem Wk_na {E : Nat → Nat → Prop} {ne f L i u : Nat} {D : Nat → Int32} {v : Int32} (hb : ∀ a b, E a b → a < ne ∧ b < ne) (hR : RgN (Qc E) ne f L) (hW : Wk E f L i u) (hi : i < L) (hD : ∀ x, x < ne → Ds E f x (D x).toInt) (hN : NA E D u ne v) : ∃ w, v = nI w ∧ Wk E f L (i + 1) w := by
  obtain ⟨g0, a1, a2⟩ := Wk_ex hR hW hi
  have hg0 := (hb _ _ a1).2
  have e0 := (Ds_is (hD g0 hg0)).mpr a2
  rcases hN with ⟨h1, h2⟩ | ⟨w, h1, h2, h3, h4, h5⟩
  · have := h2 g0 hg0 a1; omega
  · obtain ⟨d, b1, b2⟩ := Ds_ge (hD w h1) h4
    have q1 := (h5 g0 hg0 a1 (by omega)).1
    have q2 := Wk_low hR hW h3 b2.1
    have e : d = L - 1 - i := by omega
    subst e
    refine ⟨w, h2, u, hW, h3, b2, fun q hq ⟨c1, c2⟩ => ?_⟩
    have hqn := (hb _ _ c1).2
    have e3 := (Ds_is (hD q hqn)).mpr c2
    have := (h5 q hqn c1 (by omega)).2 (by omega)
    omega
theorem Rg_le {E : Nat → Nat → Prop} {ne f L : Nat} (hb : ∀ a b, E a b → a < ne ∧ b < ne) (hR : RgN (Qc E) ne f L) : L ≤ ne := by
  have h1 := hR.2.1.1
  obtain ⟨g, a1, a2⟩ := Wk_ex (i := 0) (u := f) hR rfl (by omega)
  have := Mn_lt hb a2 (hb _ _ a1).2
  omega
def RgQ (E : Nat → Nat → Prop) (f L : Nat) (R : Nat → Int32) (k : Nat) : Prop := ∀ i, i < k → ∃ v, R i = nI v ∧ Wk E f L i v
set_option maxRecDepth 100000 in
set_option maxHeartbeats 4000000 in
theorem lr_wk {g : GG} {h : HP} {Post : Option Value → HP → Prop} (ne nk : Nat) (fr to : Nat → Nat) (E : Nat → Nat → Prop) (hS : SO h ne nk fr to E) (f L : Nat) (hR : RgN (Qc E) ne f L) (hp : ∀ h', Ar h h' → vI h' 10 11 = nI L → RgQ E f L (vI h' 18) L → Post none h') : ∀ (k n : Nat), n + k = L → ∀ (h' : HP) (u : Nat), Ar h h' → vI h' 10 11 = nI L → (∀ x, x < ne → Ds E f x (vI h' 19 x).toInt) → Wk E f L n u → RgQ E f L (vI h' 18) n → WP g mX3_findRing 80 [(0, .ref 10), (1, .int (nI f)), (2, .int (nI u)), (3, .int (nI n))] [] h' 0 0 Post := by
  intro k
  have hne := hS.2.2.1
  have hb := hS.2.2.2.2.2.2.1
  have hL := Rg_le hb hR
  induction k with
  | zero =>
    intro n e0 h' u hA h11 hD hW hQ
    refine wp_iload_n dX3_findRing_80 rfl 3 rfl ?_
    refine wp_aload_n dX3_findRing_81 rfl 0 rfl ?_
    refine wv_getI (nI L) dX3_findRing_82 flX3_57 rfl rfl (by (try simp only [liv_sI, liv_sL]); rw [hA.1]; exact hS.1.1) h11 ?_
    refine wi_icmp_ge (tgt := 111) ((n : Nat)) ((L : Nat)) (nIt (by omega)) (nIt (by omega)) dX3_findRing_85 (by decide) (fun _ => ?_) (fun c_1 => absurd (by omega) c_1)
    refine wp_vret dX3_findRing_111 rfl (by decide) (by decide) ?_
    obtain rfl : n = L := by omega
    exact hp h' hA h11 hQ
  | succ k ih =>
    intro n e0 h' u hA h11 hD hW hQ
    have hun := Wk_lt hb hR.1 hW
    refine wp_iload_n dX3_findRing_80 rfl 3 rfl ?_
    refine wp_aload_n dX3_findRing_81 rfl 0 rfl ?_
    refine wv_getI (nI L) dX3_findRing_82 flX3_57 rfl rfl (by (try simp only [liv_sI, liv_sL]); rw [hA.1]; exact hS.1.1) h11 ?_
    refine wi_icmp_ge (tgt := 111) ((n : Nat)) ((L : Nat)) (nIt (by omega)) (nIt (by omega)) dX3_findRing_85 (by decide) (fun c_1 => absurd c_1 (by omega)) (fun _ => ?_)
    refine wp_iload_n dX3_findRing_88 rfl 2 rfl ?_
    refine wi_if_lt (tgt := 111) ((u : Nat)) (nIt (by omega)) dX3_findRing_89 (by decide) (fun c_2 => absurd c_2 (by omega)) (fun _ => ?_)
    refine wp_aload_n dX3_findRing_92 rfl 0 rfl ?_
    refine wp_getP (b := 18) dX3_findRing_93 flX3_34 rfl rfl (by (try simp only [liv_sI, liv_sL]); rw [hA.1]; exact hS.1.1) (by (try simp only [vP_sI, vP_sL]); rw [hA.2.1]; exact hS.1.2.2.2.2.2.2.2.2.2.1) ?_
    refine wp_iload_n dX3_findRing_96 rfl 3 rfl ?_
    refine wp_iload_n dX3_findRing_97 rfl 2 rfl ?_
    refine wv_iast n dX3_findRing_98 rfl (by (try simp only [liv_sI, liv_sL]); rw [hA.1]; exact hS.1.2.1.2.2.2.2.2.2.2.1) rfl (by show n < 30; omega) ?_
    refine wp_aload_n dX3_findRing_99 rfl 0 rfl ?_
    refine wp_iload_n dX3_findRing_100 rfl 2 rfl ?_
    refine wp_callV mX3_nearestAfter 10 [.int (nI u)] [] (c := 3) dX3_findRing_101 iX3_nearestAfter (fun _ => trivial) mlX3_97 imX3_nearestAfter seX3_nearestAfter (by decide) rfl rfl ⟨by decide, by decide⟩ rfl rfl (Nat.le_of_ble_eq_true rfl) (Nat.le_of_ble_eq_true rfl) (by decide) (by decide) ?_
    refine ct_nearestAfter ne nk fr to E (SO_ar hS (Ar_18 hA)) u (Wk_lt hb hR.1 hW) (fun v hN => ?_)
    obtain ⟨w, rfl, hW2⟩ := Wk_na (D := vI h' 19) hb hR hW (by omega) hD (by rw [vIn (by decide)] at hN; exact hN)
    show WP g mX3_findRing 104 [(0, .ref 10), (1, .int (nI f)), (2, .int (nI u)), (3, .int (nI n))] [.int (nI w)] _ 0 0 _
    refine wp_istore_n (lv' := [(2, .int (nI w)), (0, .ref 10), (1, .int (nI f)), (3, .int (nI n))]) dX3_findRing_104 rfl (by decide) rfl ?_
    refine wp_pc (pc' := 105) rfl ?_
    refine wp_iinc (q := 3) (x := nI n) (v := nI (n + 1)) (lv' := [(3, .int (nI (n + 1))), (2, .int (nI w)), (0, .ref 10), (1, .int (nI f))]) dX3_findRing_105 rfl (nI_1 _) (by decide) rfl ?_
    refine wp_goto (tgt := 80) dX3_findRing_108 (by decide) ?_
    refine wp_sub [2, 3, 1, 0] rfl ?_
    exact ih (n + 1) (by omega) _ w (Ar_18 hA) (by rw [vIn (by decide)]; exact h11) (by rw [vIn (by decide)]; exact hD) hW2 (fun i hi => by rw [vI_row]; show ∃ v, (if i = n then nI u else vI h' 18 i) = nI v ∧ _; split; (next e => rw [e]; exact ⟨u, rfl, hW⟩); (next e => exact hQ i (by omega)))
set_option maxRecDepth 100000 in
set_option maxHeartbeats 4000000 in
theorem lr_66 {g : GG} {h : HP} {Post : Option Value → HP → Prop} (ne nk : Nat) (fr to : Nat → Nat) (E : Nat → Nat → Prop) (hS : SO h ne nk fr to E) (hp0 : ∀ h', Ar h h' → (∀ e m, e < ne → ¬ Qc E m e) → Post none h') (hp1 : ∀ h' f L, Ar h h' → 1 ≤ L → RgN (Qc E) ne f L → vI h' 10 11 = nI L → RgQ E f L (vI h' 18) L → Post none h') (h' : HP) (fi : Int32) (hA : Ar h h') (hV : RgV (Qc E) ne fi.toInt (vI h' 10 11).toInt) : WP g mX3_findRing 66 [(0, .ref 10), (1, .int fi)] [] h' 0 0 Post := by
  have hne := hS.2.2.1
  have hb := hS.2.2.2.2.2.2.1
  rcases hV with ⟨h1, h2, hn⟩ | ⟨f, L, h1, h2, hL1, hR⟩
  · obtain rfl : fi = -1 := Int32.toInt.inj h1
    refine wp_iload_n dX3_findRing_66 rfl 1 rfl ?_
    refine wp_if_ge (tgt := 71) dX3_findRing_67 (by decide) (fun c_1 => absurd c_1 (by decide)) (fun _ => ?_)
    refine wp_vret dX3_findRing_70 rfl (by decide) (by decide) ?_
    exact hp0 h' hA hn
  · have hL := Rg_le hb hR
    have hf := hR.1
    obtain rfl : fi = nI f := I_of h1 (by omega)
    have h11 : vI h' 10 11 = nI L := I_of h2 (by omega)
    refine wp_iload_n dX3_findRing_66 rfl 1 rfl ?_
    refine wi_if_ge (tgt := 71) ((f : Nat)) (nIt (by omega)) dX3_findRing_67 (by decide) (fun _ => ?_) (fun c_1 => absurd (by omega) c_1)
    refine wp_aload_n dX3_findRing_71 rfl 0 rfl ?_
    refine wp_iload_n dX3_findRing_72 rfl 1 rfl ?_
    refine wp_callV mX3_measureTo 10 [.int (nI f)] [] (c := 3) dX3_findRing_73 iX3_measureTo (fun _ => trivial) mlX3_93 imX3_measureTo seX3_measureTo (by decide) rfl rfl ⟨by decide, by decide⟩ rfl rfl (Nat.le_of_ble_eq_true rfl) (Nat.le_of_ble_eq_true rfl) (by decide) (by decide) ?_
    refine ct_measureTo ne nk fr to E (SO_ar hS hA) f hR.1 (fun h1 hA1 hD => ?_)
    show WP g mX3_findRing 76 [(0, .ref 10), (1, .int (nI f))] [] _ 0 0 _
    refine wp_iload_n dX3_findRing_76 rfl 1 rfl ?_
    refine wp_istore_n (lv' := [(2, .int (nI f)), (0, .ref 10), (1, .int (nI f))]) dX3_findRing_77 rfl (by decide) rfl ?_
    refine wp_iconst (v := 0) dX3_findRing_78 (by decide) ?_
    refine wp_istore_n (lv' := [(3, .int 0), (2, .int (nI f)), (0, .ref 10), (1, .int (nI f))]) dX3_findRing_79 rfl (by decide) rfl ?_
    refine wp_sub [2, 3, 1, 0] rfl ?_
    exact lr_wk ne nk fr to E hS f L hR (fun h' a b c => hp1 h' f L a hL1 hR b c) L 0 (by omega) h1 f (Ar_19 hA hA1) (by rw [hA1.2.2.2 10 (by decide)]; exact h11) hD rfl (fun _ z => absurd z (Nat.not_lt_zero _))
set_option maxRecDepth 100000 in
set_option maxHeartbeats 4000000 in
theorem lr_fr {g : GG} {h : HP} {Post : Option Value → HP → Prop} (ne nk : Nat) (fr to : Nat → Nat) (E : Nat → Nat → Prop) (hS : SO h ne nk fr to E) (hp0 : ∀ h', Ar h h' → (∀ e m, e < ne → ¬ Qc E m e) → Post none h') (hp1 : ∀ h' f L, Ar h h' → 1 ≤ L → RgN (Qc E) ne f L → vI h' 10 11 = nI L → RgQ E f L (vI h' 18) L → Post none h') : ∀ (k n : Nat), n + k = ne → ∀ (h' : HP) (fi : Int32), Ar h h' → RgV (Qc E) n fi.toInt (vI h' 10 11).toInt → WP g mX3_findRing 4 [(0, .ref 10), (1, .int fi), (2, .int (nI n))] [] h' 0 0 Post := by
  intro k
  have hne := hS.2.2.1
  have hb := hS.2.2.2.2.2.2.1
  induction k with
  | zero =>
    intro n e0 h' fi hA hV
    refine wp_iload_n dX3_findRing_4 rfl 2 rfl ?_
    refine wp_aload_n dX3_findRing_5 rfl 0 rfl ?_
    refine wv_getI (nI ne) dX3_findRing_6 flX3_40 rfl rfl (by (try simp only [liv_sI, liv_sL]); rw [hA.1]; exact hS.1.1) (by rw [hA.2.2.2.2 2 (by decide)]; exact hS.2.1) ?_
    refine wi_icmp_ge (tgt := 66) ((n : Nat)) ((ne : Nat)) (nIt (by omega)) (nIt (by omega)) dX3_findRing_9 (by decide) (fun _ => ?_) (fun c_1 => absurd (by omega) c_1)
    refine wp_sub [0, 1] rfl ?_
    obtain rfl : n = ne := by omega
    exact lr_66 n nk fr to E hS hp0 hp1 h' fi hA hV
  | succ k ih =>
    intro n e0 h' fi hA hV
    refine wp_iload_n dX3_findRing_4 rfl 2 rfl ?_
    refine wp_aload_n dX3_findRing_5 rfl 0 rfl ?_
    refine wv_getI (nI ne) dX3_findRing_6 flX3_40 rfl rfl (by (try simp only [liv_sI, liv_sL]); rw [hA.1]; exact hS.1.1) (by rw [hA.2.2.2.2 2 (by decide)]; exact hS.2.1) ?_
    refine wi_icmp_ge (tgt := 66) ((n : Nat)) ((ne : Nat)) (nIt (by omega)) (nIt (by omega)) dX3_findRing_9 (by decide) (fun c_1 => absurd c_1 (by omega)) (fun _ => ?_)
    refine wp_aload_n dX3_findRing_12 rfl 0 rfl ?_
    refine wp_iload_n dX3_findRing_13 rfl 2 rfl ?_
    refine wp_callV mX3_measureTo 10 [.int (nI n)] [] (c := 3) dX3_findRing_14 iX3_measureTo (fun _ => trivial) mlX3_93 imX3_measureTo seX3_measureTo (by decide) rfl rfl ⟨by decide, by decide⟩ rfl rfl (Nat.le_of_ble_eq_true rfl) (Nat.le_of_ble_eq_true rfl) (by decide) (by decide) ?_
    refine ct_measureTo ne nk fr to E (SO_ar hS hA) n (by omega) (fun h1 hA1 hD => ?_)
    show WP g mX3_findRing 17 [(0, .ref 10), (1, .int fi), (2, .int (nI n))] [] _ 0 0 _
    refine wp_aload_n dX3_findRing_17 rfl 0 rfl ?_
    refine wp_iload_n dX3_findRing_18 rfl 2 rfl ?_
    refine wp_callV mX3_nearestAfter 10 [.int (nI n)] [] (c := 3) dX3_findRing_19 iX3_nearestAfter (fun _ => trivial) mlX3_97 imX3_nearestAfter seX3_nearestAfter (by decide) rfl rfl ⟨by decide, by decide⟩ rfl rfl (Nat.le_of_ble_eq_true rfl) (Nat.le_of_ble_eq_true rfl) (by decide) (by decide) ?_
    refine ct_nearestAfter ne nk fr to E (SO_ar hS (Ar_19 hA hA1)) n (by omega) (fun v hN => ?_)
    rcases hN with ⟨rfl, hq⟩ | ⟨f, hf1, rfl, hf2⟩
    · show WP g mX3_findRing 22 [(0, .ref 10), (1, .int fi), (2, .int (nI n))] [.int ((-1))] _ 0 0 _
      refine wp_istore_n (lv' := [(3, .int ((-1))), (0, .ref 10), (1, .int fi), (2, .int (nI n))]) dX3_findRing_22 rfl (by decide) rfl ?_
      refine wp_iload_n dX3_findRing_23 rfl 0 rfl ?_
      refine wp_if_lt (tgt := 60) dX3_findRing_24 (by decide) (fun _ => ?_) (fun c_2 => absurd (by decide) c_2)
      refine wp_iinc (q := 3) (x := nI n) (v := nI (n + 1)) (lv' := [(2, .int (nI (n + 1))), (3, .int ((-1))), (0, .ref 10), (1, .int fi)]) dX3_findRing_60 rfl (nI_1 _) (by decide) rfl ?_
      refine wp_goto (tgt := 4) dX3_findRing_63 (by decide) ?_
      refine wp_sub [2, 3, 0] rfl ?_
      exact ih (n + 1) (by omega) h1 fi (Ar_19 hA hA1) (by rw [hA1.2.2.2 10 (by decide)]; exact RgV_no hV (Na_no hb hD hq))
    · obtain ⟨d, hd1, hd2, hd3, hd4⟩ := Na_min hb hD (f := f) ⟨hf1, hf2⟩
      have hd5 : (vI h1 19 f + 1).toInt = ((d + 1 : Nat) : Int) := by rw [I_add1 (by omega), hd1]; omega
      show WP g mX3_findRing 22 [(0, .ref 10), (1, .int fi), (2, .int (nI n))] [.int (nI f)] _ 0 0 _
      refine wp_istore_n (lv' := [(3, .int (nI f)), (0, .ref 10), (1, .int fi), (2, .int (nI n))]) dX3_findRing_22 rfl (by decide) rfl ?_
      refine wp_iload_n dX3_findRing_23 rfl 0 rfl ?_
      refine wi_if_lt (tgt := 60) ((f : Nat)) (nIt (by omega)) dX3_findRing_24 (by decide) (fun c_3 => absurd c_3 (by omega)) (fun _ => ?_)
      refine wp_iload_n dX3_findRing_27 rfl 2 rfl ?_
      refine wi_if_lt (tgt := 46) (Int32.toInt fi) rfl dX3_findRing_28 (by decide) (fun c_4 => ?_) (fun c_4 => ?_)
      · refine wp_iload_n dX3_findRing_46 rfl 3 rfl ?_
        refine wp_istore_n (lv' := [(1, .int (nI n)), (3, .int (nI f)), (0, .ref 10), (2, .int (nI n))]) dX3_findRing_47 rfl (by decide) rfl ?_
        refine wp_aload_n dX3_findRing_48 rfl 2 rfl ?_
        refine wp_aload_n dX3_findRing_49 rfl 2 rfl ?_
        refine wp_getP (b := 19) dX3_findRing_50 flX3_37 rfl rfl (by (try simp only [liv_sI]); rw [hA1.1, hA.1]; exact hS.1.1) (by (try simp only [vP_sI]); rw [hA1.2.1, hA.2.1]; exact hS.1.2.2.2.2.2.2.2.2.2.2) ?_
        refine wp_iload_n dX3_findRing_53 rfl 1 rfl ?_
        refine wv_iald f (vI h1 19 f) dX3_findRing_54 rfl (by (try simp only [liv_sI]); rw [hA1.1, hA.1]; exact hS.1.2.1.2.2.2.2.2.2.2.2) rfl (by show f < 30; omega) rfl ?_
        refine wp_iconst (v := 1) dX3_findRing_55 (by decide) ?_
        refine wp_iadd dX3_findRing_56 ?_
        refine wp_putI dX3_findRing_57 flX3_57 (Or.inl rfl) rfl rfl rfl rfl (by (try simp only [liv_sI]); rw [hA1.1, hA.1]; exact hS.1.1) ?_
        refine wp_iinc (q := 3) (x := nI n) (v := nI (n + 1)) (lv' := [(2, .int (nI (n + 1))), (1, .int (nI n)), (3, .int (nI f)), (0, .ref 10)]) dX3_findRing_60 rfl (nI_1 _) (by decide) rfl ?_
        refine wp_goto (tgt := 4) dX3_findRing_63 (by decide) ?_
        refine wp_sub [3, 1, 0] rfl ?_
        exact ih (n + 1) (by omega) _ (nI n) (Ar_11 (Ar_19 hA hA1)) (by rw [vIs, nIt (by omega), hd5]; exact RgV_set hV (by omega) hd3 hd4 (by omega))
      · refine wp_aload_n dX3_findRing_31 rfl 1 rfl ?_
        refine wp_getP (b := 19) dX3_findRing_32 flX3_37 rfl rfl (by (try simp only [liv_sI]); rw [hA1.1, hA.1]; exact hS.1.1) (by (try simp only [vP_sI]); rw [hA1.2.1, hA.2.1]; exact hS.1.2.2.2.2.2.2.2.2.2.2) ?_
        refine wp_iload_n dX3_findRing_35 rfl 0 rfl ?_
        refine wv_iald f (vI h1 19 f) dX3_findRing_36 rfl (by (try simp only [liv_sI]); rw [hA1.1, hA.1]; exact hS.1.2.1.2.2.2.2.2.2.2.2) rfl (by show f < 30; omega) rfl ?_
        refine wp_iconst (v := 1) dX3_findRing_37 (by decide) ?_
        refine wp_iadd dX3_findRing_38 ?_
        refine wp_aload_n dX3_findRing_39 rfl 1 rfl ?_
        refine wv_getI (vI h' 10 11) dX3_findRing_40 flX3_57 rfl rfl (by (try simp only [liv_sI]); rw [hA1.1, hA.1]; exact hS.1.1) (by rw [hA1.2.2.2 10 (by decide)]) ?_
        refine wi_icmp_ge (tgt := 60) (((d + 1 : Nat) : Int)) (Int32.toInt (vI h' 10 11)) hd5 rfl dX3_findRing_43 (by decide) (fun c_5 => ?_) (fun c_5 => ?_)
        · refine wp_iinc (q := 3) (x := nI n) (v := nI (n + 1)) (lv' := [(2, .int (nI (n + 1))), (3, .int (nI f)), (0, .ref 10), (1, .int fi)]) dX3_findRing_60 rfl (nI_1 _) (by decide) rfl ?_
          refine wp_goto (tgt := 4) dX3_findRing_63 (by decide) ?_
          refine wp_sub [2, 3, 0] rfl ?_
          exact ih (n + 1) (by omega) h1 fi (Ar_19 hA hA1) (by rw [hA1.2.2.2 10 (by decide)]; exact RgV_keep (v := d + 1) hV (by omega) (by omega) hd4)
        · refine wp_iload_n dX3_findRing_46 rfl 3 rfl ?_
          refine wp_istore_n (lv' := [(1, .int (nI n)), (3, .int (nI f)), (0, .ref 10), (2, .int (nI n))]) dX3_findRing_47 rfl (by decide) rfl ?_
          refine wp_aload_n dX3_findRing_48 rfl 2 rfl ?_
          refine wp_aload_n dX3_findRing_49 rfl 2 rfl ?_
          refine wp_getP (b := 19) dX3_findRing_50 flX3_37 rfl rfl (by (try simp only [liv_sI]); rw [hA1.1, hA.1]; exact hS.1.1) (by (try simp only [vP_sI]); rw [hA1.2.1, hA.2.1]; exact hS.1.2.2.2.2.2.2.2.2.2.2) ?_
          refine wp_iload_n dX3_findRing_53 rfl 1 rfl ?_
          refine wv_iald f (vI h1 19 f) dX3_findRing_54 rfl (by (try simp only [liv_sI]); rw [hA1.1, hA.1]; exact hS.1.2.1.2.2.2.2.2.2.2.2) rfl (by show f < 30; omega) rfl ?_
          refine wp_iconst (v := 1) dX3_findRing_55 (by decide) ?_
          refine wp_iadd dX3_findRing_56 ?_
          refine wp_putI dX3_findRing_57 flX3_57 (Or.inl rfl) rfl rfl rfl rfl (by (try simp only [liv_sI]); rw [hA1.1, hA.1]; exact hS.1.1) ?_
          refine wp_iinc (q := 3) (x := nI n) (v := nI (n + 1)) (lv' := [(2, .int (nI (n + 1))), (1, .int (nI n)), (3, .int (nI f)), (0, .ref 10)]) dX3_findRing_60 rfl (nI_1 _) (by decide) rfl ?_
          refine wp_goto (tgt := 4) dX3_findRing_63 (by decide) ?_
          refine wp_sub [3, 1, 0] rfl ?_
          exact ih (n + 1) (by omega) _ (nI n) (Ar_11 (Ar_19 hA hA1)) (by rw [vIs, nIt (by omega), hd5]; exact RgV_set hV (by omega) hd3 hd4 (by omega))
set_option maxRecDepth 100000 in
set_option maxHeartbeats 4000000 in
theorem ct_findRing {g : GG} {h : HP} {Post : Option Value → HP → Prop} (ne nk : Nat) (fr to : Nat → Nat) (E : Nat → Nat → Prop) (hS : SO h ne nk fr to E) (h11 : vI h 10 11 = 0) (hp0 : ∀ h', Ar h h' → (∀ e m, e < ne → ¬ Qc E m e) → Post none h') (hp1 : ∀ h' f L, Ar h h' → 1 ≤ L → RgN (Qc E) ne f L → vI h' 10 11 = nI L → RgQ E f L (vI h' 18) L → Post none h') : CT g mX3_findRing [.ref 10] h Post := by
  show WP g mX3_findRing 0 [(0, .ref 10)] [] h 0 0 Post
  refine wp_iconst (v := -1) dX3_findRing_0 (by decide) ?_
  refine wp_istore_n (lv' := [(1, .int ((-1))), (0, .ref 10)]) dX3_findRing_1 rfl (by decide) rfl ?_
  refine wp_iconst (v := 0) dX3_findRing_2 (by decide) ?_
  refine wp_istore_n (lv' := [(2, .int 0), (1, .int ((-1))), (0, .ref 10)]) dX3_findRing_3 rfl (by decide) rfl ?_
  refine wp_sub [2, 1, 0] rfl ?_
  exact lr_fr ne nk fr to E hS hp0 hp1 ne 0 (by omega) h (-1) (Ar_rf h) (by rw [h11]; exact RgV_0)
