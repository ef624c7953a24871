/-! contracts: the Gathering (number 5; rows 6, 7, 8) -/
def GW (h : HP) : Prop := liv h 5 = true ∧ liv h 6 = true ∧ liv h 7 = true ∧ liv h 8 = true ∧ vP h 5 0 = some 6 ∧ vP h 5 1 = some 7 ∧ vP h 5 2 = some 8
def gaH (h : HP) (n : Nat) (num : Int32) (lo hi : Int64) : HP := sI (sL (sL (sI h 6 n num) 7 n lo) 8 n hi) 5 3 (nI (n + 1))
def hvN (L H : Nat → Int64) (t : Int64) : Nat → Nat
  | 0 => 0
  | n + 1 => hvN L H t n + (if L n ≤ t ∧ t ≤ H n then 1 else 0)
theorem hvN_yes {L H : Nat → Int64} {t : Int64} {n : Nat} (h1 : L n ≤ t) (h2 : t ≤ H n) : hvN L H t (n + 1) = hvN L H t n + 1 := by
  show hvN L H t n + (if L n ≤ t ∧ t ≤ H n then 1 else 0) = _
  rw [if_pos ⟨h1, h2⟩]
theorem hvN_no {L H : Nat → Int64} {t : Int64} {n : Nat} (h1 : ¬ (L n ≤ t ∧ t ≤ H n)) : hvN L H t (n + 1) = hvN L H t n := by
  show hvN L H t n + (if L n ≤ t ∧ t ≤ H n then 1 else 0) = _
  rw [if_neg h1]; rfl
theorem hvN_le (L H : Nat → Int64) (t : Int64) : ∀ n, hvN L H t n ≤ n
  | 0 => Nat.le_refl 0
  | n + 1 => by
    have := hvN_le L H t n
    show hvN L H t n + (if L n ≤ t ∧ t ≤ H n then 1 else 0) ≤ n + 1
    split <;> omega
set_option maxRecDepth 100000 in
set_option maxHeartbeats 4000000 in
theorem ct_clear {g : GG} {h : HP} {Post : Option Value → HP → Prop} (hl : liv h 5 = true) (hp : Post none (sI h 5 3 0)) : CT g mX0_clear [.ref 5] h Post := by
  show WP g mX0_clear 0 [(0, .ref 5)] [] h 0 0 Post
  refine wp_aload_n dX0_clear_0 rfl 0 rfl ?_
  refine wp_iconst (v := 0) dX0_clear_1 (by decide) ?_
  refine wp_putI dX0_clear_2 flX0_22 (Or.inl rfl) rfl rfl rfl rfl hl ?_
  refine wp_vret dX0_clear_5 rfl (by decide) (by decide) ?_
  exact hp
set_option maxRecDepth 100000 in
set_option maxHeartbeats 4000000 in
theorem ct_add {g : GG} {h : HP} {Post : Option Value → HP → Prop} (n : Nat) (num : Int32) (lo hi : Int64) (hs : n < 10) (hg : GW h) (hsz : vI h 5 3 = nI n) (hp : Post none (gaH h n num lo hi)) : CT g mX0_add [.ref 5, .int num, .long lo, .long hi] h Post := by
  show WP g mX0_add 0 [(0, .ref 5), (1, .int num), (2, .long lo), (4, .long hi)] [] h 0 0 Post
  refine wp_aload_n dX0_add_0 rfl 0 rfl ?_
  refine wv_getI (nI n) dX0_add_1 flX0_22 rfl rfl hg.1 (by simpa [vI, sI, sL, up2] using hsz) ?_
  refine wp_aload_n dX0_add_4 rfl 0 rfl ?_
  refine wp_getP (b := 6) dX0_add_5 flX0_9 rfl rfl hg.1 hg.2.2.2.2.1 ?_
  refine wp_alen (n := nI 10) dX0_add_8 rfl (by decide) (by decide) hg.2.1 rfl ?_
  refine wp_icmp_lt (tgt := 13) dX0_add_9 (by decide) (fun _ => ?_) (fun c_1 => absurd (nI_lt hs (by omega)) c_1)
  refine wp_aload_n dX0_add_13 rfl 0 rfl ?_
  refine wp_getP (b := 6) dX0_add_14 flX0_9 rfl rfl hg.1 hg.2.2.2.2.1 ?_
  refine wp_aload_n dX0_add_17 rfl 0 rfl ?_
  refine wv_getI (nI n) dX0_add_18 flX0_22 rfl rfl hg.1 (by simpa [vI, sI, sL, up2] using hsz) ?_
  refine wp_iload_n dX0_add_21 rfl 1 rfl ?_
  refine wv_iast n dX0_add_22 rfl hg.2.1 rfl (by show n < 10; omega) ?_
  refine wp_aload_n dX0_add_23 rfl 0 rfl ?_
  refine wp_getP (b := 7) dX0_add_24 flX0_15 rfl rfl hg.1 hg.2.2.2.2.2.1 ?_
  refine wp_aload_n dX0_add_27 rfl 0 rfl ?_
  refine wp_pc (pc' := 28) rfl ?_
  refine wv_getI (nI n) dX0_add_28 flX0_22 rfl rfl hg.1 (by simpa [vI, sI, sL, up2] using hsz) ?_
  refine wp_lload_n dX0_add_31 rfl 2 rfl ?_
  refine wv_last n dX0_add_32 rfl hg.2.2.1 rfl (by show n < 10; omega) ?_
  refine wp_aload_n dX0_add_33 rfl 0 rfl ?_
  refine wp_getP (b := 8) dX0_add_34 flX0_19 rfl rfl hg.1 hg.2.2.2.2.2.2 ?_
  refine wp_aload_n dX0_add_37 rfl 0 rfl ?_
  refine wv_getI (nI n) dX0_add_38 flX0_22 rfl rfl hg.1 (by simpa [vI, sI, sL, up2] using hsz) ?_
  refine wp_lload dX0_add_41 3 rfl ?_
  refine wv_last n dX0_add_43 rfl hg.2.2.2.1 rfl (by show n < 10; omega) ?_
  refine wp_aload_n dX0_add_44 rfl 0 rfl ?_
  refine wp_dup dX0_add_45 rfl ?_
  refine wv_getI (nI n) dX0_add_46 flX0_22 rfl rfl hg.1 (by simpa [vI, sI, sL, up2] using hsz) ?_
  refine wp_iconst (v := 1) dX0_add_49 (by decide) ?_
  refine wv_iadd (nI (n + 1)) (wN_add rfl rfl) dX0_add_50 ?_
  refine wp_putI dX0_add_51 flX0_22 (Or.inl rfl) rfl rfl rfl rfl hg.1 ?_
  refine wp_pc (pc' := 54) rfl ?_
  refine wp_vret dX0_add_54 rfl (by decide) (by decide) ?_
  exact hp
set_option maxRecDepth 100000 in
set_option maxHeartbeats 4000000 in
theorem lp_having {g : GG} {h : HP} {Post : Option Value → HP → Prop} (s : Nat) (hs : s ≤ 10) (hg : GW h) (hsz : vI h 5 3 = nI s) (t : Int64) (hp : Post (some (.int (nI (hvN (vL h 7) (vL h 8) t s)))) h) : ∀ (k n : Nat), n + k = s → WP g mX0_having 5 [(0, .ref 5), (1, .long t), (3, .int (nI (hvN (vL h 7) (vL h 8) t n))), (4, .int (nI n))] [] h 0 0 Post := by
  intro k
  induction k with
  | zero =>
    intro n e0
    refine wp_iload dX0_having_5 3 rfl ?_
    refine wp_aload_n dX0_having_7 rfl 0 rfl ?_
    refine wv_getI (nI s) dX0_having_8 flX0_22 rfl rfl hg.1 hsz ?_
    refine wp_icmp_ge (tgt := 47) dX0_having_11 (by decide) (fun _ => ?_) (fun c_1 => absurd (nI_le (by omega) (by omega)) c_1)
    refine wp_iload_n dX0_having_47 rfl 2 rfl ?_
    refine wp_iret dX0_having_48 rfl (by decide) (by decide) ?_
    rw [show n = s by omega]
    exact hp
  | succ k ih =>
    intro n e0
    refine wp_iload dX0_having_5 3 rfl ?_
    refine wp_aload_n dX0_having_7 rfl 0 rfl ?_
    refine wv_getI (nI s) dX0_having_8 flX0_22 rfl rfl hg.1 hsz ?_
    refine wp_icmp_ge (tgt := 47) dX0_having_11 (by decide) (fun c_1 => absurd c_1 (nI_ge (by omega) (by omega))) (fun _ => ?_)
    refine wp_aload_n dX0_having_14 rfl 0 rfl ?_
    refine wp_getP (b := 7) dX0_having_15 flX0_15 rfl rfl hg.1 hg.2.2.2.2.2.1 ?_
    refine wp_iload dX0_having_18 3 rfl ?_
    refine wv_lald n (vL h 7 n) dX0_having_20 rfl hg.2.2.1 rfl (by show n < 10; omega) rfl ?_
    refine wp_lload_n dX0_having_21 rfl 1 rfl ?_
    refine wl_gt (tgt := 41) dX0_having_22 dX0_having_23 (by decide) (fun c_2 => ?_) (fun c_2 => ?_)
    · refine wp_iinc (q := 3) (x := nI n) (v := nI (n + 1)) (lv' := [(4, .int (nI (n + 1))), (0, .ref 5), (1, .long t), (3, .int (nI (hvN (vL h 7) (vL h 8) t n)))]) dX0_having_41 rfl (nI_1 _) (by decide) rfl ?_
      refine wp_goto (tgt := 5) dX0_having_44 (by decide) ?_
      refine wp_sub [1, 2, 3, 0] rfl ?_
      have q := ih (n + 1) (by omega)
      rw [hvN_no (fun z => absurd z.1 (Int64.not_le.mpr c_2))] at q
      exact q
    · refine wp_lload_n dX0_having_26 rfl 1 rfl ?_
      refine wp_aload_n dX0_having_27 rfl 0 rfl ?_
      refine wp_getP (b := 8) dX0_having_28 flX0_19 rfl rfl hg.1 hg.2.2.2.2.2.2 ?_
      refine wp_iload dX0_having_31 3 rfl ?_
      refine wv_lald n (vL h 8 n) dX0_having_33 rfl hg.2.2.2.1 rfl (by show n < 10; omega) rfl ?_
      refine wl_gt (tgt := 41) dX0_having_34 dX0_having_35 (by decide) (fun c_3 => ?_) (fun c_3 => ?_)
      · refine wp_iinc (q := 3) (x := nI n) (v := nI (n + 1)) (lv' := [(4, .int (nI (n + 1))), (0, .ref 5), (1, .long t), (3, .int (nI (hvN (vL h 7) (vL h 8) t n)))]) dX0_having_41 rfl (nI_1 _) (by decide) rfl ?_
        refine wp_goto (tgt := 5) dX0_having_44 (by decide) ?_
        refine wp_sub [1, 2, 3, 0] rfl ?_
        have q := ih (n + 1) (by omega)
        rw [hvN_no (fun z => absurd z.2 (Int64.not_le.mpr c_3))] at q
        exact q
      · refine wp_iinc (q := 2) (x := nI (hvN (vL h 7) (vL h 8) t n)) (v := nI (hvN (vL h 7) (vL h 8) t n + 1)) (lv' := [(3, .int (nI (hvN (vL h 7) (vL h 8) t n + 1))), (0, .ref 5), (1, .long t), (4, .int (nI n))]) dX0_having_38 rfl (nI_1 _) (by decide) rfl ?_
        refine wp_iinc (q := 3) (x := nI n) (v := nI (n + 1)) (lv' := [(4, .int (nI (n + 1))), (3, .int (nI (hvN (vL h 7) (vL h 8) t n + 1))), (0, .ref 5), (1, .long t)]) dX0_having_41 rfl (nI_1 _) (by decide) rfl ?_
        refine wp_goto (tgt := 5) dX0_having_44 (by decide) ?_
        refine wp_sub [2, 3, 1, 0] rfl ?_
        have q := ih (n + 1) (by omega)
        rw [hvN_yes (Int64.not_lt.mp c_2) (Int64.not_lt.mp c_3)] at q
        exact q
set_option maxRecDepth 100000 in
set_option maxHeartbeats 4000000 in
theorem ct_having {g : GG} {h : HP} {Post : Option Value → HP → Prop} (s : Nat) (hs : s ≤ 10) (hg : GW h) (hsz : vI h 5 3 = nI s) (t : Int64) (hp : Post (some (.int (nI (hvN (vL h 7) (vL h 8) t s)))) h) : CT g mX0_having [.ref 5, .long t] h Post := by
  show WP g mX0_having 0 [(0, .ref 5), (1, .long t)] [] h 0 0 Post
  refine wp_iconst (v := 0) dX0_having_0 (by decide) ?_
  refine wp_istore_n (lv' := [(3, .int 0), (0, .ref 5), (1, .long t)]) dX0_having_1 rfl (by decide) rfl ?_
  refine wp_iconst (v := 0) dX0_having_2 (by decide) ?_
  refine wp_istore (lv' := [(4, .int 0), (3, .int 0), (0, .ref 5), (1, .long t)]) dX0_having_3 (by decide) rfl ?_
  refine wp_sub [2, 3, 1, 0] rfl ?_
  exact lp_having s hs hg hsz t hp s 0 (by omega)
def NOv : Int64 := -9000000000000000000
def lsN (L H : Nat → Int64) (s : Nat) (nd : Int32) : Nat → Int64
  | 0 => NOv
  | n + 1 => if nd ≤ nI (hvN L H (L n) s) ∧ (lsN L H s nd n = NOv ∨ L n < lsN L H s nd n) then L n else lsN L H s nd n
def grN (L H : Nat → Int64) (s : Nat) (nd : Int32) : Nat → Int64
  | 0 => NOv
  | n + 1 => if nd ≤ nI (hvN L H (H n) s) ∧ (grN L H s nd n = NOv ∨ grN L H s nd n < H n) then H n else grN L H s nd n
theorem lsN_yes {L H : Nat → Int64} {s n : Nat} {nd : Int32} (h1 : nd ≤ nI (hvN L H (L n) s) ∧ (lsN L H s nd n = NOv ∨ L n < lsN L H s nd n)) : lsN L H s nd (n + 1) = L n := if_pos h1
theorem lsN_no {L H : Nat → Int64} {s n : Nat} {nd : Int32} (h1 : ¬ (nd ≤ nI (hvN L H (L n) s) ∧ (lsN L H s nd n = NOv ∨ L n < lsN L H s nd n))) : lsN L H s nd (n + 1) = lsN L H s nd n := if_neg h1
theorem grN_yes {L H : Nat → Int64} {s n : Nat} {nd : Int32} (h1 : nd ≤ nI (hvN L H (H n) s) ∧ (grN L H s nd n = NOv ∨ grN L H s nd n < H n)) : grN L H s nd (n + 1) = H n := if_pos h1
theorem grN_no {L H : Nat → Int64} {s n : Nat} {nd : Int32} (h1 : ¬ (nd ≤ nI (hvN L H (H n) s) ∧ (grN L H s nd n = NOv ∨ grN L H s nd n < H n))) : grN L H s nd (n + 1) = grN L H s nd n := if_neg h1
set_option maxRecDepth 100000 in
set_option maxHeartbeats 4000000 in
theorem lp_least {g : GG} {h : HP} {Post : Option Value → HP → Prop} (s : Nat) (hs : s ≤ 10) (hg : GW h) (hsz : vI h 5 3 = nI s) (nd : Int32) (hp : Post (some (.long (lsN (vL h 7) (vL h 8) s nd s))) h) : ∀ (k n : Nat), n + k = s → WP g mX0_least 7 [(0, .ref 5), (1, .int nd), (2, .long (lsN (vL h 7) (vL h 8) s nd n)), (4, .int (nI n))] [] h 0 0 Post := by
  intro k
  induction k with
  | zero =>
    intro n e0
    refine wp_iload dX0_least_7 3 rfl ?_
    refine wp_aload_n dX0_least_9 rfl 0 rfl ?_
    refine wv_getI (nI s) dX0_least_10 flX0_22 rfl rfl hg.1 hsz ?_
    refine wp_icmp_ge (tgt := 65) dX0_least_13 (by decide) (fun _ => ?_) (fun c_1 => absurd (nI_le (by omega) (by omega)) c_1)
    refine wp_lload_n dX0_least_65 rfl 2 rfl ?_
    refine wp_lret dX0_least_66 rfl (by decide) (by decide) ?_
    rw [show n = s by omega]
    exact hp
  | succ k ih =>
    intro n e0
    refine wp_iload dX0_least_7 3 rfl ?_
    refine wp_aload_n dX0_least_9 rfl 0 rfl ?_
    refine wv_getI (nI s) dX0_least_10 flX0_22 rfl rfl hg.1 hsz ?_
    refine wp_icmp_ge (tgt := 65) dX0_least_13 (by decide) (fun c_1 => absurd c_1 (nI_ge (by omega) (by omega))) (fun _ => ?_)
    refine wp_aload_n dX0_least_16 rfl 0 rfl ?_
    refine wp_aload_n dX0_least_17 rfl 0 rfl ?_
    refine wp_getP (b := 7) dX0_least_18 flX0_15 rfl rfl hg.1 hg.2.2.2.2.2.1 ?_
    refine wp_iload dX0_least_21 3 rfl ?_
    refine wv_lald n (vL h 7 n) dX0_least_23 rfl hg.2.2.1 rfl (by show n < 10; omega) rfl ?_
    refine wp_callV mX0_having 5 [.long (vL h 7 n)] [] (c := 0) dX0_least_24 iX0_having (fun _ => trivial) mlX0_28 imX0_having seX0_having (by decide) rfl rfl ⟨by decide, by decide⟩ rfl rfl (Nat.le_of_ble_eq_true rfl) (Nat.le_of_ble_eq_true rfl) (by decide) (by decide) ?_
    refine ct_having s hs hg hsz (vL h 7 n)  ?_
    show WP g mX0_least 27 [(0, .ref 5), (1, .int nd), (2, .long (lsN (vL h 7) (vL h 8) s nd n)), (4, .int (nI n))] [.int (nI (hvN (vL h 7) (vL h 8) (vL h 7 n) s))] _ 0 0 _
    refine wp_iload_n dX0_least_27 rfl 1 rfl ?_
    refine wp_icmp_lt (tgt := 59) dX0_least_28 (by decide) (fun c_2 => ?_) (fun c_2 => ?_)
    · refine wp_iinc (q := 3) (x := nI n) (v := nI (n + 1)) (lv' := [(4, .int (nI (n + 1))), (0, .ref 5), (1, .int nd), (2, .long (lsN (vL h 7) (vL h 8) s nd n))]) dX0_least_59 rfl (nI_1 _) (by decide) rfl ?_
      refine wp_goto (tgt := 7) dX0_least_62 (by decide) ?_
      refine wp_sub [1, 2, 3, 0] rfl ?_
      have q := ih (n + 1) (by omega)
      rw [lsN_no (fun z => absurd z.1 (Int32.not_le.mpr c_2))] at q
      exact q
    · refine wp_lload_n dX0_least_31 rfl 2 rfl ?_
      refine wp_ldc2 dX0_least_32 cnX0_26 ?_
      refine wl_eq (tgt := 51) dX0_least_35 dX0_least_36 (by decide) (fun c_3 => ?_) (fun c_3 => ?_)
      · refine wp_aload_n dX0_least_51 rfl 0 rfl ?_
        refine wp_getP (b := 7) dX0_least_52 flX0_15 rfl rfl hg.1 hg.2.2.2.2.2.1 ?_
        refine wp_iload dX0_least_55 3 rfl ?_
        refine wv_lald n (vL h 7 n) dX0_least_57 rfl hg.2.2.1 rfl (by show n < 10; omega) rfl ?_
        refine wp_lstore_n (lv' := [(2, .long (vL h 7 n)), (0, .ref 5), (1, .int nd), (4, .int (nI n))]) dX0_least_58 rfl (by decide) rfl ?_
        refine wp_iinc (q := 3) (x := nI n) (v := nI (n + 1)) (lv' := [(4, .int (nI (n + 1))), (2, .long (vL h 7 n)), (0, .ref 5), (1, .int nd)]) dX0_least_59 rfl (nI_1 _) (by decide) rfl ?_
        refine wp_goto (tgt := 7) dX0_least_62 (by decide) ?_
        refine wp_sub [2, 3, 1, 0] rfl ?_
        have q := ih (n + 1) (by omega)
        rw [lsN_yes ⟨(Int32.not_lt.mp c_2), Or.inl c_3⟩] at q
        exact q
      · refine wp_aload_n dX0_least_39 rfl 0 rfl ?_
        refine wp_getP (b := 7) dX0_least_40 flX0_15 rfl rfl hg.1 hg.2.2.2.2.2.1 ?_
        refine wp_iload dX0_least_43 3 rfl ?_
        refine wv_lald n (vL h 7 n) dX0_least_45 rfl hg.2.2.1 rfl (by show n < 10; omega) rfl ?_
        refine wp_lload_n dX0_least_46 rfl 2 rfl ?_
        refine wl_ge (tgt := 59) dX0_least_47 dX0_least_48 (by decide) (fun c_4 => ?_) (fun c_4 => ?_)
        · refine wp_iinc (q := 3) (x := nI n) (v := nI (n + 1)) (lv' := [(4, .int (nI (n + 1))), (0, .ref 5), (1, .int nd), (2, .long (lsN (vL h 7) (vL h 8) s nd n))]) dX0_least_59 rfl (nI_1 _) (by decide) rfl ?_
          refine wp_goto (tgt := 7) dX0_least_62 (by decide) ?_
          refine wp_sub [1, 2, 3, 0] rfl ?_
          have q := ih (n + 1) (by omega)
          rw [lsN_no (fun z => z.2.elim c_3 (fun y => absurd y (Int64.not_lt.mpr c_4)))] at q
          exact q
        · refine wp_aload_n dX0_least_51 rfl 0 rfl ?_
          refine wp_getP (b := 7) dX0_least_52 flX0_15 rfl rfl hg.1 hg.2.2.2.2.2.1 ?_
          refine wp_iload dX0_least_55 3 rfl ?_
          refine wv_lald n (vL h 7 n) dX0_least_57 rfl hg.2.2.1 rfl (by show n < 10; omega) rfl ?_
          refine wp_lstore_n (lv' := [(2, .long (vL h 7 n)), (0, .ref 5), (1, .int nd), (4, .int (nI n))]) dX0_least_58 rfl (by decide) rfl ?_
          refine wp_iinc (q := 3) (x := nI n) (v := nI (n + 1)) (lv' := [(4, .int (nI (n + 1))), (2, .long (vL h 7 n)), (0, .ref 5), (1, .int nd)]) dX0_least_59 rfl (nI_1 _) (by decide) rfl ?_
          refine wp_goto (tgt := 7) dX0_least_62 (by decide) ?_
          refine wp_sub [2, 3, 1, 0] rfl ?_
          have q := ih (n + 1) (by omega)
          rw [lsN_yes ⟨(Int32.not_lt.mp c_2), Or.inr (Int64.not_le.mp c_4)⟩] at q
          exact q
set_option maxRecDepth 100000 in
set_option maxHeartbeats 4000000 in
theorem ct_least {g : GG} {h : HP} {Post : Option Value → HP → Prop} (s : Nat) (hs : s ≤ 10) (hg : GW h) (hsz : vI h 5 3 = nI s) (nd : Int32) (hp : Post (some (.long (lsN (vL h 7) (vL h 8) s nd s))) h) : CT g mX0_least [.ref 5, .int nd] h Post := by
  show WP g mX0_least 0 [(0, .ref 5), (1, .int nd)] [] h 0 0 Post
  refine wp_ldc2 dX0_least_0 cnX0_26 ?_
  refine wp_lstore_n (lv' := [(2, .long ((-9000000000000000000))), (0, .ref 5), (1, .int nd)]) dX0_least_3 rfl (by decide) rfl ?_
  refine wp_iconst (v := 0) dX0_least_4 (by decide) ?_
  refine wp_istore (lv' := [(4, .int 0), (2, .long ((-9000000000000000000))), (0, .ref 5), (1, .int nd)]) dX0_least_5 (by decide) rfl ?_
  refine wp_sub [2, 3, 1, 0] rfl ?_
  exact lp_least s hs hg hsz nd hp s 0 (by omega)
set_option maxRecDepth 100000 in
set_option maxHeartbeats 4000000 in
theorem lp_greatest {g : GG} {h : HP} {Post : Option Value → HP → Prop} (s : Nat) (hs : s ≤ 10) (hg : GW h) (hsz : vI h 5 3 = nI s) (nd : Int32) (hp : Post (some (.long (grN (vL h 7) (vL h 8) s nd s))) h) : ∀ (k n : Nat), n + k = s → WP g mX0_greatest 7 [(0, .ref 5), (1, .int nd), (2, .long (grN (vL h 7) (vL h 8) s nd n)), (4, .int (nI n))] [] h 0 0 Post := by
  intro k
  induction k with
  | zero =>
    intro n e0
    refine wp_iload dX0_greatest_7 3 rfl ?_
    refine wp_aload_n dX0_greatest_9 rfl 0 rfl ?_
    refine wv_getI (nI s) dX0_greatest_10 flX0_22 rfl rfl hg.1 hsz ?_
    refine wp_icmp_ge (tgt := 65) dX0_greatest_13 (by decide) (fun _ => ?_) (fun c_1 => absurd (nI_le (by omega) (by omega)) c_1)
    refine wp_lload_n dX0_greatest_65 rfl 2 rfl ?_
    refine wp_lret dX0_greatest_66 rfl (by decide) (by decide) ?_
    rw [show n = s by omega]
    exact hp
  | succ k ih =>
    intro n e0
    refine wp_iload dX0_greatest_7 3 rfl ?_
    refine wp_aload_n dX0_greatest_9 rfl 0 rfl ?_
    refine wv_getI (nI s) dX0_greatest_10 flX0_22 rfl rfl hg.1 hsz ?_
    refine wp_icmp_ge (tgt := 65) dX0_greatest_13 (by decide) (fun c_1 => absurd c_1 (nI_ge (by omega) (by omega))) (fun _ => ?_)
    refine wp_aload_n dX0_greatest_16 rfl 0 rfl ?_
    refine wp_aload_n dX0_greatest_17 rfl 0 rfl ?_
    refine wp_getP (b := 8) dX0_greatest_18 flX0_19 rfl rfl hg.1 hg.2.2.2.2.2.2 ?_
    refine wp_iload dX0_greatest_21 3 rfl ?_
    refine wv_lald n (vL h 8 n) dX0_greatest_23 rfl hg.2.2.2.1 rfl (by show n < 10; omega) rfl ?_
    refine wp_callV mX0_having 5 [.long (vL h 8 n)] [] (c := 0) dX0_greatest_24 iX0_having (fun _ => trivial) mlX0_28 imX0_having seX0_having (by decide) rfl rfl ⟨by decide, by decide⟩ rfl rfl (Nat.le_of_ble_eq_true rfl) (Nat.le_of_ble_eq_true rfl) (by decide) (by decide) ?_
    refine ct_having s hs hg hsz (vL h 8 n)  ?_
    show WP g mX0_greatest 27 [(0, .ref 5), (1, .int nd), (2, .long (grN (vL h 7) (vL h 8) s nd n)), (4, .int (nI n))] [.int (nI (hvN (vL h 7) (vL h 8) (vL h 8 n) s))] _ 0 0 _
    refine wp_iload_n dX0_greatest_27 rfl 1 rfl ?_
    refine wp_icmp_lt (tgt := 59) dX0_greatest_28 (by decide) (fun c_2 => ?_) (fun c_2 => ?_)
    · refine wp_iinc (q := 3) (x := nI n) (v := nI (n + 1)) (lv' := [(4, .int (nI (n + 1))), (0, .ref 5), (1, .int nd), (2, .long (grN (vL h 7) (vL h 8) s nd n))]) dX0_greatest_59 rfl (nI_1 _) (by decide) rfl ?_
      refine wp_goto (tgt := 7) dX0_greatest_62 (by decide) ?_
      refine wp_sub [1, 2, 3, 0] rfl ?_
      have q := ih (n + 1) (by omega)
      rw [grN_no (fun z => absurd z.1 (Int32.not_le.mpr c_2))] at q
      exact q
    · refine wp_lload_n dX0_greatest_31 rfl 2 rfl ?_
      refine wp_ldc2 dX0_greatest_32 cnX0_26 ?_
      refine wl_eq (tgt := 51) dX0_greatest_35 dX0_greatest_36 (by decide) (fun c_3 => ?_) (fun c_3 => ?_)
      · refine wp_aload_n dX0_greatest_51 rfl 0 rfl ?_
        refine wp_getP (b := 8) dX0_greatest_52 flX0_19 rfl rfl hg.1 hg.2.2.2.2.2.2 ?_
        refine wp_iload dX0_greatest_55 3 rfl ?_
        refine wv_lald n (vL h 8 n) dX0_greatest_57 rfl hg.2.2.2.1 rfl (by show n < 10; omega) rfl ?_
        refine wp_lstore_n (lv' := [(2, .long (vL h 8 n)), (0, .ref 5), (1, .int nd), (4, .int (nI n))]) dX0_greatest_58 rfl (by decide) rfl ?_
        refine wp_iinc (q := 3) (x := nI n) (v := nI (n + 1)) (lv' := [(4, .int (nI (n + 1))), (2, .long (vL h 8 n)), (0, .ref 5), (1, .int nd)]) dX0_greatest_59 rfl (nI_1 _) (by decide) rfl ?_
        refine wp_goto (tgt := 7) dX0_greatest_62 (by decide) ?_
        refine wp_sub [2, 3, 1, 0] rfl ?_
        have q := ih (n + 1) (by omega)
        rw [grN_yes ⟨(Int32.not_lt.mp c_2), Or.inl c_3⟩] at q
        exact q
      · refine wp_aload_n dX0_greatest_39 rfl 0 rfl ?_
        refine wp_getP (b := 8) dX0_greatest_40 flX0_19 rfl rfl hg.1 hg.2.2.2.2.2.2 ?_
        refine wp_iload dX0_greatest_43 3 rfl ?_
        refine wv_lald n (vL h 8 n) dX0_greatest_45 rfl hg.2.2.2.1 rfl (by show n < 10; omega) rfl ?_
        refine wp_lload_n dX0_greatest_46 rfl 2 rfl ?_
        refine wl_le (tgt := 59) dX0_greatest_47 dX0_greatest_48 (by decide) (fun c_4 => ?_) (fun c_4 => ?_)
        · refine wp_iinc (q := 3) (x := nI n) (v := nI (n + 1)) (lv' := [(4, .int (nI (n + 1))), (0, .ref 5), (1, .int nd), (2, .long (grN (vL h 7) (vL h 8) s nd n))]) dX0_greatest_59 rfl (nI_1 _) (by decide) rfl ?_
          refine wp_goto (tgt := 7) dX0_greatest_62 (by decide) ?_
          refine wp_sub [1, 2, 3, 0] rfl ?_
          have q := ih (n + 1) (by omega)
          rw [grN_no (fun z => z.2.elim c_3 (fun y => absurd y (Int64.not_lt.mpr c_4)))] at q
          exact q
        · refine wp_aload_n dX0_greatest_51 rfl 0 rfl ?_
          refine wp_getP (b := 8) dX0_greatest_52 flX0_19 rfl rfl hg.1 hg.2.2.2.2.2.2 ?_
          refine wp_iload dX0_greatest_55 3 rfl ?_
          refine wv_lald n (vL h 8 n) dX0_greatest_57 rfl hg.2.2.2.1 rfl (by show n < 10; omega) rfl ?_
          refine wp_lstore_n (lv' := [(2, .long (vL h 8 n)), (0, .ref 5), (1, .int nd), (4, .int (nI n))]) dX0_greatest_58 rfl (by decide) rfl ?_
          refine wp_iinc (q := 3) (x := nI n) (v := nI (n + 1)) (lv' := [(4, .int (nI (n + 1))), (2, .long (vL h 8 n)), (0, .ref 5), (1, .int nd)]) dX0_greatest_59 rfl (nI_1 _) (by decide) rfl ?_
          refine wp_goto (tgt := 7) dX0_greatest_62 (by decide) ?_
          refine wp_sub [2, 3, 1, 0] rfl ?_
          have q := ih (n + 1) (by omega)
          rw [grN_yes ⟨(Int32.not_lt.mp c_2), Or.inr (Int64.not_le.mp c_4)⟩] at q
          exact q
set_option maxRecDepth 100000 in
set_option maxHeartbeats 4000000 in
theorem ct_greatest {g : GG} {h : HP} {Post : Option Value → HP → Prop} (s : Nat) (hs : s ≤ 10) (hg : GW h) (hsz : vI h 5 3 = nI s) (nd : Int32) (hp : Post (some (.long (grN (vL h 7) (vL h 8) s nd s))) h) : CT g mX0_greatest [.ref 5, .int nd] h Post := by
  show WP g mX0_greatest 0 [(0, .ref 5), (1, .int nd)] [] h 0 0 Post
  refine wp_ldc2 dX0_greatest_0 cnX0_26 ?_
  refine wp_lstore_n (lv' := [(2, .long ((-9000000000000000000))), (0, .ref 5), (1, .int nd)]) dX0_greatest_3 rfl (by decide) rfl ?_
  refine wp_iconst (v := 0) dX0_greatest_4 (by decide) ?_
  refine wp_istore (lv' := [(4, .int 0), (2, .long ((-9000000000000000000))), (0, .ref 5), (1, .int nd)]) dX0_greatest_5 (by decide) rfl ?_
  refine wp_sub [2, 3, 1, 0] rfl ?_
  exact lp_greatest s hs hg hsz nd hp s 0 (by omega)
/-- did a span of an earlier place begin at the same time -/
def bgB (L : Nat → Int64) (i : Nat) : Nat → Prop
  | 0 => False
  | n + 1 => bgB L i n ∨ L n = L i
set_option maxRecDepth 100000 in
set_option maxHeartbeats 4000000 in
theorem lp_began {g : GG} {h : HP} {Post : Option Value → HP → Prop} (i : Nat) (hi : i < 10) (hg : GW h) (hy : (∃ j, j < i ∧ vL h 7 j = vL h 7 i) → Post (some (.int 1)) h) (hn : (¬ ∃ j, j < i ∧ vL h 7 j = vL h 7 i) → Post (some (.int 0)) h) : ∀ (k n : Nat), n + k = i → (∀ j, j < n → ¬ vL h 7 j = vL h 7 i) → WP g mX0_beganBefore 2 [(0, .ref 5), (1, .int (nI i)), (2, .int (nI n))] [] h 0 0 Post := by
  intro k
  induction k with
  | zero =>
    intro n e0 hb
    refine wp_iload_n dX0_beganBefore_2 rfl 2 rfl ?_
    refine wp_iload_n dX0_beganBefore_3 rfl 1 rfl ?_
    refine wp_icmp_ge (tgt := 31) dX0_beganBefore_4 (by decide) (fun _ => ?_) (fun c_1 => absurd (nI_le (by omega) (by omega)) c_1)
    refine wp_iconst (v := 0) dX0_beganBefore_31 (by decide) ?_
    refine wp_zret dX0_beganBefore_32 rfl (by decide) (by decide) rfl ?_
    exact hn (fun z => by obtain ⟨j, h1, h2⟩ := z; exact hb j (by omega) h2)
  | succ k ih =>
    intro n e0 hb
    refine wp_iload_n dX0_beganBefore_2 rfl 2 rfl ?_
    refine wp_iload_n dX0_beganBefore_3 rfl 1 rfl ?_
    refine wp_icmp_ge (tgt := 31) dX0_beganBefore_4 (by decide) (fun c_1 => absurd c_1 (nI_ge (by omega) (by omega))) (fun _ => ?_)
    refine wp_aload_n dX0_beganBefore_7 rfl 0 rfl ?_
    refine wp_getP (b := 7) dX0_beganBefore_8 flX0_15 rfl rfl hg.1 hg.2.2.2.2.2.1 ?_
    refine wp_iload_n dX0_beganBefore_11 rfl 2 rfl ?_
    refine wv_lald n (vL h 7 n) dX0_beganBefore_12 rfl hg.2.2.1 rfl (by show n < 10; omega) rfl ?_
    refine wp_aload_n dX0_beganBefore_13 rfl 0 rfl ?_
    refine wp_getP (b := 7) dX0_beganBefore_14 flX0_15 rfl rfl hg.1 hg.2.2.2.2.2.1 ?_
    refine wp_iload_n dX0_beganBefore_17 rfl 1 rfl ?_
    refine wv_lald i (vL h 7 i) dX0_beganBefore_18 rfl hg.2.2.1 rfl (by show i < 10; omega) rfl ?_
    refine wl_ne (tgt := 25) dX0_beganBefore_19 dX0_beganBefore_20 (by decide) (fun c_2 => ?_) (fun c_2 => ?_)
    · refine wp_iinc (q := 2) (x := nI n) (v := nI (n + 1)) (lv' := [(2, .int (nI (n + 1))), (0, .ref 5), (1, .int (nI i))]) dX0_beganBefore_25 rfl (nI_1 _) (by decide) rfl ?_
      refine wp_goto (tgt := 2) dX0_beganBefore_28 (by decide) ?_
      refine wp_sub [1, 2, 0] rfl ?_
      exact ih (n + 1) (by omega) (fun j hj => (Nat.lt_succ_iff_lt_or_eq.mp hj).elim (hb j) (fun z => by rw [z]; exact c_2))
    · refine wp_iconst (v := 1) dX0_beganBefore_23 (by decide) ?_
      refine wp_zret dX0_beganBefore_24 rfl (by decide) (by decide) rfl ?_
      exact hy ⟨n, by omega, c_2⟩
set_option maxRecDepth 100000 in
set_option maxHeartbeats 4000000 in
theorem ct_began {g : GG} {h : HP} {Post : Option Value → HP → Prop} (i : Nat) (hi : i < 10) (hg : GW h) (hy : (∃ j, j < i ∧ vL h 7 j = vL h 7 i) → Post (some (.int 1)) h) (hn : (¬ ∃ j, j < i ∧ vL h 7 j = vL h 7 i) → Post (some (.int 0)) h) : CT g mX0_beganBefore [.ref 5, .int (nI i)] h Post := by
  show WP g mX0_beganBefore 0 [(0, .ref 5), (1, .int (nI i))] [] h 0 0 Post
  refine wp_iconst (v := 0) dX0_beganBefore_0 (by decide) ?_
  refine wp_istore_n (lv' := [(2, .int 0), (0, .ref 5), (1, .int (nI i))]) dX0_beganBefore_1 rfl (by decide) rfl ?_
  refine wp_sub [1, 2, 0] rfl ?_
  exact lp_began i hi hg hy hn i 0 (by omega) (fun j hj => absurd hj (Nat.not_lt_zero j))
noncomputable def pcN (L H : Nat → Int64) (s : Nat) (nd : Int32) : Nat → Nat
  | 0 => 0
  | n + 1 => pcN L H s nd n + (@ite Nat (nd ≤ nI (hvN L H (L n) s) ∧ nI (hvN L H (L n - 1) s) < nd ∧ ¬ ∃ j, j < n ∧ L j = L n) (Classical.propDecidable _) 1 0)
theorem pcN_yes {L H : Nat → Int64} {s n : Nat} {nd : Int32} (h1 : nd ≤ nI (hvN L H (L n) s) ∧ nI (hvN L H (L n - 1) s) < nd ∧ ¬ ∃ j, j < n ∧ L j = L n) : pcN L H s nd (n + 1) = pcN L H s nd n + 1 := by
  show _ + (@ite Nat _ (Classical.propDecidable _) 1 0) = _
  rw [if_pos h1]
theorem pcN_no {L H : Nat → Int64} {s n : Nat} {nd : Int32} (h1 : ¬ (nd ≤ nI (hvN L H (L n) s) ∧ nI (hvN L H (L n - 1) s) < nd ∧ ¬ ∃ j, j < n ∧ L j = L n)) : pcN L H s nd (n + 1) = pcN L H s nd n := by
  show _ + (@ite Nat _ (Classical.propDecidable _) 1 0) = _
  rw [if_neg h1]; rfl
set_option maxRecDepth 100000 in
set_option maxHeartbeats 4000000 in
theorem lp_pieces {g : GG} {h : HP} {Post : Option Value → HP → Prop} (s : Nat) (hs : s ≤ 10) (hg : GW h) (hsz : vI h 5 3 = nI s) (nd : Int32) (hp : Post (some (.int (nI (pcN (vL h 7) (vL h 8) s nd s)))) h) : ∀ (k n : Nat), n + k = s → WP g mX0_pieces 4 [(0, .ref 5), (1, .int nd), (2, .int (nI (pcN (vL h 7) (vL h 8) s nd n))), (3, .int (nI n))] [] h 0 0 Post := by
  intro k
  induction k with
  | zero =>
    intro n e0
    refine wp_iload_n dX0_pieces_4 rfl 3 rfl ?_
    refine wp_aload_n dX0_pieces_5 rfl 0 rfl ?_
    refine wv_getI (nI s) dX0_pieces_6 flX0_22 rfl rfl hg.1 hsz ?_
    refine wp_icmp_ge (tgt := 71) dX0_pieces_9 (by decide) (fun _ => ?_) (fun c_1 => absurd (nI_le (by omega) (by omega)) c_1)
    refine wp_iload_n dX0_pieces_71 rfl 2 rfl ?_
    refine wp_iret dX0_pieces_72 rfl (by decide) (by decide) ?_
    rw [show n = s by omega]
    exact hp
  | succ k ih =>
    intro n e0
    refine wp_iload_n dX0_pieces_4 rfl 3 rfl ?_
    refine wp_aload_n dX0_pieces_5 rfl 0 rfl ?_
    refine wv_getI (nI s) dX0_pieces_6 flX0_22 rfl rfl hg.1 hsz ?_
    refine wp_icmp_ge (tgt := 71) dX0_pieces_9 (by decide) (fun c_1 => absurd c_1 (nI_ge (by omega) (by omega))) (fun _ => ?_)
    refine wp_aload_n dX0_pieces_12 rfl 0 rfl ?_
    refine wp_aload_n dX0_pieces_13 rfl 0 rfl ?_
    refine wp_getP (b := 7) dX0_pieces_14 flX0_15 rfl rfl hg.1 hg.2.2.2.2.2.1 ?_
    refine wp_iload_n dX0_pieces_17 rfl 3 rfl ?_
    refine wv_lald n (vL h 7 n) dX0_pieces_18 rfl hg.2.2.1 rfl (by show n < 10; omega) rfl ?_
    refine wp_callV mX0_having 5 [.long (vL h 7 n)] [] (c := 0) dX0_pieces_19 iX0_having (fun _ => trivial) mlX0_28 imX0_having seX0_having (by decide) rfl rfl ⟨by decide, by decide⟩ rfl rfl (Nat.le_of_ble_eq_true rfl) (Nat.le_of_ble_eq_true rfl) (by decide) (by decide) ?_
    refine ct_having s hs hg hsz (vL h 7 n)  ?_
    show WP g mX0_pieces 22 [(0, .ref 5), (1, .int nd), (2, .int (nI (pcN (vL h 7) (vL h 8) s nd n))), (3, .int (nI n))] [.int (nI (hvN (vL h 7) (vL h 8) (vL h 7 n) s))] _ 0 0 _
    refine wp_iload_n dX0_pieces_22 rfl 1 rfl ?_
    refine wp_icmp_lt (tgt := 46) dX0_pieces_23 (by decide) (fun c_2 => ?_) (fun c_2 => ?_)
    · refine wp_iconst (v := 0) dX0_pieces_46 (by decide) ?_
      refine wp_istore (lv' := [(4, .int 0), (0, .ref 5), (1, .int nd), (2, .int (nI (pcN (vL h 7) (vL h 8) s nd n))), (3, .int (nI n))]) dX0_pieces_47 (by decide) rfl ?_
      refine wp_iload dX0_pieces_49 0 rfl ?_
      refine wp_if_eq (tgt := 65) dX0_pieces_51 (by decide) (fun _ => ?_) (fun c_3 => absurd (by decide) c_3)
      refine wp_iinc (q := 4) (x := nI n) (v := nI (n + 1)) (lv' := [(3, .int (nI (n + 1))), (4, .int 0), (0, .ref 5), (1, .int nd), (2, .int (nI (pcN (vL h 7) (vL h 8) s nd n)))]) dX0_pieces_65 rfl (nI_1 _) (by decide) rfl ?_
      refine wp_goto (tgt := 4) dX0_pieces_68 (by decide) ?_
      refine wp_sub [2, 3, 4, 0] rfl ?_
      have q := ih (n + 1) (by omega)
      rw [pcN_no (fun z => absurd z.1 (Int32.not_le.mpr c_2))] at q
      exact q
    · refine wp_aload_n dX0_pieces_26 rfl 0 rfl ?_
      refine wp_aload_n dX0_pieces_27 rfl 0 rfl ?_
      refine wp_getP (b := 7) dX0_pieces_28 flX0_15 rfl rfl hg.1 hg.2.2.2.2.2.1 ?_
      refine wp_iload_n dX0_pieces_31 rfl 3 rfl ?_
      refine wv_lald n (vL h 7 n) dX0_pieces_32 rfl hg.2.2.1 rfl (by show n < 10; omega) rfl ?_
      refine wp_lconst (v := 1) dX0_pieces_33 rfl ?_
      refine wp_lsub dX0_pieces_34 ?_
      refine wp_callV mX0_having 5 [.long ((vL h 7 n) - 1)] [] (c := 0) dX0_pieces_35 iX0_having (fun _ => trivial) mlX0_28 imX0_having seX0_having (by decide) rfl rfl ⟨by decide, by decide⟩ rfl rfl (Nat.le_of_ble_eq_true rfl) (Nat.le_of_ble_eq_true rfl) (by decide) (by decide) ?_
      refine ct_having s hs hg hsz ((vL h 7 n) - 1)  ?_
      show WP g mX0_pieces 38 [(0, .ref 5), (1, .int nd), (2, .int (nI (pcN (vL h 7) (vL h 8) s nd n))), (3, .int (nI n))] [.int (nI (hvN (vL h 7) (vL h 8) ((vL h 7 n) - 1) s))] _ 0 0 _
      refine wp_iload_n dX0_pieces_38 rfl 1 rfl ?_
      refine wp_icmp_ge (tgt := 46) dX0_pieces_39 (by decide) (fun c_4 => ?_) (fun c_4 => ?_)
      · refine wp_iconst (v := 0) dX0_pieces_46 (by decide) ?_
        refine wp_istore (lv' := [(4, .int 0), (0, .ref 5), (1, .int nd), (2, .int (nI (pcN (vL h 7) (vL h 8) s nd n))), (3, .int (nI n))]) dX0_pieces_47 (by decide) rfl ?_
        refine wp_iload dX0_pieces_49 0 rfl ?_
        refine wp_if_eq (tgt := 65) dX0_pieces_51 (by decide) (fun _ => ?_) (fun c_5 => absurd (by decide) c_5)
        refine wp_iinc (q := 4) (x := nI n) (v := nI (n + 1)) (lv' := [(3, .int (nI (n + 1))), (4, .int 0), (0, .ref 5), (1, .int nd), (2, .int (nI (pcN (vL h 7) (vL h 8) s nd n)))]) dX0_pieces_65 rfl (nI_1 _) (by decide) rfl ?_
        refine wp_goto (tgt := 4) dX0_pieces_68 (by decide) ?_
        refine wp_sub [2, 3, 4, 0] rfl ?_
        have q := ih (n + 1) (by omega)
        rw [pcN_no (fun z => absurd z.2.1 (Int32.not_lt.mpr c_4))] at q
        exact q
      · refine wp_iconst (v := 1) dX0_pieces_42 (by decide) ?_
        refine wp_goto (tgt := 47) dX0_pieces_43 (by decide) ?_
        refine wp_istore (lv' := [(4, .int 1), (0, .ref 5), (1, .int nd), (2, .int (nI (pcN (vL h 7) (vL h 8) s nd n))), (3, .int (nI n))]) dX0_pieces_47 (by decide) rfl ?_
        refine wp_iload dX0_pieces_49 0 rfl ?_
        refine wp_if_eq (tgt := 65) dX0_pieces_51 (by decide) (fun c_6 => absurd c_6 (by decide)) (fun _ => ?_)
        refine wp_aload_n dX0_pieces_54 rfl 1 rfl ?_
        refine wp_iload_n dX0_pieces_55 rfl 4 rfl ?_
        refine wp_callV mX0_beganBefore 5 [.int (nI n)] [] (c := 0) dX0_pieces_56 iX0_beganBefore (fun _ => trivial) mlX0_32 imX0_beganBefore seX0_beganBefore (by decide) rfl rfl ⟨by decide, by decide⟩ rfl rfl (Nat.le_of_ble_eq_true rfl) (Nat.le_of_ble_eq_true rfl) (by decide) (by decide) ?_
        refine ct_began n (by omega) hg (fun hz => ?_) (fun hz => ?_)
        · show WP g mX0_pieces 59 [(4, .int 1), (0, .ref 5), (1, .int nd), (2, .int (nI (pcN (vL h 7) (vL h 8) s nd n))), (3, .int (nI n))] [.int 1] _ 0 0 _
          refine wp_if_ne (tgt := 65) dX0_pieces_59 (by decide) (fun _ => ?_) (fun c_7 => absurd c_7 (by decide))
          refine wp_iinc (q := 4) (x := nI n) (v := nI (n + 1)) (lv' := [(3, .int (nI (n + 1))), (4, .int 1), (0, .ref 5), (1, .int nd), (2, .int (nI (pcN (vL h 7) (vL h 8) s nd n)))]) dX0_pieces_65 rfl (nI_1 _) (by decide) rfl ?_
          refine wp_goto (tgt := 4) dX0_pieces_68 (by decide) ?_
          refine wp_sub [2, 3, 4, 0] rfl ?_
          have q := ih (n + 1) (by omega)
          rw [pcN_no (fun z => z.2.2 hz)] at q
          exact q
        · show WP g mX0_pieces 59 [(4, .int 1), (0, .ref 5), (1, .int nd), (2, .int (nI (pcN (vL h 7) (vL h 8) s nd n))), (3, .int (nI n))] [.int 0] _ 0 0 _
          refine wp_if_ne (tgt := 65) dX0_pieces_59 (by decide) (fun c_8 => absurd (by decide) c_8) (fun _ => ?_)
          refine wp_iinc (q := 3) (x := nI (pcN (vL h 7) (vL h 8) s nd n)) (v := nI (pcN (vL h 7) (vL h 8) s nd n + 1)) (lv' := [(2, .int (nI (pcN (vL h 7) (vL h 8) s nd n + 1))), (4, .int 1), (0, .ref 5), (1, .int nd), (3, .int (nI n))]) dX0_pieces_62 rfl (nI_1 _) (by decide) rfl ?_
          refine wp_iinc (q := 4) (x := nI n) (v := nI (n + 1)) (lv' := [(3, .int (nI (n + 1))), (2, .int (nI (pcN (vL h 7) (vL h 8) s nd n + 1))), (4, .int 1), (0, .ref 5), (1, .int nd)]) dX0_pieces_65 rfl (nI_1 _) (by decide) rfl ?_
          refine wp_goto (tgt := 4) dX0_pieces_68 (by decide) ?_
          refine wp_sub [3, 4, 1, 0] rfl ?_
          have q := ih (n + 1) (by omega)
          rw [pcN_yes ⟨Int32.not_lt.mp c_2, Int32.not_le.mp c_4, hz⟩] at q
          exact q
set_option maxRecDepth 100000 in
set_option maxHeartbeats 4000000 in
theorem ct_pieces {g : GG} {h : HP} {Post : Option Value → HP → Prop} (s : Nat) (hs : s ≤ 10) (hg : GW h) (hsz : vI h 5 3 = nI s) (nd : Int32) (hp : Post (some (.int (nI (pcN (vL h 7) (vL h 8) s nd s)))) h) : CT g mX0_pieces [.ref 5, .int nd] h Post := by
  show WP g mX0_pieces 0 [(0, .ref 5), (1, .int nd)] [] h 0 0 Post
  refine wp_iconst (v := 0) dX0_pieces_0 (by decide) ?_
  refine wp_istore_n (lv' := [(2, .int 0), (0, .ref 5), (1, .int nd)]) dX0_pieces_1 rfl (by decide) rfl ?_
  refine wp_iconst (v := 0) dX0_pieces_2 (by decide) ?_
  refine wp_istore_n (lv' := [(3, .int 0), (2, .int 0), (0, .ref 5), (1, .int nd)]) dX0_pieces_3 rfl (by decide) rfl ?_
  refine wp_sub [2, 3, 1, 0] rfl ?_
  exact lp_pieces s hs hg hsz nd hp s 0 (by omega)
def apN (W : Nat → Int32) (L H : Nat → Int64) (lo hi : Int64) : Nat → Int32
  | 0 => 0
  | n + 1 => if H n < lo ∨ hi < L n then apN W L H lo hi n ||| (1 <<< (W n &&& 31)) else apN W L H lo hi n
theorem apN_yes {W : Nat → Int32} {L H : Nat → Int64} {lo hi : Int64} {n : Nat} (h1 : H n < lo ∨ hi < L n) : apN W L H lo hi (n + 1) = apN W L H lo hi n ||| (1 <<< (W n &&& 31)) := if_pos h1
theorem apN_no {W : Nat → Int32} {L H : Nat → Int64} {lo hi : Int64} {n : Nat} (h1 : ¬ (H n < lo ∨ hi < L n)) : apN W L H lo hi (n + 1) = apN W L H lo hi n := if_neg h1
set_option maxRecDepth 100000 in
set_option maxHeartbeats 4000000 in
theorem lp_apart {g : GG} {h : HP} {Post : Option Value → HP → Prop} (s : Nat) (hs : s ≤ 10) (hg : GW h) (hsz : vI h 5 3 = nI s) (lo hi : Int64) (hp : Post (some (.int (apN (vI h 6) (vL h 7) (vL h 8) lo hi s))) h) : ∀ (k n : Nat), n + k = s → WP g mX0_apartFrom 6 [(0, .ref 5), (1, .long lo), (3, .long hi), (5, .int (apN (vI h 6) (vL h 7) (vL h 8) lo hi n)), (6, .int (nI n))] [] h 0 0 Post := by
  intro k
  induction k with
  | zero =>
    intro n e0
    refine wp_iload dX0_apartFrom_6 4 rfl ?_
    refine wp_aload_n dX0_apartFrom_8 rfl 0 rfl ?_
    refine wv_getI (nI s) dX0_apartFrom_9 flX0_22 rfl rfl hg.1 hsz ?_
    refine wp_icmp_ge (tgt := 59) dX0_apartFrom_12 (by decide) (fun _ => ?_) (fun c_1 => absurd (nI_le (by omega) (by omega)) c_1)
    refine wp_iload dX0_apartFrom_59 3 rfl ?_
    refine wp_iret dX0_apartFrom_61 rfl (by decide) (by decide) ?_
    rw [show n = s by omega]
    exact hp
  | succ k ih =>
    intro n e0
    refine wp_iload dX0_apartFrom_6 4 rfl ?_
    refine wp_aload_n dX0_apartFrom_8 rfl 0 rfl ?_
    refine wv_getI (nI s) dX0_apartFrom_9 flX0_22 rfl rfl hg.1 hsz ?_
    refine wp_icmp_ge (tgt := 59) dX0_apartFrom_12 (by decide) (fun c_1 => absurd c_1 (nI_ge (by omega) (by omega))) (fun _ => ?_)
    refine wp_aload_n dX0_apartFrom_15 rfl 0 rfl ?_
    refine wp_getP (b := 8) dX0_apartFrom_16 flX0_19 rfl rfl hg.1 hg.2.2.2.2.2.2 ?_
    refine wp_iload dX0_apartFrom_19 4 rfl ?_
    refine wv_lald n (vL h 8 n) dX0_apartFrom_21 rfl hg.2.2.2.1 rfl (by show n < 10; omega) rfl ?_
    refine wp_lload_n dX0_apartFrom_22 rfl 1 rfl ?_
    refine wl_lt (tgt := 39) dX0_apartFrom_23 dX0_apartFrom_24 (by decide) (fun c_2 => ?_) (fun c_2 => ?_)
    · refine wp_iload dX0_apartFrom_39 3 rfl ?_
      refine wp_iconst (v := 1) dX0_apartFrom_41 (by decide) ?_
      refine wp_aload_n dX0_apartFrom_42 rfl 0 rfl ?_
      refine wp_getP (b := 6) dX0_apartFrom_43 flX0_9 rfl rfl hg.1 hg.2.2.2.2.1 ?_
      refine wp_iload dX0_apartFrom_46 4 rfl ?_
      refine wv_iald n (vI h 6 n) dX0_apartFrom_48 rfl hg.2.1 rfl (by show n < 10; omega) rfl ?_
      refine wp_ishl dX0_apartFrom_49 ?_
      refine wp_ior dX0_apartFrom_50 ?_
      refine wp_istore (lv' := [(5, .int ((apN (vI h 6) (vL h 7) (vL h 8) lo hi n) ||| (1 <<< ((vI h 6 n) &&& 31)))), (0, .ref 5), (1, .long lo), (3, .long hi), (6, .int (nI n))]) dX0_apartFrom_51 (by decide) rfl ?_
      refine wp_iinc (q := 4) (x := nI n) (v := nI (n + 1)) (lv' := [(6, .int (nI (n + 1))), (5, .int ((apN (vI h 6) (vL h 7) (vL h 8) lo hi n) ||| (1 <<< ((vI h 6 n) &&& 31)))), (0, .ref 5), (1, .long lo), (3, .long hi)]) dX0_apartFrom_53 rfl (nI_1 _) (by decide) rfl ?_
      refine wp_goto (tgt := 6) dX0_apartFrom_56 (by decide) ?_
      refine wp_sub [2, 3, 4, 1, 0] rfl ?_
      have q := ih (n + 1) (by omega)
      rw [apN_yes (Or.inl c_2)] at q
      exact q
    · refine wp_aload_n dX0_apartFrom_27 rfl 0 rfl ?_
      refine wp_getP (b := 7) dX0_apartFrom_28 flX0_15 rfl rfl hg.1 hg.2.2.2.2.2.1 ?_
      refine wp_iload dX0_apartFrom_31 4 rfl ?_
      refine wv_lald n (vL h 7 n) dX0_apartFrom_33 rfl hg.2.2.1 rfl (by show n < 10; omega) rfl ?_
      refine wp_lload_n dX0_apartFrom_34 rfl 2 rfl ?_
      refine wl_le (tgt := 53) dX0_apartFrom_35 dX0_apartFrom_36 (by decide) (fun c_3 => ?_) (fun c_3 => ?_)
      · refine wp_iinc (q := 4) (x := nI n) (v := nI (n + 1)) (lv' := [(6, .int (nI (n + 1))), (0, .ref 5), (1, .long lo), (3, .long hi), (5, .int (apN (vI h 6) (vL h 7) (vL h 8) lo hi n))]) dX0_apartFrom_53 rfl (nI_1 _) (by decide) rfl ?_
        refine wp_goto (tgt := 6) dX0_apartFrom_56 (by decide) ?_
        refine wp_sub [1, 2, 3, 4, 0] rfl ?_
        have q := ih (n + 1) (by omega)
        rw [apN_no (fun z => z.elim c_2 (fun y => absurd y (Int64.not_lt.mpr c_3)))] at q
        exact q
      · refine wp_iload dX0_apartFrom_39 3 rfl ?_
        refine wp_iconst (v := 1) dX0_apartFrom_41 (by decide) ?_
        refine wp_aload_n dX0_apartFrom_42 rfl 0 rfl ?_
        refine wp_getP (b := 6) dX0_apartFrom_43 flX0_9 rfl rfl hg.1 hg.2.2.2.2.1 ?_
        refine wp_iload dX0_apartFrom_46 4 rfl ?_
        refine wv_iald n (vI h 6 n) dX0_apartFrom_48 rfl hg.2.1 rfl (by show n < 10; omega) rfl ?_
        refine wp_ishl dX0_apartFrom_49 ?_
        refine wp_ior dX0_apartFrom_50 ?_
        refine wp_istore (lv' := [(5, .int ((apN (vI h 6) (vL h 7) (vL h 8) lo hi n) ||| (1 <<< ((vI h 6 n) &&& 31)))), (0, .ref 5), (1, .long lo), (3, .long hi), (6, .int (nI n))]) dX0_apartFrom_51 (by decide) rfl ?_
        refine wp_iinc (q := 4) (x := nI n) (v := nI (n + 1)) (lv' := [(6, .int (nI (n + 1))), (5, .int ((apN (vI h 6) (vL h 7) (vL h 8) lo hi n) ||| (1 <<< ((vI h 6 n) &&& 31)))), (0, .ref 5), (1, .long lo), (3, .long hi)]) dX0_apartFrom_53 rfl (nI_1 _) (by decide) rfl ?_
        refine wp_goto (tgt := 6) dX0_apartFrom_56 (by decide) ?_
        refine wp_sub [2, 3, 4, 1, 0] rfl ?_
        have q := ih (n + 1) (by omega)
        rw [apN_yes (Or.inr (Int64.not_le.mp c_3))] at q
        exact q
set_option maxRecDepth 100000 in
set_option maxHeartbeats 4000000 in
theorem ct_apart {g : GG} {h : HP} {Post : Option Value → HP → Prop} (s : Nat) (hs : s ≤ 10) (hg : GW h) (hsz : vI h 5 3 = nI s) (lo hi : Int64) (hp : Post (some (.int (apN (vI h 6) (vL h 7) (vL h 8) lo hi s))) h) : CT g mX0_apartFrom [.ref 5, .long lo, .long hi] h Post := by
  show WP g mX0_apartFrom 0 [(0, .ref 5), (1, .long lo), (3, .long hi)] [] h 0 0 Post
  refine wp_iconst (v := 0) dX0_apartFrom_0 (by decide) ?_
  refine wp_istore (lv' := [(5, .int 0), (0, .ref 5), (1, .long lo), (3, .long hi)]) dX0_apartFrom_1 (by decide) rfl ?_
  refine wp_iconst (v := 0) dX0_apartFrom_3 (by decide) ?_
  refine wp_istore (lv' := [(6, .int 0), (5, .int 0), (0, .ref 5), (1, .long lo), (3, .long hi)]) dX0_apartFrom_4 (by decide) rfl ?_
  refine wp_sub [2, 3, 4, 1, 0] rfl ?_
  exact lp_apart s hs hg hsz lo hi hp s 0 (by omega)
