/-! contracts: loops over what a member has heard; hear -/
def cntH (h : HP) (r : Nat) : Nat → Nat
  | 0 => 0
  | n + 1 => cntH h r n + (if (hsp h r n).isSome then 1 else 0)
theorem cntH_no {h : HP} {r n : Nat} (hv : hsp h r n = none) : cntH h r (n + 1) = cntH h r n := by simp [cntH, hv]
theorem cntH_yes {h : HP} {r n b : Nat} (hv : hsp h r n = some b) : cntH h r (n + 1) = cntH h r n + 1 := by simp [cntH, hv]
set_option maxRecDepth 100000 in
set_option maxHeartbeats 4000000 in
theorem lp_howManyHeard {g : GG} {h : HP} {Post : Option Value → HP → Prop} (a r : Nat) (hk : kd a = 2) (hl : liv h a = true) (hr : vP h a 9 = some r) (hkr : kd r = 14) (hlr : liv h r = true) (hn : ln r = 10) (hb : ∀ j b, j < 10 → vP h r j = some b → kd b = 4 ∧ liv h b = true) (hp : Post (some (.int (nI (cntH h r 10)))) h) : ∀ (k n : Nat), n + k = 10 → WP g mX2_howManyHeard 4 [(0, .ref a), (1, .int (nI (cntH h r n))), (2, .int (nI n))] [] h 0 0 Post := by
  intro k
  induction k with
  | zero =>
    intro n e0
    obtain rfl : n = 10 := by omega
    refine wp_iload_n dX2_howManyHeard_4 rfl 2 rfl ?_
    refine wp_aload_n dX2_howManyHeard_5 rfl 0 rfl ?_
    refine wp_getP (b := r) dX2_howManyHeard_6 flX2_48 rfl hk hl hr ?_
    refine wp_alen (n := nI 10) dX2_howManyHeard_9 hkr (by decide) (by decide) hlr (by rw [hn]; rfl) ?_
    refine wp_icmp_ge (tgt := 30) dX2_howManyHeard_10 (by decide) (fun _ => ?_) (fun c_1 => absurd (nI_le (by omega) (by omega)) c_1)
    refine wp_iload_n dX2_howManyHeard_30 rfl 1 rfl ?_
    refine wp_iret dX2_howManyHeard_31 rfl (by decide) (by decide) ?_
    exact hp
  | succ k ih =>
    intro n e0
    refine wp_iload_n dX2_howManyHeard_4 rfl 2 rfl ?_
    refine wp_aload_n dX2_howManyHeard_5 rfl 0 rfl ?_
    refine wp_getP (b := r) dX2_howManyHeard_6 flX2_48 rfl hk hl hr ?_
    refine wp_alen (n := nI 10) dX2_howManyHeard_9 hkr (by decide) (by decide) hlr (by rw [hn]; rfl) ?_
    refine wp_icmp_ge (tgt := 30) dX2_howManyHeard_10 (by decide) (fun c_1 => absurd c_1 (nI_ge (by omega) (by omega))) (fun _ => ?_)
    refine wp_aload_n dX2_howManyHeard_13 rfl 0 rfl ?_
    refine wp_iload_n dX2_howManyHeard_14 rfl 2 rfl ?_
    refine wp_callV mX2_hasHeardOf a [.int (nI n)] [] (c := 2) dX2_howManyHeard_15 iX2_hasHeardOf (fun _ => trivial) mlX2_83 imX2_hasHeardOf seX2_hasHeardOf (by decide) rfl hk ⟨by decide, by decide⟩ rfl rfl (Nat.le_of_ble_eq_true rfl) (Nat.le_of_ble_eq_true rfl) (by decide) (by decide) ?_
    refine ct_hasHeardOf a r n hk hl hr hkr hlr hn (by omega) (fun b q => hb n b (by omega) q) (fun hv => ?_) (fun b hv => ?_)
    · show WP g mX2_howManyHeard 18 [(0, .ref a), (1, .int (nI (cntH h r n))), (2, .int (nI n))] [.int 0] _ 0 0 _
      refine wp_if_eq (tgt := 24) dX2_howManyHeard_18 (by decide) (fun _ => ?_) (fun c_2 => absurd rfl c_2)
      refine wp_iinc (q := 2) (x := nI n) (v := nI (n + 1)) (lv' := [(2, .int (nI (n + 1))), (0, .ref a), (1, .int (nI (cntH h r n)))]) dX2_howManyHeard_24 rfl (nI_1 _) (by decide) rfl ?_
      refine wp_goto (tgt := 4) dX2_howManyHeard_27 (by decide) ?_
      refine wp_sub [1, 2, 0] rfl ?_
      have q := ih (n + 1) (by omega)
      rw [cntH_no hv] at q
      exact q
    · show WP g mX2_howManyHeard 18 [(0, .ref a), (1, .int (nI (cntH h r n))), (2, .int (nI n))] [.int 1] _ 0 0 _
      refine wp_if_eq (tgt := 24) dX2_howManyHeard_18 (by decide) (fun c_3 => absurd c_3 (by decide)) (fun _ => ?_)
      refine wp_iinc (q := 1) (x := nI (cntH h r n)) (v := nI (cntH h r n + 1)) (lv' := [(1, .int (nI (cntH h r n + 1))), (0, .ref a), (2, .int (nI n))]) dX2_howManyHeard_21 rfl (nI_1 _) (by decide) rfl ?_
      refine wp_iinc (q := 2) (x := nI n) (v := nI (n + 1)) (lv' := [(2, .int (nI (n + 1))), (1, .int (nI (cntH h r n + 1))), (0, .ref a)]) dX2_howManyHeard_24 rfl (nI_1 _) (by decide) rfl ?_
      refine wp_goto (tgt := 4) dX2_howManyHeard_27 (by decide) ?_
      refine wp_sub [2, 1, 0] rfl ?_
      have q := ih (n + 1) (by omega)
      rw [cntH_yes hv] at q
      exact q
set_option maxRecDepth 100000 in
set_option maxHeartbeats 4000000 in
theorem ct_howManyHeard {g : GG} {h : HP} {Post : Option Value → HP → Prop} (a r : Nat) (hk : kd a = 2) (hl : liv h a = true) (hr : vP h a 9 = some r) (hkr : kd r = 14) (hlr : liv h r = true) (hn : ln r = 10) (hb : ∀ j b, j < 10 → vP h r j = some b → kd b = 4 ∧ liv h b = true) (hp : Post (some (.int (nI (cntH h r 10)))) h) : CT g mX2_howManyHeard [.ref a] h Post := by
  show WP g mX2_howManyHeard 0 [(0, .ref a)] [] h 0 0 Post
  refine wp_iconst (v := 0) dX2_howManyHeard_0 (by decide) ?_
  refine wp_istore_n (lv' := [(1, .int 0), (0, .ref a)]) dX2_howManyHeard_1 rfl (by decide) rfl ?_
  refine wp_iconst (v := 0) dX2_howManyHeard_2 (by decide) ?_
  refine wp_istore_n (lv' := [(2, .int 0), (1, .int 0), (0, .ref a)]) dX2_howManyHeard_3 rfl (by decide) rfl ?_
  refine wp_sub [2, 1, 0] rfl ?_
  exact lp_howManyHeard a r hk hl hr hkr hlr hn hb hp 10 0 (by omega)
/-- what a member has heard, forgotten up to n -/
def fgt (h : HP) (r : Nat) : Nat → HP
  | 0 => h
  | n + 1 => match vP h r n with
    | none => fgt h r n
    | some b => sI (fgt h r n) b 0 0
theorem fgt_k (h : HP) (r : Nat) : ∀ n, liv (fgt h r n) = liv h ∧ vL (fgt h r n) = vL h ∧ vP (fgt h r n) = vP h
  | 0 => ⟨rfl, rfl, rfl⟩
  | n + 1 => by
    obtain ⟨h1, h2, h3⟩ := fgt_k h r n
    unfold fgt
    cases vP h r n with
    | none => exact ⟨h1, h2, h3⟩
    | some b => exact ⟨h1, h2, h3⟩
theorem fgt_no {h : HP} {r n : Nat} (hv : vP h r n = none) : fgt h r (n + 1) = fgt h r n := by
  show (match vP h r n with | none => fgt h r n | some b => sI (fgt h r n) b 0 0) = _
  rw [hv]
theorem fgt_yes {h : HP} {r n b : Nat} (hv : vP h r n = some b) : fgt h r (n + 1) = sI (fgt h r n) b 0 0 := by
  show (match vP h r n with | none => fgt h r n | some b => sI (fgt h r n) b 0 0) = _
  rw [hv]
set_option maxRecDepth 100000 in
set_option maxHeartbeats 4000000 in
theorem lp_forgetHeard {g : GG} {h : HP} {Post : Option Value → HP → Prop} (a r : Nat) (hk : kd a = 2) (hl : liv h a = true) (hr : vP h a 9 = some r) (hkr : kd r = 14) (hlr : liv h r = true) (hn : ln r = 10) (hb : ∀ j b, j < 10 → vP h r j = some b → kd b = 4 ∧ liv h b = true) (hp : Post none (fgt h r 10)) : ∀ (k n : Nat), n + k = 10 → WP g mX2_forgetHeard 2 [(0, .ref a), (1, .int (nI n))] [] (fgt h r n) 0 0 Post := by
  intro k
  induction k with
  | zero =>
    intro n e0
    obtain rfl : n = 10 := by omega
    refine wp_iload_n dX2_forgetHeard_2 rfl 1 rfl ?_
    refine wp_aload_n dX2_forgetHeard_3 rfl 0 rfl ?_
    refine wp_getP (b := r) dX2_forgetHeard_4 flX2_48 rfl hk (by rw [(fgt_k h r 10).1]; exact hl) (by rw [(fgt_k h r 10).2.2]; exact hr) ?_
    refine wp_alen (n := nI 10) dX2_forgetHeard_7 hkr (by decide) (by decide) (by rw [(fgt_k h r 10).1]; exact hlr) (by rw [hn]; rfl) ?_
    refine wp_icmp_ge (tgt := 36) dX2_forgetHeard_8 (by decide) (fun _ => ?_) (fun c_1 => absurd (nI_le (by omega) (by omega)) c_1)
    refine wp_vret dX2_forgetHeard_36 rfl (by decide) (by decide) ?_
    exact hp
  | succ k ih =>
    intro n e0
    refine wp_iload_n dX2_forgetHeard_2 rfl 1 rfl ?_
    refine wp_aload_n dX2_forgetHeard_3 rfl 0 rfl ?_
    refine wp_getP (b := r) dX2_forgetHeard_4 flX2_48 rfl hk (by rw [(fgt_k h r n).1]; exact hl) (by rw [(fgt_k h r n).2.2]; exact hr) ?_
    refine wp_alen (n := nI 10) dX2_forgetHeard_7 hkr (by decide) (by decide) (by rw [(fgt_k h r n).1]; exact hlr) (by rw [hn]; rfl) ?_
    refine wp_icmp_ge (tgt := 36) dX2_forgetHeard_8 (by decide) (fun c_1 => absurd c_1 (nI_ge (by omega) (by omega))) (fun _ => ?_)
    cases hv : vP h r n with
    | none =>
      refine wp_aload_n dX2_forgetHeard_11 rfl 0 rfl ?_
      refine wp_getP (b := r) dX2_forgetHeard_12 flX2_48 rfl hk (by rw [(fgt_k h r n).1]; exact hl) (by rw [(fgt_k h r n).2.2]; exact hr) ?_
      refine wp_iload_n dX2_forgetHeard_15 rfl 1 rfl ?_
      refine wv_aaldN n dX2_forgetHeard_16 hkr (by decide) (by decide) (by rw [(fgt_k h r n).1]; exact hlr) rfl (by rw [hn]; omega) (by rw [(fgt_k h r n).2.2]; exact hv) ?_
      refine wp_ifnullN (tgt := 30) dX2_forgetHeard_17 (by decide) ?_
      refine wp_iinc (q := 1) (x := nI n) (v := nI (n + 1)) (lv' := [(1, .int (nI (n + 1))), (0, .ref a)]) dX2_forgetHeard_30 rfl (nI_1 _) (by decide) rfl ?_
      refine wp_goto (tgt := 2) dX2_forgetHeard_33 (by decide) ?_
      refine wp_sub [1, 0] rfl ?_
      have q := ih (n + 1) (by omega)
      rw [fgt_no hv] at q
      exact q
    | some b =>
      refine wp_aload_n dX2_forgetHeard_11 rfl 0 rfl ?_
      refine wp_getP (b := r) dX2_forgetHeard_12 flX2_48 rfl hk (by rw [(fgt_k h r n).1]; exact hl) (by rw [(fgt_k h r n).2.2]; exact hr) ?_
      refine wp_iload_n dX2_forgetHeard_15 rfl 1 rfl ?_
      refine wv_aald n b dX2_forgetHeard_16 hkr (by decide) (by decide) (by rw [(fgt_k h r n).1]; exact hlr) rfl (by rw [hn]; omega) (by rw [(fgt_k h r n).2.2]; exact hv) ?_
      refine wp_ifnull dX2_forgetHeard_17 ?_
      refine wp_aload_n dX2_forgetHeard_20 rfl 0 rfl ?_
      refine wp_getP (b := r) dX2_forgetHeard_21 flX2_48 rfl hk (by rw [(fgt_k h r n).1]; exact hl) (by rw [(fgt_k h r n).2.2]; exact hr) ?_
      refine wp_iload_n dX2_forgetHeard_24 rfl 1 rfl ?_
      refine wv_aald n b dX2_forgetHeard_25 hkr (by decide) (by decide) (by rw [(fgt_k h r n).1]; exact hlr) rfl (by rw [hn]; omega) (by rw [(fgt_k h r n).2.2]; exact hv) ?_
      refine wp_iconst (v := 0) dX2_forgetHeard_26 (by decide) ?_
      refine wp_pc (pc' := 27) rfl ?_
      refine wp_putI dX2_forgetHeard_27 flX2_73 (Or.inl rfl) rfl rfl rfl (hb n b (by omega) hv).1 (by rw [(fgt_k h r n).1]; exact (hb n b (by omega) hv).2) ?_
      refine wp_iinc (q := 1) (x := nI n) (v := nI (n + 1)) (lv' := [(1, .int (nI (n + 1))), (0, .ref a)]) dX2_forgetHeard_30 rfl (nI_1 _) (by decide) rfl ?_
      refine wp_goto (tgt := 2) dX2_forgetHeard_33 (by decide) ?_
      refine wp_sub [1, 0] rfl ?_
      have q := ih (n + 1) (by omega)
      rw [fgt_yes hv] at q
      exact q
set_option maxRecDepth 100000 in
set_option maxHeartbeats 4000000 in
theorem ct_forgetHeard {g : GG} {h : HP} {Post : Option Value → HP → Prop} (a r : Nat) (hk : kd a = 2) (hl : liv h a = true) (hr : vP h a 9 = some r) (hkr : kd r = 14) (hlr : liv h r = true) (hn : ln r = 10) (hb : ∀ j b, j < 10 → vP h r j = some b → kd b = 4 ∧ liv h b = true) (hp : Post none (fgt h r 10)) : CT g mX2_forgetHeard [.ref a] h Post := by
  show WP g mX2_forgetHeard 0 [(0, .ref a)] [] h 0 0 Post
  refine wp_iconst (v := 0) dX2_forgetHeard_0 (by decide) ?_
  refine wp_istore_n (lv' := [(1, .int 0), (0, .ref a)]) dX2_forgetHeard_1 rfl (by decide) rfl ?_
  refine wp_sub [1, 0] rfl ?_
  exact lp_forgetHeard a r hk hl hr hkr hlr hn hb hp 10 0 (by omega)
def spP (h : HP) (o : Nat) (lo hi c : Int64) : HP := sL (sL (sL (sI h o 0 1) o 1 lo) o 2 hi) o 3 c
set_option maxRecDepth 100000 in
set_option maxHeartbeats 4000000 in
theorem ct_put {g : GG} {h : HP} {Post : Option Value → HP → Prop} (o : Nat) (lo hi c : Int64) (hk : kd o = 4) (hl : liv h o = true) (hp : Post none (spP h o lo hi c)) : CT g mX4_put [.ref o, .long lo, .long hi, .long c] h Post := by
  show WP g mX4_put 0 [(0, .ref o), (1, .long lo), (3, .long hi), (5, .long c)] [] h 0 0 Post
  refine wp_aload_n dX4_put_0 rfl 0 rfl ?_
  refine wp_iconst (v := 1) dX4_put_1 (by decide) ?_
  refine wp_putI dX4_put_2 flX4_7 (Or.inl rfl) rfl rfl rfl hk hl ?_
  refine wp_aload_n dX4_put_5 rfl 0 rfl ?_
  refine wp_lload_n dX4_put_6 rfl 1 rfl ?_
  refine wp_putL dX4_put_7 flX4_13 (Or.inl rfl) rfl hk hl ?_
  refine wp_aload_n dX4_put_10 rfl 0 rfl ?_
  refine wp_lload_n dX4_put_11 rfl 2 rfl ?_
  refine wp_putL dX4_put_12 flX4_17 (Or.inl rfl) rfl hk hl ?_
  refine wp_aload_n dX4_put_15 rfl 0 rfl ?_
  refine wp_lload dX4_put_16 3 rfl ?_
  refine wp_putL dX4_put_18 flX4_20 (Or.inl rfl) rfl hk hl ?_
  refine wp_vret dX4_put_21 rfl (by decide) (by decide) ?_
  exact hp
set_option maxRecDepth 100000 in
set_option maxHeartbeats 4000000 in
theorem ct_Span {g : GG} {h : HP} {Post : Option Value → HP → Prop} (o : Nat) (hp : Post none h) : CT g mX4_init [.ref o] h Post := by
  show WP g mX4_init 0 [(0, .ref o)] [] h 0 0 Post
  refine wp_aload_n dX4_init_0 rfl 0 rfl ?_
  refine wp_obj dX4_init_1 mlX4_1 imObj cdObj (by decide) (Nat.le_of_ble_eq_true rfl) ?_
  refine wp_vret dX4_init_4 rfl (by decide) (by decide) ?_
  exact hp
theorem livN {h : HP} {a b : Nat} (hl : liv h a = true) : liv (sN h b) a = true := by
  show (if a = b then true else h.1 a) = true
  split
  · rfl
  · exact hl
theorem liv_new (h : HP) (b : Nat) : liv (sN h b) b = true := by show (if b = b then true else h.1 b) = true; rw [if_pos rfl]
theorem liv_other {h : HP} {a b : Nat} (hne : a ≠ b) : liv (sN h b) a = liv h a := by show (if a = b then true else h.1 a) = h.1 a; rw [if_neg hne]
theorem vI_N {h : HP} {a b : Nat} (hne : a ≠ b) : vI (sN h b) a = vI h a := by show (if a = b then _ else h.2.1 a) = h.2.1 a; rw [if_neg hne]
theorem vL_N {h : HP} {a b : Nat} (hne : a ≠ b) : vL (sN h b) a = vL h a := by show (if a = b then _ else h.2.2.1 a) = h.2.2.1 a; rw [if_neg hne]
theorem vP_N {h : HP} {a b : Nat} (hne : a ≠ b) : vP (sN h b) a = vP h a := by show (if a = b then _ else h.2.2.2 a) = h.2.2.2 a; rw [if_neg hne]
theorem kd_ne {a b c d : Nat} (ha : kd a = c) (hb : kd b = d) (hcd : c ≠ d) : a ≠ b := fun e => hcd (by rw [← ha, e, hb])
/-- a span heard: the cell b0 is made for it where there is none -/
def heaH (h : HP) (r j b0 : Nat) (lo hi c : Int64) : HP := match vP h r j with
  | none => spP (sP (sN h b0) r j (some b0)) b0 lo hi c
  | some b => spP h b lo hi c
set_option maxRecDepth 100000 in
set_option maxHeartbeats 4000000 in
theorem ct_hear {g : GG} {h : HP} {Post : Option Value → HP → Prop} (a r j b0 : Nat) (lo hi c : Int64) (hk : kd a = 2) (hl : liv h a = true) (hr : vP h a 9 = some r) (hkr : kd r = 14) (hlr : liv h r = true) (hn : ln r = 10) (hj : j < 10) (hb : ∀ b, vP h r j = some b → kd b = 4 ∧ liv h b = true) (hb0 : vP h r j = none → kd b0 = 4 ∧ liv h b0 = false) (hp : Post none (heaH h r j b0 lo hi c)) : CT g mX2_hear [.ref a, .int (nI j), .long lo, .long hi, .long c] h Post := by
  show WP g mX2_hear 0 [(0, .ref a), (1, .int (nI j)), (2, .long lo), (4, .long hi), (6, .long c)] [] h 0 0 Post
  refine wp_iload_n dX2_hear_0 rfl 1 rfl ?_
  refine wp_if_lt (tgt := 13) dX2_hear_1 (by decide) (fun c_1 => absurd c_1 (nI_pos (by omega))) (fun _ => ?_)
  refine wp_iload_n dX2_hear_4 rfl 1 rfl ?_
  refine wp_aload_n dX2_hear_5 rfl 0 rfl ?_
  refine wp_getP (b := r) dX2_hear_6 flX2_48 rfl hk hl hr ?_
  refine wp_alen (n := nI 10) dX2_hear_9 hkr (by decide) (by decide) hlr (by rw [hn]; rfl) ?_
  refine wp_icmp_lt (tgt := 14) dX2_hear_10 (by decide) (fun _ => ?_) (fun c_2 => absurd (nI_lt hj (by omega)) c_2)
  cases hv : vP h r j with
  | none =>
    refine wp_aload_n dX2_hear_14 rfl 0 rfl ?_
    refine wp_getP (b := r) dX2_hear_15 flX2_48 rfl hk hl hr ?_
    refine wp_iload_n dX2_hear_18 rfl 1 rfl ?_
    refine wv_aaldN j dX2_hear_19 hkr (by decide) (by decide) hlr rfl (by rw [hn]; exact hj) hv ?_
    refine wp_ifnonnullN dX2_hear_20 ?_
    refine wp_aload_n dX2_hear_23 rfl 0 rfl ?_
    refine wp_getP (b := r) dX2_hear_24 flX2_48 rfl hk hl hr ?_
    refine wp_iload_n dX2_hear_27 rfl 1 rfl ?_
    refine wp_pc (pc' := 28) rfl ?_
    refine wp_new b0 (c := 4) dX2_hear_28 (by decide) clX2_34 nsX4 nzX4 (hb0 hv).1 (hb0 hv).2 (by decide) (by decide) ?_
    refine wp_dup dX2_hear_31 rfl ?_
    refine wp_callIN mX4_init b0 [] [.ref b0, .int (nI j), .ref r] dX2_hear_32 iX4_init (fun _ => trivial) rfl rfl nlX2_36 imX4_init ⟨by decide, by decide⟩ rfl rfl (Nat.le_of_ble_eq_true rfl) (Nat.le_of_ble_eq_true rfl) (by decide) (by decide) ?_
    refine ct_Span b0 ?_
    show WP g mX2_hear 35 [(0, .ref a), (1, .int (nI j)), (2, .long lo), (4, .long hi), (6, .long c)] [.ref b0, .int (nI j), .ref r] _ 1 4 _
    refine wv_aast j dX2_hear_35 hkr (by decide) (by decide) (livN hlr) rfl (by rw [hn]; exact hj) (hb0 hv).1 ?_
    refine wp_aload_n dX2_hear_36 rfl 0 rfl ?_
    refine wp_getP (b := r) dX2_hear_37 flX2_48 rfl hk (livN hl) (by show up2 _ r j (some b0) a 9 = _; rw [up2_ne (kd_ne hk hkr (by decide))]; show vP (sN h b0) a 9 = _; rw [vP_N (kd_ne hk (hb0 hv).1 (by decide))]; exact hr) ?_
    refine wp_iload_n dX2_hear_40 rfl 1 rfl ?_
    refine wv_aald j b0 dX2_hear_41 hkr (by decide) (by decide) (livN hlr) rfl (by rw [hn]; exact hj) (by show up2 _ r j (some b0) r j = _; exact up2_eq) ?_
    refine wp_lload_n dX2_hear_42 rfl 2 rfl ?_
    refine wp_lload dX2_hear_43 3 rfl ?_
    refine wp_lload dX2_hear_45 4 rfl ?_
    refine wp_callV mX4_put b0 [.long lo, .long hi, .long c] [] (c := 4) dX2_hear_47 iX4_put (fun _ => trivial) mlX2_41 imX4_put seX4_put (by decide) rfl (hb0 hv).1 ⟨by decide, by decide⟩ rfl rfl (Nat.le_of_ble_eq_true rfl) (Nat.le_of_ble_eq_true rfl) (by decide) (by decide) ?_
    refine ct_put b0 lo hi c (hb0 hv).1 (liv_new h b0) ?_
    show WP g mX2_hear 50 [(0, .ref a), (1, .int (nI j)), (2, .long lo), (4, .long hi), (6, .long c)] [] _ 1 4 _
    refine wp_vret dX2_hear_50 rfl (by decide) (by decide) ?_
    have q := hp
    unfold heaH at q
    rw [hv] at q
    exact q
  | some b =>
    refine wp_aload_n dX2_hear_14 rfl 0 rfl ?_
    refine wp_getP (b := r) dX2_hear_15 flX2_48 rfl hk hl hr ?_
    refine wp_iload_n dX2_hear_18 rfl 1 rfl ?_
    refine wv_aald j b dX2_hear_19 hkr (by decide) (by decide) hlr rfl (by rw [hn]; exact hj) hv ?_
    refine wp_ifnonnull (tgt := 36) dX2_hear_20 (by decide) ?_
    refine wp_aload_n dX2_hear_36 rfl 0 rfl ?_
    refine wp_getP (b := r) dX2_hear_37 flX2_48 rfl hk hl hr ?_
    refine wp_iload_n dX2_hear_40 rfl 1 rfl ?_
    refine wp_pc (pc' := 41) rfl ?_
    refine wv_aald j b dX2_hear_41 hkr (by decide) (by decide) hlr rfl (by rw [hn]; exact hj) hv ?_
    refine wp_lload_n dX2_hear_42 rfl 2 rfl ?_
    refine wp_lload dX2_hear_43 3 rfl ?_
    refine wp_lload dX2_hear_45 4 rfl ?_
    refine wp_callV mX4_put b [.long lo, .long hi, .long c] [] (c := 4) dX2_hear_47 iX4_put (fun _ => trivial) mlX2_41 imX4_put seX4_put (by decide) rfl (hb b hv).1 ⟨by decide, by decide⟩ rfl rfl (Nat.le_of_ble_eq_true rfl) (Nat.le_of_ble_eq_true rfl) (by decide) (by decide) ?_
    refine ct_put b lo hi c (hb b hv).1 (hb b hv).2 ?_
    show WP g mX2_hear 50 [(0, .ref a), (1, .int (nI j)), (2, .long lo), (4, .long hi), (6, .long c)] [] _ 0 0 _
    refine wp_vret dX2_hear_50 rfl (by decide) (by decide) ?_
    have q := hp
    unfold heaH at q
    rw [hv] at q
    exact q
