/-! contracts: Span, Member: what is read -/
def cCn (h : HP) (a : Nat) (now : Int64) : Int64 := floO ((now - vL h a 4) * Int32.toInt64 (vI h a 5)) (Int32.toInt64 (vI h a 6))
def sLo (h : HP) (o : Nat) (c : Int64) (p : Int32) : Int64 := vL h o 1 + aLe (c - vL h o 3) p
def sHi (h : HP) (o : Nat) (c : Int64) (p : Int32) : Int64 := vL h o 2 + aMo (c - vL h o 3) p
def cLo (h : HP) (a o : Nat) (now : Int64) : Int64 := if vI h a 1 = 3 then now - Int32.toInt64 (vI h a 3) else sLo h o (cCn h a now) (vI h a 2)
def cHi (h : HP) (a o : Nat) (now : Int64) : Int64 := if vI h a 1 = 3 then now + Int32.toInt64 (vI h a 3) else sHi h o (cCn h a now) (vI h a 2)
set_option maxRecDepth 100000 in
set_option maxHeartbeats 4000000 in
theorem ct_countedAt {g : GG} {h : HP} {Post : Option Value → HP → Prop} (a : Nat) (now : Int64) (hk : kd a = 2) (hl : liv h a = true) (hp : Post (some (.long (cCn h a now))) h) : CT g mX2_countedAt [.ref a, .long now] h Post := by
  show WP g mX2_countedAt 0 [(0, .ref a), (1, .long now)] [] h 0 0 Post
  refine wp_lload_n dX2_countedAt_0 rfl 1 rfl ?_
  refine wp_aload_n dX2_countedAt_1 rfl 0 rfl ?_
  refine wp_getL dX2_countedAt_2 flX2_24 rfl hk hl ?_
  refine wp_lsub dX2_countedAt_5 ?_
  refine wp_aload_n dX2_countedAt_6 rfl 0 rfl ?_
  refine wp_getI dX2_countedAt_7 flX2_28 rfl hk hl ?_
  refine wp_i2l dX2_countedAt_10 ?_
  refine wp_lmul dX2_countedAt_11 ?_
  refine wp_aload_n dX2_countedAt_12 rfl 0 rfl ?_
  refine wp_getI dX2_countedAt_13 flX2_31 rfl hk hl ?_
  refine wp_i2l dX2_countedAt_16 ?_
  refine wp_callSN mX6_floorOf [.long ((now - (vL h a 4)) * (Int32.toInt64 (vI h a 5))), .long (Int32.toInt64 (vI h a 6))] [] dX2_countedAt_17 iX6_floorOf (fun _ => trivial) nlX2_52 stX6_floorOf ⟨by decide, by decide⟩ rfl rfl (Nat.le_of_ble_eq_true rfl) (Nat.le_of_ble_eq_true rfl) (by decide) (by decide) ?_
  refine ct_floorOf ((now - (vL h a 4)) * (Int32.toInt64 (vI h a 5))) (Int32.toInt64 (vI h a 6))  ?_
  show WP g mX2_countedAt 20 [(0, .ref a), (1, .long now)] [.long (floO ((now - (vL h a 4)) * (Int32.toInt64 (vI h a 5))) (Int32.toInt64 (vI h a 6)))] _ 0 0 _
  refine wp_lret dX2_countedAt_20 rfl (by decide) (by decide) ?_
  exact hp
set_option maxRecDepth 100000 in
set_option maxHeartbeats 4000000 in
theorem ct_lowWhen {g : GG} {h : HP} {Post : Option Value → HP → Prop} (o : Nat) (c : Int64) (p : Int32) (hk : kd o = 4) (hl : liv h o = true) (hp : Post (some (.long (sLo h o c p))) h) : CT g mX4_lowWhen [.ref o, .long c, .int p] h Post := by
  show WP g mX4_lowWhen 0 [(0, .ref o), (1, .long c), (3, .int p)] [] h 0 0 Post
  refine wp_aload_n dX4_lowWhen_0 rfl 0 rfl ?_
  refine wp_getL dX4_lowWhen_1 flX4_13 rfl hk hl ?_
  refine wp_lload_n dX4_lowWhen_4 rfl 1 rfl ?_
  refine wp_aload_n dX4_lowWhen_5 rfl 0 rfl ?_
  refine wp_getL dX4_lowWhen_6 flX4_20 rfl hk hl ?_
  refine wp_lsub dX4_lowWhen_9 ?_
  refine wp_iload_n dX4_lowWhen_10 rfl 2 rfl ?_
  refine wp_callSN mX6_atLeast [.long (c - (vL h o 3)), .int p] [.long (vL h o 1)] dX4_lowWhen_11 iX6_atLeast (fun _ => trivial) nlX4_23 stX6_atLeast ⟨by decide, by decide⟩ rfl rfl (Nat.le_of_ble_eq_true rfl) (Nat.le_of_ble_eq_true rfl) (by decide) (by decide) ?_
  refine ct_atLeast (c - (vL h o 3)) p  ?_
  show WP g mX4_lowWhen 14 [(0, .ref o), (1, .long c), (3, .int p)] [.long (aLe (c - (vL h o 3)) p), .long (vL h o 1)] _ 0 0 _
  refine wp_ladd dX4_lowWhen_14 ?_
  refine wp_lret dX4_lowWhen_15 rfl (by decide) (by decide) ?_
  exact hp
set_option maxRecDepth 100000 in
set_option maxHeartbeats 4000000 in
theorem ct_highWhen {g : GG} {h : HP} {Post : Option Value → HP → Prop} (o : Nat) (c : Int64) (p : Int32) (hk : kd o = 4) (hl : liv h o = true) (hp : Post (some (.long (sHi h o c p))) h) : CT g mX4_highWhen [.ref o, .long c, .int p] h Post := by
  show WP g mX4_highWhen 0 [(0, .ref o), (1, .long c), (3, .int p)] [] h 0 0 Post
  refine wp_aload_n dX4_highWhen_0 rfl 0 rfl ?_
  refine wp_getL dX4_highWhen_1 flX4_17 rfl hk hl ?_
  refine wp_lload_n dX4_highWhen_4 rfl 1 rfl ?_
  refine wp_aload_n dX4_highWhen_5 rfl 0 rfl ?_
  refine wp_getL dX4_highWhen_6 flX4_20 rfl hk hl ?_
  refine wp_lsub dX4_highWhen_9 ?_
  refine wp_iload_n dX4_highWhen_10 rfl 2 rfl ?_
  refine wp_callSN mX6_atMost [.long (c - (vL h o 3)), .int p] [.long (vL h o 2)] dX4_highWhen_11 iX6_atMost (fun _ => trivial) nlX4_29 stX6_atMost ⟨by decide, by decide⟩ rfl rfl (Nat.le_of_ble_eq_true rfl) (Nat.le_of_ble_eq_true rfl) (by decide) (by decide) ?_
  refine ct_atMost (c - (vL h o 3)) p  ?_
  show WP g mX4_highWhen 14 [(0, .ref o), (1, .long c), (3, .int p)] [.long (aMo (c - (vL h o 3)) p), .long (vL h o 2)] _ 0 0 _
  refine wp_ladd dX4_highWhen_14 ?_
  refine wp_lret dX4_highWhen_15 rfl (by decide) (by decide) ?_
  exact hp
set_option maxRecDepth 100000 in
set_option maxHeartbeats 4000000 in
theorem ct_lowAt {g : GG} {h : HP} {Post : Option Value → HP → Prop} (a o : Nat) (now : Int64) (hk : kd a = 2) (hl : liv h a = true) (ho : vP h a 8 = some o) (hko : kd o = 4) (hlo : liv h o = true) (hp : Post (some (.long (cLo h a o now))) h) : CT g mX2_lowAt [.ref a, .long now] h Post := by
  show WP g mX2_lowAt 0 [(0, .ref a), (1, .long now)] [] h 0 0 Post
  refine wp_aload_n dX2_lowAt_0 rfl 0 rfl ?_
  refine wp_getI dX2_lowAt_1 flX2_15 rfl hk hl ?_
  refine wp_iconst (v := 3) dX2_lowAt_4 (by decide) ?_
  refine wp_icmp_ne (tgt := 18) dX2_lowAt_5 (by decide) (fun c_1 => ?_) (fun c_1 => ?_)
  · refine wp_aload_n dX2_lowAt_18 rfl 0 rfl ?_
    refine wp_getP (b := o) dX2_lowAt_19 flX2_37 rfl hk hl ho ?_
    refine wp_aload_n dX2_lowAt_22 rfl 0 rfl ?_
    refine wp_lload_n dX2_lowAt_23 rfl 1 rfl ?_
    refine wp_callV mX2_countedAt a [.long now] [.ref o] (c := 2) dX2_lowAt_24 iX2_countedAt (fun _ => trivial) mlX2_56 imX2_countedAt seX2_countedAt (by decide) rfl hk ⟨by decide, by decide⟩ rfl rfl (Nat.le_of_ble_eq_true rfl) (Nat.le_of_ble_eq_true rfl) (by decide) (by decide) ?_
    refine ct_countedAt a now hk hl ?_
    show WP g mX2_lowAt 27 [(0, .ref a), (1, .long now)] [.long (cCn h a now), .ref o] _ 0 0 _
    refine wp_aload_n dX2_lowAt_27 rfl 0 rfl ?_
    refine wp_getI dX2_lowAt_28 flX2_18 rfl hk hl ?_
    refine wp_callV mX4_lowWhen o [.long (cCn h a now), .int (vI h a 2)] [] (c := 4) dX2_lowAt_31 iX4_lowWhen (fun _ => trivial) mlX2_60 imX4_lowWhen seX4_lowWhen (by decide) rfl hko ⟨by decide, by decide⟩ rfl rfl (Nat.le_of_ble_eq_true rfl) (Nat.le_of_ble_eq_true rfl) (by decide) (by decide) ?_
    refine ct_lowWhen o (cCn h a now) (vI h a 2) hko hlo ?_
    show WP g mX2_lowAt 34 [(0, .ref a), (1, .long now)] [.long (sLo h o (cCn h a now) (vI h a 2))] _ 0 0 _
    refine wp_lret dX2_lowAt_34 rfl (by decide) (by decide) ?_
    rw [show cLo h a o now = _ from if_neg c_1] at hp
    exact hp
  · refine wp_lload_n dX2_lowAt_8 rfl 1 rfl ?_
    refine wp_aload_n dX2_lowAt_9 rfl 0 rfl ?_
    refine wp_getI dX2_lowAt_10 flX2_21 rfl hk hl ?_
    refine wp_i2l dX2_lowAt_13 ?_
    refine wp_lsub dX2_lowAt_14 ?_
    refine wp_goto (tgt := 34) dX2_lowAt_15 (by decide) ?_
    refine wp_lret dX2_lowAt_34 rfl (by decide) (by decide) ?_
    rw [show cLo h a o now = _ from if_pos c_1] at hp
    exact hp
set_option maxRecDepth 100000 in
set_option maxHeartbeats 4000000 in
theorem ct_highAt {g : GG} {h : HP} {Post : Option Value → HP → Prop} (a o : Nat) (now : Int64) (hk : kd a = 2) (hl : liv h a = true) (ho : vP h a 8 = some o) (hko : kd o = 4) (hlo : liv h o = true) (hp : Post (some (.long (cHi h a o now))) h) : CT g mX2_highAt [.ref a, .long now] h Post := by
  show WP g mX2_highAt 0 [(0, .ref a), (1, .long now)] [] h 0 0 Post
  refine wp_aload_n dX2_highAt_0 rfl 0 rfl ?_
  refine wp_getI dX2_highAt_1 flX2_15 rfl hk hl ?_
  refine wp_iconst (v := 3) dX2_highAt_4 (by decide) ?_
  refine wp_icmp_ne (tgt := 18) dX2_highAt_5 (by decide) (fun c_1 => ?_) (fun c_1 => ?_)
  · refine wp_aload_n dX2_highAt_18 rfl 0 rfl ?_
    refine wp_getP (b := o) dX2_highAt_19 flX2_37 rfl hk hl ho ?_
    refine wp_aload_n dX2_highAt_22 rfl 0 rfl ?_
    refine wp_lload_n dX2_highAt_23 rfl 1 rfl ?_
    refine wp_callV mX2_countedAt a [.long now] [.ref o] (c := 2) dX2_highAt_24 iX2_countedAt (fun _ => trivial) mlX2_56 imX2_countedAt seX2_countedAt (by decide) rfl hk ⟨by decide, by decide⟩ rfl rfl (Nat.le_of_ble_eq_true rfl) (Nat.le_of_ble_eq_true rfl) (by decide) (by decide) ?_
    refine ct_countedAt a now hk hl ?_
    show WP g mX2_highAt 27 [(0, .ref a), (1, .long now)] [.long (cCn h a now), .ref o] _ 0 0 _
    refine wp_aload_n dX2_highAt_27 rfl 0 rfl ?_
    refine wp_getI dX2_highAt_28 flX2_18 rfl hk hl ?_
    refine wp_callV mX4_highWhen o [.long (cCn h a now), .int (vI h a 2)] [] (c := 4) dX2_highAt_31 iX4_highWhen (fun _ => trivial) mlX2_64 imX4_highWhen seX4_highWhen (by decide) rfl hko ⟨by decide, by decide⟩ rfl rfl (Nat.le_of_ble_eq_true rfl) (Nat.le_of_ble_eq_true rfl) (by decide) (by decide) ?_
    refine ct_highWhen o (cCn h a now) (vI h a 2) hko hlo ?_
    show WP g mX2_highAt 34 [(0, .ref a), (1, .long now)] [.long (sHi h o (cCn h a now) (vI h a 2))] _ 0 0 _
    refine wp_lret dX2_highAt_34 rfl (by decide) (by decide) ?_
    rw [show cHi h a o now = _ from if_neg c_1] at hp
    exact hp
  · refine wp_lload_n dX2_highAt_8 rfl 1 rfl ?_
    refine wp_aload_n dX2_highAt_9 rfl 0 rfl ?_
    refine wp_getI dX2_highAt_10 flX2_21 rfl hk hl ?_
    refine wp_i2l dX2_highAt_13 ?_
    refine wp_ladd dX2_highAt_14 ?_
    refine wp_goto (tgt := 34) dX2_highAt_15 (by decide) ?_
    refine wp_lret dX2_highAt_34 rfl (by decide) (by decide) ?_
    rw [show cHi h a o now = _ from if_pos c_1] at hp
    exact hp
def cHo (h : HP) (a o : Nat) (now : Int64) : Prop := cLo h a o now ≤ now ∧ now ≤ cHi h a o now
set_option maxRecDepth 100000 in
set_option maxHeartbeats 4000000 in
theorem ct_holds {g : GG} {h : HP} {Post : Option Value → HP → Prop} (a o : Nat) (now : Int64) (hk : kd a = 2) (hl : liv h a = true) (ho : vP h a 8 = some o) (hko : kd o = 4) (hlo : liv h o = true) (hy : cHo h a o now → Post (some (.int 1)) h) (hn : ¬ cHo h a o now → Post (some (.int 0)) h) : CT g mX2_holds [.ref a, .long now] h Post := by
  show WP g mX2_holds 0 [(0, .ref a), (1, .long now)] [] h 0 0 Post
  refine wp_aload_n dX2_holds_0 rfl 0 rfl ?_
  refine wp_lload_n dX2_holds_1 rfl 1 rfl ?_
  refine wp_callV mX2_lowAt a [.long now] [] (c := 2) dX2_holds_2 iX2_lowAt (fun _ => trivial) mlX2_67 imX2_lowAt seX2_lowAt (by decide) rfl hk ⟨by decide, by decide⟩ rfl rfl (Nat.le_of_ble_eq_true rfl) (Nat.le_of_ble_eq_true rfl) (by decide) (by decide) ?_
  refine ct_lowAt a o now hk hl ho hko hlo ?_
  show WP g mX2_holds 5 [(0, .ref a), (1, .long now)] [.long (cLo h a o now)] _ 0 0 _
  refine wp_lload_n dX2_holds_5 rfl 1 rfl ?_
  refine wl_gt (tgt := 24) dX2_holds_6 dX2_holds_7 (by decide) (fun c_1 => ?_) (fun c_1 => ?_)
  · refine wp_iconst (v := 0) dX2_holds_24 (by decide) ?_
    refine wp_zret dX2_holds_25 rfl (by decide) (by decide) rfl ?_
    exact hn (fun q => absurd q.1 (Int64.not_le.mpr c_1))
  · refine wp_lload_n dX2_holds_10 rfl 1 rfl ?_
    refine wp_aload_n dX2_holds_11 rfl 0 rfl ?_
    refine wp_lload_n dX2_holds_12 rfl 1 rfl ?_
    refine wp_callV mX2_highAt a [.long now] [.long now] (c := 2) dX2_holds_13 iX2_highAt (fun _ => trivial) mlX2_70 imX2_highAt seX2_highAt (by decide) rfl hk ⟨by decide, by decide⟩ rfl rfl (Nat.le_of_ble_eq_true rfl) (Nat.le_of_ble_eq_true rfl) (by decide) (by decide) ?_
    refine ct_highAt a o now hk hl ho hko hlo ?_
    show WP g mX2_holds 16 [(0, .ref a), (1, .long now)] [.long (cHi h a o now), .long now] _ 0 0 _
    refine wl_gt (tgt := 24) dX2_holds_16 dX2_holds_17 (by decide) (fun c_2 => ?_) (fun c_2 => ?_)
    · refine wp_iconst (v := 0) dX2_holds_24 (by decide) ?_
      refine wp_zret dX2_holds_25 rfl (by decide) (by decide) rfl ?_
      exact hn (fun q => absurd q.2 (Int64.not_le.mpr c_2))
    · refine wp_iconst (v := 1) dX2_holds_20 (by decide) ?_
      refine wp_goto (tgt := 25) dX2_holds_21 (by decide) ?_
      refine wp_zret dX2_holds_25 rfl (by decide) (by decide) rfl ?_
      exact hy ⟨Int64.not_lt.mp c_1, Int64.not_lt.mp c_2⟩
/-- the span that a member has heard of another, if it has -/
def hsp (h : HP) (r j : Nat) : Option Nat := match vP h r j with
  | none => none
  | some b => if vI h b 0 = 0 then none else some b
set_option maxRecDepth 100000 in
set_option maxHeartbeats 4000000 in
theorem ct_spanOf {g : GG} {h : HP} {Post : Option Value → HP → Prop} (a r : Nat) (j : Nat) (hk : kd a = 2) (hl : liv h a = true) (hr : vP h a 9 = some r) (hkr : kd r = 14) (hlr : liv h r = true) (hn : ln r = 10) (hj : j < 10) (hb : ∀ b, vP h r j = some b → kd b = 4 ∧ liv h b = true) (hN : hsp h r j = none → Post (some .null) h) (hS : ∀ b, hsp h r j = some b → Post (some (.ref b)) h) : CT g mX2_spanOf [.ref a, .int (nI j)] h Post := by
  show WP g mX2_spanOf 0 [(0, .ref a), (1, .int (nI j))] [] h 0 0 Post
  refine wp_iload_n dX2_spanOf_0 rfl 1 rfl ?_
  refine wp_if_lt (tgt := 13) dX2_spanOf_1 (by decide) (fun c_1 => absurd c_1 (nI_pos (by omega))) (fun _ => ?_)
  refine wp_iload_n dX2_spanOf_4 rfl 1 rfl ?_
  refine wp_aload_n dX2_spanOf_5 rfl 0 rfl ?_
  refine wp_getP (b := r) dX2_spanOf_6 flX2_48 rfl hk hl hr ?_
  refine wp_alen (n := nI 10) dX2_spanOf_9 hkr (by decide) (by decide) hlr (by rw [hn]; rfl) ?_
  refine wp_icmp_lt (tgt := 15) dX2_spanOf_10 (by decide) (fun _ => ?_) (fun c_2 => absurd (nI_lt hj (by omega)) c_2)
  refine wp_aload_n dX2_spanOf_15 rfl 0 rfl ?_
  refine wp_getP (b := r) dX2_spanOf_16 flX2_48 rfl hk hl hr ?_
  refine wp_iload_n dX2_spanOf_19 rfl 1 rfl ?_
  cases hv : vP h r j with
  | none =>
    refine wv_aaldN j dX2_spanOf_20 hkr (by decide) (by decide) hlr rfl (by rw [hn]; exact hj) hv ?_
    refine wp_astore_nN (lv' := [(2, .null), (0, .ref a), (1, .int (nI j))]) dX2_spanOf_21 rfl (by decide) rfl ?_
    refine wp_aload_nN dX2_spanOf_22 rfl 0 rfl ?_
    refine wp_ifnullN (tgt := 33) dX2_spanOf_23 (by decide) ?_
    refine wp_null dX2_spanOf_33 ?_
    refine wp_pc (pc' := 34) rfl ?_
    refine wp_goto (tgt := 38) dX2_spanOf_34 (by decide) ?_
    refine wp_aretN dX2_spanOf_38 rfl (by decide) (by decide) ?_
    exact hN (by simp [hsp, hv])
  | some b =>
    refine wv_aald j b dX2_spanOf_20 hkr (by decide) (by decide) hlr rfl (by rw [hn]; exact hj) hv ?_
    refine wp_astore_n (lv' := [(2, .ref b), (0, .ref a), (1, .int (nI j))]) dX2_spanOf_21 rfl (by decide) rfl ?_
    refine wp_aload_n dX2_spanOf_22 rfl 0 rfl ?_
    refine wp_ifnull dX2_spanOf_23 ?_
    refine wp_aload_n dX2_spanOf_26 rfl 0 rfl ?_
    refine wp_pc (pc' := 27) rfl ?_
    refine wp_getI dX2_spanOf_27 flX2_73 rfl (hb b hv).1 (hb b hv).2 ?_
    refine wp_if_ne (tgt := 37) dX2_spanOf_30 (by decide) (fun c_3 => ?_) (fun c_3 => ?_)
    · refine wp_aload_n dX2_spanOf_37 rfl 0 rfl ?_
      refine wp_aret dX2_spanOf_38 rfl (by decide) (by decide) ?_
      exact hS b (by simp [hsp, hv, c_3])
    · refine wp_null dX2_spanOf_33 ?_
      refine wp_goto (tgt := 38) dX2_spanOf_34 (by decide) ?_
      refine wp_aretN dX2_spanOf_38 rfl (by decide) (by decide) ?_
      exact hN (by simp [hsp, hv, c_3])
theorem hsp_b {h : HP} {r j b : Nat} (hb : ∀ b, vP h r j = some b → kd b = 4 ∧ liv h b = true) (hv : hsp h r j = some b) : kd b = 4 ∧ liv h b = true := by
  unfold hsp at hv
  cases e : vP h r j with
  | none => rw [e] at hv; cases hv
  | some q =>
    rw [e] at hv
    by_cases hz : vI h q 0 = 0
    · simp [hz] at hv
    · simp [hz] at hv; subst hv; exact hb q e
set_option maxRecDepth 100000 in
set_option maxHeartbeats 4000000 in
theorem ct_hasHeardOf {g : GG} {h : HP} {Post : Option Value → HP → Prop} (a r : Nat) (j : Nat) (hk : kd a = 2) (hl : liv h a = true) (hr : vP h a 9 = some r) (hkr : kd r = 14) (hlr : liv h r = true) (hn : ln r = 10) (hj : j < 10) (hb : ∀ b, vP h r j = some b → kd b = 4 ∧ liv h b = true) (hN : hsp h r j = none → Post (some (.int 0)) h) (hS : ∀ b, hsp h r j = some b → Post (some (.int 1)) h) : CT g mX2_hasHeardOf [.ref a, .int (nI j)] h Post := by
  show WP g mX2_hasHeardOf 0 [(0, .ref a), (1, .int (nI j))] [] h 0 0 Post
  refine wp_aload_n dX2_hasHeardOf_0 rfl 0 rfl ?_
  refine wp_iload_n dX2_hasHeardOf_1 rfl 1 rfl ?_
  refine wp_callV mX2_spanOf a [.int (nI j)] [] (c := 2) dX2_hasHeardOf_2 iX2_spanOf (fun _ => trivial) mlX2_77 imX2_spanOf seX2_spanOf (by decide) rfl hk ⟨by decide, by decide⟩ rfl rfl (Nat.le_of_ble_eq_true rfl) (Nat.le_of_ble_eq_true rfl) (by decide) (by decide) ?_
  refine ct_spanOf a r j hk hl hr hkr hlr hn hj hb (fun hv => ?_) (fun b hv => ?_)
  · show WP g mX2_hasHeardOf 5 [(0, .ref a), (1, .int (nI j))] [.null] _ 0 0 _
    refine wp_ifnullN (tgt := 12) dX2_hasHeardOf_5 (by decide) ?_
    refine wp_iconst (v := 0) dX2_hasHeardOf_12 (by decide) ?_
    refine wp_zret dX2_hasHeardOf_13 rfl (by decide) (by decide) rfl ?_
    exact hN hv
  · show WP g mX2_hasHeardOf 5 [(0, .ref a), (1, .int (nI j))] [.ref b] _ 0 0 _
    refine wp_ifnull dX2_hasHeardOf_5 ?_
    refine wp_iconst (v := 1) dX2_hasHeardOf_8 (by decide) ?_
    refine wp_goto (tgt := 13) dX2_hasHeardOf_9 (by decide) ?_
    refine wp_zret dX2_hasHeardOf_13 rfl (by decide) (by decide) rfl ?_
    exact hS b hv
set_option maxRecDepth 100000 in
set_option maxHeartbeats 4000000 in
theorem ct_heardLowAt {g : GG} {h : HP} {Post : Option Value → HP → Prop} (now : Int64) (a r : Nat) (j : Nat) (hk : kd a = 2) (hl : liv h a = true) (hr : vP h a 9 = some r) (hkr : kd r = 14) (hlr : liv h r = true) (hn : ln r = 10) (hj : j < 10) (hb : ∀ b, vP h r j = some b → kd b = 4 ∧ liv h b = true) (hN : hsp h r j = none → Post (some (.long (-9000000000000000000))) h) (hS : ∀ b, hsp h r j = some b → Post (some (.long (sLo h b (cCn h a now) (vI h a 2)))) h) : CT g mX2_heardLowAt [.ref a, .int (nI j), .long now] h Post := by
  show WP g mX2_heardLowAt 0 [(0, .ref a), (1, .int (nI j)), (2, .long now)] [] h 0 0 Post
  refine wp_aload_n dX2_heardLowAt_0 rfl 0 rfl ?_
  refine wp_iload_n dX2_heardLowAt_1 rfl 1 rfl ?_
  refine wp_callV mX2_spanOf a [.int (nI j)] [] (c := 2) dX2_heardLowAt_2 iX2_spanOf (fun _ => trivial) mlX2_77 imX2_spanOf seX2_spanOf (by decide) rfl hk ⟨by decide, by decide⟩ rfl rfl (Nat.le_of_ble_eq_true rfl) (Nat.le_of_ble_eq_true rfl) (by decide) (by decide) ?_
  refine ct_spanOf a r j hk hl hr hkr hlr hn hj hb (fun hv => ?_) (fun b hv => ?_)
  · show WP g mX2_heardLowAt 5 [(0, .ref a), (1, .int (nI j)), (2, .long now)] [.null] _ 0 0 _
    refine wp_astoreN (lv' := [(4, .null), (0, .ref a), (1, .int (nI j)), (2, .long now)]) dX2_heardLowAt_5 (by decide) rfl ?_
    refine wp_aloadN dX2_heardLowAt_7 0 rfl ?_
    refine wp_ifnonnullN dX2_heardLowAt_9 ?_
    refine wp_ldc2 dX2_heardLowAt_12 cnX2_81 ?_
    refine wp_goto (tgt := 32) dX2_heardLowAt_15 (by decide) ?_
    refine wp_lret dX2_heardLowAt_32 rfl (by decide) (by decide) ?_
    exact hN hv
  · show WP g mX2_heardLowAt 5 [(0, .ref a), (1, .int (nI j)), (2, .long now)] [.ref b] _ 0 0 _
    refine wp_astore (lv' := [(4, .ref b), (0, .ref a), (1, .int (nI j)), (2, .long now)]) dX2_heardLowAt_5 (by decide) rfl ?_
    refine wp_aload dX2_heardLowAt_7 0 rfl ?_
    refine wp_ifnonnull (tgt := 18) dX2_heardLowAt_9 (by decide) ?_
    refine wp_aload dX2_heardLowAt_18 0 rfl ?_
    refine wp_aload_n dX2_heardLowAt_20 rfl 1 rfl ?_
    refine wp_lload_n dX2_heardLowAt_21 rfl 3 rfl ?_
    refine wp_callV mX2_countedAt a [.long now] [.ref b] (c := 2) dX2_heardLowAt_22 iX2_countedAt (fun _ => trivial) mlX2_56 imX2_countedAt seX2_countedAt (by decide) rfl hk ⟨by decide, by decide⟩ rfl rfl (Nat.le_of_ble_eq_true rfl) (Nat.le_of_ble_eq_true rfl) (by decide) (by decide) ?_
    refine ct_countedAt a now hk hl ?_
    show WP g mX2_heardLowAt 25 [(4, .ref b), (0, .ref a), (1, .int (nI j)), (2, .long now)] [.long (cCn h a now), .ref b] _ 0 0 _
    refine wp_aload_n dX2_heardLowAt_25 rfl 1 rfl ?_
    refine wp_getI dX2_heardLowAt_26 flX2_18 rfl hk hl ?_
    refine wp_callV mX4_lowWhen b [.long (cCn h a now), .int (vI h a 2)] [] (c := 4) dX2_heardLowAt_29 iX4_lowWhen (fun _ => trivial) mlX2_60 imX4_lowWhen seX4_lowWhen (by decide) rfl (hsp_b hb hv).1 ⟨by decide, by decide⟩ rfl rfl (Nat.le_of_ble_eq_true rfl) (Nat.le_of_ble_eq_true rfl) (by decide) (by decide) ?_
    refine ct_lowWhen b (cCn h a now) (vI h a 2) (hsp_b hb hv).1 (hsp_b hb hv).2 ?_
    show WP g mX2_heardLowAt 32 [(4, .ref b), (0, .ref a), (1, .int (nI j)), (2, .long now)] [.long (sLo h b (cCn h a now) (vI h a 2))] _ 0 0 _
    refine wp_lret dX2_heardLowAt_32 rfl (by decide) (by decide) ?_
    exact hS b hv
set_option maxRecDepth 100000 in
set_option maxHeartbeats 4000000 in
theorem ct_heardHighAt {g : GG} {h : HP} {Post : Option Value → HP → Prop} (now : Int64) (a r : Nat) (j : Nat) (hk : kd a = 2) (hl : liv h a = true) (hr : vP h a 9 = some r) (hkr : kd r = 14) (hlr : liv h r = true) (hn : ln r = 10) (hj : j < 10) (hb : ∀ b, vP h r j = some b → kd b = 4 ∧ liv h b = true) (hN : hsp h r j = none → Post (some (.long (-9000000000000000000))) h) (hS : ∀ b, hsp h r j = some b → Post (some (.long (sHi h b (cCn h a now) (vI h a 2)))) h) : CT g mX2_heardHighAt [.ref a, .int (nI j), .long now] h Post := by
  show WP g mX2_heardHighAt 0 [(0, .ref a), (1, .int (nI j)), (2, .long now)] [] h 0 0 Post
  refine wp_aload_n dX2_heardHighAt_0 rfl 0 rfl ?_
  refine wp_iload_n dX2_heardHighAt_1 rfl 1 rfl ?_
  refine wp_callV mX2_spanOf a [.int (nI j)] [] (c := 2) dX2_heardHighAt_2 iX2_spanOf (fun _ => trivial) mlX2_77 imX2_spanOf seX2_spanOf (by decide) rfl hk ⟨by decide, by decide⟩ rfl rfl (Nat.le_of_ble_eq_true rfl) (Nat.le_of_ble_eq_true rfl) (by decide) (by decide) ?_
  refine ct_spanOf a r j hk hl hr hkr hlr hn hj hb (fun hv => ?_) (fun b hv => ?_)
  · show WP g mX2_heardHighAt 5 [(0, .ref a), (1, .int (nI j)), (2, .long now)] [.null] _ 0 0 _
    refine wp_astoreN (lv' := [(4, .null), (0, .ref a), (1, .int (nI j)), (2, .long now)]) dX2_heardHighAt_5 (by decide) rfl ?_
    refine wp_aloadN dX2_heardHighAt_7 0 rfl ?_
    refine wp_ifnonnullN dX2_heardHighAt_9 ?_
    refine wp_ldc2 dX2_heardHighAt_12 cnX2_81 ?_
    refine wp_goto (tgt := 32) dX2_heardHighAt_15 (by decide) ?_
    refine wp_lret dX2_heardHighAt_32 rfl (by decide) (by decide) ?_
    exact hN hv
  · show WP g mX2_heardHighAt 5 [(0, .ref a), (1, .int (nI j)), (2, .long now)] [.ref b] _ 0 0 _
    refine wp_astore (lv' := [(4, .ref b), (0, .ref a), (1, .int (nI j)), (2, .long now)]) dX2_heardHighAt_5 (by decide) rfl ?_
    refine wp_aload dX2_heardHighAt_7 0 rfl ?_
    refine wp_ifnonnull (tgt := 18) dX2_heardHighAt_9 (by decide) ?_
    refine wp_aload dX2_heardHighAt_18 0 rfl ?_
    refine wp_aload_n dX2_heardHighAt_20 rfl 1 rfl ?_
    refine wp_lload_n dX2_heardHighAt_21 rfl 3 rfl ?_
    refine wp_callV mX2_countedAt a [.long now] [.ref b] (c := 2) dX2_heardHighAt_22 iX2_countedAt (fun _ => trivial) mlX2_56 imX2_countedAt seX2_countedAt (by decide) rfl hk ⟨by decide, by decide⟩ rfl rfl (Nat.le_of_ble_eq_true rfl) (Nat.le_of_ble_eq_true rfl) (by decide) (by decide) ?_
    refine ct_countedAt a now hk hl ?_
    show WP g mX2_heardHighAt 25 [(4, .ref b), (0, .ref a), (1, .int (nI j)), (2, .long now)] [.long (cCn h a now), .ref b] _ 0 0 _
    refine wp_aload_n dX2_heardHighAt_25 rfl 1 rfl ?_
    refine wp_getI dX2_heardHighAt_26 flX2_18 rfl hk hl ?_
    refine wp_callV mX4_highWhen b [.long (cCn h a now), .int (vI h a 2)] [] (c := 4) dX2_heardHighAt_29 iX4_highWhen (fun _ => trivial) mlX2_64 imX4_highWhen seX4_highWhen (by decide) rfl (hsp_b hb hv).1 ⟨by decide, by decide⟩ rfl rfl (Nat.le_of_ble_eq_true rfl) (Nat.le_of_ble_eq_true rfl) (by decide) (by decide) ?_
    refine ct_highWhen b (cCn h a now) (vI h a 2) (hsp_b hb hv).1 (hsp_b hb hv).2 ?_
    show WP g mX2_heardHighAt 32 [(4, .ref b), (0, .ref a), (1, .int (nI j)), (2, .long now)] [.long (sHi h b (cCn h a now) (vI h a 2))] _ 0 0 _
    refine wp_lret dX2_heardHighAt_32 rfl (by decide) (by decide) ?_
    exact hS b hv
