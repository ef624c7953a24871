/-! contracts: the model's methods, second part -/
def mCn (h : HP) (m : Nat) : Int64 := flo ((vL h 100 0 - vL h 106 m) * vL h 107 m) (vL h 108 m)
def mAL (h : HP) (m : Nat) (d : Int64) : Int64 := flo ((d - 1) * 1000) (1000 + vL h 104 m) + 1
def mAM (h : HP) (m : Nat) (d : Int64) : Int64 := cei ((d + 1) * 1000) (1000 - vL h 104 m) - 1
def mLo (h : HP) (m : Nat) : Int64 := if vI h 103 m = 3 then vL h 100 0 - vL h 105 m else vL h 109 m + mAL h m (mCn h m - vL h 111 m)
def mHi (h : HP) (m : Nat) : Int64 := if vI h 103 m = 3 then vL h 100 0 + vL h 105 m else vL h 110 m + mAM h m (mCn h m - vL h 111 m)
def mHL (h : HP) (m q : Nat) : Int64 := vL h 120 q + mAL h m (mCn h m - vL h 122 q)
def mHH (h : HP) (m q : Nat) : Int64 := vL h 121 q + mAM h m (mCn h m - vL h 122 q)
/-- divisors of a member aren't 0 -/
def DV (h : HP) (m : Nat) : Prop := ¬ vL h 108 m = 0 ∧ ¬ 1000 + vL h 104 m = 0 ∧ ¬ 1000 - vL h 104 m = 0
theorem DV_eq {h h' : HP} {m : Nat} (e1 : vL h' 108 m = vL h 108 m) (e2 : vL h' 104 m = vL h 104 m) (hd : DV h m) : DV h' m := by unfold DV at *; rw [e1, e2]; exact hd
set_option maxRecDepth 100000 in
set_option maxHeartbeats 4000000 in
theorem cm_counterOf {g : GG} {h : HP} {Post : Option Value → HP → Prop} (m : Nat) (hm : m < 10) (hW : MW h) (hd : DV h m) (hp : Post (some (.long (mCn h m))) h) : CT g mX7_counterOf [.ref 100, .int (nI m)] h Post := by
  show WP g mX7_counterOf 0 [(0, .ref 100), (1, .int (nI m))] [] h 0 0 Post
  refine wp_aload_n dX7_counterOf_0 rfl 0 rfl ?_
  refine wp_getL dX7_counterOf_1 flX7_149 rfl rfl hW.1 ?_
  refine wp_aload_n dX7_counterOf_4 rfl 0 rfl ?_
  refine wp_getP (b := 106) dX7_counterOf_5 flX7_20 rfl rfl hW.1 (hW.2 5 rfl).2 ?_
  refine wp_iload_n dX7_counterOf_8 rfl 1 rfl ?_
  refine wv_lald m (vL h 106 m) dX7_counterOf_9 rfl (hW.2 5 rfl).1 rfl (by show m < 10; omega) rfl ?_
  refine wp_lsub dX7_counterOf_10 ?_
  refine wp_aload_n dX7_counterOf_11 rfl 0 rfl ?_
  refine wp_getP (b := 107) dX7_counterOf_12 flX7_23 rfl rfl hW.1 (hW.2 6 rfl).2 ?_
  refine wp_iload_n dX7_counterOf_15 rfl 1 rfl ?_
  refine wv_lald m (vL h 107 m) dX7_counterOf_16 rfl (hW.2 6 rfl).1 rfl (by show m < 10; omega) rfl ?_
  refine wp_lmul dX7_counterOf_17 ?_
  refine wp_aload_n dX7_counterOf_18 rfl 0 rfl ?_
  refine wp_getP (b := 108) dX7_counterOf_19 flX7_26 rfl rfl hW.1 (hW.2 7 rfl).2 ?_
  refine wp_iload_n dX7_counterOf_22 rfl 1 rfl ?_
  refine wp_pc (pc' := 23) rfl ?_
  refine wv_lald m (vL h 108 m) dX7_counterOf_23 rfl (hW.2 7 rfl).1 rfl (by show m < 10; omega) rfl ?_
  refine wp_callS mX7_floor [.long (((vL h 100 0) - (vL h 106 m)) * (vL h 107 m)), .long (vL h 108 m)] [] dX7_counterOf_24 iX7_floor (fun _ => trivial) mlX7_135 stX7_floor ⟨by decide, by decide⟩ rfl rfl (Nat.le_of_ble_eq_true rfl) (Nat.le_of_ble_eq_true rfl) (by decide) (by decide) ?_
  refine ct_flo (((vL h 100 0) - (vL h 106 m)) * (vL h 107 m)) (vL h 108 m) hd.1 ?_
  show WP g mX7_counterOf 27 [(0, .ref 100), (1, .int (nI m))] [.long (flo (((vL h 100 0) - (vL h 106 m)) * (vL h 107 m)) (vL h 108 m))] _ 0 0 _
  refine wp_lret dX7_counterOf_27 rfl (by decide) (by decide) ?_
  exact hp
set_option maxRecDepth 100000 in
set_option maxHeartbeats 4000000 in
theorem cm_atLeast {g : GG} {h : HP} {Post : Option Value → HP → Prop} (m : Nat) (hm : m < 10) (hW : MW h) (hd : DV h m) (d : Int64) (hp : Post (some (.long (mAL h m d))) h) : CT g mX7_atLeast [.ref 100, .int (nI m), .long d] h Post := by
  show WP g mX7_atLeast 0 [(0, .ref 100), (1, .int (nI m)), (2, .long d)] [] h 0 0 Post
  refine wp_lload_n dX7_atLeast_0 rfl 2 rfl ?_
  refine wp_lconst (v := 1) dX7_atLeast_1 rfl ?_
  refine wp_lsub dX7_atLeast_2 ?_
  refine wp_ldc2 dX7_atLeast_3 cnX7_167 ?_
  refine wp_lmul dX7_atLeast_6 ?_
  refine wp_ldc2 dX7_atLeast_7 cnX7_167 ?_
  refine wp_aload_n dX7_atLeast_10 rfl 0 rfl ?_
  refine wp_getP (b := 104) dX7_atLeast_11 flX7_13 rfl rfl hW.1 (hW.2 3 rfl).2 ?_
  refine wp_iload_n dX7_atLeast_14 rfl 1 rfl ?_
  refine wv_lald m (vL h 104 m) dX7_atLeast_15 rfl (hW.2 3 rfl).1 rfl (by show m < 10; omega) rfl ?_
  refine wp_ladd dX7_atLeast_16 ?_
  refine wp_callS mX7_floor [.long ((d - 1) * 1000), .long (1000 + (vL h 104 m))] [] dX7_atLeast_17 iX7_floor (fun _ => trivial) mlX7_135 stX7_floor ⟨by decide, by decide⟩ rfl rfl (Nat.le_of_ble_eq_true rfl) (Nat.le_of_ble_eq_true rfl) (by decide) (by decide) ?_
  refine ct_flo ((d - 1) * 1000) (1000 + (vL h 104 m)) hd.2.1 ?_
  show WP g mX7_atLeast 20 [(0, .ref 100), (1, .int (nI m)), (2, .long d)] [.long (flo ((d - 1) * 1000) (1000 + (vL h 104 m)))] _ 0 0 _
  refine wp_lconst (v := 1) dX7_atLeast_20 rfl ?_
  refine wp_ladd dX7_atLeast_21 ?_
  refine wp_lret dX7_atLeast_22 rfl (by decide) (by decide) ?_
  exact hp
set_option maxRecDepth 100000 in
set_option maxHeartbeats 4000000 in
theorem cm_atMost {g : GG} {h : HP} {Post : Option Value → HP → Prop} (m : Nat) (hm : m < 10) (hW : MW h) (hd : DV h m) (d : Int64) (hp : Post (some (.long (mAM h m d))) h) : CT g mX7_atMost [.ref 100, .int (nI m), .long d] h Post := by
  show WP g mX7_atMost 0 [(0, .ref 100), (1, .int (nI m)), (2, .long d)] [] h 0 0 Post
  refine wp_lload_n dX7_atMost_0 rfl 2 rfl ?_
  refine wp_lconst (v := 1) dX7_atMost_1 rfl ?_
  refine wp_ladd dX7_atMost_2 ?_
  refine wp_ldc2 dX7_atMost_3 cnX7_167 ?_
  refine wp_lmul dX7_atMost_6 ?_
  refine wp_ldc2 dX7_atMost_7 cnX7_167 ?_
  refine wp_aload_n dX7_atMost_10 rfl 0 rfl ?_
  refine wp_getP (b := 104) dX7_atMost_11 flX7_13 rfl rfl hW.1 (hW.2 3 rfl).2 ?_
  refine wp_iload_n dX7_atMost_14 rfl 1 rfl ?_
  refine wv_lald m (vL h 104 m) dX7_atMost_15 rfl (hW.2 3 rfl).1 rfl (by show m < 10; omega) rfl ?_
  refine wp_lsub dX7_atMost_16 ?_
  refine wp_callS mX7_ceil [.long ((d + 1) * 1000), .long (1000 - (vL h 104 m))] [] dX7_atMost_17 iX7_ceil (fun _ => trivial) mlX7_177 stX7_ceil ⟨by decide, by decide⟩ rfl rfl (Nat.le_of_ble_eq_true rfl) (Nat.le_of_ble_eq_true rfl) (by decide) (by decide) ?_
  refine ct_cei ((d + 1) * 1000) (1000 - (vL h 104 m)) hd.2.2 ?_
  show WP g mX7_atMost 20 [(0, .ref 100), (1, .int (nI m)), (2, .long d)] [.long (cei ((d + 1) * 1000) (1000 - (vL h 104 m)))] _ 0 0 _
  refine wp_lconst (v := 1) dX7_atMost_20 rfl ?_
  refine wp_lsub dX7_atMost_21 ?_
  refine wp_lret dX7_atMost_22 rfl (by decide) (by decide) ?_
  exact hp
set_option maxRecDepth 100000 in
set_option maxHeartbeats 4000000 in
theorem cm_lowOf {g : GG} {h : HP} {Post : Option Value → HP → Prop} (m : Nat) (hm : m < 10) (hW : MW h) (hd : DV h m) (hp : Post (some (.long (mLo h m))) h) : CT g mX7_lowOf [.ref 100, .int (nI m)] h Post := by
  show WP g mX7_lowOf 0 [(0, .ref 100), (1, .int (nI m))] [] h 0 0 Post
  refine wp_aload_n dX7_lowOf_0 rfl 0 rfl ?_
  refine wp_getP (b := 103) dX7_lowOf_1 flX7_7 rfl rfl hW.1 (hW.2 2 rfl).2 ?_
  refine wp_iload_n dX7_lowOf_4 rfl 1 rfl ?_
  refine wv_iald m (vI h 103 m) dX7_lowOf_5 rfl (hW.2 2 rfl).1 rfl (by show m < 10; omega) rfl ?_
  refine wp_iconst (v := 3) dX7_lowOf_6 (by decide) ?_
  refine wp_icmp_ne (tgt := 24) dX7_lowOf_7 (by decide) (fun c_1 => ?_) (fun c_1 => ?_)
  · refine wp_aload_n dX7_lowOf_24 rfl 0 rfl ?_
    refine wp_getP (b := 109) dX7_lowOf_25 flX7_29 rfl rfl hW.1 (hW.2 8 rfl).2 ?_
    refine wp_iload_n dX7_lowOf_28 rfl 1 rfl ?_
    refine wv_lald m (vL h 109 m) dX7_lowOf_29 rfl (hW.2 8 rfl).1 rfl (by show m < 10; omega) rfl ?_
    refine wp_aload_n dX7_lowOf_30 rfl 0 rfl ?_
    refine wp_iload_n dX7_lowOf_31 rfl 1 rfl ?_
    refine wp_aload_n dX7_lowOf_32 rfl 0 rfl ?_
    refine wp_iload_n dX7_lowOf_33 rfl 1 rfl ?_
    refine wp_callV mX7_counterOf 100 [.int (nI m)] [.int (nI m), .ref 100, .long (vL h 109 m)] (c := 7) dX7_lowOf_34 iX7_counterOf (fun _ => trivial) mlX7_173 imX7_counterOf seX7_counterOf (by decide) rfl rfl ⟨by decide, by decide⟩ rfl rfl (Nat.le_of_ble_eq_true rfl) (Nat.le_of_ble_eq_true rfl) (by decide) (by decide) ?_
    refine cm_counterOf m hm hW hd ?_
    show WP g mX7_lowOf 37 [(0, .ref 100), (1, .int (nI m))] [.long (mCn h m), .int (nI m), .ref 100, .long (vL h 109 m)] _ 0 0 _
    refine wp_aload_n dX7_lowOf_37 rfl 0 rfl ?_
    refine wp_getP (b := 111) dX7_lowOf_38 flX7_35 rfl rfl hW.1 (hW.2 10 rfl).2 ?_
    refine wp_iload_n dX7_lowOf_41 rfl 1 rfl ?_
    refine wv_lald m (vL h 111 m) dX7_lowOf_42 rfl (hW.2 10 rfl).1 rfl (by show m < 10; omega) rfl ?_
    refine wp_lsub dX7_lowOf_43 ?_
    refine wp_pc (pc' := 44) rfl ?_
    refine wp_callV mX7_atLeast 100 [.int (nI m), .long ((mCn h m) - (vL h 111 m))] [.long (vL h 109 m)] (c := 7) dX7_lowOf_44 iX7_atLeast (fun _ => trivial) mlX7_180 imX7_atLeast seX7_atLeast (by decide) rfl rfl ⟨by decide, by decide⟩ rfl rfl (Nat.le_of_ble_eq_true rfl) (Nat.le_of_ble_eq_true rfl) (by decide) (by decide) ?_
    refine cm_atLeast m hm hW hd ((mCn h m) - (vL h 111 m)) ?_
    show WP g mX7_lowOf 47 [(0, .ref 100), (1, .int (nI m))] [.long (mAL h m ((mCn h m) - (vL h 111 m))), .long (vL h 109 m)] _ 0 0 _
    refine wp_ladd dX7_lowOf_47 ?_
    refine wp_lret dX7_lowOf_48 rfl (by decide) (by decide) ?_
    rw [show mLo h m = _ from if_neg c_1] at hp
    exact hp
  · refine wp_aload_n dX7_lowOf_10 rfl 0 rfl ?_
    refine wp_getL dX7_lowOf_11 flX7_149 rfl rfl hW.1 ?_
    refine wp_aload_n dX7_lowOf_14 rfl 0 rfl ?_
    refine wp_getP (b := 105) dX7_lowOf_15 flX7_17 rfl rfl hW.1 (hW.2 4 rfl).2 ?_
    refine wp_iload_n dX7_lowOf_18 rfl 1 rfl ?_
    refine wv_lald m (vL h 105 m) dX7_lowOf_19 rfl (hW.2 4 rfl).1 rfl (by show m < 10; omega) rfl ?_
    refine wp_lsub dX7_lowOf_20 ?_
    refine wp_goto (tgt := 48) dX7_lowOf_21 (by decide) ?_
    refine wp_lret dX7_lowOf_48 rfl (by decide) (by decide) ?_
    rw [show mLo h m = _ from if_pos c_1] at hp
    exact hp
set_option maxRecDepth 100000 in
set_option maxHeartbeats 4000000 in
theorem cm_highOf {g : GG} {h : HP} {Post : Option Value → HP → Prop} (m : Nat) (hm : m < 10) (hW : MW h) (hd : DV h m) (hp : Post (some (.long (mHi h m))) h) : CT g mX7_highOf [.ref 100, .int (nI m)] h Post := by
  show WP g mX7_highOf 0 [(0, .ref 100), (1, .int (nI m))] [] h 0 0 Post
  refine wp_aload_n dX7_highOf_0 rfl 0 rfl ?_
  refine wp_getP (b := 103) dX7_highOf_1 flX7_7 rfl rfl hW.1 (hW.2 2 rfl).2 ?_
  refine wp_iload_n dX7_highOf_4 rfl 1 rfl ?_
  refine wv_iald m (vI h 103 m) dX7_highOf_5 rfl (hW.2 2 rfl).1 rfl (by show m < 10; omega) rfl ?_
  refine wp_iconst (v := 3) dX7_highOf_6 (by decide) ?_
  refine wp_icmp_ne (tgt := 24) dX7_highOf_7 (by decide) (fun c_1 => ?_) (fun c_1 => ?_)
  · refine wp_aload_n dX7_highOf_24 rfl 0 rfl ?_
    refine wp_getP (b := 110) dX7_highOf_25 flX7_32 rfl rfl hW.1 (hW.2 9 rfl).2 ?_
    refine wp_iload_n dX7_highOf_28 rfl 1 rfl ?_
    refine wv_lald m (vL h 110 m) dX7_highOf_29 rfl (hW.2 9 rfl).1 rfl (by show m < 10; omega) rfl ?_
    refine wp_aload_n dX7_highOf_30 rfl 0 rfl ?_
    refine wp_iload_n dX7_highOf_31 rfl 1 rfl ?_
    refine wp_aload_n dX7_highOf_32 rfl 0 rfl ?_
    refine wp_iload_n dX7_highOf_33 rfl 1 rfl ?_
    refine wp_callV mX7_counterOf 100 [.int (nI m)] [.int (nI m), .ref 100, .long (vL h 110 m)] (c := 7) dX7_highOf_34 iX7_counterOf (fun _ => trivial) mlX7_173 imX7_counterOf seX7_counterOf (by decide) rfl rfl ⟨by decide, by decide⟩ rfl rfl (Nat.le_of_ble_eq_true rfl) (Nat.le_of_ble_eq_true rfl) (by decide) (by decide) ?_
    refine cm_counterOf m hm hW hd ?_
    show WP g mX7_highOf 37 [(0, .ref 100), (1, .int (nI m))] [.long (mCn h m), .int (nI m), .ref 100, .long (vL h 110 m)] _ 0 0 _
    refine wp_aload_n dX7_highOf_37 rfl 0 rfl ?_
    refine wp_getP (b := 111) dX7_highOf_38 flX7_35 rfl rfl hW.1 (hW.2 10 rfl).2 ?_
    refine wp_iload_n dX7_highOf_41 rfl 1 rfl ?_
    refine wv_lald m (vL h 111 m) dX7_highOf_42 rfl (hW.2 10 rfl).1 rfl (by show m < 10; omega) rfl ?_
    refine wp_lsub dX7_highOf_43 ?_
    refine wp_pc (pc' := 44) rfl ?_
    refine wp_callV mX7_atMost 100 [.int (nI m), .long ((mCn h m) - (vL h 111 m))] [.long (vL h 110 m)] (c := 7) dX7_highOf_44 iX7_atMost (fun _ => trivial) mlX7_184 imX7_atMost seX7_atMost (by decide) rfl rfl ⟨by decide, by decide⟩ rfl rfl (Nat.le_of_ble_eq_true rfl) (Nat.le_of_ble_eq_true rfl) (by decide) (by decide) ?_
    refine cm_atMost m hm hW hd ((mCn h m) - (vL h 111 m)) ?_
    show WP g mX7_highOf 47 [(0, .ref 100), (1, .int (nI m))] [.long (mAM h m ((mCn h m) - (vL h 111 m))), .long (vL h 110 m)] _ 0 0 _
    refine wp_ladd dX7_highOf_47 ?_
    refine wp_lret dX7_highOf_48 rfl (by decide) (by decide) ?_
    rw [show mHi h m = _ from if_neg c_1] at hp
    exact hp
  · refine wp_aload_n dX7_highOf_10 rfl 0 rfl ?_
    refine wp_getL dX7_highOf_11 flX7_149 rfl rfl hW.1 ?_
    refine wp_aload_n dX7_highOf_14 rfl 0 rfl ?_
    refine wp_getP (b := 105) dX7_highOf_15 flX7_17 rfl rfl hW.1 (hW.2 4 rfl).2 ?_
    refine wp_iload_n dX7_highOf_18 rfl 1 rfl ?_
    refine wv_lald m (vL h 105 m) dX7_highOf_19 rfl (hW.2 4 rfl).1 rfl (by show m < 10; omega) rfl ?_
    refine wp_ladd dX7_highOf_20 ?_
    refine wp_goto (tgt := 48) dX7_highOf_21 (by decide) ?_
    refine wp_lret dX7_highOf_48 rfl (by decide) (by decide) ?_
    rw [show mHi h m = _ from if_pos c_1] at hp
    exact hp
set_option maxRecDepth 100000 in
set_option maxHeartbeats 4000000 in
theorem cm_heardLowOf {g : GG} {h : HP} {Post : Option Value → HP → Prop} (m : Nat) (hm : m < 10) (hW : MW h) (hd : DV h m) (n : Nat) (hn : n < 10) (hp : Post (some (.long (mHL h m (10 * m + n)))) h) : CT g mX7_heardLowOf [.ref 100, .int (nI m), .int (nI n)] h Post := by
  show WP g mX7_heardLowOf 0 [(0, .ref 100), (1, .int (nI m)), (2, .int (nI n))] [] h 0 0 Post
  refine wp_aload_n dX7_heardLowOf_0 rfl 0 rfl ?_
  refine wp_getP (b := 120) dX7_heardLowOf_1 flX7_63 rfl rfl hW.1 (hW.2 19 rfl).2 ?_
  refine wp_bipush (v := 10) dX7_heardLowOf_4 (by decide) ?_
  refine wp_iload_n dX7_heardLowOf_6 rfl 1 rfl ?_
  refine wv_imul (nI (10 * m)) (wN_mul rfl rfl) dX7_heardLowOf_7 ?_
  refine wp_iload_n dX7_heardLowOf_8 rfl 2 rfl ?_
  refine wv_iadd (nI ((10 * m) + n)) (wN_add rfl rfl) dX7_heardLowOf_9 ?_
  refine wv_lald (10 * m + n) (vL h 120 (10 * m + n)) dX7_heardLowOf_10 rfl (hW.2 19 rfl).1 rfl (by show 10 * m + n < 100; omega) rfl ?_
  refine wp_aload_n dX7_heardLowOf_11 rfl 0 rfl ?_
  refine wp_iload_n dX7_heardLowOf_12 rfl 1 rfl ?_
  refine wp_aload_n dX7_heardLowOf_13 rfl 0 rfl ?_
  refine wp_iload_n dX7_heardLowOf_14 rfl 1 rfl ?_
  refine wp_callV mX7_counterOf 100 [.int (nI m)] [.int (nI m), .ref 100, .long (vL h 120 (10 * m + n))] (c := 7) dX7_heardLowOf_15 iX7_counterOf (fun _ => trivial) mlX7_173 imX7_counterOf seX7_counterOf (by decide) rfl rfl ⟨by decide, by decide⟩ rfl rfl (Nat.le_of_ble_eq_true rfl) (Nat.le_of_ble_eq_true rfl) (by decide) (by decide) ?_
  refine cm_counterOf m hm hW hd ?_
  show WP g mX7_heardLowOf 18 [(0, .ref 100), (1, .int (nI m)), (2, .int (nI n))] [.long (mCn h m), .int (nI m), .ref 100, .long (vL h 120 (10 * m + n))] _ 0 0 _
  refine wp_aload_n dX7_heardLowOf_18 rfl 0 rfl ?_
  refine wp_getP (b := 122) dX7_heardLowOf_19 flX7_69 rfl rfl hW.1 (hW.2 21 rfl).2 ?_
  refine wp_pc (pc' := 22) rfl ?_
  refine wp_bipush (v := 10) dX7_heardLowOf_22 (by decide) ?_
  refine wp_iload_n dX7_heardLowOf_24 rfl 1 rfl ?_
  refine wv_imul (nI (10 * m)) (wN_mul rfl rfl) dX7_heardLowOf_25 ?_
  refine wp_iload_n dX7_heardLowOf_26 rfl 2 rfl ?_
  refine wv_iadd (nI ((10 * m) + n)) (wN_add rfl rfl) dX7_heardLowOf_27 ?_
  refine wv_lald (10 * m + n) (vL h 122 (10 * m + n)) dX7_heardLowOf_28 rfl (hW.2 21 rfl).1 rfl (by show 10 * m + n < 100; omega) rfl ?_
  refine wp_lsub dX7_heardLowOf_29 ?_
  refine wp_callV mX7_atLeast 100 [.int (nI m), .long ((mCn h m) - (vL h 122 (10 * m + n)))] [.long (vL h 120 (10 * m + n))] (c := 7) dX7_heardLowOf_30 iX7_atLeast (fun _ => trivial) mlX7_180 imX7_atLeast seX7_atLeast (by decide) rfl rfl ⟨by decide, by decide⟩ rfl rfl (Nat.le_of_ble_eq_true rfl) (Nat.le_of_ble_eq_true rfl) (by decide) (by decide) ?_
  refine cm_atLeast m hm hW hd ((mCn h m) - (vL h 122 (10 * m + n))) ?_
  show WP g mX7_heardLowOf 33 [(0, .ref 100), (1, .int (nI m)), (2, .int (nI n))] [.long (mAL h m ((mCn h m) - (vL h 122 (10 * m + n)))), .long (vL h 120 (10 * m + n))] _ 0 0 _
  refine wp_ladd dX7_heardLowOf_33 ?_
  refine wp_lret dX7_heardLowOf_34 rfl (by decide) (by decide) ?_
  exact hp
set_option maxRecDepth 100000 in
set_option maxHeartbeats 4000000 in
theorem cm_heardHighOf {g : GG} {h : HP} {Post : Option Value → HP → Prop} (m : Nat) (hm : m < 10) (hW : MW h) (hd : DV h m) (n : Nat) (hn : n < 10) (hp : Post (some (.long (mHH h m (10 * m + n)))) h) : CT g mX7_heardHighOf [.ref 100, .int (nI m), .int (nI n)] h Post := by
  show WP g mX7_heardHighOf 0 [(0, .ref 100), (1, .int (nI m)), (2, .int (nI n))] [] h 0 0 Post
  refine wp_aload_n dX7_heardHighOf_0 rfl 0 rfl ?_
  refine wp_getP (b := 121) dX7_heardHighOf_1 flX7_66 rfl rfl hW.1 (hW.2 20 rfl).2 ?_
  refine wp_bipush (v := 10) dX7_heardHighOf_4 (by decide) ?_
  refine wp_iload_n dX7_heardHighOf_6 rfl 1 rfl ?_
  refine wv_imul (nI (10 * m)) (wN_mul rfl rfl) dX7_heardHighOf_7 ?_
  refine wp_iload_n dX7_heardHighOf_8 rfl 2 rfl ?_
  refine wv_iadd (nI ((10 * m) + n)) (wN_add rfl rfl) dX7_heardHighOf_9 ?_
  refine wv_lald (10 * m + n) (vL h 121 (10 * m + n)) dX7_heardHighOf_10 rfl (hW.2 20 rfl).1 rfl (by show 10 * m + n < 100; omega) rfl ?_
  refine wp_aload_n dX7_heardHighOf_11 rfl 0 rfl ?_
  refine wp_iload_n dX7_heardHighOf_12 rfl 1 rfl ?_
  refine wp_aload_n dX7_heardHighOf_13 rfl 0 rfl ?_
  refine wp_iload_n dX7_heardHighOf_14 rfl 1 rfl ?_
  refine wp_callV mX7_counterOf 100 [.int (nI m)] [.int (nI m), .ref 100, .long (vL h 121 (10 * m + n))] (c := 7) dX7_heardHighOf_15 iX7_counterOf (fun _ => trivial) mlX7_173 imX7_counterOf seX7_counterOf (by decide) rfl rfl ⟨by decide, by decide⟩ rfl rfl (Nat.le_of_ble_eq_true rfl) (Nat.le_of_ble_eq_true rfl) (by decide) (by decide) ?_
  refine cm_counterOf m hm hW hd ?_
  show WP g mX7_heardHighOf 18 [(0, .ref 100), (1, .int (nI m)), (2, .int (nI n))] [.long (mCn h m), .int (nI m), .ref 100, .long (vL h 121 (10 * m + n))] _ 0 0 _
  refine wp_aload_n dX7_heardHighOf_18 rfl 0 rfl ?_
  refine wp_getP (b := 122) dX7_heardHighOf_19 flX7_69 rfl rfl hW.1 (hW.2 21 rfl).2 ?_
  refine wp_pc (pc' := 22) rfl ?_
  refine wp_bipush (v := 10) dX7_heardHighOf_22 (by decide) ?_
  refine wp_iload_n dX7_heardHighOf_24 rfl 1 rfl ?_
  refine wv_imul (nI (10 * m)) (wN_mul rfl rfl) dX7_heardHighOf_25 ?_
  refine wp_iload_n dX7_heardHighOf_26 rfl 2 rfl ?_
  refine wv_iadd (nI ((10 * m) + n)) (wN_add rfl rfl) dX7_heardHighOf_27 ?_
  refine wv_lald (10 * m + n) (vL h 122 (10 * m + n)) dX7_heardHighOf_28 rfl (hW.2 21 rfl).1 rfl (by show 10 * m + n < 100; omega) rfl ?_
  refine wp_lsub dX7_heardHighOf_29 ?_
  refine wp_callV mX7_atMost 100 [.int (nI m), .long ((mCn h m) - (vL h 122 (10 * m + n)))] [.long (vL h 121 (10 * m + n))] (c := 7) dX7_heardHighOf_30 iX7_atMost (fun _ => trivial) mlX7_184 imX7_atMost seX7_atMost (by decide) rfl rfl ⟨by decide, by decide⟩ rfl rfl (Nat.le_of_ble_eq_true rfl) (Nat.le_of_ble_eq_true rfl) (by decide) (by decide) ?_
  refine cm_atMost m hm hW hd ((mCn h m) - (vL h 122 (10 * m + n))) ?_
  show WP g mX7_heardHighOf 33 [(0, .ref 100), (1, .int (nI m)), (2, .int (nI n))] [.long (mAM h m ((mCn h m) - (vL h 122 (10 * m + n)))), .long (vL h 121 (10 * m + n))] _ 0 0 _
  refine wp_ladd dX7_heardHighOf_33 ?_
  refine wp_lret dX7_heardHighOf_34 rfl (by decide) (by decide) ?_
  exact hp
def hmN (h : HP) (m : Nat) : Nat → Nat
  | 0 => 0
  | n + 1 => hmN h m n + (if vI h 119 (10 * m + n) = 0 then 0 else 1)
theorem hmN_0 {h : HP} {m n : Nat} (hv : vI h 119 (10 * m + n) = 0) : hmN h m n + 0 = hmN h m (n + 1) := by show _ = _ + (if _ then 0 else 1); rw [if_pos hv]
theorem hmN_1 {h : HP} {m n : Nat} (hv : ¬ vI h 119 (10 * m + n) = 0) : hmN h m n + 1 = hmN h m (n + 1) := by show _ = _ + (if _ then 0 else 1); rw [if_neg hv]
set_option maxRecDepth 100000 in
set_option maxHeartbeats 4000000 in
theorem lm_heardMany {g : GG} {h : HP} {Post : Option Value → HP → Prop} (m : Nat) (hm : m < 10) (hW : MW h) (nm : Nat) (hc1 : vI h 100 1 = nI nm) (hnm : nm ≤ 10) (hp : Post (some (.int (nI (hmN h m nm)))) h) : ∀ (k n : Nat), n + k = nm → WP g mX7_heardMany 4 [(0, .ref 100), (1, .int (nI m)), (2, .int (nI (hmN h m n))), (3, .int (nI n))] [] h 0 0 Post := by
  intro k
  induction k with
  | zero =>
    intro n e0
    refine wp_iload_n dX7_heardMany_4 rfl 3 rfl ?_
    refine wp_aload_n dX7_heardMany_5 rfl 0 rfl ?_
    refine wv_getI (nI nm) dX7_heardMany_6 flX7_139 rfl rfl hW.1 hc1 ?_
    refine wp_icmp_ge (tgt := 40) dX7_heardMany_9 (by decide) (fun _ => ?_) (fun c_1 => absurd (nI_le (by omega) (by omega)) c_1)
    refine wp_iload_n dX7_heardMany_40 rfl 2 rfl ?_
    refine wp_iret dX7_heardMany_41 rfl (by decide) (by decide) ?_
    rw [show n = nm by omega]
    exact hp
  | succ k ih =>
    intro n e0
    refine wp_iload_n dX7_heardMany_4 rfl 3 rfl ?_
    refine wp_aload_n dX7_heardMany_5 rfl 0 rfl ?_
    refine wv_getI (nI nm) dX7_heardMany_6 flX7_139 rfl rfl hW.1 hc1 ?_
    refine wp_icmp_ge (tgt := 40) dX7_heardMany_9 (by decide) (fun c_1 => absurd c_1 (nI_ge (by omega) (by omega))) (fun _ => ?_)
    refine wp_iload_n dX7_heardMany_12 rfl 2 rfl ?_
    refine wp_aload_n dX7_heardMany_13 rfl 0 rfl ?_
    refine wp_getP (b := 119) dX7_heardMany_14 flX7_60 rfl rfl hW.1 (hW.2 18 rfl).2 ?_
    refine wp_bipush (v := 10) dX7_heardMany_17 (by decide) ?_
    refine wp_iload_n dX7_heardMany_19 rfl 1 rfl ?_
    refine wv_imul (nI (10 * m)) (wN_mul rfl rfl) dX7_heardMany_20 ?_
    refine wp_iload_n dX7_heardMany_21 rfl 3 rfl ?_
    refine wv_iadd (nI ((10 * m) + n)) (wN_add rfl rfl) dX7_heardMany_22 ?_
    refine wv_bald (10 * m + n) (vI h 119 (10 * m + n)) dX7_heardMany_23 rfl (hW.2 18 rfl).1 rfl (by show 10 * m + n < 100; omega) rfl ?_
    refine wp_if_eq (tgt := 31) dX7_heardMany_24 (by decide) (fun c_2 => ?_) (fun c_2 => ?_)
    · refine wp_iconst (v := 0) dX7_heardMany_31 (by decide) ?_
      refine wv_iadd (nI ((hmN h m n) + 0)) (wN_add rfl rfl) dX7_heardMany_32 ?_
      refine wp_istore_n (lv' := [(2, .int (nI ((hmN h m n) + 0))), (0, .ref 100), (1, .int (nI m)), (3, .int (nI n))]) dX7_heardMany_33 rfl (by decide) rfl ?_
      refine wp_iinc (q := 3) (x := nI n) (v := nI (n + 1)) (lv' := [(3, .int (nI (n + 1))), (2, .int (nI ((hmN h m n) + 0))), (0, .ref 100), (1, .int (nI m))]) dX7_heardMany_34 rfl (nI_1 _) (by decide) rfl ?_
      refine wp_goto (tgt := 4) dX7_heardMany_37 (by decide) ?_
      refine wp_sub [2, 3, 1, 0] rfl ?_
      have q := ih (n + 1) (by omega)
      rw [← hmN_0 c_2] at q
      exact q
    · refine wp_iconst (v := 1) dX7_heardMany_27 (by decide) ?_
      refine wp_goto (tgt := 32) dX7_heardMany_28 (by decide) ?_
      refine wv_iadd (nI ((hmN h m n) + 1)) (wN_add rfl rfl) dX7_heardMany_32 ?_
      refine wp_istore_n (lv' := [(2, .int (nI ((hmN h m n) + 1))), (0, .ref 100), (1, .int (nI m)), (3, .int (nI n))]) dX7_heardMany_33 rfl (by decide) rfl ?_
      refine wp_iinc (q := 3) (x := nI n) (v := nI (n + 1)) (lv' := [(3, .int (nI (n + 1))), (2, .int (nI ((hmN h m n) + 1))), (0, .ref 100), (1, .int (nI m))]) dX7_heardMany_34 rfl (nI_1 _) (by decide) rfl ?_
      refine wp_goto (tgt := 4) dX7_heardMany_37 (by decide) ?_
      refine wp_sub [2, 3, 1, 0] rfl ?_
      have q := ih (n + 1) (by omega)
      rw [← hmN_1 c_2] at q
      exact q
set_option maxRecDepth 100000 in
set_option maxHeartbeats 4000000 in
theorem cm_heardMany {g : GG} {h : HP} {Post : Option Value → HP → Prop} (m : Nat) (hm : m < 10) (hW : MW h) (nm : Nat) (hc1 : vI h 100 1 = nI nm) (hnm : nm ≤ 10) (hp : Post (some (.int (nI (hmN h m nm)))) h) : CT g mX7_heardMany [.ref 100, .int (nI m)] h Post := by
  show WP g mX7_heardMany 0 [(0, .ref 100), (1, .int (nI m))] [] h 0 0 Post
  refine wp_iconst (v := 0) dX7_heardMany_0 (by decide) ?_
  refine wp_istore_n (lv' := [(2, .int 0), (0, .ref 100), (1, .int (nI m))]) dX7_heardMany_1 rfl (by decide) rfl ?_
  refine wp_iconst (v := 0) dX7_heardMany_2 (by decide) ?_
  refine wp_istore_n (lv' := [(3, .int 0), (2, .int 0), (0, .ref 100), (1, .int (nI m))]) dX7_heardMany_3 rfl (by decide) rfl ?_
  refine wp_sub [2, 3, 1, 0] rfl ?_
  exact lm_heardMany m hm hW nm hc1 hnm hp nm 0 (by omega)
set_option maxRecDepth 100000 in
set_option maxHeartbeats 4000000 in
theorem cm_counter0 {g : GG} {h : HP} {Post : Option Value → HP → Prop}  (nm : Nat) (hW : MW h) (hc1 : vI h 100 1 = nI nm) (hnm : nm ≤ 10) (x : Int32) (hx : ¬ inR x nm) (hp : Post (some (.long (-9000000000000000000))) h) : CT g mX7_counter [.ref 100, .int x] h Post := by
  show WP g mX7_counter 0 [(0, .ref 100), (1, .int x)] [] h 0 0 Post
  refine wp_aload_n dX7_counter_0 rfl 0 rfl ?_
  refine wp_iload_n dX7_counter_1 rfl 1 rfl ?_
  refine wp_callV mX7_isMember 100 [.int x] [] (c := 7) dX7_counter_2 iX7_isMember (fun _ => trivial) mlX7_163 imX7_isMember seX7_isMember (by decide) rfl rfl ⟨by decide, by decide⟩ rfl rfl (Nat.le_of_ble_eq_true rfl) (Nat.le_of_ble_eq_true rfl) (by decide) (by decide) ?_
  refine ct_isMember0 nm hW hc1 (by omega) x hx ?_
  show WP g mX7_counter 5 [(0, .ref 100), (1, .int x)] [.int 0] _ 0 0 _
  refine wp_if_eq (tgt := 16) dX7_counter_5 (by decide) (fun _ => ?_) (fun c_1 => absurd (by decide) c_1)
  refine wp_ldc2 dX7_counter_16 cnX7_155 ?_
  refine wp_lret dX7_counter_19 rfl (by decide) (by decide) ?_
  exact hp
set_option maxRecDepth 100000 in
set_option maxHeartbeats 4000000 in
theorem cm_counter {g : GG} {h : HP} {Post : Option Value → HP → Prop} (nm : Nat) (hW : MW h) (hc1 : vI h 100 1 = nI nm) (hnm : nm ≤ 10) (i : Nat) (hi : i < nm) (hd : DV h i) (hp : Post (some (.long (mCn h i))) h) : CT g mX7_counter [.ref 100, .int (nI i)] h Post := by
  show WP g mX7_counter 0 [(0, .ref 100), (1, .int (nI i))] [] h 0 0 Post
  refine wp_aload_n dX7_counter_0 rfl 0 rfl ?_
  refine wp_iload_n dX7_counter_1 rfl 1 rfl ?_
  refine wp_callV mX7_isMember 100 [.int (nI i)] [] (c := 7) dX7_counter_2 iX7_isMember (fun _ => trivial) mlX7_163 imX7_isMember seX7_isMember (by decide) rfl rfl ⟨by decide, by decide⟩ rfl rfl (Nat.le_of_ble_eq_true rfl) (Nat.le_of_ble_eq_true rfl) (by decide) (by decide) ?_
  refine ct_isMember nm hW hc1 (by omega) i hi ?_
  show WP g mX7_counter 5 [(0, .ref 100), (1, .int (nI i))] [.int 1] _ 0 0 _
  refine wp_if_eq (tgt := 16) dX7_counter_5 (by decide) (fun c_1 => absurd c_1 (by decide)) (fun _ => ?_)
  refine wp_aload_n dX7_counter_8 rfl 0 rfl ?_
  refine wp_iload_n dX7_counter_9 rfl 1 rfl ?_
  refine wp_callV mX7_counterOf 100 [.int (nI i)] [] (c := 7) dX7_counter_10 iX7_counterOf (fun _ => trivial) mlX7_173 imX7_counterOf seX7_counterOf (by decide) rfl rfl ⟨by decide, by decide⟩ rfl rfl (Nat.le_of_ble_eq_true rfl) (Nat.le_of_ble_eq_true rfl) (by decide) (by decide) ?_
  refine cm_counterOf i (by omega) hW hd ?_
  show WP g mX7_counter 13 [(0, .ref 100), (1, .int (nI i))] [.long (mCn h i)] _ 0 0 _
  refine wp_goto (tgt := 19) dX7_counter_13 (by decide) ?_
  refine wp_lret dX7_counter_19 rfl (by decide) (by decide) ?_
  exact hp
set_option maxRecDepth 100000 in
set_option maxHeartbeats 4000000 in
theorem cm_of0 {g : GG} {h : HP} {Post : Option Value → HP → Prop} (wh : Int32) (nm : Nat) (hW : MW h) (hc1 : vI h 100 1 = nI nm) (hnm : nm ≤ 10) (x : Int32) (hx : ¬ inR x nm) (hp : Post (some (.long (-9000000000000000000))) h) : CT g mX7_of [.ref 100, .int x, .int wh] h Post := by
  show WP g mX7_of 0 [(0, .ref 100), (1, .int x), (2, .int wh)] [] h 0 0 Post
  refine wp_aload_n dX7_of_0 rfl 0 rfl ?_
  refine wp_iload_n dX7_of_1 rfl 1 rfl ?_
  refine wp_callV mX7_isMember 100 [.int x] [] (c := 7) dX7_of_2 iX7_isMember (fun _ => trivial) mlX7_163 imX7_isMember seX7_isMember (by decide) rfl rfl ⟨by decide, by decide⟩ rfl rfl (Nat.le_of_ble_eq_true rfl) (Nat.le_of_ble_eq_true rfl) (by decide) (by decide) ?_
  refine ct_isMember0 nm hW hc1 (by omega) x hx ?_
  show WP g mX7_of 5 [(0, .ref 100), (1, .int x), (2, .int wh)] [.int 0] _ 0 0 _
  refine wp_if_ne (tgt := 12) dX7_of_5 (by decide) (fun c_1 => absurd (by decide) c_1) (fun _ => ?_)
  refine wp_ldc2 dX7_of_8 cnX7_155 ?_
  refine wp_lret dX7_of_11 rfl (by decide) (by decide) ?_
  exact hp
set_option maxRecDepth 100000 in
set_option maxHeartbeats 4000000 in
theorem cm_of_0 {g : GG} {h : HP} {Post : Option Value → HP → Prop} (nm : Nat) (hW : MW h) (hc1 : vI h 100 1 = nI nm) (hnm : nm ≤ 10) (i : Nat) (hi : i < nm) (hd : DV h i) (hp : Post (some (.long (mLo h i))) h) : CT g mX7_of [.ref 100, .int (nI i), .int 0] h Post := by
  show WP g mX7_of 0 [(0, .ref 100), (1, .int (nI i)), (2, .int 0)] [] h 0 0 Post
  refine wp_aload_n dX7_of_0 rfl 0 rfl ?_
  refine wp_iload_n dX7_of_1 rfl 1 rfl ?_
  refine wp_callV mX7_isMember 100 [.int (nI i)] [] (c := 7) dX7_of_2 iX7_isMember (fun _ => trivial) mlX7_163 imX7_isMember seX7_isMember (by decide) rfl rfl ⟨by decide, by decide⟩ rfl rfl (Nat.le_of_ble_eq_true rfl) (Nat.le_of_ble_eq_true rfl) (by decide) (by decide) ?_
  refine ct_isMember nm hW hc1 (by omega) i hi ?_
  show WP g mX7_of 5 [(0, .ref 100), (1, .int (nI i)), (2, .int 0)] [.int 1] _ 0 0 _
  refine wp_if_ne (tgt := 12) dX7_of_5 (by decide) (fun _ => ?_) (fun c_1 => absurd c_1 (by decide))
  refine wp_iload_n dX7_of_12 rfl 2 rfl ?_
  refine wp_tableIn (off := 51) (tgt := 64) dX7_of_13 (by decide) (by decide) (by decide) (by decide) ?_
  refine wp_aload_n dX7_of_64 rfl 0 rfl ?_
  refine wp_iload_n dX7_of_65 rfl 1 rfl ?_
  refine wp_callV mX7_lowOf 100 [.int (nI i)] [] (c := 7) dX7_of_66 iX7_lowOf (fun _ => trivial) mlX7_187 imX7_lowOf seX7_lowOf (by decide) rfl rfl ⟨by decide, by decide⟩ rfl rfl (Nat.le_of_ble_eq_true rfl) (Nat.le_of_ble_eq_true rfl) (by decide) (by decide) ?_
  refine cm_lowOf i (by omega) hW hd ?_
  show WP g mX7_of 69 [(0, .ref 100), (1, .int (nI i)), (2, .int 0)] [.long (mLo h i)] _ 0 0 _
  refine wp_lret dX7_of_69 rfl (by decide) (by decide) ?_
  exact hp
set_option maxRecDepth 100000 in
set_option maxHeartbeats 4000000 in
theorem cm_of_1 {g : GG} {h : HP} {Post : Option Value → HP → Prop} (nm : Nat) (hW : MW h) (hc1 : vI h 100 1 = nI nm) (hnm : nm ≤ 10) (i : Nat) (hi : i < nm) (hd : DV h i) (hp : Post (some (.long (mHi h i))) h) : CT g mX7_of [.ref 100, .int (nI i), .int 1] h Post := by
  show WP g mX7_of 0 [(0, .ref 100), (1, .int (nI i)), (2, .int 1)] [] h 0 0 Post
  refine wp_aload_n dX7_of_0 rfl 0 rfl ?_
  refine wp_iload_n dX7_of_1 rfl 1 rfl ?_
  refine wp_callV mX7_isMember 100 [.int (nI i)] [] (c := 7) dX7_of_2 iX7_isMember (fun _ => trivial) mlX7_163 imX7_isMember seX7_isMember (by decide) rfl rfl ⟨by decide, by decide⟩ rfl rfl (Nat.le_of_ble_eq_true rfl) (Nat.le_of_ble_eq_true rfl) (by decide) (by decide) ?_
  refine ct_isMember nm hW hc1 (by omega) i hi ?_
  show WP g mX7_of 5 [(0, .ref 100), (1, .int (nI i)), (2, .int 1)] [.int 1] _ 0 0 _
  refine wp_if_ne (tgt := 12) dX7_of_5 (by decide) (fun _ => ?_) (fun c_1 => absurd c_1 (by decide))
  refine wp_iload_n dX7_of_12 rfl 2 rfl ?_
  refine wp_tableIn (off := 57) (tgt := 70) dX7_of_13 (by decide) (by decide) (by decide) (by decide) ?_
  refine wp_aload_n dX7_of_70 rfl 0 rfl ?_
  refine wp_iload_n dX7_of_71 rfl 1 rfl ?_
  refine wp_callV mX7_highOf 100 [.int (nI i)] [] (c := 7) dX7_of_72 iX7_highOf (fun _ => trivial) mlX7_190 imX7_highOf seX7_highOf (by decide) rfl rfl ⟨by decide, by decide⟩ rfl rfl (Nat.le_of_ble_eq_true rfl) (Nat.le_of_ble_eq_true rfl) (by decide) (by decide) ?_
  refine cm_highOf i (by omega) hW hd ?_
  show WP g mX7_of 75 [(0, .ref 100), (1, .int (nI i)), (2, .int 1)] [.long (mHi h i)] _ 0 0 _
  refine wp_lret dX7_of_75 rfl (by decide) (by decide) ?_
  exact hp
set_option maxRecDepth 100000 in
set_option maxHeartbeats 4000000 in
theorem cm_of_2 {g : GG} {h : HP} {Post : Option Value → HP → Prop} (nm : Nat) (hW : MW h) (hc1 : vI h 100 1 = nI nm) (hnm : nm ≤ 10) (i : Nat) (hi : i < nm) (hd : DV h i) (hp : Post (some (.long (Int32.toInt64 (vI h 103 i)))) h) : CT g mX7_of [.ref 100, .int (nI i), .int 2] h Post := by
  show WP g mX7_of 0 [(0, .ref 100), (1, .int (nI i)), (2, .int 2)] [] h 0 0 Post
  refine wp_aload_n dX7_of_0 rfl 0 rfl ?_
  refine wp_iload_n dX7_of_1 rfl 1 rfl ?_
  refine wp_callV mX7_isMember 100 [.int (nI i)] [] (c := 7) dX7_of_2 iX7_isMember (fun _ => trivial) mlX7_163 imX7_isMember seX7_isMember (by decide) rfl rfl ⟨by decide, by decide⟩ rfl rfl (Nat.le_of_ble_eq_true rfl) (Nat.le_of_ble_eq_true rfl) (by decide) (by decide) ?_
  refine ct_isMember nm hW hc1 (by omega) i hi ?_
  show WP g mX7_of 5 [(0, .ref 100), (1, .int (nI i)), (2, .int 2)] [.int 1] _ 0 0 _
  refine wp_if_ne (tgt := 12) dX7_of_5 (by decide) (fun _ => ?_) (fun c_1 => absurd c_1 (by decide))
  refine wp_iload_n dX7_of_12 rfl 2 rfl ?_
  refine wp_tableIn (off := 63) (tgt := 76) dX7_of_13 (by decide) (by decide) (by decide) (by decide) ?_
  refine wp_aload_n dX7_of_76 rfl 0 rfl ?_
  refine wp_getP (b := 103) dX7_of_77 flX7_7 rfl rfl hW.1 (hW.2 2 rfl).2 ?_
  refine wp_iload_n dX7_of_80 rfl 1 rfl ?_
  refine wv_iald i (vI h 103 i) dX7_of_81 rfl (hW.2 2 rfl).1 rfl (by show i < 10; omega) rfl ?_
  refine wp_i2l dX7_of_82 ?_
  refine wp_lret dX7_of_83 rfl (by decide) (by decide) ?_
  exact hp
set_option maxRecDepth 100000 in
set_option maxHeartbeats 4000000 in
theorem cm_of_4 {g : GG} {h : HP} {Post : Option Value → HP → Prop} (nm : Nat) (hW : MW h) (hc1 : vI h 100 1 = nI nm) (hnm : nm ≤ 10) (i : Nat) (hi : i < nm) (hd : DV h i) (hp : Post (some (.long (vL h 115 i))) h) : CT g mX7_of [.ref 100, .int (nI i), .int 4] h Post := by
  show WP g mX7_of 0 [(0, .ref 100), (1, .int (nI i)), (2, .int 4)] [] h 0 0 Post
  refine wp_aload_n dX7_of_0 rfl 0 rfl ?_
  refine wp_iload_n dX7_of_1 rfl 1 rfl ?_
  refine wp_callV mX7_isMember 100 [.int (nI i)] [] (c := 7) dX7_of_2 iX7_isMember (fun _ => trivial) mlX7_163 imX7_isMember seX7_isMember (by decide) rfl rfl ⟨by decide, by decide⟩ rfl rfl (Nat.le_of_ble_eq_true rfl) (Nat.le_of_ble_eq_true rfl) (by decide) (by decide) ?_
  refine ct_isMember nm hW hc1 (by omega) i hi ?_
  show WP g mX7_of 5 [(0, .ref 100), (1, .int (nI i)), (2, .int 4)] [.int 1] _ 0 0 _
  refine wp_if_ne (tgt := 12) dX7_of_5 (by decide) (fun _ => ?_) (fun c_1 => absurd c_1 (by decide))
  refine wp_iload_n dX7_of_12 rfl 2 rfl ?_
  refine wp_tableIn (off := 86) (tgt := 99) dX7_of_13 (by decide) (by decide) (by decide) (by decide) ?_
  refine wp_aload_n dX7_of_99 rfl 0 rfl ?_
  refine wp_getP (b := 115) dX7_of_100 flX7_48 rfl rfl hW.1 (hW.2 14 rfl).2 ?_
  refine wp_iload_n dX7_of_103 rfl 1 rfl ?_
  refine wv_lald i (vL h 115 i) dX7_of_104 rfl (hW.2 14 rfl).1 rfl (by show i < 10; omega) rfl ?_
  refine wp_lret dX7_of_105 rfl (by decide) (by decide) ?_
  exact hp
set_option maxRecDepth 100000 in
set_option maxHeartbeats 4000000 in
theorem cm_of_6 {g : GG} {h : HP} {Post : Option Value → HP → Prop} (nm : Nat) (hW : MW h) (hc1 : vI h 100 1 = nI nm) (hnm : nm ≤ 10) (i : Nat) (hi : i < nm) (hd : DV h i) (hp : Post (some (.long (Int32.toInt64 (vI h 117 i)))) h) : CT g mX7_of [.ref 100, .int (nI i), .int 6] h Post := by
  show WP g mX7_of 0 [(0, .ref 100), (1, .int (nI i)), (2, .int 6)] [] h 0 0 Post
  refine wp_aload_n dX7_of_0 rfl 0 rfl ?_
  refine wp_iload_n dX7_of_1 rfl 1 rfl ?_
  refine wp_callV mX7_isMember 100 [.int (nI i)] [] (c := 7) dX7_of_2 iX7_isMember (fun _ => trivial) mlX7_163 imX7_isMember seX7_isMember (by decide) rfl rfl ⟨by decide, by decide⟩ rfl rfl (Nat.le_of_ble_eq_true rfl) (Nat.le_of_ble_eq_true rfl) (by decide) (by decide) ?_
  refine ct_isMember nm hW hc1 (by omega) i hi ?_
  show WP g mX7_of 5 [(0, .ref 100), (1, .int (nI i)), (2, .int 6)] [.int 1] _ 0 0 _
  refine wp_if_ne (tgt := 12) dX7_of_5 (by decide) (fun _ => ?_) (fun c_1 => absurd c_1 (by decide))
  refine wp_iload_n dX7_of_12 rfl 2 rfl ?_
  refine wp_tableIn (off := 119) (tgt := 132) dX7_of_13 (by decide) (by decide) (by decide) (by decide) ?_
  refine wp_aload_n dX7_of_132 rfl 0 rfl ?_
  refine wp_getP (b := 117) dX7_of_133 flX7_54 rfl rfl hW.1 (hW.2 16 rfl).2 ?_
  refine wp_iload_n dX7_of_136 rfl 1 rfl ?_
  refine wv_iald i (vI h 117 i) dX7_of_137 rfl (hW.2 16 rfl).1 rfl (by show i < 10; omega) rfl ?_
  refine wp_i2l dX7_of_138 ?_
  refine wp_lret dX7_of_139 rfl (by decide) (by decide) ?_
  exact hp
set_option maxRecDepth 100000 in
set_option maxHeartbeats 4000000 in
theorem cm_of_7 {g : GG} {h : HP} {Post : Option Value → HP → Prop} (nm : Nat) (hW : MW h) (hc1 : vI h 100 1 = nI nm) (hnm : nm ≤ 10) (i : Nat) (hi : i < nm) (hd : DV h i) (hp : Post (some (.long (Int32.toInt64 (vI h 118 i)))) h) : CT g mX7_of [.ref 100, .int (nI i), .int 7] h Post := by
  show WP g mX7_of 0 [(0, .ref 100), (1, .int (nI i)), (2, .int 7)] [] h 0 0 Post
  refine wp_aload_n dX7_of_0 rfl 0 rfl ?_
  refine wp_iload_n dX7_of_1 rfl 1 rfl ?_
  refine wp_callV mX7_isMember 100 [.int (nI i)] [] (c := 7) dX7_of_2 iX7_isMember (fun _ => trivial) mlX7_163 imX7_isMember seX7_isMember (by decide) rfl rfl ⟨by decide, by decide⟩ rfl rfl (Nat.le_of_ble_eq_true rfl) (Nat.le_of_ble_eq_true rfl) (by decide) (by decide) ?_
  refine ct_isMember nm hW hc1 (by omega) i hi ?_
  show WP g mX7_of 5 [(0, .ref 100), (1, .int (nI i)), (2, .int 7)] [.int 1] _ 0 0 _
  refine wp_if_ne (tgt := 12) dX7_of_5 (by decide) (fun _ => ?_) (fun c_1 => absurd c_1 (by decide))
  refine wp_iload_n dX7_of_12 rfl 2 rfl ?_
  refine wp_tableIn (off := 127) (tgt := 140) dX7_of_13 (by decide) (by decide) (by decide) (by decide) ?_
  refine wp_aload_n dX7_of_140 rfl 0 rfl ?_
  refine wp_getP (b := 118) dX7_of_141 flX7_57 rfl rfl hW.1 (hW.2 17 rfl).2 ?_
  refine wp_iload_n dX7_of_144 rfl 1 rfl ?_
  refine wv_iald i (vI h 118 i) dX7_of_145 rfl (hW.2 17 rfl).1 rfl (by show i < 10; omega) rfl ?_
  refine wp_i2l dX7_of_146 ?_
  refine wp_lret dX7_of_147 rfl (by decide) (by decide) ?_
  exact hp
set_option maxRecDepth 100000 in
set_option maxHeartbeats 4000000 in
theorem cm_of_8 {g : GG} {h : HP} {Post : Option Value → HP → Prop} (nm : Nat) (hW : MW h) (hc1 : vI h 100 1 = nI nm) (hnm : nm ≤ 10) (i : Nat) (hi : i < nm) (hd : DV h i) (hp : Post (some (.long (Int32.toInt64 (nI (hmN h i nm))))) h) : CT g mX7_of [.ref 100, .int (nI i), .int 8] h Post := by
  show WP g mX7_of 0 [(0, .ref 100), (1, .int (nI i)), (2, .int 8)] [] h 0 0 Post
  refine wp_aload_n dX7_of_0 rfl 0 rfl ?_
  refine wp_iload_n dX7_of_1 rfl 1 rfl ?_
  refine wp_callV mX7_isMember 100 [.int (nI i)] [] (c := 7) dX7_of_2 iX7_isMember (fun _ => trivial) mlX7_163 imX7_isMember seX7_isMember (by decide) rfl rfl ⟨by decide, by decide⟩ rfl rfl (Nat.le_of_ble_eq_true rfl) (Nat.le_of_ble_eq_true rfl) (by decide) (by decide) ?_
  refine ct_isMember nm hW hc1 (by omega) i hi ?_
  show WP g mX7_of 5 [(0, .ref 100), (1, .int (nI i)), (2, .int 8)] [.int 1] _ 0 0 _
  refine wp_if_ne (tgt := 12) dX7_of_5 (by decide) (fun _ => ?_) (fun c_1 => absurd c_1 (by decide))
  refine wp_iload_n dX7_of_12 rfl 2 rfl ?_
  refine wp_tableIn (off := 135) (tgt := 148) dX7_of_13 (by decide) (by decide) (by decide) (by decide) ?_
  refine wp_aload_n dX7_of_148 rfl 0 rfl ?_
  refine wp_iload_n dX7_of_149 rfl 1 rfl ?_
  refine wp_callV mX7_heardMany 100 [.int (nI i)] [] (c := 7) dX7_of_150 iX7_heardMany (fun _ => trivial) mlX7_193 imX7_heardMany seX7_heardMany (by decide) rfl rfl ⟨by decide, by decide⟩ rfl rfl (Nat.le_of_ble_eq_true rfl) (Nat.le_of_ble_eq_true rfl) (by decide) (by decide) ?_
  refine cm_heardMany i (by omega) hW nm hc1 hnm ?_
  show WP g mX7_of 153 [(0, .ref 100), (1, .int (nI i)), (2, .int 8)] [.int (nI (hmN h i nm))] _ 0 0 _
  refine wp_i2l dX7_of_153 ?_
  refine wp_lret dX7_of_154 rfl (by decide) (by decide) ?_
  exact hp
set_option maxRecDepth 100000 in
set_option maxHeartbeats 4000000 in
theorem cm_of_3 {g : GG} {h : HP} {Post : Option Value → HP → Prop} (nm : Nat) (hW : MW h) (hc1 : vI h 100 1 = nI nm) (hnm : nm ≤ 10) (i : Nat) (hi : i < nm) (hd : DV h i) (hp : Post (some (.long (bitL (vI h 114 i)))) h) : CT g mX7_of [.ref 100, .int (nI i), .int 3] h Post := by
  show WP g mX7_of 0 [(0, .ref 100), (1, .int (nI i)), (2, .int 3)] [] h 0 0 Post
  refine wp_aload_n dX7_of_0 rfl 0 rfl ?_
  refine wp_iload_n dX7_of_1 rfl 1 rfl ?_
  refine wp_callV mX7_isMember 100 [.int (nI i)] [] (c := 7) dX7_of_2 iX7_isMember (fun _ => trivial) mlX7_163 imX7_isMember seX7_isMember (by decide) rfl rfl ⟨by decide, by decide⟩ rfl rfl (Nat.le_of_ble_eq_true rfl) (Nat.le_of_ble_eq_true rfl) (by decide) (by decide) ?_
  refine ct_isMember nm hW hc1 (by omega) i hi ?_
  show WP g mX7_of 5 [(0, .ref 100), (1, .int (nI i)), (2, .int 3)] [.int 1] _ 0 0 _
  refine wp_if_ne (tgt := 12) dX7_of_5 (by decide) (fun _ => ?_) (fun c_1 => absurd c_1 (by decide))
  refine wp_iload_n dX7_of_12 rfl 2 rfl ?_
  refine wp_tableIn (off := 71) (tgt := 84) dX7_of_13 (by decide) (by decide) (by decide) (by decide) ?_
  refine wp_aload_n dX7_of_84 rfl 0 rfl ?_
  refine wp_getP (b := 114) dX7_of_85 flX7_44 rfl rfl hW.1 (hW.2 13 rfl).2 ?_
  refine wp_iload_n dX7_of_88 rfl 1 rfl ?_
  refine wv_bald i (vI h 114 i) dX7_of_89 rfl (hW.2 13 rfl).1 rfl (by show i < 10; omega) rfl ?_
  refine wp_if_eq (tgt := 97) dX7_of_90 (by decide) (fun c_2 => ?_) (fun c_2 => ?_)
  · refine wp_lconst (v := 0) dX7_of_97 rfl ?_
    refine wp_lret dX7_of_98 rfl (by decide) (by decide) ?_
    rw [show bitL (vI h 114 i) = 0 from if_pos c_2] at hp
    exact hp
  · refine wp_lconst (v := 1) dX7_of_93 rfl ?_
    refine wp_goto (tgt := 98) dX7_of_94 (by decide) ?_
    refine wp_lret dX7_of_98 rfl (by decide) (by decide) ?_
    rw [show bitL (vI h 114 i) = 1 from if_neg c_2] at hp
    exact hp
def mHo (h : HP) (m : Nat) : Prop := (mLo h m).toInt ≤ (vL h 100 0).toInt ∧ (vL h 100 0).toInt ≤ (mHi h m).toInt
set_option maxRecDepth 100000 in
set_option maxHeartbeats 4000000 in
theorem cm_of_5 {g : GG} {h : HP} {Post : Option Value → HP → Prop} (nm : Nat) (hW : MW h) (hc1 : vI h 100 1 = nI nm) (hnm : nm ≤ 10) (i : Nat) (hi : i < nm) (hd : DV h i) (hy : mHo h i → Post (some (.long 1)) h) (hn : ¬ mHo h i → Post (some (.long 0)) h) : CT g mX7_of [.ref 100, .int (nI i), .int 5] h Post := by
  show WP g mX7_of 0 [(0, .ref 100), (1, .int (nI i)), (2, .int 5)] [] h 0 0 Post
  refine wp_aload_n dX7_of_0 rfl 0 rfl ?_
  refine wp_iload_n dX7_of_1 rfl 1 rfl ?_
  refine wp_callV mX7_isMember 100 [.int (nI i)] [] (c := 7) dX7_of_2 iX7_isMember (fun _ => trivial) mlX7_163 imX7_isMember seX7_isMember (by decide) rfl rfl ⟨by decide, by decide⟩ rfl rfl (Nat.le_of_ble_eq_true rfl) (Nat.le_of_ble_eq_true rfl) (by decide) (by decide) ?_
  refine ct_isMember nm hW hc1 (by omega) i hi ?_
  show WP g mX7_of 5 [(0, .ref 100), (1, .int (nI i)), (2, .int 5)] [.int 1] _ 0 0 _
  refine wp_if_ne (tgt := 12) dX7_of_5 (by decide) (fun _ => ?_) (fun c_1 => absurd c_1 (by decide))
  refine wp_iload_n dX7_of_12 rfl 2 rfl ?_
  refine wp_tableIn (off := 93) (tgt := 106) dX7_of_13 (by decide) (by decide) (by decide) (by decide) ?_
  refine wp_aload_n dX7_of_106 rfl 0 rfl ?_
  refine wp_getL dX7_of_107 flX7_149 rfl rfl hW.1 ?_
  refine wp_aload_n dX7_of_110 rfl 0 rfl ?_
  refine wp_iload_n dX7_of_111 rfl 1 rfl ?_
  refine wp_callV mX7_lowOf 100 [.int (nI i)] [.long (vL h 100 0)] (c := 7) dX7_of_112 iX7_lowOf (fun _ => trivial) mlX7_187 imX7_lowOf seX7_lowOf (by decide) rfl rfl ⟨by decide, by decide⟩ rfl rfl (Nat.le_of_ble_eq_true rfl) (Nat.le_of_ble_eq_true rfl) (by decide) (by decide) ?_
  refine cm_lowOf i (by omega) hW hd ?_
  show WP g mX7_of 115 [(0, .ref 100), (1, .int (nI i)), (2, .int 5)] [.long (mLo h i), .long (vL h 100 0)] _ 0 0 _
  refine wp_aload_n dX7_of_115 rfl 0 rfl ?_
  refine wp_iload_n dX7_of_116 rfl 1 rfl ?_
  refine wp_callV mX7_highOf 100 [.int (nI i)] [.long (mLo h i), .long (vL h 100 0)] (c := 7) dX7_of_117 iX7_highOf (fun _ => trivial) mlX7_190 imX7_highOf seX7_highOf (by decide) rfl rfl ⟨by decide, by decide⟩ rfl rfl (Nat.le_of_ble_eq_true rfl) (Nat.le_of_ble_eq_true rfl) (by decide) (by decide) ?_
  refine cm_highOf i (by omega) hW hd ?_
  show WP g mX7_of 120 [(0, .ref 100), (1, .int (nI i)), (2, .int 5)] [.long (mHi h i), .long (mLo h i), .long (vL h 100 0)] _ 0 0 _
  refine wp_callS mX7_in [.long (vL h 100 0), .long (mLo h i), .long (mHi h i)] [] dX7_of_120 iX7_in (fun _ => trivial) mlX7_143 stX7_in ⟨by decide, by decide⟩ rfl rfl (Nat.le_of_ble_eq_true rfl) (Nat.le_of_ble_eq_true rfl) (by decide) (by decide) ?_
  refine ct_in (vL h 100 0) (mLo h i) (mHi h i) (Int64.toInt (vL h 100 0)) (Int64.toInt (mLo h i)) (Int64.toInt (mHi h i)) rfl rfl rfl (fun c_2 => ?_) (fun c_2 => ?_)
  · show WP g mX7_of 123 [(0, .ref 100), (1, .int (nI i)), (2, .int 5)] [.int 1] _ 0 0 _
    refine wp_if_eq (tgt := 130) dX7_of_123 (by decide) (fun c_3 => absurd c_3 (by decide)) (fun _ => ?_)
    refine wp_pc (pc' := 126) rfl ?_
    refine wp_lconst (v := 1) dX7_of_126 rfl ?_
    refine wp_goto (tgt := 131) dX7_of_127 (by decide) ?_
    refine wp_lret dX7_of_131 rfl (by decide) (by decide) ?_
    exact hy c_2
  · show WP g mX7_of 123 [(0, .ref 100), (1, .int (nI i)), (2, .int 5)] [.int 0] _ 0 0 _
    refine wp_if_eq (tgt := 130) dX7_of_123 (by decide) (fun _ => ?_) (fun c_4 => absurd (by decide) c_4)
    refine wp_pc (pc' := 130) rfl ?_
    refine wp_lconst (v := 0) dX7_of_130 rfl ?_
    refine wp_lret dX7_of_131 rfl (by decide) (by decide) ?_
    exact hn c_2
set_option maxRecDepth 100000 in
set_option maxHeartbeats 4000000 in
theorem cm_of_x {g : GG} {h : HP} {Post : Option Value → HP → Prop} (nm : Nat) (hW : MW h) (hc1 : vI h 100 1 = nI nm) (hnm : nm ≤ 10) (i : Nat) (hi : i < nm) (hd : DV h i) (wh : Int32) (hw : wh.toInt < 0 ∨ 8 < wh.toInt) (hp : Post (some (.long (-9000000000000000000))) h) : CT g mX7_of [.ref 100, .int (nI i), .int wh] h Post := by
  show WP g mX7_of 0 [(0, .ref 100), (1, .int (nI i)), (2, .int wh)] [] h 0 0 Post
  refine wp_aload_n dX7_of_0 rfl 0 rfl ?_
  refine wp_iload_n dX7_of_1 rfl 1 rfl ?_
  refine wp_callV mX7_isMember 100 [.int (nI i)] [] (c := 7) dX7_of_2 iX7_isMember (fun _ => trivial) mlX7_163 imX7_isMember seX7_isMember (by decide) rfl rfl ⟨by decide, by decide⟩ rfl rfl (Nat.le_of_ble_eq_true rfl) (Nat.le_of_ble_eq_true rfl) (by decide) (by decide) ?_
  refine ct_isMember nm hW hc1 (by omega) i hi ?_
  show WP g mX7_of 5 [(0, .ref 100), (1, .int (nI i)), (2, .int wh)] [.int 1] _ 0 0 _
  refine wp_if_ne (tgt := 12) dX7_of_5 (by decide) (fun _ => ?_) (fun c_1 => absurd c_1 (by decide))
  refine wp_iload_n dX7_of_12 rfl 2 rfl ?_
  refine wp_tableOut (tgt := 155) dX7_of_13 hw (by decide) ?_
  refine wp_ldc2 dX7_of_155 cnX7_155 ?_
  refine wp_lret dX7_of_158 rfl (by decide) (by decide) ?_
  exact hp
set_option maxRecDepth 100000 in
set_option maxHeartbeats 4000000 in
theorem cm_ask0 {g : GG} {h : HP} {Post : Option Value → HP → Prop} (y : Int32)  (nm : Nat) (hW : MW h) (hc1 : vI h 100 1 = nI nm) (hnm : nm ≤ 10) (x : Int32) (hx : ¬ inR x nm) (hp : Post (some (.long (-9000000000000000000))) h) : CT g mX7_ask [.ref 100, .int x, .int y] h Post := by
  show WP g mX7_ask 0 [(0, .ref 100), (1, .int x), (2, .int y)] [] h 0 0 Post
  refine wp_aload_n dX7_ask_0 rfl 0 rfl ?_
  refine wp_iload_n dX7_ask_1 rfl 1 rfl ?_
  refine wp_callV mX7_isMember 100 [.int x] [] (c := 7) dX7_ask_2 iX7_isMember (fun _ => trivial) mlX7_163 imX7_isMember seX7_isMember (by decide) rfl rfl ⟨by decide, by decide⟩ rfl rfl (Nat.le_of_ble_eq_true rfl) (Nat.le_of_ble_eq_true rfl) (by decide) (by decide) ?_
  refine ct_isMember0 nm hW hc1 (by omega) x hx ?_
  show WP g mX7_ask 5 [(0, .ref 100), (1, .int x), (2, .int y)] [.int 0] _ 0 0 _
  refine wp_if_eq (tgt := 49) dX7_ask_5 (by decide) (fun _ => ?_) (fun c_1 => absurd (by decide) c_1)
  refine wp_ldc2 dX7_ask_49 cnX7_155 ?_
  refine wp_lret dX7_ask_52 rfl (by decide) (by decide) ?_
  exact hp
set_option maxRecDepth 100000 in
set_option maxHeartbeats 4000000 in
theorem cm_ask1 {g : GG} {h : HP} {Post : Option Value → HP → Prop} (y : Int32)  (nm : Nat) (hW : MW h) (hc1 : vI h 100 1 = nI nm) (hnm : nm ≤ 10) (i : Nat) (hi : i < nm) (hy : ¬ inR y nm) (hp : Post (some (.long (-9000000000000000000))) h) : CT g mX7_ask [.ref 100, .int (nI i), .int y] h Post := by
  show WP g mX7_ask 0 [(0, .ref 100), (1, .int (nI i)), (2, .int y)] [] h 0 0 Post
  refine wp_aload_n dX7_ask_0 rfl 0 rfl ?_
  refine wp_iload_n dX7_ask_1 rfl 1 rfl ?_
  refine wp_callV mX7_isMember 100 [.int (nI i)] [] (c := 7) dX7_ask_2 iX7_isMember (fun _ => trivial) mlX7_163 imX7_isMember seX7_isMember (by decide) rfl rfl ⟨by decide, by decide⟩ rfl rfl (Nat.le_of_ble_eq_true rfl) (Nat.le_of_ble_eq_true rfl) (by decide) (by decide) ?_
  refine ct_isMember nm hW hc1 (by omega) i hi ?_
  show WP g mX7_ask 5 [(0, .ref 100), (1, .int (nI i)), (2, .int y)] [.int 1] _ 0 0 _
  refine wp_if_eq (tgt := 49) dX7_ask_5 (by decide) (fun c_1 => absurd c_1 (by decide)) (fun _ => ?_)
  refine wp_aload_n dX7_ask_8 rfl 0 rfl ?_
  refine wp_iload_n dX7_ask_9 rfl 2 rfl ?_
  refine wp_callV mX7_isMember 100 [.int y] [] (c := 7) dX7_ask_10 iX7_isMember (fun _ => trivial) mlX7_163 imX7_isMember seX7_isMember (by decide) rfl rfl ⟨by decide, by decide⟩ rfl rfl (Nat.le_of_ble_eq_true rfl) (Nat.le_of_ble_eq_true rfl) (by decide) (by decide) ?_
  refine ct_isMember0 nm hW hc1 (by omega) y hy ?_
  show WP g mX7_ask 13 [(0, .ref 100), (1, .int (nI i)), (2, .int y)] [.int 0] _ 0 0 _
  refine wp_if_eq (tgt := 49) dX7_ask_13 (by decide) (fun _ => ?_) (fun c_2 => absurd (by decide) c_2)
  refine wp_ldc2 dX7_ask_49 cnX7_155 ?_
  refine wp_lret dX7_ask_52 rfl (by decide) (by decide) ?_
  exact hp
def okAm (h : HP) (i j : Nat) : Prop := i ≠ j ∧ ¬ (vI h 103 i).toInt = 0 ∧ (vI h 114 i).toInt = 0
def amH (h : HP) (nl i j : Nat) : HP := sI (sI (sL (sI (sI (sI h 124 nl (nI i)) 125 nl (nI j)) 126 nl 0) 127 nl (mCn h i)) 128 nl 0) 100 22 (nI (nl + 1))
theorem MW_eq {h h' : HP} (e1 : liv h' = liv h) (e2 : vP h' = vP h) (hW : MW h) : MW h' := by unfold MW at *; rw [e1, e2]; exact hW
set_option maxRecDepth 100000 in
set_option maxHeartbeats 4000000 in
theorem cm_ask {g : GG} {h : HP} {Post : Option Value → HP → Prop} (nm : Nat) (hW : MW h) (hc1 : vI h 100 1 = nI nm) (hnm : nm ≤ 10) (i : Nat) (hi : i < nm) (hd : DV h i) (j : Nat) (hj : j < nm) (nl : Nat) (hc22 : vI h 100 22 = nI nl) (hnl : nl < 200) (hno : ¬ okAm h i j → Post (some (.long (-9000000000000000000))) h) (hyes : okAm h i j → Post (some (.long (Int32.toInt64 (nI nl)))) (amH h nl i j)) : CT g mX7_ask [.ref 100, .int (nI i), .int (nI j)] h Post := by
  show WP g mX7_ask 0 [(0, .ref 100), (1, .int (nI i)), (2, .int (nI j))] [] h 0 0 Post
  refine wp_aload_n dX7_ask_0 rfl 0 rfl ?_
  refine wp_iload_n dX7_ask_1 rfl 1 rfl ?_
  refine wp_callV mX7_isMember 100 [.int (nI i)] [] (c := 7) dX7_ask_2 iX7_isMember (fun _ => trivial) mlX7_163 imX7_isMember seX7_isMember (by decide) rfl rfl ⟨by decide, by decide⟩ rfl rfl (Nat.le_of_ble_eq_true rfl) (Nat.le_of_ble_eq_true rfl) (by decide) (by decide) ?_
  refine ct_isMember nm hW hc1 (by omega) i hi ?_
  show WP g mX7_ask 5 [(0, .ref 100), (1, .int (nI i)), (2, .int (nI j))] [.int 1] _ 0 0 _
  refine wp_if_eq (tgt := 49) dX7_ask_5 (by decide) (fun c_1 => absurd c_1 (by decide)) (fun _ => ?_)
  refine wp_aload_n dX7_ask_8 rfl 0 rfl ?_
  refine wp_iload_n dX7_ask_9 rfl 2 rfl ?_
  refine wp_callV mX7_isMember 100 [.int (nI j)] [] (c := 7) dX7_ask_10 iX7_isMember (fun _ => trivial) mlX7_163 imX7_isMember seX7_isMember (by decide) rfl rfl ⟨by decide, by decide⟩ rfl rfl (Nat.le_of_ble_eq_true rfl) (Nat.le_of_ble_eq_true rfl) (by decide) (by decide) ?_
  refine ct_isMember nm hW hc1 (by omega) j hj ?_
  show WP g mX7_ask 13 [(0, .ref 100), (1, .int (nI i)), (2, .int (nI j))] [.int 1] _ 0 0 _
  refine wp_if_eq (tgt := 49) dX7_ask_13 (by decide) (fun c_2 => absurd c_2 (by decide)) (fun _ => ?_)
  refine wp_iload_n dX7_ask_16 rfl 1 rfl ?_
  refine wp_iload_n dX7_ask_17 rfl 2 rfl ?_
  refine wi_icmp_eq (tgt := 49) ((i : Nat)) ((j : Nat)) (nIt (by omega)) (nIt (by omega)) dX7_ask_18 (by decide) (fun c_3 => ?_) (fun c_3 => ?_)
  · refine wp_ldc2 dX7_ask_49 cnX7_155 ?_
    refine wp_lret dX7_ask_52 rfl (by decide) (by decide) ?_
    exact hno (fun q => by unfold okAm at q; omega)
  · refine wp_aload_n dX7_ask_21 rfl 0 rfl ?_
    refine wp_getP (b := 103) dX7_ask_22 flX7_7 rfl rfl hW.1 (hW.2 2 rfl).2 ?_
    refine wp_iload_n dX7_ask_25 rfl 1 rfl ?_
    refine wv_iald i (vI h 103 i) dX7_ask_26 rfl (hW.2 2 rfl).1 rfl (by show i < 10; omega) rfl ?_
    refine wi_if_eq (tgt := 49) (Int32.toInt (vI h 103 i)) rfl dX7_ask_27 (by decide) (fun c_4 => ?_) (fun c_4 => ?_)
    · refine wp_ldc2 dX7_ask_49 cnX7_155 ?_
      refine wp_lret dX7_ask_52 rfl (by decide) (by decide) ?_
      exact hno (fun q => by unfold okAm at q; omega)
    · refine wp_aload_n dX7_ask_30 rfl 0 rfl ?_
      refine wp_getP (b := 114) dX7_ask_31 flX7_44 rfl rfl hW.1 (hW.2 13 rfl).2 ?_
      refine wp_iload_n dX7_ask_34 rfl 1 rfl ?_
      refine wv_bald i (vI h 114 i) dX7_ask_35 rfl (hW.2 13 rfl).1 rfl (by show i < 10; omega) rfl ?_
      refine wi_if_ne (tgt := 49) (Int32.toInt (vI h 114 i)) rfl dX7_ask_36 (by decide) (fun c_5 => ?_) (fun c_5 => ?_)
      · refine wp_ldc2 dX7_ask_49 cnX7_155 ?_
        refine wp_lret dX7_ask_52 rfl (by decide) (by decide) ?_
        exact hno (fun q => by unfold okAm at q; omega)
      · refine wp_aload_n dX7_ask_39 rfl 0 rfl ?_
        refine wv_getI (nI nl) dX7_ask_40 flX7_197 rfl rfl hW.1 hc22 ?_
        refine wp_sipush (v := 200) dX7_ask_43 (by decide) ?_
        refine wi_icmp_ne (tgt := 53) ((nl : Nat)) (200) (nIt (by omega)) (by decide) dX7_ask_46 (by decide) (fun _ => ?_) (fun c_6 => absurd c_6 (by omega))
        refine wp_aload_n dX7_ask_53 rfl 0 rfl ?_
        refine wp_getP (b := 124) dX7_ask_54 flX7_72 rfl rfl hW.1 (hW.2 23 rfl).2 ?_
        refine wp_aload_n dX7_ask_57 rfl 0 rfl ?_
        refine wv_getI (nI nl) dX7_ask_58 flX7_197 rfl rfl hW.1 hc22 ?_
        refine wp_iload_n dX7_ask_61 rfl 1 rfl ?_
        refine wv_iast nl dX7_ask_62 rfl (hW.2 23 rfl).1 rfl (by show nl < 200; omega) ?_
        refine wp_aload_n dX7_ask_63 rfl 0 rfl ?_
        refine wp_getP (b := 125) dX7_ask_64 flX7_75 rfl rfl hW.1 (hW.2 24 rfl).2 ?_
        refine wp_aload_n dX7_ask_67 rfl 0 rfl ?_
        refine wv_getI (nI nl) dX7_ask_68 flX7_197 rfl rfl hW.1 (Eq.trans (b := vI h 100 22) (by simp [vI, vL, vP, sI, sL, sP, up2]) hc22) ?_
        refine wp_pc (pc' := 71) rfl ?_
        refine wp_iload_n dX7_ask_71 rfl 2 rfl ?_
        refine wv_iast nl dX7_ask_72 rfl (hW.2 24 rfl).1 rfl (by show nl < 200; omega) ?_
        refine wp_aload_n dX7_ask_73 rfl 0 rfl ?_
        refine wp_getP (b := 126) dX7_ask_74 flX7_78 rfl rfl hW.1 (hW.2 25 rfl).2 ?_
        refine wp_aload_n dX7_ask_77 rfl 0 rfl ?_
        refine wv_getI (nI nl) dX7_ask_78 flX7_197 rfl rfl hW.1 (Eq.trans (b := vI h 100 22) (by simp [vI, vL, vP, sI, sL, sP, up2]) hc22) ?_
        refine wp_iconst (v := 0) dX7_ask_81 (by decide) ?_
        refine wv_iast nl dX7_ask_82 rfl (hW.2 25 rfl).1 rfl (by show nl < 200; omega) ?_
        refine wp_aload_n dX7_ask_83 rfl 0 rfl ?_
        refine wp_getP (b := 127) dX7_ask_84 flX7_81 rfl rfl hW.1 (hW.2 26 rfl).2 ?_
        refine wp_aload_n dX7_ask_87 rfl 0 rfl ?_
        refine wv_getI (nI nl) dX7_ask_88 flX7_197 rfl rfl hW.1 (Eq.trans (b := vI h 100 22) (by simp [vI, vL, vP, sI, sL, sP, up2]) hc22) ?_
        refine wp_aload_n dX7_ask_91 rfl 0 rfl ?_
        refine wp_iload_n dX7_ask_92 rfl 1 rfl ?_
        refine wp_callV mX7_counterOf 100 [.int (nI i)] [.int (nI nl), .ref 127] (c := 7) dX7_ask_93 iX7_counterOf (fun _ => trivial) mlX7_173 imX7_counterOf seX7_counterOf (by decide) rfl rfl ⟨by decide, by decide⟩ rfl rfl (Nat.le_of_ble_eq_true rfl) (Nat.le_of_ble_eq_true rfl) (by decide) (by decide) ?_
        refine cm_counterOf i (by omega) (by exact MW_eq rfl rfl hW) (by exact DV_eq rfl rfl hd) ?_
        show WP g mX7_ask 96 [(0, .ref 100), (1, .int (nI i)), (2, .int (nI j))] [.long (mCn h i), .int (nI nl), .ref 127] _ 0 0 _
        refine wp_pc (pc' := 96) rfl ?_
        refine wv_last nl dX7_ask_96 rfl (hW.2 26 rfl).1 rfl (by show nl < 200; omega) ?_
        refine wp_aload_n dX7_ask_97 rfl 0 rfl ?_
        refine wp_getP (b := 128) dX7_ask_98 flX7_84 rfl rfl hW.1 (hW.2 27 rfl).2 ?_
        refine wp_aload_n dX7_ask_101 rfl 0 rfl ?_
        refine wv_getI (nI nl) dX7_ask_102 flX7_197 rfl rfl hW.1 (Eq.trans (b := vI h 100 22) (by simp [vI, vL, vP, sI, sL, sP, up2]) hc22) ?_
        refine wp_iconst (v := 0) dX7_ask_105 (by decide) ?_
        refine wv_bast nl dX7_ask_106 rfl (hW.2 27 rfl).1 rfl (by show nl < 200; omega) rfl ?_
        refine wp_aload_n dX7_ask_107 rfl 0 rfl ?_
        refine wp_dup dX7_ask_108 rfl ?_
        refine wv_getI (nI nl) dX7_ask_109 flX7_197 rfl rfl hW.1 (Eq.trans (b := vI h 100 22) (by simp [vI, vL, vP, sI, sL, sP, up2]) hc22) ?_
        refine wp_iconst (v := 1) dX7_ask_112 (by decide) ?_
        refine wv_iadd (nI (nl + 1)) (wN_add rfl rfl) dX7_ask_113 ?_
        refine wp_putI dX7_ask_114 flX7_197 (Or.inl rfl) rfl rfl rfl rfl hW.1 ?_
        refine wp_aload_n dX7_ask_117 rfl 0 rfl ?_
        refine wv_getI (nI (nl + 1)) dX7_ask_118 flX7_197 rfl rfl hW.1 (by simp [vI, vL, vP, sI, sL, sP, up2]) ?_
        refine wp_pc (pc' := 121) rfl ?_
        refine wp_iconst (v := 1) dX7_ask_121 (by decide) ?_
        refine wv_isub (nI nl) (nI_pred _) dX7_ask_122 ?_
        refine wp_i2l dX7_ask_123 ?_
        refine wp_lret dX7_ask_124 rfl (by decide) (by decide) ?_
        exact hyes (by unfold okAm; omega)
def mUw (h : HP) (l : Nat) : Prop := (vI h 126 l).toInt < 2
set_option maxRecDepth 100000 in
set_option maxHeartbeats 4000000 in
theorem cm_isUW0 {g : GG} {h : HP} {Post : Option Value → HP → Prop} (nl : Nat) (hW : MW h) (hc22 : vI h 100 22 = nI nl) (hnl : nl < 200) (x : Int32) (hx : ¬ inR x nl) (hp : Post (some (.int 0)) h) : CT g mX7_isUnderWay [.ref 100, .int x] h Post := by
  show WP g mX7_isUnderWay 0 [(0, .ref 100), (1, .int x)] [] h 0 0 Post
  refine wp_iload_n dX7_isUnderWay_0 rfl 1 rfl ?_
  refine wp_i2l dX7_isUnderWay_1 ?_
  refine wp_lconst (v := 0) dX7_isUnderWay_2 rfl ?_
  refine wp_aload_n dX7_isUnderWay_3 rfl 0 rfl ?_
  refine wv_getI (nI nl) dX7_isUnderWay_4 flX7_197 rfl rfl hW.1 hc22 ?_
  refine wp_i2l dX7_isUnderWay_7 ?_
  refine wp_lconst (v := 1) dX7_isUnderWay_8 rfl ?_
  refine wp_lsub dX7_isUnderWay_9 ?_
  refine wp_callS mX7_in [.long (Int32.toInt64 x), .long 0, .long ((Int32.toInt64 (nI nl)) - 1)] [] dX7_isUnderWay_10 iX7_in (fun _ => trivial) mlX7_143 stX7_in ⟨by decide, by decide⟩ rfl rfl (Nat.le_of_ble_eq_true rfl) (Nat.le_of_ble_eq_true rfl) (by decide) (by decide) ?_
  refine ct_in (Int32.toInt64 x) 0 ((Int32.toInt64 (nI nl)) - 1) (Int32.toInt x) 0 ((nl : Int) - 1) ((wid _).trans rfl) (by decide) (i64_sub1 (by omega)) (fun z => absurd (show inR x nl from ⟨by omega, by omega⟩) hx) (fun _ => ?_)
  show WP g mX7_isUnderWay 13 [(0, .ref 100), (1, .int x)] [.int 0] _ 0 0 _
  refine wp_if_eq (tgt := 30) dX7_isUnderWay_13 (by decide) (fun _ => ?_) (fun c_1 => absurd (by decide) c_1)
  refine wp_iconst (v := 0) dX7_isUnderWay_30 (by decide) ?_
  refine wp_zret dX7_isUnderWay_31 rfl (by decide) (by decide) rfl ?_
  exact hp
set_option maxRecDepth 100000 in
set_option maxHeartbeats 4000000 in
theorem cm_isUW {g : GG} {h : HP} {Post : Option Value → HP → Prop} (nl : Nat) (hW : MW h) (hc22 : vI h 100 22 = nI nl) (hnl : nl < 200) (l : Nat) (hl : l < nl) (hy : mUw h l → Post (some (.int 1)) h) (hn : ¬ mUw h l → Post (some (.int 0)) h) : CT g mX7_isUnderWay [.ref 100, .int (nI l)] h Post := by
  show WP g mX7_isUnderWay 0 [(0, .ref 100), (1, .int (nI l))] [] h 0 0 Post
  refine wp_iload_n dX7_isUnderWay_0 rfl 1 rfl ?_
  refine wp_i2l dX7_isUnderWay_1 ?_
  refine wp_lconst (v := 0) dX7_isUnderWay_2 rfl ?_
  refine wp_aload_n dX7_isUnderWay_3 rfl 0 rfl ?_
  refine wv_getI (nI nl) dX7_isUnderWay_4 flX7_197 rfl rfl hW.1 hc22 ?_
  refine wp_i2l dX7_isUnderWay_7 ?_
  refine wp_lconst (v := 1) dX7_isUnderWay_8 rfl ?_
  refine wp_lsub dX7_isUnderWay_9 ?_
  refine wp_callS mX7_in [.long (Int32.toInt64 (nI l)), .long 0, .long ((Int32.toInt64 (nI nl)) - 1)] [] dX7_isUnderWay_10 iX7_in (fun _ => trivial) mlX7_143 stX7_in ⟨by decide, by decide⟩ rfl rfl (Nat.le_of_ble_eq_true rfl) (Nat.le_of_ble_eq_true rfl) (by decide) (by decide) ?_
  refine ct_in (Int32.toInt64 (nI l)) 0 ((Int32.toInt64 (nI nl)) - 1) ((l : Nat)) 0 ((nl : Int) - 1) ((wid _).trans (nIt (by omega))) (by decide) (i64_sub1 (by omega)) (fun _ => ?_) (fun z => absurd ⟨by omega, by omega⟩ z)
  show WP g mX7_isUnderWay 13 [(0, .ref 100), (1, .int (nI l))] [.int 1] _ 0 0 _
  refine wp_if_eq (tgt := 30) dX7_isUnderWay_13 (by decide) (fun c_1 => absurd c_1 (by decide)) (fun _ => ?_)
  refine wp_aload_n dX7_isUnderWay_16 rfl 0 rfl ?_
  refine wp_getP (b := 126) dX7_isUnderWay_17 flX7_78 rfl rfl hW.1 (hW.2 25 rfl).2 ?_
  refine wp_iload_n dX7_isUnderWay_20 rfl 1 rfl ?_
  refine wv_iald l (vI h 126 l) dX7_isUnderWay_21 rfl (hW.2 25 rfl).1 rfl (by show l < 200; omega) rfl ?_
  refine wp_iconst (v := 2) dX7_isUnderWay_22 (by decide) ?_
  refine wp_pc (pc' := 23) rfl ?_
  refine wi_icmp_ge (tgt := 30) (Int32.toInt (vI h 126 l)) (2) rfl (by decide) dX7_isUnderWay_23 (by decide) (fun c_2 => ?_) (fun c_2 => ?_)
  · refine wp_iconst (v := 0) dX7_isUnderWay_30 (by decide) ?_
    refine wp_zret dX7_isUnderWay_31 rfl (by decide) (by decide) rfl ?_
    exact hn (by unfold mUw; omega)
  · refine wp_iconst (v := 1) dX7_isUnderWay_26 (by decide) ?_
    refine wp_goto (tgt := 31) dX7_isUnderWay_27 (by decide) ?_
    refine wp_zret dX7_isUnderWay_31 rfl (by decide) (by decide) rfl ?_
    exact hy (by unfold mUw; omega)
set_option maxRecDepth 100000 in
set_option maxHeartbeats 4000000 in
theorem cm_deliver0 {g : GG} {h : HP} {Post : Option Value → HP → Prop} (nl : Nat) (hW : MW h) (hc22 : vI h 100 22 = nI nl) (hnl : nl < 200) (x : Int32) (hx : ¬ inR x nl) (hp : Post (some (.long (-9000000000000000000))) h) : CT g mX7_deliver [.ref 100, .int x] h Post := by
  show WP g mX7_deliver 0 [(0, .ref 100), (1, .int x)] [] h 0 0 Post
  refine wp_aload_n dX7_deliver_0 rfl 0 rfl ?_
  refine wp_iload_n dX7_deliver_1 rfl 1 rfl ?_
  refine wp_callV mX7_isUnderWay 100 [.int x] [] (c := 7) dX7_deliver_2 iX7_isUnderWay (fun _ => trivial) mlX7_200 imX7_isUnderWay seX7_isUnderWay (by decide) rfl rfl ⟨by decide, by decide⟩ rfl rfl (Nat.le_of_ble_eq_true rfl) (Nat.le_of_ble_eq_true rfl) (by decide) (by decide) ?_
  refine cm_isUW0 nl hW hc22 hnl x hx ?_
  show WP g mX7_deliver 5 [(0, .ref 100), (1, .int x)] [.int 0] _ 0 0 _
  refine wp_if_ne (tgt := 12) dX7_deliver_5 (by decide) (fun c_1 => absurd (by decide) c_1) (fun _ => ?_)
  refine wp_ldc2 dX7_deliver_8 cnX7_155 ?_
  refine wp_lret dX7_deliver_11 rfl (by decide) (by decide) ?_
  exact hp
set_option maxRecDepth 100000 in
set_option maxHeartbeats 4000000 in
theorem cm_deliver1 {g : GG} {h : HP} {Post : Option Value → HP → Prop} (nl : Nat) (hW : MW h) (hc22 : vI h 100 22 = nI nl) (hnl : nl < 200) (l : Nat) (hl : l < nl) (hu : ¬ mUw h l) (hp : Post (some (.long (-9000000000000000000))) h) : CT g mX7_deliver [.ref 100, .int (nI l)] h Post := by
  show WP g mX7_deliver 0 [(0, .ref 100), (1, .int (nI l))] [] h 0 0 Post
  refine wp_aload_n dX7_deliver_0 rfl 0 rfl ?_
  refine wp_iload_n dX7_deliver_1 rfl 1 rfl ?_
  refine wp_callV mX7_isUnderWay 100 [.int (nI l)] [] (c := 7) dX7_deliver_2 iX7_isUnderWay (fun _ => trivial) mlX7_200 imX7_isUnderWay seX7_isUnderWay (by decide) rfl rfl ⟨by decide, by decide⟩ rfl rfl (Nat.le_of_ble_eq_true rfl) (Nat.le_of_ble_eq_true rfl) (by decide) (by decide) ?_
  refine cm_isUW nl hW hc22 hnl l hl (fun z => absurd z hu) (fun _ => ?_)
  show WP g mX7_deliver 5 [(0, .ref 100), (1, .int (nI l))] [.int 0] _ 0 0 _
  refine wp_if_ne (tgt := 12) dX7_deliver_5 (by decide) (fun c_1 => absurd (by decide) c_1) (fun _ => ?_)
  refine wp_ldc2 dX7_deliver_8 cnX7_155 ?_
  refine wp_lret dX7_deliver_11 rfl (by decide) (by decide) ?_
  exact hp
set_option maxRecDepth 100000 in
set_option maxHeartbeats 4000000 in
theorem cm_lose0 {g : GG} {h : HP} {Post : Option Value → HP → Prop} (nl : Nat) (hW : MW h) (hc22 : vI h 100 22 = nI nl) (hnl : nl < 200) (x : Int32) (hx : ¬ inR x nl) (hp : Post (some (.long (-9000000000000000000))) h) : CT g mX7_lose [.ref 100, .int x] h Post := by
  show WP g mX7_lose 0 [(0, .ref 100), (1, .int x)] [] h 0 0 Post
  refine wp_aload_n dX7_lose_0 rfl 0 rfl ?_
  refine wp_iload_n dX7_lose_1 rfl 1 rfl ?_
  refine wp_callV mX7_isUnderWay 100 [.int x] [] (c := 7) dX7_lose_2 iX7_isUnderWay (fun _ => trivial) mlX7_200 imX7_isUnderWay seX7_isUnderWay (by decide) rfl rfl ⟨by decide, by decide⟩ rfl rfl (Nat.le_of_ble_eq_true rfl) (Nat.le_of_ble_eq_true rfl) (by decide) (by decide) ?_
  refine cm_isUW0 nl hW hc22 hnl x hx ?_
  show WP g mX7_lose 5 [(0, .ref 100), (1, .int x)] [.int 0] _ 0 0 _
  refine wp_if_ne (tgt := 12) dX7_lose_5 (by decide) (fun c_1 => absurd (by decide) c_1) (fun _ => ?_)
  refine wp_ldc2 dX7_lose_8 cnX7_155 ?_
  refine wp_lret dX7_lose_11 rfl (by decide) (by decide) ?_
  exact hp
set_option maxRecDepth 100000 in
set_option maxHeartbeats 4000000 in
theorem cm_lose1 {g : GG} {h : HP} {Post : Option Value → HP → Prop} (nl : Nat) (hW : MW h) (hc22 : vI h 100 22 = nI nl) (hnl : nl < 200) (l : Nat) (hl : l < nl) (hu : ¬ mUw h l) (hp : Post (some (.long (-9000000000000000000))) h) : CT g mX7_lose [.ref 100, .int (nI l)] h Post := by
  show WP g mX7_lose 0 [(0, .ref 100), (1, .int (nI l))] [] h 0 0 Post
  refine wp_aload_n dX7_lose_0 rfl 0 rfl ?_
  refine wp_iload_n dX7_lose_1 rfl 1 rfl ?_
  refine wp_callV mX7_isUnderWay 100 [.int (nI l)] [] (c := 7) dX7_lose_2 iX7_isUnderWay (fun _ => trivial) mlX7_200 imX7_isUnderWay seX7_isUnderWay (by decide) rfl rfl ⟨by decide, by decide⟩ rfl rfl (Nat.le_of_ble_eq_true rfl) (Nat.le_of_ble_eq_true rfl) (by decide) (by decide) ?_
  refine cm_isUW nl hW hc22 hnl l hl (fun z => absurd z hu) (fun _ => ?_)
  show WP g mX7_lose 5 [(0, .ref 100), (1, .int (nI l))] [.int 0] _ 0 0 _
  refine wp_if_ne (tgt := 12) dX7_lose_5 (by decide) (fun c_1 => absurd (by decide) c_1) (fun _ => ?_)
  refine wp_ldc2 dX7_lose_8 cnX7_155 ?_
  refine wp_lret dX7_lose_11 rfl (by decide) (by decide) ?_
  exact hp
set_option maxRecDepth 100000 in
set_option maxHeartbeats 4000000 in
theorem cm_twice0 {g : GG} {h : HP} {Post : Option Value → HP → Prop} (nl : Nat) (hW : MW h) (hc22 : vI h 100 22 = nI nl) (hnl : nl < 200) (x : Int32) (hx : ¬ inR x nl) (hp : Post (some (.long (-9000000000000000000))) h) : CT g mX7_twice [.ref 100, .int x] h Post := by
  show WP g mX7_twice 0 [(0, .ref 100), (1, .int x)] [] h 0 0 Post
  refine wp_aload_n dX7_twice_0 rfl 0 rfl ?_
  refine wp_iload_n dX7_twice_1 rfl 1 rfl ?_
  refine wp_callV mX7_isUnderWay 100 [.int x] [] (c := 7) dX7_twice_2 iX7_isUnderWay (fun _ => trivial) mlX7_200 imX7_isUnderWay seX7_isUnderWay (by decide) rfl rfl ⟨by decide, by decide⟩ rfl rfl (Nat.le_of_ble_eq_true rfl) (Nat.le_of_ble_eq_true rfl) (by decide) (by decide) ?_
  refine cm_isUW0 nl hW hc22 hnl x hx ?_
  show WP g mX7_twice 5 [(0, .ref 100), (1, .int x)] [.int 0] _ 0 0 _
  refine wp_if_eq (tgt := 18) dX7_twice_5 (by decide) (fun _ => ?_) (fun c_1 => absurd (by decide) c_1)
  refine wp_ldc2 dX7_twice_18 cnX7_155 ?_
  refine wp_lret dX7_twice_21 rfl (by decide) (by decide) ?_
  exact hp
set_option maxRecDepth 100000 in
set_option maxHeartbeats 4000000 in
theorem cm_twice1 {g : GG} {h : HP} {Post : Option Value → HP → Prop} (nl : Nat) (hW : MW h) (hc22 : vI h 100 22 = nI nl) (hnl : nl < 200) (l : Nat) (hl : l < nl) (hu : ¬ mUw h l) (hp : Post (some (.long (-9000000000000000000))) h) : CT g mX7_twice [.ref 100, .int (nI l)] h Post := by
  show WP g mX7_twice 0 [(0, .ref 100), (1, .int (nI l))] [] h 0 0 Post
  refine wp_aload_n dX7_twice_0 rfl 0 rfl ?_
  refine wp_iload_n dX7_twice_1 rfl 1 rfl ?_
  refine wp_callV mX7_isUnderWay 100 [.int (nI l)] [] (c := 7) dX7_twice_2 iX7_isUnderWay (fun _ => trivial) mlX7_200 imX7_isUnderWay seX7_isUnderWay (by decide) rfl rfl ⟨by decide, by decide⟩ rfl rfl (Nat.le_of_ble_eq_true rfl) (Nat.le_of_ble_eq_true rfl) (by decide) (by decide) ?_
  refine cm_isUW nl hW hc22 hnl l hl (fun z => absurd z hu) (fun _ => ?_)
  show WP g mX7_twice 5 [(0, .ref 100), (1, .int (nI l))] [.int 0] _ 0 0 _
  refine wp_if_eq (tgt := 18) dX7_twice_5 (by decide) (fun _ => ?_) (fun c_1 => absurd (by decide) c_1)
  refine wp_ldc2 dX7_twice_18 cnX7_155 ?_
  refine wp_lret dX7_twice_21 rfl (by decide) (by decide) ?_
  exact hp
set_option maxRecDepth 100000 in
set_option maxHeartbeats 4000000 in
theorem cm_lose {g : GG} {h : HP} {Post : Option Value → HP → Prop} (nl : Nat) (hW : MW h) (hc22 : vI h 100 22 = nI nl) (hnl : nl < 200) (l : Nat) (hl : l < nl) (hu : mUw h l) (hp : Post (some (.long 1)) (sI h 126 l 3)) : CT g mX7_lose [.ref 100, .int (nI l)] h Post := by
  show WP g mX7_lose 0 [(0, .ref 100), (1, .int (nI l))] [] h 0 0 Post
  refine wp_aload_n dX7_lose_0 rfl 0 rfl ?_
  refine wp_iload_n dX7_lose_1 rfl 1 rfl ?_
  refine wp_callV mX7_isUnderWay 100 [.int (nI l)] [] (c := 7) dX7_lose_2 iX7_isUnderWay (fun _ => trivial) mlX7_200 imX7_isUnderWay seX7_isUnderWay (by decide) rfl rfl ⟨by decide, by decide⟩ rfl rfl (Nat.le_of_ble_eq_true rfl) (Nat.le_of_ble_eq_true rfl) (by decide) (by decide) ?_
  refine cm_isUW nl hW hc22 hnl l hl (fun _ => ?_) (fun z => absurd hu z)
  show WP g mX7_lose 5 [(0, .ref 100), (1, .int (nI l))] [.int 1] _ 0 0 _
  refine wp_if_ne (tgt := 12) dX7_lose_5 (by decide) (fun _ => ?_) (fun c_1 => absurd c_1 (by decide))
  refine wp_aload_n dX7_lose_12 rfl 0 rfl ?_
  refine wp_getP (b := 126) dX7_lose_13 flX7_78 rfl rfl hW.1 (hW.2 25 rfl).2 ?_
  refine wp_iload_n dX7_lose_16 rfl 1 rfl ?_
  refine wp_iconst (v := 3) dX7_lose_17 (by decide) ?_
  refine wv_iast l dX7_lose_18 rfl (hW.2 25 rfl).1 rfl (by show l < 200; omega) ?_
  refine wp_lconst (v := 1) dX7_lose_19 rfl ?_
  refine wp_lret dX7_lose_20 rfl (by decide) (by decide) ?_
  exact hp
def twM (h : HP) (nl l : Nat) : HP := sI (sL (sL (sI (sL (sI (sI (sI h 124 nl (vI h 124 l)) 125 nl (vI h 125 l)) 126 nl (vI h 126 l)) 127 nl (vL h 127 l)) 128 nl (vI h 128 l)) 129 nl (vL h 129 l)) 130 nl (vL h 130 l)) 100 22 (nI (nl + 1))
set_option maxRecDepth 100000 in
set_option maxHeartbeats 4000000 in
theorem cm_twice {g : GG} {h : HP} {Post : Option Value → HP → Prop} (nl : Nat) (hW : MW h) (hc22 : vI h 100 22 = nI nl) (hnl : nl < 200) (l : Nat) (hl : l < nl) (hu : mUw h l) (hans : vI h 128 l = 0 ∨ vI h 128 l = 1) (hp : Post (some (.long (Int32.toInt64 (nI nl)))) (twM h nl l)) : CT g mX7_twice [.ref 100, .int (nI l)] h Post := by
  show WP g mX7_twice 0 [(0, .ref 100), (1, .int (nI l))] [] h 0 0 Post
  refine wp_aload_n dX7_twice_0 rfl 0 rfl ?_
  refine wp_iload_n dX7_twice_1 rfl 1 rfl ?_
  refine wp_callV mX7_isUnderWay 100 [.int (nI l)] [] (c := 7) dX7_twice_2 iX7_isUnderWay (fun _ => trivial) mlX7_200 imX7_isUnderWay seX7_isUnderWay (by decide) rfl rfl ⟨by decide, by decide⟩ rfl rfl (Nat.le_of_ble_eq_true rfl) (Nat.le_of_ble_eq_true rfl) (by decide) (by decide) ?_
  refine cm_isUW nl hW hc22 hnl l hl (fun _ => ?_) (fun z => absurd hu z)
  show WP g mX7_twice 5 [(0, .ref 100), (1, .int (nI l))] [.int 1] _ 0 0 _
  refine wp_if_eq (tgt := 18) dX7_twice_5 (by decide) (fun c_1 => absurd c_1 (by decide)) (fun _ => ?_)
  refine wp_aload_n dX7_twice_8 rfl 0 rfl ?_
  refine wv_getI (nI nl) dX7_twice_9 flX7_197 rfl rfl hW.1 hc22 ?_
  refine wp_sipush (v := 200) dX7_twice_12 (by decide) ?_
  refine wi_icmp_ne (tgt := 22) ((nl : Nat)) (200) (nIt (by omega)) (by decide) dX7_twice_15 (by decide) (fun _ => ?_) (fun c_2 => absurd c_2 (by omega))
  refine wp_aload_n dX7_twice_22 rfl 0 rfl ?_
  refine wp_getP (b := 124) dX7_twice_23 flX7_72 rfl rfl hW.1 (hW.2 23 rfl).2 ?_
  refine wp_aload_n dX7_twice_26 rfl 0 rfl ?_
  refine wv_getI (nI nl) dX7_twice_27 flX7_197 rfl rfl hW.1 hc22 ?_
  refine wp_aload_n dX7_twice_30 rfl 0 rfl ?_
  refine wp_getP (b := 124) dX7_twice_31 flX7_72 rfl rfl hW.1 (hW.2 23 rfl).2 ?_
  refine wp_iload_n dX7_twice_34 rfl 1 rfl ?_
  refine wp_pc (pc' := 35) rfl ?_
  refine wv_iald l (vI h 124 l) dX7_twice_35 rfl (hW.2 23 rfl).1 rfl (by show l < 200; omega) rfl ?_
  refine wv_iast nl dX7_twice_36 rfl (hW.2 23 rfl).1 rfl (by show nl < 200; omega) ?_
  refine wp_aload_n dX7_twice_37 rfl 0 rfl ?_
  refine wp_getP (b := 125) dX7_twice_38 flX7_75 rfl rfl hW.1 (hW.2 24 rfl).2 ?_
  refine wp_aload_n dX7_twice_41 rfl 0 rfl ?_
  refine wv_getI (nI nl) dX7_twice_42 flX7_197 rfl rfl hW.1 (Eq.trans (b := vI h 100 22) (by simp [vI, vL, vP, sI, sL, sP, up2]) hc22) ?_
  refine wp_aload_n dX7_twice_45 rfl 0 rfl ?_
  refine wp_getP (b := 125) dX7_twice_46 flX7_75 rfl rfl hW.1 (hW.2 24 rfl).2 ?_
  refine wp_iload_n dX7_twice_49 rfl 1 rfl ?_
  refine wv_iald l (vI h 125 l) dX7_twice_50 rfl (hW.2 24 rfl).1 rfl (by show l < 200; omega) (by simp [vI, vL, vP, sI, sL, sP, up2]) ?_
  refine wv_iast nl dX7_twice_51 rfl (hW.2 24 rfl).1 rfl (by show nl < 200; omega) ?_
  refine wp_aload_n dX7_twice_52 rfl 0 rfl ?_
  refine wp_getP (b := 126) dX7_twice_53 flX7_78 rfl rfl hW.1 (hW.2 25 rfl).2 ?_
  refine wp_aload_n dX7_twice_56 rfl 0 rfl ?_
  refine wv_getI (nI nl) dX7_twice_57 flX7_197 rfl rfl hW.1 (Eq.trans (b := vI h 100 22) (by simp [vI, vL, vP, sI, sL, sP, up2]) hc22) ?_
  refine wp_pc (pc' := 60) rfl ?_
  refine wp_aload_n dX7_twice_60 rfl 0 rfl ?_
  refine wp_getP (b := 126) dX7_twice_61 flX7_78 rfl rfl hW.1 (hW.2 25 rfl).2 ?_
  refine wp_iload_n dX7_twice_64 rfl 1 rfl ?_
  refine wv_iald l (vI h 126 l) dX7_twice_65 rfl (hW.2 25 rfl).1 rfl (by show l < 200; omega) (by simp [vI, vL, vP, sI, sL, sP, up2]) ?_
  refine wv_iast nl dX7_twice_66 rfl (hW.2 25 rfl).1 rfl (by show nl < 200; omega) ?_
  refine wp_aload_n dX7_twice_67 rfl 0 rfl ?_
  refine wp_getP (b := 127) dX7_twice_68 flX7_81 rfl rfl hW.1 (hW.2 26 rfl).2 ?_
  refine wp_aload_n dX7_twice_71 rfl 0 rfl ?_
  refine wv_getI (nI nl) dX7_twice_72 flX7_197 rfl rfl hW.1 (Eq.trans (b := vI h 100 22) (by simp [vI, vL, vP, sI, sL, sP, up2]) hc22) ?_
  refine wp_aload_n dX7_twice_75 rfl 0 rfl ?_
  refine wp_getP (b := 127) dX7_twice_76 flX7_81 rfl rfl hW.1 (hW.2 26 rfl).2 ?_
  refine wp_iload_n dX7_twice_79 rfl 1 rfl ?_
  refine wv_lald l (vL h 127 l) dX7_twice_80 rfl (hW.2 26 rfl).1 rfl (by show l < 200; omega) rfl ?_
  refine wv_last nl dX7_twice_81 rfl (hW.2 26 rfl).1 rfl (by show nl < 200; omega) ?_
  refine wp_aload_n dX7_twice_82 rfl 0 rfl ?_
  refine wp_pc (pc' := 83) rfl ?_
  refine wp_getP (b := 128) dX7_twice_83 flX7_84 rfl rfl hW.1 (hW.2 27 rfl).2 ?_
  refine wp_aload_n dX7_twice_86 rfl 0 rfl ?_
  refine wv_getI (nI nl) dX7_twice_87 flX7_197 rfl rfl hW.1 (Eq.trans (b := vI h 100 22) (by simp [vI, vL, vP, sI, sL, sP, up2]) hc22) ?_
  refine wp_aload_n dX7_twice_90 rfl 0 rfl ?_
  refine wp_getP (b := 128) dX7_twice_91 flX7_84 rfl rfl hW.1 (hW.2 27 rfl).2 ?_
  refine wp_iload_n dX7_twice_94 rfl 1 rfl ?_
  refine wv_bald l (vI h 128 l) dX7_twice_95 rfl (hW.2 27 rfl).1 rfl (by show l < 200; omega) (by simp [vI, vL, vP, sI, sL, sP, up2]) ?_
  refine wv_bast nl dX7_twice_96 rfl (hW.2 27 rfl).1 rfl (by show nl < 200; omega) (nb_n hans) ?_
  refine wp_aload_n dX7_twice_97 rfl 0 rfl ?_
  refine wp_getP (b := 129) dX7_twice_98 flX7_87 rfl rfl hW.1 (hW.2 28 rfl).2 ?_
  refine wp_aload_n dX7_twice_101 rfl 0 rfl ?_
  refine wv_getI (nI nl) dX7_twice_102 flX7_197 rfl rfl hW.1 (Eq.trans (b := vI h 100 22) (by simp [vI, vL, vP, sI, sL, sP, up2]) hc22) ?_
  refine wp_aload_n dX7_twice_105 rfl 0 rfl ?_
  refine wp_getP (b := 129) dX7_twice_106 flX7_87 rfl rfl hW.1 (hW.2 28 rfl).2 ?_
  refine wp_iload_n dX7_twice_109 rfl 1 rfl ?_
  refine wp_pc (pc' := 110) rfl ?_
  refine wv_lald l (vL h 129 l) dX7_twice_110 rfl (hW.2 28 rfl).1 rfl (by show l < 200; omega) (by simp [vI, vL, vP, sI, sL, sP, up2]) ?_
  refine wv_last nl dX7_twice_111 rfl (hW.2 28 rfl).1 rfl (by show nl < 200; omega) ?_
  refine wp_aload_n dX7_twice_112 rfl 0 rfl ?_
  refine wp_getP (b := 130) dX7_twice_113 flX7_90 rfl rfl hW.1 (hW.2 29 rfl).2 ?_
  refine wp_aload_n dX7_twice_116 rfl 0 rfl ?_
  refine wv_getI (nI nl) dX7_twice_117 flX7_197 rfl rfl hW.1 (Eq.trans (b := vI h 100 22) (by simp [vI, vL, vP, sI, sL, sP, up2]) hc22) ?_
  refine wp_aload_n dX7_twice_120 rfl 0 rfl ?_
  refine wp_getP (b := 130) dX7_twice_121 flX7_90 rfl rfl hW.1 (hW.2 29 rfl).2 ?_
  refine wp_iload_n dX7_twice_124 rfl 1 rfl ?_
  refine wv_lald l (vL h 130 l) dX7_twice_125 rfl (hW.2 29 rfl).1 rfl (by show l < 200; omega) (by simp [vI, vL, vP, sI, sL, sP, up2]) ?_
  refine wv_last nl dX7_twice_126 rfl (hW.2 29 rfl).1 rfl (by show nl < 200; omega) ?_
  refine wp_aload_n dX7_twice_127 rfl 0 rfl ?_
  refine wp_dup dX7_twice_128 rfl ?_
  refine wv_getI (nI nl) dX7_twice_129 flX7_197 rfl rfl hW.1 (Eq.trans (b := vI h 100 22) (by simp [vI, vL, vP, sI, sL, sP, up2]) hc22) ?_
  refine wp_iconst (v := 1) dX7_twice_132 (by decide) ?_
  refine wp_pc (pc' := 133) rfl ?_
  refine wv_iadd (nI (nl + 1)) (wN_add rfl rfl) dX7_twice_133 ?_
  refine wp_putI dX7_twice_134 flX7_197 (Or.inl rfl) rfl rfl rfl rfl hW.1 ?_
  refine wp_aload_n dX7_twice_137 rfl 0 rfl ?_
  refine wv_getI (nI (nl + 1)) dX7_twice_138 flX7_197 rfl rfl hW.1 (by simp [vI, vL, vP, sI, sL, sP, up2]) ?_
  refine wp_iconst (v := 1) dX7_twice_141 (by decide) ?_
  refine wv_isub (nI nl) (nI_pred _) dX7_twice_142 ?_
  refine wp_i2l dX7_twice_143 ?_
  refine wp_lret dX7_twice_144 rfl (by decide) (by decide) ?_
  exact hp
def tkM (h : HP) (l t : Nat) : HP := if vI h 103 t = 4 then sI (sL (sL (sI h 128 l 1) 129 l (vL h 112 t)) 130 l (vL h 113 t)) 126 l 1 else sI (sL (sL (sI h 128 l 1) 129 l (mLo h t)) 130 l (mHi h t)) 126 l 1
def brM (h : HP) (l f t : Nat) : HP := sL (sL (sL (sI (sI h 126 l 2) 119 (10 * f + t) 1) 120 (10 * f + t) (vL h 129 l)) 121 (10 * f + t) (vL h 130 l + mAM h f (mCn h f - vL h 127 l))) 122 (10 * f + t) (mCn h f)
theorem mCong {h h' : HP} (e : ∀ a, (a = 100 ∨ (104 ≤ a ∧ a ≤ 111)) → vL h' a = vL h a) (e2 : vI h' 103 = vI h 103) (t : Nat) : mCn h' t = mCn h t ∧ mLo h' t = mLo h t ∧ mHi h' t = mHi h t ∧ (∀ d, mAL h' t d = mAL h t d) ∧ (∀ d, mAM h' t d = mAM h t d) ∧ (DV h t → DV h' t) := by
  have c1 : mCn h' t = mCn h t := by unfold mCn; rw [e 100 (by omega), e 106 (by omega), e 107 (by omega), e 108 (by omega)]
  have c2 : ∀ d, mAL h' t d = mAL h t d := fun d => by unfold mAL; rw [e 104 (by omega)]
  have c3 : ∀ d, mAM h' t d = mAM h t d := fun d => by unfold mAM; rw [e 104 (by omega)]
  refine ⟨c1, ?_, ?_, c2, c3, fun hd => DV_eq (by rw [e 108 (by omega)]) (by rw [e 104 (by omega)]) hd⟩
  · unfold mLo; rw [e 100 (by omega), e 105 (by omega), e 109 (by omega), e 111 (by omega), e2, c1, c2]
  · unfold mHi; rw [e 100 (by omega), e 105 (by omega), e 110 (by omega), e 111 (by omega), e2, c1, c3]
set_option maxRecDepth 100000 in
set_option maxHeartbeats 4000000 in
theorem cm_deliver {g : GG} {h : HP} {Post : Option Value → HP → Prop} (nl : Nat) (hW : MW h) (hc22 : vI h 100 22 = nI nl) (hnl : nl < 200) (l : Nat) (hl : l < nl) (hu : mUw h l) (f t : Nat) (hf : vI h 124 l = nI f) (ht : vI h 125 l = nI t) (hfn : f < 10) (htn : t < 10) (hdf : DV h f) (hdt : DV h t) (h00 : vI h 126 l = 0 → ¬ vI h 114 t = 0 → Post (some (.long 0)) (sI h 126 l 3)) (h01 : vI h 126 l = 0 → vI h 114 t = 0 → Post (some (.long 1)) (tkM h l t)) (h10 : ¬ vI h 126 l = 0 → ¬ vI h 114 f = 0 → Post (some (.long 0)) (sI h 126 l 3)) (h12 : ¬ vI h 126 l = 0 → vI h 114 f = 0 → Post (some (.long 2)) (brM h l f t)) : CT g mX7_deliver [.ref 100, .int (nI l)] h Post := by
  show WP g mX7_deliver 0 [(0, .ref 100), (1, .int (nI l))] [] h 0 0 Post
  refine wp_aload_n dX7_deliver_0 rfl 0 rfl ?_
  refine wp_iload_n dX7_deliver_1 rfl 1 rfl ?_
  refine wp_callV mX7_isUnderWay 100 [.int (nI l)] [] (c := 7) dX7_deliver_2 iX7_isUnderWay (fun _ => trivial) mlX7_200 imX7_isUnderWay seX7_isUnderWay (by decide) rfl rfl ⟨by decide, by decide⟩ rfl rfl (Nat.le_of_ble_eq_true rfl) (Nat.le_of_ble_eq_true rfl) (by decide) (by decide) ?_
  refine cm_isUW nl hW hc22 hnl l hl (fun _ => ?_) (fun z => absurd hu z)
  show WP g mX7_deliver 5 [(0, .ref 100), (1, .int (nI l))] [.int 1] _ 0 0 _
  refine wp_if_ne (tgt := 12) dX7_deliver_5 (by decide) (fun _ => ?_) (fun c_1 => absurd c_1 (by decide))
  refine wp_aload_n dX7_deliver_12 rfl 0 rfl ?_
  refine wp_getP (b := 124) dX7_deliver_13 flX7_72 rfl rfl hW.1 (hW.2 23 rfl).2 ?_
  refine wp_iload_n dX7_deliver_16 rfl 1 rfl ?_
  refine wv_iald l (nI f) dX7_deliver_17 rfl (hW.2 23 rfl).1 rfl (by show l < 200; omega) hf ?_
  refine wp_istore_n (lv' := [(2, .int (nI f)), (0, .ref 100), (1, .int (nI l))]) dX7_deliver_18 rfl (by decide) rfl ?_
  refine wp_aload_n dX7_deliver_19 rfl 1 rfl ?_
  refine wp_getP (b := 125) dX7_deliver_20 flX7_75 rfl rfl hW.1 (hW.2 24 rfl).2 ?_
  refine wp_iload_n dX7_deliver_23 rfl 2 rfl ?_
  refine wv_iald l (nI t) dX7_deliver_24 rfl (hW.2 24 rfl).1 rfl (by show l < 200; omega) ht ?_
  refine wp_istore_n (lv' := [(3, .int (nI t)), (2, .int (nI f)), (0, .ref 100), (1, .int (nI l))]) dX7_deliver_25 rfl (by decide) rfl ?_
  refine wp_aload_n dX7_deliver_26 rfl 2 rfl ?_
  refine wp_pc (pc' := 27) rfl ?_
  refine wp_getP (b := 126) dX7_deliver_27 flX7_78 rfl rfl hW.1 (hW.2 25 rfl).2 ?_
  refine wp_iload_n dX7_deliver_30 rfl 3 rfl ?_
  refine wv_iald l (vI h 126 l) dX7_deliver_31 rfl (hW.2 25 rfl).1 rfl (by show l < 200; omega) rfl ?_
  refine wp_if_ne (tgt := 129) dX7_deliver_32 (by decide) (fun c_2 => ?_) (fun c_2 => ?_)
  · refine wp_aload_n dX7_deliver_129 rfl 2 rfl ?_
    refine wp_getP (b := 114) dX7_deliver_130 flX7_44 rfl rfl hW.1 (hW.2 13 rfl).2 ?_
    refine wp_iload_n dX7_deliver_133 rfl 1 rfl ?_
    refine wv_bald f (vI h 114 f) dX7_deliver_134 rfl (hW.2 13 rfl).1 rfl (by show f < 10; omega) rfl ?_
    refine wp_if_eq (tgt := 147) dX7_deliver_135 (by decide) (fun c_3 => ?_) (fun c_3 => ?_)
    · refine wp_aload_n dX7_deliver_147 rfl 2 rfl ?_
      refine wp_getP (b := 126) dX7_deliver_148 flX7_78 rfl rfl hW.1 (hW.2 25 rfl).2 ?_
      refine wp_iload_n dX7_deliver_151 rfl 3 rfl ?_
      refine wp_iconst (v := 2) dX7_deliver_152 (by decide) ?_
      refine wv_iast l dX7_deliver_153 rfl (hW.2 25 rfl).1 rfl (by show l < 200; omega) ?_
      refine wp_bipush (v := 10) dX7_deliver_154 (by decide) ?_
      refine wp_iload_n dX7_deliver_156 rfl 1 rfl ?_
      refine wv_imul (nI (10 * f)) (wN_mul rfl rfl) dX7_deliver_157 ?_
      refine wp_iload_n dX7_deliver_158 rfl 0 rfl ?_
      refine wv_iadd (nI ((10 * f) + t)) (wN_add rfl rfl) dX7_deliver_159 ?_
      refine wp_istore (lv' := [(4, .int (nI ((10 * f) + t))), (3, .int (nI t)), (2, .int (nI f)), (0, .ref 100), (1, .int (nI l))]) dX7_deliver_160 (by decide) rfl ?_
      refine wp_aload_n dX7_deliver_162 rfl 3 rfl ?_
      refine wp_getP (b := 119) dX7_deliver_163 flX7_60 rfl rfl hW.1 (hW.2 18 rfl).2 ?_
      refine wp_iload dX7_deliver_166 0 rfl ?_
      refine wp_pc (pc' := 168) rfl ?_
      refine wp_iconst (v := 1) dX7_deliver_168 (by decide) ?_
      refine wv_bast (10 * f + t) dX7_deliver_169 rfl (hW.2 18 rfl).1 rfl (by show 10 * f + t < 100; omega) rfl ?_
      refine wp_aload_n dX7_deliver_170 rfl 3 rfl ?_
      refine wp_getP (b := 120) dX7_deliver_171 flX7_63 rfl rfl hW.1 (hW.2 19 rfl).2 ?_
      refine wp_iload dX7_deliver_174 0 rfl ?_
      refine wp_aload_n dX7_deliver_176 rfl 3 rfl ?_
      refine wp_getP (b := 129) dX7_deliver_177 flX7_87 rfl rfl hW.1 (hW.2 28 rfl).2 ?_
      refine wp_iload_n dX7_deliver_180 rfl 4 rfl ?_
      refine wv_lald l (vL h 129 l) dX7_deliver_181 rfl (hW.2 28 rfl).1 rfl (by show l < 200; omega) rfl ?_
      refine wv_last (10 * f + t) dX7_deliver_182 rfl (hW.2 19 rfl).1 rfl (by show 10 * f + t < 100; omega) ?_
      refine wp_aload_n dX7_deliver_183 rfl 3 rfl ?_
      refine wp_getP (b := 121) dX7_deliver_184 flX7_66 rfl rfl hW.1 (hW.2 20 rfl).2 ?_
      refine wp_iload dX7_deliver_187 0 rfl ?_
      refine wp_aload_n dX7_deliver_189 rfl 3 rfl ?_
      refine wp_getP (b := 130) dX7_deliver_190 flX7_90 rfl rfl hW.1 (hW.2 29 rfl).2 ?_
      refine wp_pc (pc' := 193) rfl ?_
      refine wp_iload_n dX7_deliver_193 rfl 4 rfl ?_
      refine wv_lald l (vL h 130 l) dX7_deliver_194 rfl (hW.2 29 rfl).1 rfl (by show l < 200; omega) (by simp [vI, vL, vP, sI, sL, sP, up2]) ?_
      refine wp_aload_n dX7_deliver_195 rfl 3 rfl ?_
      refine wp_iload_n dX7_deliver_196 rfl 2 rfl ?_
      refine wp_aload_n dX7_deliver_197 rfl 3 rfl ?_
      refine wp_iload_n dX7_deliver_198 rfl 2 rfl ?_
      refine wp_callV mX7_counterOf 100 [.int (nI f)] [.int (nI f), .ref 100, .long (vL h 130 l), .int (nI ((10 * f) + t)), .ref 121] (c := 7) dX7_deliver_199 iX7_counterOf (fun _ => trivial) mlX7_173 imX7_counterOf seX7_counterOf (by decide) rfl rfl ⟨by decide, by decide⟩ rfl rfl (Nat.le_of_ble_eq_true rfl) (Nat.le_of_ble_eq_true rfl) (by decide) (by decide) ?_
      have mc := mCong (h := h) (h' := (sL (sI (sI h 126 l 2) 119 (10 * f + t) 1) 120 (10 * f + t) (vL h 129 l))) (fun a ha => by rw [vLn (by omega)]; rfl) (by funext q; simp [vI, sI, sL, up2]) f
      refine cm_counterOf f hfn (by exact MW_eq rfl rfl hW) (mc.2.2.2.2.2 hdf) ?_
      rw [mc.1]
      show WP g mX7_deliver 202 [(4, .int (nI ((10 * f) + t))), (3, .int (nI t)), (2, .int (nI f)), (0, .ref 100), (1, .int (nI l))] [.long (mCn h f), .int (nI f), .ref 100, .long (vL h 130 l), .int (nI ((10 * f) + t)), .ref 121] _ 0 0 _
      refine wp_aload_n dX7_deliver_202 rfl 3 rfl ?_
      refine wp_getP (b := 127) dX7_deliver_203 flX7_81 rfl rfl hW.1 (hW.2 26 rfl).2 ?_
      refine wp_iload_n dX7_deliver_206 rfl 4 rfl ?_
      refine wv_lald l (vL h 127 l) dX7_deliver_207 rfl (hW.2 26 rfl).1 rfl (by show l < 200; omega) (by simp [vI, vL, vP, sI, sL, sP, up2]) ?_
      refine wp_lsub dX7_deliver_208 ?_
      refine wp_callV mX7_atMost 100 [.int (nI f), .long ((mCn h f) - (vL h 127 l))] [.long (vL h 130 l), .int (nI ((10 * f) + t)), .ref 121] (c := 7) dX7_deliver_209 iX7_atMost (fun _ => trivial) mlX7_184 imX7_atMost seX7_atMost (by decide) rfl rfl ⟨by decide, by decide⟩ rfl rfl (Nat.le_of_ble_eq_true rfl) (Nat.le_of_ble_eq_true rfl) (by decide) (by decide) ?_
      have mc := mCong (h := h) (h' := (sL (sI (sI h 126 l 2) 119 (10 * f + t) 1) 120 (10 * f + t) (vL h 129 l))) (fun a ha => by rw [vLn (by omega)]; rfl) (by funext q; simp [vI, sI, sL, up2]) f
      refine cm_atMost f hfn (by exact MW_eq rfl rfl hW) (mc.2.2.2.2.2 hdf) ((mCn h f) - (vL h 127 l)) ?_
      rw [mc.2.2.2.2.1]
      show WP g mX7_deliver 212 [(4, .int (nI ((10 * f) + t))), (3, .int (nI t)), (2, .int (nI f)), (0, .ref 100), (1, .int (nI l))] [.long (mAM h f ((mCn h f) - (vL h 127 l))), .long (vL h 130 l), .int (nI ((10 * f) + t)), .ref 121] _ 0 0 _
      refine wp_ladd dX7_deliver_212 ?_
      refine wv_last (10 * f + t) dX7_deliver_213 rfl (hW.2 20 rfl).1 rfl (by show 10 * f + t < 100; omega) ?_
      refine wp_pc (pc' := 214) rfl ?_
      refine wp_aload_n dX7_deliver_214 rfl 3 rfl ?_
      refine wp_getP (b := 122) dX7_deliver_215 flX7_69 rfl rfl hW.1 (hW.2 21 rfl).2 ?_
      refine wp_iload dX7_deliver_218 0 rfl ?_
      refine wp_aload_n dX7_deliver_220 rfl 3 rfl ?_
      refine wp_iload_n dX7_deliver_221 rfl 2 rfl ?_
      refine wp_callV mX7_counterOf 100 [.int (nI f)] [.int (nI ((10 * f) + t)), .ref 122] (c := 7) dX7_deliver_222 iX7_counterOf (fun _ => trivial) mlX7_173 imX7_counterOf seX7_counterOf (by decide) rfl rfl ⟨by decide, by decide⟩ rfl rfl (Nat.le_of_ble_eq_true rfl) (Nat.le_of_ble_eq_true rfl) (by decide) (by decide) ?_
      have mc := mCong (h := h) (h' := (sL (sL (sI (sI h 126 l 2) 119 (10 * f + t) 1) 120 (10 * f + t) (vL h 129 l)) 121 (10 * f + t) ((vL h 130 l) + (mAM h f ((mCn h f) - (vL h 127 l)))))) (fun a ha => by rw [vLn (by omega), vLn (by omega)]; rfl) (by funext q; simp [vI, sI, sL, up2]) f
      refine cm_counterOf f hfn (by exact MW_eq rfl rfl hW) (mc.2.2.2.2.2 hdf) ?_
      rw [mc.1]
      show WP g mX7_deliver 225 [(4, .int (nI ((10 * f) + t))), (3, .int (nI t)), (2, .int (nI f)), (0, .ref 100), (1, .int (nI l))] [.long (mCn h f), .int (nI ((10 * f) + t)), .ref 122] _ 0 0 _
      refine wv_last (10 * f + t) dX7_deliver_225 rfl (hW.2 21 rfl).1 rfl (by show 10 * f + t < 100; omega) ?_
      refine wp_ldc2 dX7_deliver_226 cnX7_203 ?_
      refine wp_lret dX7_deliver_229 rfl (by decide) (by decide) ?_
      exact h12 c_2 c_3
    · refine wp_aload_n dX7_deliver_138 rfl 2 rfl ?_
      refine wp_getP (b := 126) dX7_deliver_139 flX7_78 rfl rfl hW.1 (hW.2 25 rfl).2 ?_
      refine wp_iload_n dX7_deliver_142 rfl 3 rfl ?_
      refine wp_iconst (v := 3) dX7_deliver_143 (by decide) ?_
      refine wv_iast l dX7_deliver_144 rfl (hW.2 25 rfl).1 rfl (by show l < 200; omega) ?_
      refine wp_lconst (v := 0) dX7_deliver_145 rfl ?_
      refine wp_lret dX7_deliver_146 rfl (by decide) (by decide) ?_
      exact h10 c_2 c_3
  · refine wp_aload_n dX7_deliver_35 rfl 2 rfl ?_
    refine wp_getP (b := 114) dX7_deliver_36 flX7_44 rfl rfl hW.1 (hW.2 13 rfl).2 ?_
    refine wp_iload_n dX7_deliver_39 rfl 0 rfl ?_
    refine wv_bald t (vI h 114 t) dX7_deliver_40 rfl (hW.2 13 rfl).1 rfl (by show t < 10; omega) rfl ?_
    refine wp_if_eq (tgt := 53) dX7_deliver_41 (by decide) (fun c_4 => ?_) (fun c_4 => ?_)
    · refine wp_aload_n dX7_deliver_53 rfl 2 rfl ?_
      refine wp_getP (b := 128) dX7_deliver_54 flX7_84 rfl rfl hW.1 (hW.2 27 rfl).2 ?_
      refine wp_iload_n dX7_deliver_57 rfl 3 rfl ?_
      refine wp_iconst (v := 1) dX7_deliver_58 (by decide) ?_
      refine wv_bast l dX7_deliver_59 rfl (hW.2 27 rfl).1 rfl (by show l < 200; omega) rfl ?_
      refine wp_aload_n dX7_deliver_60 rfl 2 rfl ?_
      refine wp_getP (b := 129) dX7_deliver_61 flX7_87 rfl rfl hW.1 (hW.2 28 rfl).2 ?_
      refine wp_iload_n dX7_deliver_64 rfl 3 rfl ?_
      refine wp_aload_n dX7_deliver_65 rfl 2 rfl ?_
      refine wp_getP (b := 103) dX7_deliver_66 flX7_7 rfl rfl hW.1 (hW.2 2 rfl).2 ?_
      refine wp_iload_n dX7_deliver_69 rfl 0 rfl ?_
      refine wv_iald t (vI h 103 t) dX7_deliver_70 rfl (hW.2 2 rfl).1 rfl (by show t < 10; omega) (by simp [vI, vL, vP, sI, sL, sP, up2]) ?_
      refine wp_iconst (v := 4) dX7_deliver_71 (by decide) ?_
      refine wp_icmp_ne (tgt := 84) dX7_deliver_72 (by decide) (fun c_5 => ?_) (fun c_5 => ?_)
      · refine wp_aload_n dX7_deliver_84 rfl 2 rfl ?_
        refine wp_iload_n dX7_deliver_85 rfl 0 rfl ?_
        refine wp_callV mX7_lowOf 100 [.int (nI t)] [.int (nI l), .ref 129] (c := 7) dX7_deliver_86 iX7_lowOf (fun _ => trivial) mlX7_187 imX7_lowOf seX7_lowOf (by decide) rfl rfl ⟨by decide, by decide⟩ rfl rfl (Nat.le_of_ble_eq_true rfl) (Nat.le_of_ble_eq_true rfl) (by decide) (by decide) ?_
        have mc := mCong (h := h) (h' := (sI h 128 l 1)) (fun a ha => by rfl) (by funext q; simp [vI, sI, sL, up2]) t
        refine cm_lowOf t htn (by exact MW_eq rfl rfl hW) (mc.2.2.2.2.2 hdt) ?_
        rw [mc.2.1]
        show WP g mX7_deliver 89 [(3, .int (nI t)), (2, .int (nI f)), (0, .ref 100), (1, .int (nI l))] [.long (mLo h t), .int (nI l), .ref 129] _ 0 0 _
        refine wv_last l dX7_deliver_89 rfl (hW.2 28 rfl).1 rfl (by show l < 200; omega) ?_
        refine wp_aload_n dX7_deliver_90 rfl 2 rfl ?_
        refine wp_getP (b := 130) dX7_deliver_91 flX7_90 rfl rfl hW.1 (hW.2 29 rfl).2 ?_
        refine wp_iload_n dX7_deliver_94 rfl 3 rfl ?_
        refine wp_aload_n dX7_deliver_95 rfl 2 rfl ?_
        refine wp_getP (b := 103) dX7_deliver_96 flX7_7 rfl rfl hW.1 (hW.2 2 rfl).2 ?_
        refine wp_iload_n dX7_deliver_99 rfl 0 rfl ?_
        refine wv_iald t (vI h 103 t) dX7_deliver_100 rfl (hW.2 2 rfl).1 rfl (by show t < 10; omega) (by simp [vI, vL, vP, sI, sL, sP, up2]) ?_
        refine wp_iconst (v := 4) dX7_deliver_101 (by decide) ?_
        refine wp_icmp_ne (tgt := 114) dX7_deliver_102 (by decide) (fun _ => ?_) (fun c_6 => absurd c_6 c_5)
        refine wp_aload_n dX7_deliver_114 rfl 2 rfl ?_
        refine wp_pc (pc' := 115) rfl ?_
        refine wp_iload_n dX7_deliver_115 rfl 0 rfl ?_
        refine wp_callV mX7_highOf 100 [.int (nI t)] [.int (nI l), .ref 130] (c := 7) dX7_deliver_116 iX7_highOf (fun _ => trivial) mlX7_190 imX7_highOf seX7_highOf (by decide) rfl rfl ⟨by decide, by decide⟩ rfl rfl (Nat.le_of_ble_eq_true rfl) (Nat.le_of_ble_eq_true rfl) (by decide) (by decide) ?_
        have mc := mCong (h := h) (h' := (sL (sI h 128 l 1) 129 l (mLo h t))) (fun a ha => by rw [vLn (by omega)]; rfl) (by funext q; simp [vI, sI, sL, up2]) t
        refine cm_highOf t htn (by exact MW_eq rfl rfl hW) (mc.2.2.2.2.2 hdt) ?_
        rw [mc.2.2.1]
        show WP g mX7_deliver 119 [(3, .int (nI t)), (2, .int (nI f)), (0, .ref 100), (1, .int (nI l))] [.long (mHi h t), .int (nI l), .ref 130] _ 0 0 _
        refine wv_last l dX7_deliver_119 rfl (hW.2 29 rfl).1 rfl (by show l < 200; omega) ?_
        refine wp_aload_n dX7_deliver_120 rfl 2 rfl ?_
        refine wp_getP (b := 126) dX7_deliver_121 flX7_78 rfl rfl hW.1 (hW.2 25 rfl).2 ?_
        refine wp_iload_n dX7_deliver_124 rfl 3 rfl ?_
        refine wp_iconst (v := 1) dX7_deliver_125 (by decide) ?_
        refine wv_iast l dX7_deliver_126 rfl (hW.2 25 rfl).1 rfl (by show l < 200; omega) ?_
        refine wp_lconst (v := 1) dX7_deliver_127 rfl ?_
        refine wp_lret dX7_deliver_128 rfl (by decide) (by decide) ?_
        have q := h01 c_2 c_4
        rw [show tkM h l t = _ from if_neg c_5] at q
        exact q
      · refine wp_aload_n dX7_deliver_75 rfl 2 rfl ?_
        refine wp_getP (b := 112) dX7_deliver_76 flX7_38 rfl rfl hW.1 (hW.2 11 rfl).2 ?_
        refine wp_iload_n dX7_deliver_79 rfl 0 rfl ?_
        refine wv_lald t (vL h 112 t) dX7_deliver_80 rfl (hW.2 11 rfl).1 rfl (by show t < 10; omega) rfl ?_
        refine wp_goto (tgt := 89) dX7_deliver_81 (by decide) ?_
        refine wv_last l dX7_deliver_89 rfl (hW.2 28 rfl).1 rfl (by show l < 200; omega) ?_
        refine wp_aload_n dX7_deliver_90 rfl 2 rfl ?_
        refine wp_getP (b := 130) dX7_deliver_91 flX7_90 rfl rfl hW.1 (hW.2 29 rfl).2 ?_
        refine wp_iload_n dX7_deliver_94 rfl 3 rfl ?_
        refine wp_aload_n dX7_deliver_95 rfl 2 rfl ?_
        refine wp_getP (b := 103) dX7_deliver_96 flX7_7 rfl rfl hW.1 (hW.2 2 rfl).2 ?_
        refine wp_iload_n dX7_deliver_99 rfl 0 rfl ?_
        refine wv_iald t (vI h 103 t) dX7_deliver_100 rfl (hW.2 2 rfl).1 rfl (by show t < 10; omega) (by simp [vI, vL, vP, sI, sL, sP, up2]) ?_
        refine wp_iconst (v := 4) dX7_deliver_101 (by decide) ?_
        refine wp_pc (pc' := 102) rfl ?_
        refine wp_icmp_ne (tgt := 114) dX7_deliver_102 (by decide) (fun c_7 => absurd c_5 c_7) (fun _ => ?_)
        refine wp_aload_n dX7_deliver_105 rfl 2 rfl ?_
        refine wp_getP (b := 113) dX7_deliver_106 flX7_41 rfl rfl hW.1 (hW.2 12 rfl).2 ?_
        refine wp_iload_n dX7_deliver_109 rfl 0 rfl ?_
        refine wv_lald t (vL h 113 t) dX7_deliver_110 rfl (hW.2 12 rfl).1 rfl (by show t < 10; omega) (by simp [vI, vL, vP, sI, sL, sP, up2]) ?_
        refine wp_goto (tgt := 119) dX7_deliver_111 (by decide) ?_
        refine wv_last l dX7_deliver_119 rfl (hW.2 29 rfl).1 rfl (by show l < 200; omega) ?_
        refine wp_aload_n dX7_deliver_120 rfl 2 rfl ?_
        refine wp_getP (b := 126) dX7_deliver_121 flX7_78 rfl rfl hW.1 (hW.2 25 rfl).2 ?_
        refine wp_iload_n dX7_deliver_124 rfl 3 rfl ?_
        refine wp_iconst (v := 1) dX7_deliver_125 (by decide) ?_
        refine wv_iast l dX7_deliver_126 rfl (hW.2 25 rfl).1 rfl (by show l < 200; omega) ?_
        refine wp_lconst (v := 1) dX7_deliver_127 rfl ?_
        refine wp_lret dX7_deliver_128 rfl (by decide) (by decide) ?_
        have q := h01 c_2 c_4
        rw [show tkM h l t = _ from if_pos c_5] at q
        exact q
    · refine wp_aload_n dX7_deliver_44 rfl 2 rfl ?_
      refine wp_getP (b := 126) dX7_deliver_45 flX7_78 rfl rfl hW.1 (hW.2 25 rfl).2 ?_
      refine wp_iload_n dX7_deliver_48 rfl 3 rfl ?_
      refine wp_iconst (v := 3) dX7_deliver_49 (by decide) ?_
      refine wv_iast l dX7_deliver_50 rfl (hW.2 25 rfl).1 rfl (by show l < 200; omega) ?_
      refine wp_lconst (v := 0) dX7_deliver_51 rfl ?_
      refine wp_lret dX7_deliver_52 rfl (by decide) (by decide) ?_
      exact h00 c_2 c_4
