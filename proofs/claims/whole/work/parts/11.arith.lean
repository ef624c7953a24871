/-! contracts: arithmetic -/
/-- the floor of a quotient, as java.lang.Math has it -/
def fdv (a b : Int64) : Int64 := if a ^^^ b < 0 ∧ ¬ a / b * b = a then a / b - 1 else a / b
def asB (p : Prop) [Decidable p] : Int64 := if p then 1 else 0
set_option maxRecDepth 100000 in
set_option maxHeartbeats 4000000 in
theorem ct_floorDiv {g : GG} {h : HP} {Post : Option Value → HP → Prop} (a b : Int64) (hb : ¬ b = 0) (hp : Post (some (.long (fdv a b))) h) : CT g mJ9_floorDiv_f86c9 [.long a, .long b] h Post := by
  show WP g mJ9_floorDiv_f86c9 0 [(0, .long a), (2, .long b)] [] h 0 0 Post
  refine wp_lload_n dJ9_floorDiv_f86c9_0 rfl 0 rfl ?_
  refine wp_lload_n dJ9_floorDiv_f86c9_1 rfl 1 rfl ?_
  refine wp_ldiv dJ9_floorDiv_f86c9_2 (by assumption) ?_
  refine wp_lstore (lv' := [(4, .long (a / b)), (0, .long a), (2, .long b)]) dJ9_floorDiv_f86c9_3 (by decide) rfl ?_
  refine wp_lload_n dJ9_floorDiv_f86c9_5 rfl 1 rfl ?_
  refine wp_lload_n dJ9_floorDiv_f86c9_6 rfl 2 rfl ?_
  refine wp_lxor dJ9_floorDiv_f86c9_7 ?_
  refine wp_lconst (v := 0) dJ9_floorDiv_f86c9_8 rfl ?_
  refine wl_ge (tgt := 27) dJ9_floorDiv_f86c9_9 dJ9_floorDiv_f86c9_10 (by decide) (fun c_1 => ?_) (fun c_1 => ?_)
  · refine wp_lload dJ9_floorDiv_f86c9_27 0 rfl ?_
    refine wp_lret dJ9_floorDiv_f86c9_29 rfl (by decide) (by decide) ?_
    rw [show fdv a b = a / b from if_neg (fun q => absurd q.1 (Int64.not_lt.mpr c_1))] at hp
    exact hp
  · refine wp_lload dJ9_floorDiv_f86c9_13 0 rfl ?_
    refine wp_lload_n dJ9_floorDiv_f86c9_15 rfl 2 rfl ?_
    refine wp_lmul dJ9_floorDiv_f86c9_16 ?_
    refine wp_lload_n dJ9_floorDiv_f86c9_17 rfl 1 rfl ?_
    refine wl_eq (tgt := 27) dJ9_floorDiv_f86c9_18 dJ9_floorDiv_f86c9_19 (by decide) (fun c_2 => ?_) (fun c_2 => ?_)
    · refine wp_lload dJ9_floorDiv_f86c9_27 0 rfl ?_
      refine wp_lret dJ9_floorDiv_f86c9_29 rfl (by decide) (by decide) ?_
      rw [show fdv a b = a / b from if_neg (fun q => q.2 c_2)] at hp
      exact hp
    · refine wp_lload dJ9_floorDiv_f86c9_22 0 rfl ?_
      refine wp_lconst (v := 1) dJ9_floorDiv_f86c9_24 rfl ?_
      refine wp_lsub dJ9_floorDiv_f86c9_25 ?_
      refine wp_lret dJ9_floorDiv_f86c9_26 rfl (by decide) (by decide) ?_
      rw [show fdv a b = a / b - 1 from if_pos ⟨Int64.not_le.mp c_1, c_2⟩] at hp
      exact hp
def mx64 (a b : Int64) : Int64 := if b ≤ a then a else b
def mn64 (a b : Int64) : Int64 := if a ≤ b then a else b
def ab64 (a : Int64) : Int64 := if 0 ≤ a then a else -a
set_option maxRecDepth 100000 in
set_option maxHeartbeats 4000000 in
theorem ct_max {g : GG} {h : HP} {Post : Option Value → HP → Prop} (a b : Int64) (hp : Post (some (.long (mx64 a b))) h) : CT g mJ9_max_f86c9 [.long a, .long b] h Post := by
  show WP g mJ9_max_f86c9 0 [(0, .long a), (2, .long b)] [] h 0 0 Post
  refine wp_lload_n dJ9_max_f86c9_0 rfl 0 rfl ?_
  refine wp_lload_n dJ9_max_f86c9_1 rfl 1 rfl ?_
  refine wl_lt (tgt := 10) dJ9_max_f86c9_2 dJ9_max_f86c9_3 (by decide) (fun c_1 => ?_) (fun c_1 => ?_)
  · refine wp_lload_n dJ9_max_f86c9_10 rfl 1 rfl ?_
    refine wp_lret dJ9_max_f86c9_11 rfl (by decide) (by decide) ?_
    rw [show mx64 a b = b from if_neg (Int64.not_le.mpr c_1)] at hp
    exact hp
  · refine wp_lload_n dJ9_max_f86c9_6 rfl 0 rfl ?_
    refine wp_goto (tgt := 11) dJ9_max_f86c9_7 (by decide) ?_
    refine wp_lret dJ9_max_f86c9_11 rfl (by decide) (by decide) ?_
    rw [show mx64 a b = a from if_pos (Int64.not_lt.mp c_1)] at hp
    exact hp
set_option maxRecDepth 100000 in
set_option maxHeartbeats 4000000 in
theorem ct_min {g : GG} {h : HP} {Post : Option Value → HP → Prop} (a b : Int64) (hp : Post (some (.long (mn64 a b))) h) : CT g mJ9_min_f86c9 [.long a, .long b] h Post := by
  show WP g mJ9_min_f86c9 0 [(0, .long a), (2, .long b)] [] h 0 0 Post
  refine wp_lload_n dJ9_min_f86c9_0 rfl 0 rfl ?_
  refine wp_lload_n dJ9_min_f86c9_1 rfl 1 rfl ?_
  refine wl_gt (tgt := 10) dJ9_min_f86c9_2 dJ9_min_f86c9_3 (by decide) (fun c_1 => ?_) (fun c_1 => ?_)
  · refine wp_lload_n dJ9_min_f86c9_10 rfl 1 rfl ?_
    refine wp_lret dJ9_min_f86c9_11 rfl (by decide) (by decide) ?_
    rw [show mn64 a b = b from if_neg (Int64.not_le.mpr c_1)] at hp
    exact hp
  · refine wp_lload_n dJ9_min_f86c9_6 rfl 0 rfl ?_
    refine wp_goto (tgt := 11) dJ9_min_f86c9_7 (by decide) ?_
    refine wp_lret dJ9_min_f86c9_11 rfl (by decide) (by decide) ?_
    rw [show mn64 a b = a from if_pos (Int64.not_lt.mp c_1)] at hp
    exact hp
set_option maxRecDepth 100000 in
set_option maxHeartbeats 4000000 in
theorem ct_abs {g : GG} {h : HP} {Post : Option Value → HP → Prop} (a : Int64) (hp : Post (some (.long (ab64 a))) h) : CT g mJ9_abs_067f4 [.long a] h Post := by
  show WP g mJ9_abs_067f4 0 [(0, .long a)] [] h 0 0 Post
  refine wp_lload_n dJ9_abs_067f4_0 rfl 0 rfl ?_
  refine wp_lconst (v := 0) dJ9_abs_067f4_1 rfl ?_
  refine wl_ge (tgt := 11) dJ9_abs_067f4_2 dJ9_abs_067f4_3 (by decide) (fun c_1 => ?_) (fun c_1 => ?_)
  · refine wp_lload_n dJ9_abs_067f4_11 rfl 0 rfl ?_
    refine wp_lret dJ9_abs_067f4_12 rfl (by decide) (by decide) ?_
    rw [show ab64 a = a from if_pos c_1] at hp
    exact hp
  · refine wp_lload_n dJ9_abs_067f4_6 rfl 0 rfl ?_
    refine wp_lneg dJ9_abs_067f4_7 ?_
    refine wp_goto (tgt := 12) dJ9_abs_067f4_8 (by decide) ?_
    refine wp_lret dJ9_abs_067f4_12 rfl (by decide) (by decide) ?_
    rw [show ab64 a = -a from if_neg c_1] at hp
    exact hp
set_option maxRecDepth 100000 in
set_option maxHeartbeats 4000000 in
theorem ct_asBit {g : GG} {h : HP} {Post : Option Value → HP → Prop} (x : Int32) (hp : Post (some (.long (if x = 0 then 0 else 1))) h) : CT g mX6_asBit [.int x] h Post := by
  show WP g mX6_asBit 0 [(0, .int x)] [] h 0 0 Post
  refine wp_iload_n dX6_asBit_0 rfl 0 rfl ?_
  refine wp_if_eq (tgt := 8) dX6_asBit_1 (by decide) (fun c_1 => ?_) (fun c_1 => ?_)
  · refine wp_lconst (v := 0) dX6_asBit_8 rfl ?_
    refine wp_lret dX6_asBit_9 rfl (by decide) (by decide) ?_
    rw [if_pos c_1] at hp
    exact hp
  · refine wp_lconst (v := 1) dX6_asBit_4 rfl ?_
    refine wp_goto (tgt := 9) dX6_asBit_5 (by decide) ?_
    refine wp_lret dX6_asBit_9 rfl (by decide) (by decide) ?_
    rw [if_neg c_1] at hp
    exact hp
def floO (a b : Int64) : Int64 := if b < 1 then 0 else fdv a b
def ceiO (a b : Int64) : Int64 := if b < 1 then 0 else -fdv (-a) b
theorem ne0_1 {b : Int64} (h : ¬ b < 1) : ¬ b = 0 := by intro q; rw [q] at h; exact h (by decide)
set_option maxRecDepth 100000 in
set_option maxHeartbeats 4000000 in
theorem ct_floorOf {g : GG} {h : HP} {Post : Option Value → HP → Prop} (a b : Int64) (hp : Post (some (.long (floO a b))) h) : CT g mX6_floorOf [.long a, .long b] h Post := by
  show WP g mX6_floorOf 0 [(0, .long a), (2, .long b)] [] h 0 0 Post
  refine wp_lload_n dX6_floorOf_0 rfl 1 rfl ?_
  refine wp_lconst (v := 1) dX6_floorOf_1 rfl ?_
  refine wl_ge (tgt := 10) dX6_floorOf_2 dX6_floorOf_3 (by decide) (fun c_1 => ?_) (fun c_1 => ?_)
  · refine wp_lload_n dX6_floorOf_10 rfl 0 rfl ?_
    refine wp_lload_n dX6_floorOf_11 rfl 1 rfl ?_
    refine wp_callS mJ9_floorDiv_f86c9 [.long a, .long b] [] dX6_floorOf_12 iJ9_floorDiv_f86c9 (fun _ => trivial) mlX6_332 stJ9_floorDiv_f86c9 ⟨by decide, by decide⟩ rfl rfl (Nat.le_of_ble_eq_true rfl) (Nat.le_of_ble_eq_true rfl) (by decide) (by decide) ?_
    refine ct_floorDiv a b (ne0_1 (Int64.not_lt.mpr c_1)) ?_
    show WP g mX6_floorOf 15 [(0, .long a), (2, .long b)] [.long (fdv a b)] _ 0 0 _
    refine wp_lret dX6_floorOf_15 rfl (by decide) (by decide) ?_
    rw [show floO a b = fdv a b from if_neg (Int64.not_lt.mpr c_1)] at hp
    exact hp
  · refine wp_lconst (v := 0) dX6_floorOf_6 rfl ?_
    refine wp_goto (tgt := 15) dX6_floorOf_7 (by decide) ?_
    refine wp_lret dX6_floorOf_15 rfl (by decide) (by decide) ?_
    rw [show floO a b = 0 from if_pos (Int64.not_le.mp c_1)] at hp
    exact hp
set_option maxRecDepth 100000 in
set_option maxHeartbeats 4000000 in
theorem ct_ceilOf {g : GG} {h : HP} {Post : Option Value → HP → Prop} (a b : Int64) (hp : Post (some (.long (ceiO a b))) h) : CT g mX6_ceilOf [.long a, .long b] h Post := by
  show WP g mX6_ceilOf 0 [(0, .long a), (2, .long b)] [] h 0 0 Post
  refine wp_lload_n dX6_ceilOf_0 rfl 1 rfl ?_
  refine wp_lconst (v := 1) dX6_ceilOf_1 rfl ?_
  refine wl_ge (tgt := 10) dX6_ceilOf_2 dX6_ceilOf_3 (by decide) (fun c_1 => ?_) (fun c_1 => ?_)
  · refine wp_lload_n dX6_ceilOf_10 rfl 0 rfl ?_
    refine wp_lneg dX6_ceilOf_11 ?_
    refine wp_lload_n dX6_ceilOf_12 rfl 1 rfl ?_
    refine wp_callS mJ9_floorDiv_f86c9 [.long (-a), .long b] [] dX6_ceilOf_13 iJ9_floorDiv_f86c9 (fun _ => trivial) mlX6_332 stJ9_floorDiv_f86c9 ⟨by decide, by decide⟩ rfl rfl (Nat.le_of_ble_eq_true rfl) (Nat.le_of_ble_eq_true rfl) (by decide) (by decide) ?_
    refine ct_floorDiv (-a) b (ne0_1 (Int64.not_lt.mpr c_1)) ?_
    show WP g mX6_ceilOf 16 [(0, .long a), (2, .long b)] [.long (fdv (-a) b)] _ 0 0 _
    refine wp_lneg dX6_ceilOf_16 ?_
    refine wp_lret dX6_ceilOf_17 rfl (by decide) (by decide) ?_
    rw [show ceiO a b = -fdv (-a) b from if_neg (Int64.not_lt.mpr c_1)] at hp
    exact hp
  · refine wp_lconst (v := 0) dX6_ceilOf_6 rfl ?_
    refine wp_goto (tgt := 17) dX6_ceilOf_7 (by decide) ?_
    refine wp_lret dX6_ceilOf_17 rfl (by decide) (by decide) ?_
    rw [show ceiO a b = 0 from if_pos (Int64.not_le.mp c_1)] at hp
    exact hp
def aLe (d : Int64) (p : Int32) : Int64 := floO ((d - 1) * 1000) (Int32.toInt64 (1000 + p)) + 1
def aMo (d : Int64) (p : Int32) : Int64 := ceiO ((d + 1) * 1000) (Int32.toInt64 (1000 - p)) - 1
def cFo (t : Int64) (p : Int32) : Int64 := t + ceiO ((t - 1) * Int32.toInt64 p) 1000
set_option maxRecDepth 100000 in
set_option maxHeartbeats 4000000 in
theorem ct_atLeast {g : GG} {h : HP} {Post : Option Value → HP → Prop} (d : Int64) (p : Int32) (hp : Post (some (.long (aLe d p))) h) : CT g mX6_atLeast [.long d, .int p] h Post := by
  show WP g mX6_atLeast 0 [(0, .long d), (2, .int p)] [] h 0 0 Post
  refine wp_lload_n dX6_atLeast_0 rfl 0 rfl ?_
  refine wp_lconst (v := 1) dX6_atLeast_1 rfl ?_
  refine wp_lsub dX6_atLeast_2 ?_
  refine wp_ldc2 dX6_atLeast_3 cnX6_83 ?_
  refine wp_lmul dX6_atLeast_6 ?_
  refine wp_sipush (v := 1000) dX6_atLeast_7 (by decide) ?_
  refine wp_iload_n dX6_atLeast_10 rfl 1 rfl ?_
  refine wp_iadd dX6_atLeast_11 ?_
  refine wp_i2l dX6_atLeast_12 ?_
  refine wp_callS mX6_floorOf [.long ((d - 1) * 1000), .long (Int32.toInt64 (1000 + p))] [] dX6_atLeast_13 iX6_floorOf (fun _ => trivial) mlX6_240 stX6_floorOf ⟨by decide, by decide⟩ rfl rfl (Nat.le_of_ble_eq_true rfl) (Nat.le_of_ble_eq_true rfl) (by decide) (by decide) ?_
  refine ct_floorOf ((d - 1) * 1000) (Int32.toInt64 (1000 + p))  ?_
  show WP g mX6_atLeast 16 [(0, .long d), (2, .int p)] [.long (floO ((d - 1) * 1000) (Int32.toInt64 (1000 + p)))] _ 0 0 _
  refine wp_lconst (v := 1) dX6_atLeast_16 rfl ?_
  refine wp_ladd dX6_atLeast_17 ?_
  refine wp_lret dX6_atLeast_18 rfl (by decide) (by decide) ?_
  exact hp
set_option maxRecDepth 100000 in
set_option maxHeartbeats 4000000 in
theorem ct_atMost {g : GG} {h : HP} {Post : Option Value → HP → Prop} (d : Int64) (p : Int32) (hp : Post (some (.long (aMo d p))) h) : CT g mX6_atMost [.long d, .int p] h Post := by
  show WP g mX6_atMost 0 [(0, .long d), (2, .int p)] [] h 0 0 Post
  refine wp_lload_n dX6_atMost_0 rfl 0 rfl ?_
  refine wp_lconst (v := 1) dX6_atMost_1 rfl ?_
  refine wp_ladd dX6_atMost_2 ?_
  refine wp_ldc2 dX6_atMost_3 cnX6_83 ?_
  refine wp_lmul dX6_atMost_6 ?_
  refine wp_sipush (v := 1000) dX6_atMost_7 (by decide) ?_
  refine wp_iload_n dX6_atMost_10 rfl 1 rfl ?_
  refine wp_isub dX6_atMost_11 ?_
  refine wp_i2l dX6_atMost_12 ?_
  refine wp_callS mX6_ceilOf [.long ((d + 1) * 1000), .long (Int32.toInt64 (1000 - p))] [] dX6_atMost_13 iX6_ceilOf (fun _ => trivial) mlX6_335 stX6_ceilOf ⟨by decide, by decide⟩ rfl rfl (Nat.le_of_ble_eq_true rfl) (Nat.le_of_ble_eq_true rfl) (by decide) (by decide) ?_
  refine ct_ceilOf ((d + 1) * 1000) (Int32.toInt64 (1000 - p))  ?_
  show WP g mX6_atMost 16 [(0, .long d), (2, .int p)] [.long (ceiO ((d + 1) * 1000) (Int32.toInt64 (1000 - p)))] _ 0 0 _
  refine wp_lconst (v := 1) dX6_atMost_16 rfl ?_
  refine wp_lsub dX6_atMost_17 ?_
  refine wp_lret dX6_atMost_18 rfl (by decide) (by decide) ?_
  exact hp
set_option maxRecDepth 100000 in
set_option maxHeartbeats 4000000 in
theorem ct_countFor {g : GG} {h : HP} {Post : Option Value → HP → Prop} (d : Int64) (p : Int32) (hp : Post (some (.long (cFo d p))) h) : CT g mX6_countFor [.long d, .int p] h Post := by
  show WP g mX6_countFor 0 [(0, .long d), (2, .int p)] [] h 0 0 Post
  refine wp_lload_n dX6_countFor_0 rfl 0 rfl ?_
  refine wp_lload_n dX6_countFor_1 rfl 0 rfl ?_
  refine wp_lconst (v := 1) dX6_countFor_2 rfl ?_
  refine wp_lsub dX6_countFor_3 ?_
  refine wp_iload_n dX6_countFor_4 rfl 1 rfl ?_
  refine wp_i2l dX6_countFor_5 ?_
  refine wp_lmul dX6_countFor_6 ?_
  refine wp_ldc2 dX6_countFor_7 cnX6_83 ?_
  refine wp_callS mX6_ceilOf [.long ((d - 1) * (Int32.toInt64 p)), .long 1000] [.long d] dX6_countFor_10 iX6_ceilOf (fun _ => trivial) mlX6_335 stX6_ceilOf ⟨by decide, by decide⟩ rfl rfl (Nat.le_of_ble_eq_true rfl) (Nat.le_of_ble_eq_true rfl) (by decide) (by decide) ?_
  refine ct_ceilOf ((d - 1) * (Int32.toInt64 p)) 1000  ?_
  show WP g mX6_countFor 13 [(0, .long d), (2, .int p)] [.long (ceiO ((d - 1) * (Int32.toInt64 p)) 1000), .long d] _ 0 0 _
  refine wp_ladd dX6_countFor_13 ?_
  refine wp_lret dX6_countFor_14 rfl (by decide) (by decide) ?_
  exact hp
def flo (a b : Int64) : Int64 := if ¬ a - a / b * b = 0 ∧ ¬ ((a < 0) = (b < 0)) then a / b - 1 else a / b
