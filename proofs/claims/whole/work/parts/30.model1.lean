/-! contracts: the model's methods, first part -/
def arrF (f : Nat) : Bool := decide (f < 52) && (kd (101 + f) != 15)
def MW (h : HP) : Prop := liv h 100 = true ∧ ∀ f, arrF f = true → liv h (101 + f) = true ∧ vP h 100 f = some (101 + f)
set_option maxRecDepth 100000 in
set_option maxHeartbeats 4000000 in
theorem ct_flo {g : GG} {h : HP} {Post : Option Value → HP → Prop} (a b : Int64) (hb : ¬ b = 0) (hp : Post (some (.long (flo a b))) h) : CT g mX7_floor [.long a, .long b] h Post := by
  show WP g mX7_floor 0 [(0, .long a), (2, .long b)] [] h 0 0 Post
  refine wp_lload_n dX7_floor_0 rfl 0 rfl ?_
  refine wp_lload_n dX7_floor_1 rfl 1 rfl ?_
  refine wp_ldiv dX7_floor_2 (by assumption) ?_
  refine wp_lstore (lv' := [(4, .long (a / b)), (0, .long a), (2, .long b)]) dX7_floor_3 (by decide) rfl ?_
  refine wp_lload_n dX7_floor_5 rfl 1 rfl ?_
  refine wp_lload_n dX7_floor_6 rfl 2 rfl ?_
  refine wp_lrem dX7_floor_7 (by assumption) ?_
  refine wp_lconst (v := 0) dX7_floor_8 rfl ?_
  refine wl_eq (tgt := 45) dX7_floor_9 dX7_floor_10 (by decide) (fun c_1 => ?_) (fun c_1 => ?_)
  · refine wp_lload dX7_floor_45 0 rfl ?_
    refine wp_lret dX7_floor_47 rfl (by decide) (by decide) ?_
    rw [show flo a b = a / b from if_neg (fun q => q.1 c_1)] at hp
    exact hp
  · refine wp_lload_n dX7_floor_13 rfl 1 rfl ?_
    refine wp_lconst (v := 0) dX7_floor_14 rfl ?_
    refine wl_ge (tgt := 23) dX7_floor_15 dX7_floor_16 (by decide) (fun c_2 => ?_) (fun c_2 => ?_)
    · refine wp_iconst (v := 0) dX7_floor_23 (by decide) ?_
      refine wp_lload_n dX7_floor_24 rfl 2 rfl ?_
      refine wp_lconst (v := 0) dX7_floor_25 rfl ?_
      refine wl_ge (tgt := 34) dX7_floor_26 dX7_floor_27 (by decide) (fun c_3 => ?_) (fun c_3 => ?_)
      · refine wp_iconst (v := 0) dX7_floor_34 (by decide) ?_
        refine wp_icmp_eq (tgt := 45) dX7_floor_35 (by decide) (fun _ => ?_) (fun c_4 => absurd rfl c_4)
        refine wp_lload dX7_floor_45 0 rfl ?_
        refine wp_lret dX7_floor_47 rfl (by decide) (by decide) ?_
        rw [show flo a b = a / b from if_neg (fun q => q.2 (propext ⟨fun z => absurd z (Int64.not_lt.mpr c_2), fun z => absurd z (Int64.not_lt.mpr c_3)⟩))] at hp
        exact hp
      · refine wp_iconst (v := 1) dX7_floor_30 (by decide) ?_
        refine wp_goto (tgt := 35) dX7_floor_31 (by decide) ?_
        refine wp_icmp_eq (tgt := 45) dX7_floor_35 (by decide) (fun c_5 => absurd c_5 (by decide)) (fun _ => ?_)
        refine wp_lload dX7_floor_38 0 rfl ?_
        refine wp_lconst (v := 1) dX7_floor_40 rfl ?_
        refine wp_lsub dX7_floor_41 ?_
        refine wp_goto (tgt := 47) dX7_floor_42 (by decide) ?_
        refine wp_lret dX7_floor_47 rfl (by decide) (by decide) ?_
        rw [show flo a b = a / b - 1 from if_pos ⟨c_1, (fun z => absurd (z.symm ▸ (Int64.not_le.mp c_3)) (Int64.not_lt.mpr c_2))⟩] at hp
        exact hp
    · refine wp_iconst (v := 1) dX7_floor_19 (by decide) ?_
      refine wp_goto (tgt := 24) dX7_floor_20 (by decide) ?_
      refine wp_lload_n dX7_floor_24 rfl 2 rfl ?_
      refine wp_lconst (v := 0) dX7_floor_25 rfl ?_
      refine wl_ge (tgt := 34) dX7_floor_26 dX7_floor_27 (by decide) (fun c_6 => ?_) (fun c_6 => ?_)
      · refine wp_iconst (v := 0) dX7_floor_34 (by decide) ?_
        refine wp_icmp_eq (tgt := 45) dX7_floor_35 (by decide) (fun c_7 => absurd c_7 (by decide)) (fun _ => ?_)
        refine wp_lload dX7_floor_38 0 rfl ?_
        refine wp_lconst (v := 1) dX7_floor_40 rfl ?_
        refine wp_lsub dX7_floor_41 ?_
        refine wp_goto (tgt := 47) dX7_floor_42 (by decide) ?_
        refine wp_lret dX7_floor_47 rfl (by decide) (by decide) ?_
        rw [show flo a b = a / b - 1 from if_pos ⟨c_1, (fun z => absurd (z ▸ (Int64.not_le.mp c_2)) (Int64.not_lt.mpr c_6))⟩] at hp
        exact hp
      · refine wp_iconst (v := 1) dX7_floor_30 (by decide) ?_
        refine wp_goto (tgt := 35) dX7_floor_31 (by decide) ?_
        refine wp_icmp_eq (tgt := 45) dX7_floor_35 (by decide) (fun _ => ?_) (fun c_8 => absurd rfl c_8)
        refine wp_lload dX7_floor_45 0 rfl ?_
        refine wp_lret dX7_floor_47 rfl (by decide) (by decide) ?_
        rw [show flo a b = a / b from if_neg (fun q => q.2 (propext ⟨fun _ => (Int64.not_le.mp c_6), fun _ => (Int64.not_le.mp c_2)⟩))] at hp
        exact hp
def cei (a b : Int64) : Int64 := -flo (-a) b
set_option maxRecDepth 100000 in
set_option maxHeartbeats 4000000 in
theorem ct_cei {g : GG} {h : HP} {Post : Option Value → HP → Prop} (a b : Int64) (hb : ¬ b = 0) (hp : Post (some (.long (cei a b))) h) : CT g mX7_ceil [.long a, .long b] h Post := by
  show WP g mX7_ceil 0 [(0, .long a), (2, .long b)] [] h 0 0 Post
  refine wp_lload_n dX7_ceil_0 rfl 0 rfl ?_
  refine wp_lneg dX7_ceil_1 ?_
  refine wp_lload_n dX7_ceil_2 rfl 1 rfl ?_
  refine wp_callS mX7_floor [.long (-a), .long b] [] dX7_ceil_3 iX7_floor (fun _ => trivial) mlX7_135 stX7_floor ⟨by decide, by decide⟩ rfl rfl (Nat.le_of_ble_eq_true rfl) (Nat.le_of_ble_eq_true rfl) (by decide) (by decide) ?_
  refine ct_flo (-a) b hb ?_
  show WP g mX7_ceil 6 [(0, .long a), (2, .long b)] [.long (flo (-a) b)] _ 0 0 _
  refine wp_lneg dX7_ceil_6 ?_
  refine wp_lret dX7_ceil_7 rfl (by decide) (by decide) ?_
  exact hp
set_option maxRecDepth 100000 in
set_option maxHeartbeats 4000000 in
theorem ct_in {g : GG} {h : HP} {Post : Option Value → HP → Prop} (v a b : Int64) (V A B : Int) (hv : v.toInt = V) (ha : a.toInt = A) (hb : b.toInt = B) (hy : (A ≤ V ∧ V ≤ B) → Post (some (.int 1)) h) (hn : ¬ (A ≤ V ∧ V ≤ B) → Post (some (.int 0)) h) : CT g mX7_in [.long v, .long a, .long b] h Post := by
  show WP g mX7_in 0 [(0, .long v), (2, .long a), (4, .long b)] [] h 0 0 Post
  refine wp_lload_n dX7_in_0 rfl 0 rfl ?_
  refine wp_lload_n dX7_in_1 rfl 1 rfl ?_
  refine wil_lt (tgt := 17) (V) (A) hv ha dX7_in_2 dX7_in_3 (by decide) (fun c_1 => ?_) (fun c_1 => ?_)
  · refine wp_iconst (v := 0) dX7_in_17 (by decide) ?_
    refine wp_zret dX7_in_18 rfl (by decide) (by decide) rfl ?_
    exact hn (by omega)
  · refine wp_lload_n dX7_in_6 rfl 0 rfl ?_
    refine wp_lload dX7_in_7 2 rfl ?_
    refine wil_gt (tgt := 17) (V) (B) hv hb dX7_in_9 dX7_in_10 (by decide) (fun c_2 => ?_) (fun c_2 => ?_)
    · refine wp_iconst (v := 0) dX7_in_17 (by decide) ?_
      refine wp_zret dX7_in_18 rfl (by decide) (by decide) rfl ?_
      exact hn (by omega)
    · refine wp_iconst (v := 1) dX7_in_13 (by decide) ?_
      refine wp_goto (tgt := 18) dX7_in_14 (by decide) ?_
      refine wp_zret dX7_in_18 rfl (by decide) (by decide) rfl ?_
      exact hy (by omega)
set_option maxRecDepth 100000 in
set_option maxHeartbeats 4000000 in
theorem ct_isMember0 {g : GG} {h : HP} {Post : Option Value → HP → Prop} (n : Nat) (hW : MW h) (hc : vI h 100 1 = nI n) (hn : n ≤ 1000) (x : Int32) (hx : ¬ inR x n) (hp : Post (some (.int 0)) h) : CT g mX7_isMember [.ref 100, .int x] h Post := by
  show WP g mX7_isMember 0 [(0, .ref 100), (1, .int x)] [] h 0 0 Post
  refine wp_iload_n dX7_isMember_0 rfl 1 rfl ?_
  refine wp_i2l dX7_isMember_1 ?_
  refine wp_lconst (v := 0) dX7_isMember_2 rfl ?_
  refine wp_aload_n dX7_isMember_3 rfl 0 rfl ?_
  refine wv_getI (nI n) dX7_isMember_4 flX7_139 rfl rfl hW.1 hc ?_
  refine wp_i2l dX7_isMember_7 ?_
  refine wp_lconst (v := 1) dX7_isMember_8 rfl ?_
  refine wp_lsub dX7_isMember_9 ?_
  refine wp_callS mX7_in [.long (Int32.toInt64 x), .long 0, .long ((Int32.toInt64 (nI n)) - 1)] [] dX7_isMember_10 iX7_in (fun _ => trivial) mlX7_143 stX7_in ⟨by decide, by decide⟩ rfl rfl (Nat.le_of_ble_eq_true rfl) (Nat.le_of_ble_eq_true rfl) (by decide) (by decide) ?_
  refine ct_in (Int32.toInt64 x) 0 ((Int32.toInt64 (nI n)) - 1) (Int32.toInt x) 0 ((n : Int) - 1) ((wid _).trans rfl) (by decide) (i64_sub1 (by omega)) (fun z => absurd (show inR x n from ⟨by omega, by omega⟩) hx) (fun _ => ?_)
  show WP g mX7_isMember 13 [(0, .ref 100), (1, .int x)] [.int 0] _ 0 0 _
  refine wp_zret dX7_isMember_13 rfl (by decide) (by decide) rfl ?_
  exact hp
set_option maxRecDepth 100000 in
set_option maxHeartbeats 4000000 in
theorem ct_isMember {g : GG} {h : HP} {Post : Option Value → HP → Prop} (n : Nat) (hW : MW h) (hc : vI h 100 1 = nI n) (hn : n ≤ 1000) (i : Nat) (hi : i < n) (hp : Post (some (.int 1)) h) : CT g mX7_isMember [.ref 100, .int (nI i)] h Post := by
  show WP g mX7_isMember 0 [(0, .ref 100), (1, .int (nI i))] [] h 0 0 Post
  refine wp_iload_n dX7_isMember_0 rfl 1 rfl ?_
  refine wp_i2l dX7_isMember_1 ?_
  refine wp_lconst (v := 0) dX7_isMember_2 rfl ?_
  refine wp_aload_n dX7_isMember_3 rfl 0 rfl ?_
  refine wv_getI (nI n) dX7_isMember_4 flX7_139 rfl rfl hW.1 hc ?_
  refine wp_i2l dX7_isMember_7 ?_
  refine wp_lconst (v := 1) dX7_isMember_8 rfl ?_
  refine wp_lsub dX7_isMember_9 ?_
  refine wp_callS mX7_in [.long (Int32.toInt64 (nI i)), .long 0, .long ((Int32.toInt64 (nI n)) - 1)] [] dX7_isMember_10 iX7_in (fun _ => trivial) mlX7_143 stX7_in ⟨by decide, by decide⟩ rfl rfl (Nat.le_of_ble_eq_true rfl) (Nat.le_of_ble_eq_true rfl) (by decide) (by decide) ?_
  refine ct_in (Int32.toInt64 (nI i)) 0 ((Int32.toInt64 (nI n)) - 1) ((i : Nat)) 0 ((n : Int) - 1) ((wid _).trans (nIt (by omega))) (by decide) (i64_sub1 (by omega)) (fun _ => ?_) (fun z => absurd ⟨by omega, by omega⟩ z)
  show WP g mX7_isMember 13 [(0, .ref 100), (1, .int (nI i))] [.int 1] _ 0 0 _
  refine wp_zret dX7_isMember_13 rfl (by decide) (by decide) rfl ?_
  exact hp
set_option maxRecDepth 100000 in
set_option maxHeartbeats 4000000 in
theorem ct_isStamp0 {g : GG} {h : HP} {Post : Option Value → HP → Prop} (n : Nat) (hW : MW h) (hc : vI h 100 30 = nI n) (hn : n ≤ 1000) (x : Int32) (hx : ¬ inR x n) (hp : Post (some (.int 0)) h) : CT g mX7_isStamp [.ref 100, .int x] h Post := by
  show WP g mX7_isStamp 0 [(0, .ref 100), (1, .int x)] [] h 0 0 Post
  refine wp_iload_n dX7_isStamp_0 rfl 1 rfl ?_
  refine wp_i2l dX7_isStamp_1 ?_
  refine wp_lconst (v := 0) dX7_isStamp_2 rfl ?_
  refine wp_aload_n dX7_isStamp_3 rfl 0 rfl ?_
  refine wv_getI (nI n) dX7_isStamp_4 flX7_238 rfl rfl hW.1 hc ?_
  refine wp_i2l dX7_isStamp_7 ?_
  refine wp_lconst (v := 1) dX7_isStamp_8 rfl ?_
  refine wp_lsub dX7_isStamp_9 ?_
  refine wp_callS mX7_in [.long (Int32.toInt64 x), .long 0, .long ((Int32.toInt64 (nI n)) - 1)] [] dX7_isStamp_10 iX7_in (fun _ => trivial) mlX7_143 stX7_in ⟨by decide, by decide⟩ rfl rfl (Nat.le_of_ble_eq_true rfl) (Nat.le_of_ble_eq_true rfl) (by decide) (by decide) ?_
  refine ct_in (Int32.toInt64 x) 0 ((Int32.toInt64 (nI n)) - 1) (Int32.toInt x) 0 ((n : Int) - 1) ((wid _).trans rfl) (by decide) (i64_sub1 (by omega)) (fun z => absurd (show inR x n from ⟨by omega, by omega⟩) hx) (fun _ => ?_)
  show WP g mX7_isStamp 13 [(0, .ref 100), (1, .int x)] [.int 0] _ 0 0 _
  refine wp_zret dX7_isStamp_13 rfl (by decide) (by decide) rfl ?_
  exact hp
set_option maxRecDepth 100000 in
set_option maxHeartbeats 4000000 in
theorem ct_isStamp {g : GG} {h : HP} {Post : Option Value → HP → Prop} (n : Nat) (hW : MW h) (hc : vI h 100 30 = nI n) (hn : n ≤ 1000) (i : Nat) (hi : i < n) (hp : Post (some (.int 1)) h) : CT g mX7_isStamp [.ref 100, .int (nI i)] h Post := by
  show WP g mX7_isStamp 0 [(0, .ref 100), (1, .int (nI i))] [] h 0 0 Post
  refine wp_iload_n dX7_isStamp_0 rfl 1 rfl ?_
  refine wp_i2l dX7_isStamp_1 ?_
  refine wp_lconst (v := 0) dX7_isStamp_2 rfl ?_
  refine wp_aload_n dX7_isStamp_3 rfl 0 rfl ?_
  refine wv_getI (nI n) dX7_isStamp_4 flX7_238 rfl rfl hW.1 hc ?_
  refine wp_i2l dX7_isStamp_7 ?_
  refine wp_lconst (v := 1) dX7_isStamp_8 rfl ?_
  refine wp_lsub dX7_isStamp_9 ?_
  refine wp_callS mX7_in [.long (Int32.toInt64 (nI i)), .long 0, .long ((Int32.toInt64 (nI n)) - 1)] [] dX7_isStamp_10 iX7_in (fun _ => trivial) mlX7_143 stX7_in ⟨by decide, by decide⟩ rfl rfl (Nat.le_of_ble_eq_true rfl) (Nat.le_of_ble_eq_true rfl) (by decide) (by decide) ?_
  refine ct_in (Int32.toInt64 (nI i)) 0 ((Int32.toInt64 (nI n)) - 1) ((i : Nat)) 0 ((n : Int) - 1) ((wid _).trans (nIt (by omega))) (by decide) (i64_sub1 (by omega)) (fun _ => ?_) (fun z => absurd ⟨by omega, by omega⟩ z)
  show WP g mX7_isStamp 13 [(0, .ref 100), (1, .int (nI i))] [.int 1] _ 0 0 _
  refine wp_zret dX7_isStamp_13 rfl (by decide) (by decide) rfl ?_
  exact hp
set_option maxRecDepth 100000 in
set_option maxHeartbeats 4000000 in
theorem ct_isEvent0 {g : GG} {h : HP} {Post : Option Value → HP → Prop} (n : Nat) (hW : MW h) (hc : vI h 100 35 = nI n) (hn : n ≤ 1000) (x : Int32) (hx : ¬ inR x n) (hp : Post (some (.int 0)) h) : CT g mX7_isEvent [.ref 100, .int x] h Post := by
  show WP g mX7_isEvent 0 [(0, .ref 100), (1, .int x)] [] h 0 0 Post
  refine wp_iload_n dX7_isEvent_0 rfl 1 rfl ?_
  refine wp_i2l dX7_isEvent_1 ?_
  refine wp_lconst (v := 0) dX7_isEvent_2 rfl ?_
  refine wp_aload_n dX7_isEvent_3 rfl 0 rfl ?_
  refine wv_getI (nI n) dX7_isEvent_4 flX7_246 rfl rfl hW.1 hc ?_
  refine wp_i2l dX7_isEvent_7 ?_
  refine wp_lconst (v := 1) dX7_isEvent_8 rfl ?_
  refine wp_lsub dX7_isEvent_9 ?_
  refine wp_callS mX7_in [.long (Int32.toInt64 x), .long 0, .long ((Int32.toInt64 (nI n)) - 1)] [] dX7_isEvent_10 iX7_in (fun _ => trivial) mlX7_143 stX7_in ⟨by decide, by decide⟩ rfl rfl (Nat.le_of_ble_eq_true rfl) (Nat.le_of_ble_eq_true rfl) (by decide) (by decide) ?_
  refine ct_in (Int32.toInt64 x) 0 ((Int32.toInt64 (nI n)) - 1) (Int32.toInt x) 0 ((n : Int) - 1) ((wid _).trans rfl) (by decide) (i64_sub1 (by omega)) (fun z => absurd (show inR x n from ⟨by omega, by omega⟩) hx) (fun _ => ?_)
  show WP g mX7_isEvent 13 [(0, .ref 100), (1, .int x)] [.int 0] _ 0 0 _
  refine wp_zret dX7_isEvent_13 rfl (by decide) (by decide) rfl ?_
  exact hp
set_option maxRecDepth 100000 in
set_option maxHeartbeats 4000000 in
theorem ct_isEvent {g : GG} {h : HP} {Post : Option Value → HP → Prop} (n : Nat) (hW : MW h) (hc : vI h 100 35 = nI n) (hn : n ≤ 1000) (i : Nat) (hi : i < n) (hp : Post (some (.int 1)) h) : CT g mX7_isEvent [.ref 100, .int (nI i)] h Post := by
  show WP g mX7_isEvent 0 [(0, .ref 100), (1, .int (nI i))] [] h 0 0 Post
  refine wp_iload_n dX7_isEvent_0 rfl 1 rfl ?_
  refine wp_i2l dX7_isEvent_1 ?_
  refine wp_lconst (v := 0) dX7_isEvent_2 rfl ?_
  refine wp_aload_n dX7_isEvent_3 rfl 0 rfl ?_
  refine wv_getI (nI n) dX7_isEvent_4 flX7_246 rfl rfl hW.1 hc ?_
  refine wp_i2l dX7_isEvent_7 ?_
  refine wp_lconst (v := 1) dX7_isEvent_8 rfl ?_
  refine wp_lsub dX7_isEvent_9 ?_
  refine wp_callS mX7_in [.long (Int32.toInt64 (nI i)), .long 0, .long ((Int32.toInt64 (nI n)) - 1)] [] dX7_isEvent_10 iX7_in (fun _ => trivial) mlX7_143 stX7_in ⟨by decide, by decide⟩ rfl rfl (Nat.le_of_ble_eq_true rfl) (Nat.le_of_ble_eq_true rfl) (by decide) (by decide) ?_
  refine ct_in (Int32.toInt64 (nI i)) 0 ((Int32.toInt64 (nI n)) - 1) ((i : Nat)) 0 ((n : Int) - 1) ((wid _).trans (nIt (by omega))) (by decide) (i64_sub1 (by omega)) (fun _ => ?_) (fun z => absurd ⟨by omega, by omega⟩ z)
  show WP g mX7_isEvent 13 [(0, .ref 100), (1, .int (nI i))] [.int 1] _ 0 0 _
  refine wp_zret dX7_isEvent_13 rfl (by decide) (by decide) rfl ?_
  exact hp
def okGm (h : HP) (n : Int32) : Prop := 1 ≤ n.toInt ∧ n.toInt ≤ 1000000 ∧ (vL h 100 0 + Int32.toInt64 n).toInt ≤ 1000000000
set_option maxRecDepth 100000 in
set_option maxHeartbeats 4000000 in
theorem cm_go {g : GG} {h : HP} {Post : Option Value → HP → Prop} (n : Int32) (hW : MW h) (hno : ¬ okGm h n → Post (some (.long (-9000000000000000000))) h) (hyes : okGm h n → Post (some (.long (vL h 100 0 + Int32.toInt64 n))) (sL h 100 0 (vL h 100 0 + Int32.toInt64 n))) : CT g mX7_go [.ref 100, .int n] h Post := by
  show WP g mX7_go 0 [(0, .ref 100), (1, .int n)] [] h 0 0 Post
  refine wp_iload_n dX7_go_0 rfl 1 rfl ?_
  refine wp_i2l dX7_go_1 ?_
  refine wp_lconst (v := 1) dX7_go_2 rfl ?_
  refine wp_ldc2 dX7_go_3 cnX7_147 ?_
  refine wp_callS mX7_in [.long (Int32.toInt64 n), .long 1, .long 1000000] [] dX7_go_6 iX7_in (fun _ => trivial) mlX7_143 stX7_in ⟨by decide, by decide⟩ rfl rfl (Nat.le_of_ble_eq_true rfl) (Nat.le_of_ble_eq_true rfl) (by decide) (by decide) ?_
  refine ct_in (Int32.toInt64 n) 1 1000000 (Int32.toInt n) (1) (1000000) ((wid _).trans rfl) (by decide) (by decide) (fun c_1 => ?_) (fun c_1 => ?_)
  · show WP g mX7_go 9 [(0, .ref 100), (1, .int n)] [.int 1] _ 0 0 _
    refine wp_if_eq (tgt := 26) dX7_go_9 (by decide) (fun c_2 => absurd c_2 (by decide)) (fun _ => ?_)
    refine wp_aload_n dX7_go_12 rfl 0 rfl ?_
    refine wp_getL dX7_go_13 flX7_149 rfl rfl hW.1 ?_
    refine wp_iload_n dX7_go_16 rfl 1 rfl ?_
    refine wp_i2l dX7_go_17 ?_
    refine wp_ladd dX7_go_18 ?_
    refine wp_ldc2 dX7_go_19 cnX7_153 ?_
    refine wil_le (tgt := 30) (Int64.toInt ((vL h 100 0) + (Int32.toInt64 n))) (1000000000) rfl (by decide) dX7_go_22 dX7_go_23 (by decide) (fun c_3 => ?_) (fun c_3 => ?_)
    · refine wp_aload_n dX7_go_30 rfl 0 rfl ?_
      refine wp_dup dX7_go_31 rfl ?_
      refine wp_getL dX7_go_32 flX7_149 rfl rfl hW.1 ?_
      refine wp_iload_n dX7_go_35 rfl 1 rfl ?_
      refine wp_i2l dX7_go_36 ?_
      refine wp_ladd dX7_go_37 ?_
      refine wp_putL dX7_go_38 flX7_149 (Or.inl rfl) rfl rfl hW.1 ?_
      refine wp_aload_n dX7_go_41 rfl 0 rfl ?_
      refine wv_getL ((vL h 100 0) + (Int32.toInt64 n)) dX7_go_42 flX7_149 rfl rfl hW.1 (by simp [vI, vL, vP, sI, sL, sP, up2]) ?_
      refine wp_lret dX7_go_45 rfl (by decide) (by decide) ?_
      exact hyes (by unfold okGm; omega)
    · refine wp_ldc2 dX7_go_26 cnX7_155 ?_
      refine wp_lret dX7_go_29 rfl (by decide) (by decide) ?_
      exact hno (fun q => by unfold okGm at q; omega)
  · show WP g mX7_go 9 [(0, .ref 100), (1, .int n)] [.int 0] _ 0 0 _
    refine wp_if_eq (tgt := 26) dX7_go_9 (by decide) (fun _ => ?_) (fun c_4 => absurd (by decide) c_4)
    refine wp_ldc2 dX7_go_26 cnX7_155 ?_
    refine wp_lret dX7_go_29 rfl (by decide) (by decide) ?_
    exact hno (fun q => by unfold okGm at q; omega)
def mmH (h : HP) (nm : Nat) (kind p e : Int32) : HP := sI (sL (sL (sL (sL (sL (sL (sL (sL (sI h 103 nm kind) 104 nm (Int32.toInt64 p)) 105 nm (Int32.toInt64 e)) 106 nm (vL h 100 0)) 107 nm 1) 108 nm 1) 109 nm (vL h 100 0 - Int32.toInt64 e)) 110 nm (vL h 100 0 + Int32.toInt64 e)) 115 nm (vL h 100 0 - Int32.toInt64 e)) 100 1 (nI (nm + 1))
set_option maxRecDepth 100000 in
set_option maxHeartbeats 4000000 in
theorem cm_member {g : GG} {h : HP} {Post : Option Value → HP → Prop} (nm : Nat) (hW : MW h) (hc1 : vI h 100 1 = nI nm) (hnm : nm ≤ 10) (kind p e : Int32) (hno : ¬ okMb nm kind p e → Post (some (.long (-9000000000000000000))) h) (hyes : okMb nm kind p e → Post (some (.long (Int32.toInt64 (nI nm)))) (mmH h nm kind p e)) : CT g mX7_member [.ref 100, .int kind, .int p, .int e] h Post := by
  show WP g mX7_member 0 [(0, .ref 100), (1, .int kind), (2, .int p), (3, .int e)] [] h 0 0 Post
  refine wp_iload_n dX7_member_0 rfl 1 rfl ?_
  refine wp_i2l dX7_member_1 ?_
  refine wp_lconst (v := 0) dX7_member_2 rfl ?_
  refine wp_ldc2 dX7_member_3 cnX7_157 ?_
  refine wp_callS mX7_in [.long (Int32.toInt64 kind), .long 0, .long 4] [] dX7_member_6 iX7_in (fun _ => trivial) mlX7_143 stX7_in ⟨by decide, by decide⟩ rfl rfl (Nat.le_of_ble_eq_true rfl) (Nat.le_of_ble_eq_true rfl) (by decide) (by decide) ?_
  refine ct_in (Int32.toInt64 kind) 0 4 (Int32.toInt kind) (0) (4) ((wid _).trans rfl) (by decide) (by decide) (fun c_1 => ?_) (fun c_1 => ?_)
  · show WP g mX7_member 9 [(0, .ref 100), (1, .int kind), (2, .int p), (3, .int e)] [.int 1] _ 0 0 _
    refine wp_if_eq (tgt := 45) dX7_member_9 (by decide) (fun c_2 => absurd c_2 (by decide)) (fun _ => ?_)
    refine wp_iload_n dX7_member_12 rfl 2 rfl ?_
    refine wp_i2l dX7_member_13 ?_
    refine wp_lconst (v := 0) dX7_member_14 rfl ?_
    refine wp_ldc2 dX7_member_15 cnX7_159 ?_
    refine wp_callS mX7_in [.long (Int32.toInt64 p), .long 0, .long 200] [] dX7_member_18 iX7_in (fun _ => trivial) mlX7_143 stX7_in ⟨by decide, by decide⟩ rfl rfl (Nat.le_of_ble_eq_true rfl) (Nat.le_of_ble_eq_true rfl) (by decide) (by decide) ?_
    refine ct_in (Int32.toInt64 p) 0 200 (Int32.toInt p) (0) (200) ((wid _).trans rfl) (by decide) (by decide) (fun c_3 => ?_) (fun c_3 => ?_)
    · show WP g mX7_member 21 [(0, .ref 100), (1, .int kind), (2, .int p), (3, .int e)] [.int 1] _ 0 0 _
      refine wp_if_eq (tgt := 45) dX7_member_21 (by decide) (fun c_4 => absurd c_4 (by decide)) (fun _ => ?_)
      refine wp_iload_n dX7_member_24 rfl 3 rfl ?_
      refine wp_i2l dX7_member_25 ?_
      refine wp_lconst (v := 0) dX7_member_26 rfl ?_
      refine wp_ldc2 dX7_member_27 cnX7_161 ?_
      refine wp_callS mX7_in [.long (Int32.toInt64 e), .long 0, .long 100000] [] dX7_member_30 iX7_in (fun _ => trivial) mlX7_143 stX7_in ⟨by decide, by decide⟩ rfl rfl (Nat.le_of_ble_eq_true rfl) (Nat.le_of_ble_eq_true rfl) (by decide) (by decide) ?_
      refine ct_in (Int32.toInt64 e) 0 100000 (Int32.toInt e) (0) (100000) ((wid _).trans rfl) (by decide) (by decide) (fun c_5 => ?_) (fun c_5 => ?_)
      · show WP g mX7_member 33 [(0, .ref 100), (1, .int kind), (2, .int p), (3, .int e)] [.int 1] _ 0 0 _
        refine wp_if_eq (tgt := 45) dX7_member_33 (by decide) (fun c_6 => absurd c_6 (by decide)) (fun _ => ?_)
        refine wp_pc (pc' := 36) rfl ?_
        refine wp_aload_n dX7_member_36 rfl 0 rfl ?_
        refine wv_getI (nI nm) dX7_member_37 flX7_139 rfl rfl hW.1 hc1 ?_
        refine wp_bipush (v := 10) dX7_member_40 (by decide) ?_
        refine wi_icmp_ne (tgt := 49) ((nm : Nat)) (10) (nIt (by omega)) (by decide) dX7_member_42 (by decide) (fun c_7 => ?_) (fun c_7 => ?_)
        · refine wp_aload_n dX7_member_49 rfl 0 rfl ?_
          refine wv_getI (nI nm) dX7_member_50 flX7_139 rfl rfl hW.1 hc1 ?_
          refine wp_istore (lv' := [(4, .int (nI nm)), (0, .ref 100), (1, .int kind), (2, .int p), (3, .int e)]) dX7_member_53 (by decide) rfl ?_
          refine wp_aload_n dX7_member_55 rfl 1 rfl ?_
          refine wp_getP (b := 103) dX7_member_56 flX7_7 rfl rfl hW.1 (hW.2 2 rfl).2 ?_
          refine wp_iload dX7_member_59 0 rfl ?_
          refine wp_iload_n dX7_member_61 rfl 2 rfl ?_
          refine wv_iast nm dX7_member_62 rfl (hW.2 2 rfl).1 rfl (by show nm < 10; omega) ?_
          refine wp_aload_n dX7_member_63 rfl 1 rfl ?_
          refine wp_getP (b := 104) dX7_member_64 flX7_13 rfl rfl hW.1 (hW.2 3 rfl).2 ?_
          refine wp_iload dX7_member_67 0 rfl ?_
          refine wp_iload_n dX7_member_69 rfl 3 rfl ?_
          refine wp_i2l dX7_member_70 ?_
          refine wv_last nm dX7_member_71 rfl (hW.2 3 rfl).1 rfl (by show nm < 10; omega) ?_
          refine wp_pc (pc' := 72) rfl ?_
          refine wp_aload_n dX7_member_72 rfl 1 rfl ?_
          refine wp_getP (b := 105) dX7_member_73 flX7_17 rfl rfl hW.1 (hW.2 4 rfl).2 ?_
          refine wp_iload dX7_member_76 0 rfl ?_
          refine wp_iload_n dX7_member_78 rfl 4 rfl ?_
          refine wp_i2l dX7_member_79 ?_
          refine wv_last nm dX7_member_80 rfl (hW.2 4 rfl).1 rfl (by show nm < 10; omega) ?_
          refine wp_aload_n dX7_member_81 rfl 1 rfl ?_
          refine wp_getP (b := 106) dX7_member_82 flX7_20 rfl rfl hW.1 (hW.2 5 rfl).2 ?_
          refine wp_iload dX7_member_85 0 rfl ?_
          refine wp_aload_n dX7_member_87 rfl 1 rfl ?_
          refine wv_getL (vL h 100 0) dX7_member_88 flX7_149 rfl rfl hW.1 (by simp [vI, vL, vP, sI, sL, sP, up2]) ?_
          refine wv_last nm dX7_member_91 rfl (hW.2 5 rfl).1 rfl (by show nm < 10; omega) ?_
          refine wp_aload_n dX7_member_92 rfl 1 rfl ?_
          refine wp_getP (b := 107) dX7_member_93 flX7_23 rfl rfl hW.1 (hW.2 6 rfl).2 ?_
          refine wp_iload dX7_member_96 0 rfl ?_
          refine wp_pc (pc' := 98) rfl ?_
          refine wp_lconst (v := 1) dX7_member_98 rfl ?_
          refine wv_last nm dX7_member_99 rfl (hW.2 6 rfl).1 rfl (by show nm < 10; omega) ?_
          refine wp_aload_n dX7_member_100 rfl 1 rfl ?_
          refine wp_getP (b := 108) dX7_member_101 flX7_26 rfl rfl hW.1 (hW.2 7 rfl).2 ?_
          refine wp_iload dX7_member_104 0 rfl ?_
          refine wp_lconst (v := 1) dX7_member_106 rfl ?_
          refine wv_last nm dX7_member_107 rfl (hW.2 7 rfl).1 rfl (by show nm < 10; omega) ?_
          refine wp_aload_n dX7_member_108 rfl 1 rfl ?_
          refine wp_getP (b := 109) dX7_member_109 flX7_29 rfl rfl hW.1 (hW.2 8 rfl).2 ?_
          refine wp_iload dX7_member_112 0 rfl ?_
          refine wp_aload_n dX7_member_114 rfl 1 rfl ?_
          refine wv_getL (vL h 100 0) dX7_member_115 flX7_149 rfl rfl hW.1 (by simp [vI, vL, vP, sI, sL, sP, up2]) ?_
          refine wp_iload_n dX7_member_118 rfl 4 rfl ?_
          refine wp_i2l dX7_member_119 ?_
          refine wp_lsub dX7_member_120 ?_
          refine wp_pc (pc' := 121) rfl ?_
          refine wv_last nm dX7_member_121 rfl (hW.2 8 rfl).1 rfl (by show nm < 10; omega) ?_
          refine wp_aload_n dX7_member_122 rfl 1 rfl ?_
          refine wp_getP (b := 110) dX7_member_123 flX7_32 rfl rfl hW.1 (hW.2 9 rfl).2 ?_
          refine wp_iload dX7_member_126 0 rfl ?_
          refine wp_aload_n dX7_member_128 rfl 1 rfl ?_
          refine wv_getL (vL h 100 0) dX7_member_129 flX7_149 rfl rfl hW.1 (by simp [vI, vL, vP, sI, sL, sP, up2]) ?_
          refine wp_iload_n dX7_member_132 rfl 4 rfl ?_
          refine wp_i2l dX7_member_133 ?_
          refine wp_ladd dX7_member_134 ?_
          refine wv_last nm dX7_member_135 rfl (hW.2 9 rfl).1 rfl (by show nm < 10; omega) ?_
          refine wp_aload_n dX7_member_136 rfl 1 rfl ?_
          refine wp_getP (b := 115) dX7_member_137 flX7_48 rfl rfl hW.1 (hW.2 14 rfl).2 ?_
          refine wp_iload dX7_member_140 0 rfl ?_
          refine wp_aload_n dX7_member_142 rfl 1 rfl ?_
          refine wv_getL (vL h 100 0) dX7_member_143 flX7_149 rfl rfl hW.1 (by simp [vI, vL, vP, sI, sL, sP, up2]) ?_
          refine wp_pc (pc' := 146) rfl ?_
          refine wp_iload_n dX7_member_146 rfl 4 rfl ?_
          refine wp_i2l dX7_member_147 ?_
          refine wp_lsub dX7_member_148 ?_
          refine wv_last nm dX7_member_149 rfl (hW.2 14 rfl).1 rfl (by show nm < 10; omega) ?_
          refine wp_aload_n dX7_member_150 rfl 1 rfl ?_
          refine wp_dup dX7_member_151 rfl ?_
          refine wv_getI (nI nm) dX7_member_152 flX7_139 rfl rfl hW.1 (Eq.trans (b := vI h 100 1) (by simp [vI, vL, vP, sI, sL, sP, up2]) hc1) ?_
          refine wp_iconst (v := 1) dX7_member_155 (by decide) ?_
          refine wv_iadd (nI (nm + 1)) (wN_add rfl rfl) dX7_member_156 ?_
          refine wp_putI dX7_member_157 flX7_139 (Or.inl rfl) rfl rfl rfl rfl hW.1 ?_
          refine wp_iload dX7_member_160 0 rfl ?_
          refine wp_i2l dX7_member_162 ?_
          refine wp_lret dX7_member_163 rfl (by decide) (by decide) ?_
          exact hyes (by unfold okMb; omega)
        · refine wp_ldc2 dX7_member_45 cnX7_155 ?_
          refine wp_lret dX7_member_48 rfl (by decide) (by decide) ?_
          exact hno (fun q => by unfold okMb at q; omega)
      · show WP g mX7_member 33 [(0, .ref 100), (1, .int kind), (2, .int p), (3, .int e)] [.int 0] _ 0 0 _
        refine wp_if_eq (tgt := 45) dX7_member_33 (by decide) (fun _ => ?_) (fun c_8 => absurd (by decide) c_8)
        refine wp_pc (pc' := 45) rfl ?_
        refine wp_ldc2 dX7_member_45 cnX7_155 ?_
        refine wp_lret dX7_member_48 rfl (by decide) (by decide) ?_
        exact hno (fun q => by unfold okMb at q; omega)
    · show WP g mX7_member 21 [(0, .ref 100), (1, .int kind), (2, .int p), (3, .int e)] [.int 0] _ 0 0 _
      refine wp_if_eq (tgt := 45) dX7_member_21 (by decide) (fun _ => ?_) (fun c_9 => absurd (by decide) c_9)
      refine wp_ldc2 dX7_member_45 cnX7_155 ?_
      refine wp_lret dX7_member_48 rfl (by decide) (by decide) ?_
      exact hno (fun q => by unfold okMb at q; omega)
  · show WP g mX7_member 9 [(0, .ref 100), (1, .int kind), (2, .int p), (3, .int e)] [.int 0] _ 0 0 _
    refine wp_if_eq (tgt := 45) dX7_member_9 (by decide) (fun _ => ?_) (fun c_10 => absurd (by decide) c_10)
    refine wp_ldc2 dX7_member_45 cnX7_155 ?_
    refine wp_lret dX7_member_48 rfl (by decide) (by decide) ?_
    exact hno (fun q => by unfold okMb at q; omega)
set_option maxRecDepth 100000 in
set_option maxHeartbeats 4000000 in
theorem cm_rate0 {g : GG} {h : HP} {Post : Option Value → HP → Prop} (up down : Int32) (nm : Nat) (hW : MW h) (hc1 : vI h 100 1 = nI nm) (hnm : nm ≤ 10) (x : Int32) (hx : ¬ inR x nm) (hp : Post (some (.long (-9000000000000000000))) h) : CT g mX7_rate [.ref 100, .int x, .int up, .int down] h Post := by
  show WP g mX7_rate 0 [(0, .ref 100), (1, .int x), (2, .int up), (3, .int down)] [] h 0 0 Post
  refine wp_aload_n dX7_rate_0 rfl 0 rfl ?_
  refine wp_iload_n dX7_rate_1 rfl 1 rfl ?_
  refine wp_callV mX7_isMember 100 [.int x] [] (c := 7) dX7_rate_2 iX7_isMember (fun _ => trivial) mlX7_163 imX7_isMember seX7_isMember (by decide) rfl rfl ⟨by decide, by decide⟩ rfl rfl (Nat.le_of_ble_eq_true rfl) (Nat.le_of_ble_eq_true rfl) (by decide) (by decide) ?_
  refine ct_isMember0 nm hW hc1 (by omega) x hx ?_
  show WP g mX7_rate 5 [(0, .ref 100), (1, .int x), (2, .int up), (3, .int down)] [.int 0] _ 0 0 _
  refine wp_if_eq (tgt := 46) dX7_rate_5 (by decide) (fun _ => ?_) (fun c_1 => absurd (by decide) c_1)
  refine wp_ldc2 dX7_rate_46 cnX7_155 ?_
  refine wp_lret dX7_rate_49 rfl (by decide) (by decide) ?_
  exact hp
def okRm (h : HP) (i : Nat) (up down : Int32) : Prop := 1 ≤ up.toInt ∧ up.toInt ≤ 100000 ∧ 1 ≤ down.toInt ∧ down.toInt ≤ 100000 ∧ (vL h 106 i).toInt = (vL h 100 0).toInt
def ofM (up down : Int32) : Int64 := if down.toInt < up.toInt then Int32.toInt64 up - Int32.toInt64 down else Int32.toInt64 down - Int32.toInt64 up
def inRm (h : HP) (i : Nat) (up down : Int32) : Prop := (ofM up down * 1000).toInt ≤ (vL h 104 i * Int32.toInt64 down).toInt
set_option maxRecDepth 100000 in
set_option maxHeartbeats 4000000 in
theorem cm_rate {g : GG} {h : HP} {Post : Option Value → HP → Prop} (nm : Nat) (hW : MW h) (hc1 : vI h 100 1 = nI nm) (hnm : nm ≤ 10) (i : Nat) (hi : i < nm) (up down : Int32) (hno : ¬ okRm h i up down → Post (some (.long (-9000000000000000000))) h) (hin : okRm h i up down → inRm h i up down → Post (some (.long 1)) (sL (sL h 107 i (Int32.toInt64 up)) 108 i (Int32.toInt64 down))) (hout : okRm h i up down → ¬ inRm h i up down → Post (some (.long 0)) (sL (sL h 107 i (Int32.toInt64 up)) 108 i (Int32.toInt64 down))) : CT g mX7_rate [.ref 100, .int (nI i), .int up, .int down] h Post := by
  show WP g mX7_rate 0 [(0, .ref 100), (1, .int (nI i)), (2, .int up), (3, .int down)] [] h 0 0 Post
  refine wp_aload_n dX7_rate_0 rfl 0 rfl ?_
  refine wp_iload_n dX7_rate_1 rfl 1 rfl ?_
  refine wp_callV mX7_isMember 100 [.int (nI i)] [] (c := 7) dX7_rate_2 iX7_isMember (fun _ => trivial) mlX7_163 imX7_isMember seX7_isMember (by decide) rfl rfl ⟨by decide, by decide⟩ rfl rfl (Nat.le_of_ble_eq_true rfl) (Nat.le_of_ble_eq_true rfl) (by decide) (by decide) ?_
  refine ct_isMember nm hW hc1 (by omega) i hi ?_
  show WP g mX7_rate 5 [(0, .ref 100), (1, .int (nI i)), (2, .int up), (3, .int down)] [.int 1] _ 0 0 _
  refine wp_if_eq (tgt := 46) dX7_rate_5 (by decide) (fun c_1 => absurd c_1 (by decide)) (fun _ => ?_)
  refine wp_iload_n dX7_rate_8 rfl 2 rfl ?_
  refine wp_i2l dX7_rate_9 ?_
  refine wp_lconst (v := 1) dX7_rate_10 rfl ?_
  refine wp_ldc2 dX7_rate_11 cnX7_161 ?_
  refine wp_callS mX7_in [.long (Int32.toInt64 up), .long 1, .long 100000] [] dX7_rate_14 iX7_in (fun _ => trivial) mlX7_143 stX7_in ⟨by decide, by decide⟩ rfl rfl (Nat.le_of_ble_eq_true rfl) (Nat.le_of_ble_eq_true rfl) (by decide) (by decide) ?_
  refine ct_in (Int32.toInt64 up) 1 100000 (Int32.toInt up) (1) (100000) ((wid _).trans rfl) (by decide) (by decide) (fun c_2 => ?_) (fun c_2 => ?_)
  · show WP g mX7_rate 17 [(0, .ref 100), (1, .int (nI i)), (2, .int up), (3, .int down)] [.int 1] _ 0 0 _
    refine wp_if_eq (tgt := 46) dX7_rate_17 (by decide) (fun c_3 => absurd c_3 (by decide)) (fun _ => ?_)
    refine wp_iload_n dX7_rate_20 rfl 3 rfl ?_
    refine wp_i2l dX7_rate_21 ?_
    refine wp_lconst (v := 1) dX7_rate_22 rfl ?_
    refine wp_ldc2 dX7_rate_23 cnX7_161 ?_
    refine wp_callS mX7_in [.long (Int32.toInt64 down), .long 1, .long 100000] [] dX7_rate_26 iX7_in (fun _ => trivial) mlX7_143 stX7_in ⟨by decide, by decide⟩ rfl rfl (Nat.le_of_ble_eq_true rfl) (Nat.le_of_ble_eq_true rfl) (by decide) (by decide) ?_
    refine ct_in (Int32.toInt64 down) 1 100000 (Int32.toInt down) (1) (100000) ((wid _).trans rfl) (by decide) (by decide) (fun c_4 => ?_) (fun c_4 => ?_)
    · show WP g mX7_rate 29 [(0, .ref 100), (1, .int (nI i)), (2, .int up), (3, .int down)] [.int 1] _ 0 0 _
      refine wp_if_eq (tgt := 46) dX7_rate_29 (by decide) (fun c_5 => absurd c_5 (by decide)) (fun _ => ?_)
      refine wp_aload_n dX7_rate_32 rfl 0 rfl ?_
      refine wp_pc (pc' := 33) rfl ?_
      refine wp_getP (b := 106) dX7_rate_33 flX7_20 rfl rfl hW.1 (hW.2 5 rfl).2 ?_
      refine wp_iload_n dX7_rate_36 rfl 1 rfl ?_
      refine wv_lald i (vL h 106 i) dX7_rate_37 rfl (hW.2 5 rfl).1 rfl (by show i < 10; omega) rfl ?_
      refine wp_aload_n dX7_rate_38 rfl 0 rfl ?_
      refine wp_getL dX7_rate_39 flX7_149 rfl rfl hW.1 ?_
      refine wil_eq (tgt := 50) (Int64.toInt (vL h 106 i)) (Int64.toInt (vL h 100 0)) rfl rfl dX7_rate_42 dX7_rate_43 (by decide) (fun c_6 => ?_) (fun c_6 => ?_)
      · refine wp_aload_n dX7_rate_50 rfl 0 rfl ?_
        refine wp_getP (b := 107) dX7_rate_51 flX7_23 rfl rfl hW.1 (hW.2 6 rfl).2 ?_
        refine wp_iload_n dX7_rate_54 rfl 1 rfl ?_
        refine wp_iload_n dX7_rate_55 rfl 2 rfl ?_
        refine wp_i2l dX7_rate_56 ?_
        refine wv_last i dX7_rate_57 rfl (hW.2 6 rfl).1 rfl (by show i < 10; omega) ?_
        refine wp_aload_n dX7_rate_58 rfl 0 rfl ?_
        refine wp_getP (b := 108) dX7_rate_59 flX7_26 rfl rfl hW.1 (hW.2 7 rfl).2 ?_
        refine wp_iload_n dX7_rate_62 rfl 1 rfl ?_
        refine wp_iload_n dX7_rate_63 rfl 3 rfl ?_
        refine wp_i2l dX7_rate_64 ?_
        refine wv_last i dX7_rate_65 rfl (hW.2 7 rfl).1 rfl (by show i < 10; omega) ?_
        refine wp_iload_n dX7_rate_66 rfl 2 rfl ?_
        refine wp_iload_n dX7_rate_67 rfl 3 rfl ?_
        refine wp_pc (pc' := 68) rfl ?_
        refine wi_icmp_le (tgt := 79) (Int32.toInt up) (Int32.toInt down) rfl rfl dX7_rate_68 (by decide) (fun c_7 => ?_) (fun c_7 => ?_)
        · refine wp_iload_n dX7_rate_79 rfl 3 rfl ?_
          refine wp_i2l dX7_rate_80 ?_
          refine wp_iload_n dX7_rate_81 rfl 2 rfl ?_
          refine wp_i2l dX7_rate_82 ?_
          refine wp_lsub dX7_rate_83 ?_
          refine wp_lstore (lv' := [(4, .long ((Int32.toInt64 down) - (Int32.toInt64 up))), (0, .ref 100), (1, .int (nI i)), (2, .int up), (3, .int down)]) dX7_rate_84 (by decide) rfl ?_
          refine wp_lload dX7_rate_86 0 rfl ?_
          refine wp_ldc2 dX7_rate_88 cnX7_167 ?_
          refine wp_lmul dX7_rate_91 ?_
          refine wp_aload_n dX7_rate_92 rfl 1 rfl ?_
          refine wp_getP (b := 104) dX7_rate_93 flX7_13 rfl rfl hW.1 (hW.2 3 rfl).2 ?_
          refine wp_iload_n dX7_rate_96 rfl 2 rfl ?_
          refine wv_lald i (vL h 104 i) dX7_rate_97 rfl (hW.2 3 rfl).1 rfl (by show i < 10; omega) (by simp [vI, vL, vP, sI, sL, sP, up2]) ?_
          refine wp_iload_n dX7_rate_98 rfl 4 rfl ?_
          refine wp_pc (pc' := 99) rfl ?_
          refine wp_i2l dX7_rate_99 ?_
          refine wp_lmul dX7_rate_100 ?_
          refine wil_gt (tgt := 109) (Int64.toInt (((Int32.toInt64 down) - (Int32.toInt64 up)) * 1000)) (Int64.toInt ((vL h 104 i) * (Int32.toInt64 down))) rfl rfl dX7_rate_101 dX7_rate_102 (by decide) (fun c_8 => ?_) (fun c_8 => ?_)
          · refine wp_lconst (v := 0) dX7_rate_109 rfl ?_
            refine wp_lret dX7_rate_110 rfl (by decide) (by decide) ?_
            have eo : ofM up down = _ := if_neg (by omega)
            exact hout (by unfold okRm; omega) (by unfold inRm; rw [eo]; omega)
          · refine wp_lconst (v := 1) dX7_rate_105 rfl ?_
            refine wp_goto (tgt := 110) dX7_rate_106 (by decide) ?_
            refine wp_lret dX7_rate_110 rfl (by decide) (by decide) ?_
            have eo : ofM up down = _ := if_neg (by omega)
            exact hin (by unfold okRm; omega) (by unfold inRm; rw [eo]; omega)
        · refine wp_iload_n dX7_rate_71 rfl 2 rfl ?_
          refine wp_i2l dX7_rate_72 ?_
          refine wp_iload_n dX7_rate_73 rfl 3 rfl ?_
          refine wp_i2l dX7_rate_74 ?_
          refine wp_lsub dX7_rate_75 ?_
          refine wp_goto (tgt := 84) dX7_rate_76 (by decide) ?_
          refine wp_lstore (lv' := [(4, .long ((Int32.toInt64 up) - (Int32.toInt64 down))), (0, .ref 100), (1, .int (nI i)), (2, .int up), (3, .int down)]) dX7_rate_84 (by decide) rfl ?_
          refine wp_lload dX7_rate_86 0 rfl ?_
          refine wp_ldc2 dX7_rate_88 cnX7_167 ?_
          refine wp_lmul dX7_rate_91 ?_
          refine wp_aload_n dX7_rate_92 rfl 1 rfl ?_
          refine wp_getP (b := 104) dX7_rate_93 flX7_13 rfl rfl hW.1 (hW.2 3 rfl).2 ?_
          refine wp_iload_n dX7_rate_96 rfl 2 rfl ?_
          refine wv_lald i (vL h 104 i) dX7_rate_97 rfl (hW.2 3 rfl).1 rfl (by show i < 10; omega) (by simp [vI, vL, vP, sI, sL, sP, up2]) ?_
          refine wp_pc (pc' := 98) rfl ?_
          refine wp_iload_n dX7_rate_98 rfl 4 rfl ?_
          refine wp_i2l dX7_rate_99 ?_
          refine wp_lmul dX7_rate_100 ?_
          refine wil_gt (tgt := 109) (Int64.toInt (((Int32.toInt64 up) - (Int32.toInt64 down)) * 1000)) (Int64.toInt ((vL h 104 i) * (Int32.toInt64 down))) rfl rfl dX7_rate_101 dX7_rate_102 (by decide) (fun c_9 => ?_) (fun c_9 => ?_)
          · refine wp_lconst (v := 0) dX7_rate_109 rfl ?_
            refine wp_lret dX7_rate_110 rfl (by decide) (by decide) ?_
            have eo : ofM up down = _ := if_pos (by omega)
            exact hout (by unfold okRm; omega) (by unfold inRm; rw [eo]; omega)
          · refine wp_lconst (v := 1) dX7_rate_105 rfl ?_
            refine wp_goto (tgt := 110) dX7_rate_106 (by decide) ?_
            refine wp_lret dX7_rate_110 rfl (by decide) (by decide) ?_
            have eo : ofM up down = _ := if_pos (by omega)
            exact hin (by unfold okRm; omega) (by unfold inRm; rw [eo]; omega)
      · refine wp_ldc2 dX7_rate_46 cnX7_155 ?_
        refine wp_lret dX7_rate_49 rfl (by decide) (by decide) ?_
        exact hno (fun q => by unfold okRm at q; omega)
    · show WP g mX7_rate 29 [(0, .ref 100), (1, .int (nI i)), (2, .int up), (3, .int down)] [.int 0] _ 0 0 _
      refine wp_if_eq (tgt := 46) dX7_rate_29 (by decide) (fun _ => ?_) (fun c_10 => absurd (by decide) c_10)
      refine wp_ldc2 dX7_rate_46 cnX7_155 ?_
      refine wp_pc (pc' := 49) rfl ?_
      refine wp_lret dX7_rate_49 rfl (by decide) (by decide) ?_
      exact hno (fun q => by unfold okRm at q; omega)
  · show WP g mX7_rate 17 [(0, .ref 100), (1, .int (nI i)), (2, .int up), (3, .int down)] [.int 0] _ 0 0 _
    refine wp_if_eq (tgt := 46) dX7_rate_17 (by decide) (fun _ => ?_) (fun c_11 => absurd (by decide) c_11)
    refine wp_ldc2 dX7_rate_46 cnX7_155 ?_
    refine wp_lret dX7_rate_49 rfl (by decide) (by decide) ?_
    exact hno (fun q => by unfold okRm at q; omega)
set_option maxRecDepth 100000 in
set_option maxHeartbeats 4000000 in
theorem cm_lie0 {g : GG} {h : HP} {Post : Option Value → HP → Prop} (lo hi : Int64) (nm : Nat) (hW : MW h) (hc1 : vI h 100 1 = nI nm) (hnm : nm ≤ 10) (x : Int32) (hx : ¬ inR x nm) (hp : Post (some (.long (-9000000000000000000))) h) : CT g mX7_lie [.ref 100, .int x, .long lo, .long hi] h Post := by
  show WP g mX7_lie 0 [(0, .ref 100), (1, .int x), (2, .long lo), (4, .long hi)] [] h 0 0 Post
  refine wp_aload_n dX7_lie_0 rfl 0 rfl ?_
  refine wp_iload_n dX7_lie_1 rfl 1 rfl ?_
  refine wp_callV mX7_isMember 100 [.int x] [] (c := 7) dX7_lie_2 iX7_isMember (fun _ => trivial) mlX7_163 imX7_isMember seX7_isMember (by decide) rfl rfl ⟨by decide, by decide⟩ rfl rfl (Nat.le_of_ble_eq_true rfl) (Nat.le_of_ble_eq_true rfl) (by decide) (by decide) ?_
  refine ct_isMember0 nm hW hc1 (by omega) x hx ?_
  show WP g mX7_lie 5 [(0, .ref 100), (1, .int x), (2, .long lo), (4, .long hi)] [.int 0] _ 0 0 _
  refine wp_if_eq (tgt := 52) dX7_lie_5 (by decide) (fun _ => ?_) (fun c_1 => absurd (by decide) c_1)
  refine wp_ldc2 dX7_lie_52 cnX7_155 ?_
  refine wp_lret dX7_lie_55 rfl (by decide) (by decide) ?_
  exact hp
def okLm (h : HP) (i : Nat) (lo hi : Int64) : Prop := (vI h 103 i).toInt = 4 ∧ lo.toInt ≤ hi.toInt ∧ -1000000000000 ≤ lo.toInt ∧ hi.toInt ≤ 1000000000000
set_option maxRecDepth 100000 in
set_option maxHeartbeats 4000000 in
theorem cm_lie {g : GG} {h : HP} {Post : Option Value → HP → Prop} (nm : Nat) (hW : MW h) (hc1 : vI h 100 1 = nI nm) (hnm : nm ≤ 10) (i : Nat) (hi : i < nm) (lo hi' : Int64) (hno : ¬ okLm h i lo hi' → Post (some (.long (-9000000000000000000))) h) (hyes : okLm h i lo hi' → Post (some (.long 1)) (sL (sL h 112 i lo) 113 i hi')) : CT g mX7_lie [.ref 100, .int (nI i), .long lo, .long (hi')] h Post := by
  show WP g mX7_lie 0 [(0, .ref 100), (1, .int (nI i)), (2, .long lo), (4, .long (hi'))] [] h 0 0 Post
  refine wp_aload_n dX7_lie_0 rfl 0 rfl ?_
  refine wp_iload_n dX7_lie_1 rfl 1 rfl ?_
  refine wp_callV mX7_isMember 100 [.int (nI i)] [] (c := 7) dX7_lie_2 iX7_isMember (fun _ => trivial) mlX7_163 imX7_isMember seX7_isMember (by decide) rfl rfl ⟨by decide, by decide⟩ rfl rfl (Nat.le_of_ble_eq_true rfl) (Nat.le_of_ble_eq_true rfl) (by decide) (by decide) ?_
  refine ct_isMember nm hW hc1 (by omega) i hi ?_
  show WP g mX7_lie 5 [(0, .ref 100), (1, .int (nI i)), (2, .long lo), (4, .long (hi'))] [.int 1] _ 0 0 _
  refine wp_if_eq (tgt := 52) dX7_lie_5 (by decide) (fun c_1 => absurd c_1 (by decide)) (fun _ => ?_)
  refine wp_aload_n dX7_lie_8 rfl 0 rfl ?_
  refine wp_getP (b := 103) dX7_lie_9 flX7_7 rfl rfl hW.1 (hW.2 2 rfl).2 ?_
  refine wp_iload_n dX7_lie_12 rfl 1 rfl ?_
  refine wv_iald i (vI h 103 i) dX7_lie_13 rfl (hW.2 2 rfl).1 rfl (by show i < 10; omega) rfl ?_
  refine wp_iconst (v := 4) dX7_lie_14 (by decide) ?_
  refine wi_icmp_ne (tgt := 52) (Int32.toInt (vI h 103 i)) (4) rfl (by decide) dX7_lie_15 (by decide) (fun c_2 => ?_) (fun c_2 => ?_)
  · refine wp_ldc2 dX7_lie_52 cnX7_155 ?_
    refine wp_lret dX7_lie_55 rfl (by decide) (by decide) ?_
    exact hno (fun q => by unfold okLm at q; omega)
  · refine wp_lload dX7_lie_18 3 rfl ?_
    refine wp_lload_n dX7_lie_20 rfl 2 rfl ?_
    refine wil_lt (tgt := 52) (Int64.toInt (hi')) (Int64.toInt lo) rfl rfl dX7_lie_21 dX7_lie_22 (by decide) (fun c_3 => ?_) (fun c_3 => ?_)
    · refine wp_ldc2 dX7_lie_52 cnX7_155 ?_
      refine wp_lret dX7_lie_55 rfl (by decide) (by decide) ?_
      exact hno (fun q => by unfold okLm at q; omega)
    · refine wp_lload_n dX7_lie_25 rfl 2 rfl ?_
      refine wp_ldc2 dX7_lie_26 cnX7_169 ?_
      refine wp_ldc2 dX7_lie_29 cnX7_171 ?_
      refine wp_callS mX7_in [.long lo, .long ((-1000000000000)), .long 1000000000000] [] dX7_lie_32 iX7_in (fun _ => trivial) mlX7_143 stX7_in ⟨by decide, by decide⟩ rfl rfl (Nat.le_of_ble_eq_true rfl) (Nat.le_of_ble_eq_true rfl) (by decide) (by decide) ?_
      refine ct_in lo ((-1000000000000)) 1000000000000 (Int64.toInt lo) ((-1000000000000)) (1000000000000) rfl (by decide) (by decide) (fun c_4 => ?_) (fun c_4 => ?_)
      · show WP g mX7_lie 35 [(0, .ref 100), (1, .int (nI i)), (2, .long lo), (4, .long (hi'))] [.int 1] _ 0 0 _
        refine wp_if_eq (tgt := 52) dX7_lie_35 (by decide) (fun c_5 => absurd c_5 (by decide)) (fun _ => ?_)
        refine wp_lload dX7_lie_38 3 rfl ?_
        refine wp_ldc2 dX7_lie_40 cnX7_169 ?_
        refine wp_ldc2 dX7_lie_43 cnX7_171 ?_
        refine wp_callS mX7_in [.long (hi'), .long ((-1000000000000)), .long 1000000000000] [] dX7_lie_46 iX7_in (fun _ => trivial) mlX7_143 stX7_in ⟨by decide, by decide⟩ rfl rfl (Nat.le_of_ble_eq_true rfl) (Nat.le_of_ble_eq_true rfl) (by decide) (by decide) ?_
        refine ct_in (hi') ((-1000000000000)) 1000000000000 (Int64.toInt (hi')) ((-1000000000000)) (1000000000000) rfl (by decide) (by decide) (fun c_6 => ?_) (fun c_6 => ?_)
        · show WP g mX7_lie 49 [(0, .ref 100), (1, .int (nI i)), (2, .long lo), (4, .long (hi'))] [.int 1] _ 0 0 _
          refine wp_if_ne (tgt := 56) dX7_lie_49 (by decide) (fun _ => ?_) (fun c_7 => absurd c_7 (by decide))
          refine wp_aload_n dX7_lie_56 rfl 0 rfl ?_
          refine wp_getP (b := 112) dX7_lie_57 flX7_38 rfl rfl hW.1 (hW.2 11 rfl).2 ?_
          refine wp_iload_n dX7_lie_60 rfl 1 rfl ?_
          refine wp_lload_n dX7_lie_61 rfl 2 rfl ?_
          refine wv_last i dX7_lie_62 rfl (hW.2 11 rfl).1 rfl (by show i < 10; omega) ?_
          refine wp_aload_n dX7_lie_63 rfl 0 rfl ?_
          refine wp_pc (pc' := 64) rfl ?_
          refine wp_getP (b := 113) dX7_lie_64 flX7_41 rfl rfl hW.1 (hW.2 12 rfl).2 ?_
          refine wp_iload_n dX7_lie_67 rfl 1 rfl ?_
          refine wp_lload dX7_lie_68 3 rfl ?_
          refine wv_last i dX7_lie_70 rfl (hW.2 12 rfl).1 rfl (by show i < 10; omega) ?_
          refine wp_lconst (v := 1) dX7_lie_71 rfl ?_
          refine wp_lret dX7_lie_72 rfl (by decide) (by decide) ?_
          exact hyes (by unfold okLm; omega)
        · show WP g mX7_lie 49 [(0, .ref 100), (1, .int (nI i)), (2, .long lo), (4, .long (hi'))] [.int 0] _ 0 0 _
          refine wp_if_ne (tgt := 56) dX7_lie_49 (by decide) (fun c_8 => absurd (by decide) c_8) (fun _ => ?_)
          refine wp_ldc2 dX7_lie_52 cnX7_155 ?_
          refine wp_lret dX7_lie_55 rfl (by decide) (by decide) ?_
          exact hno (fun q => by unfold okLm at q; omega)
      · show WP g mX7_lie 35 [(0, .ref 100), (1, .int (nI i)), (2, .long lo), (4, .long (hi'))] [.int 0] _ 0 0 _
        refine wp_if_eq (tgt := 52) dX7_lie_35 (by decide) (fun _ => ?_) (fun c_9 => absurd (by decide) c_9)
        refine wp_ldc2 dX7_lie_52 cnX7_155 ?_
        refine wp_lret dX7_lie_55 rfl (by decide) (by decide) ?_
        exact hno (fun q => by unfold okLm at q; omega)
set_option maxRecDepth 100000 in
set_option maxHeartbeats 4000000 in
theorem cm_rest0 {g : GG} {h : HP} {Post : Option Value → HP → Prop} (b : Int32) (nm : Nat) (hW : MW h) (hc1 : vI h 100 1 = nI nm) (hnm : nm ≤ 10) (x : Int32) (hx : ¬ inR x nm) (hp : Post (some (.long (-9000000000000000000))) h) : CT g mX7_rest [.ref 100, .int x, .int b] h Post := by
  show WP g mX7_rest 0 [(0, .ref 100), (1, .int x), (2, .int b)] [] h 0 0 Post
  refine wp_aload_n dX7_rest_0 rfl 0 rfl ?_
  refine wp_iload_n dX7_rest_1 rfl 1 rfl ?_
  refine wp_callV mX7_isMember 100 [.int x] [] (c := 7) dX7_rest_2 iX7_isMember (fun _ => trivial) mlX7_163 imX7_isMember seX7_isMember (by decide) rfl rfl ⟨by decide, by decide⟩ rfl rfl (Nat.le_of_ble_eq_true rfl) (Nat.le_of_ble_eq_true rfl) (by decide) (by decide) ?_
  refine ct_isMember0 nm hW hc1 (by omega) x hx ?_
  show WP g mX7_rest 5 [(0, .ref 100), (1, .int x), (2, .int b)] [.int 0] _ 0 0 _
  refine wp_if_eq (tgt := 17) dX7_rest_5 (by decide) (fun _ => ?_) (fun c_1 => absurd (by decide) c_1)
  refine wp_ldc2 dX7_rest_17 cnX7_155 ?_
  refine wp_lret dX7_rest_20 rfl (by decide) (by decide) ?_
  exact hp
set_option maxRecDepth 100000 in
set_option maxHeartbeats 4000000 in
theorem cm_rest {g : GG} {h : HP} {Post : Option Value → HP → Prop} (nm : Nat) (hW : MW h) (hc1 : vI h 100 1 = nI nm) (hnm : nm ≤ 10) (i : Nat) (hi : i < nm) (b : Int32) (hb : b = 0 ∨ b = 1) (hno : (vI h 103 i).toInt = 0 → Post (some (.long (-9000000000000000000))) h) (hyes : ¬ (vI h 103 i).toInt = 0 → Post (some (.long (bitL (vI h 114 i)))) (sI h 114 i b)) : CT g mX7_rest [.ref 100, .int (nI i), .int b] h Post := by
  show WP g mX7_rest 0 [(0, .ref 100), (1, .int (nI i)), (2, .int b)] [] h 0 0 Post
  refine wp_aload_n dX7_rest_0 rfl 0 rfl ?_
  refine wp_iload_n dX7_rest_1 rfl 1 rfl ?_
  refine wp_callV mX7_isMember 100 [.int (nI i)] [] (c := 7) dX7_rest_2 iX7_isMember (fun _ => trivial) mlX7_163 imX7_isMember seX7_isMember (by decide) rfl rfl ⟨by decide, by decide⟩ rfl rfl (Nat.le_of_ble_eq_true rfl) (Nat.le_of_ble_eq_true rfl) (by decide) (by decide) ?_
  refine ct_isMember nm hW hc1 (by omega) i hi ?_
  show WP g mX7_rest 5 [(0, .ref 100), (1, .int (nI i)), (2, .int b)] [.int 1] _ 0 0 _
  refine wp_if_eq (tgt := 17) dX7_rest_5 (by decide) (fun c_1 => absurd c_1 (by decide)) (fun _ => ?_)
  refine wp_aload_n dX7_rest_8 rfl 0 rfl ?_
  refine wp_getP (b := 103) dX7_rest_9 flX7_7 rfl rfl hW.1 (hW.2 2 rfl).2 ?_
  refine wp_iload_n dX7_rest_12 rfl 1 rfl ?_
  refine wv_iald i (vI h 103 i) dX7_rest_13 rfl (hW.2 2 rfl).1 rfl (by show i < 10; omega) rfl ?_
  refine wi_if_ne (tgt := 21) (Int32.toInt (vI h 103 i)) rfl dX7_rest_14 (by decide) (fun c_2 => ?_) (fun c_2 => ?_)
  · refine wp_aload_n dX7_rest_21 rfl 0 rfl ?_
    refine wp_getP (b := 114) dX7_rest_22 flX7_44 rfl rfl hW.1 (hW.2 13 rfl).2 ?_
    refine wp_iload_n dX7_rest_25 rfl 1 rfl ?_
    refine wv_bald i (vI h 114 i) dX7_rest_26 rfl (hW.2 13 rfl).1 rfl (by show i < 10; omega) rfl ?_
    refine wp_istore_n (lv' := [(3, .int (vI h 114 i)), (0, .ref 100), (1, .int (nI i)), (2, .int b)]) dX7_rest_27 rfl (by decide) rfl ?_
    refine wp_aload_n dX7_rest_28 rfl 1 rfl ?_
    refine wp_getP (b := 114) dX7_rest_29 flX7_44 rfl rfl hW.1 (hW.2 13 rfl).2 ?_
    refine wp_iload_n dX7_rest_32 rfl 2 rfl ?_
    refine wp_iload_n dX7_rest_33 rfl 3 rfl ?_
    refine wv_bast i dX7_rest_34 rfl (hW.2 13 rfl).1 rfl (by show i < 10; omega) (nb_n hb) ?_
    refine wp_iload_n dX7_rest_35 rfl 0 rfl ?_
    refine wi_if_eq (tgt := 43) (Int32.toInt (vI h 114 i)) rfl dX7_rest_36 (by decide) (fun c_3 => ?_) (fun c_3 => ?_)
    · refine wp_lconst (v := 0) dX7_rest_43 rfl ?_
      refine wp_lret dX7_rest_44 rfl (by decide) (by decide) ?_
      have q := hyes (by omega)
      rw [show bitL (vI h 114 i) = 0 from if_pos (by rw [i32_eq]; first | exact c_3 | (intro z; exact c_3 z))] at q
      exact q
    · refine wp_lconst (v := 1) dX7_rest_39 rfl ?_
      refine wp_goto (tgt := 44) dX7_rest_40 (by decide) ?_
      refine wp_lret dX7_rest_44 rfl (by decide) (by decide) ?_
      have q := hyes (by omega)
      rw [show bitL (vI h 114 i) = 1 from if_neg (by rw [i32_eq]; first | exact c_3 | (intro z; exact c_3 z))] at q
      exact q
  · refine wp_ldc2 dX7_rest_17 cnX7_155 ?_
    refine wp_lret dX7_rest_20 rfl (by decide) (by decide) ?_
    exact hno (by omega)
