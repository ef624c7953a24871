/-! contracts: the model's methods, third part -/
theorem vL_sI {h : HP} {a k : Nat} {v : Int32} : vL (sI h a k v) = vL h := rfl
theorem vI_sL {h : HP} {a k : Nat} {v : Int64} : vI (sL h a k v) = vI h := rfl
set_option maxRecDepth 100000 in
set_option maxHeartbeats 4000000 in
theorem cm_letter0 {g : GG} {h : HP} {Post : Option Value → HP → Prop} (wh : Int32) (nl : Nat) (hW : MW h) (hc22 : vI h 100 22 = nI nl) (hnl : nl < 200) (x : Int32) (hx : ¬ inR x nl) (hp : Post (some (.long (-9000000000000000000))) h) : CT g mX7_letter [.ref 100, .int x, .int wh] h Post := by
  show WP g mX7_letter 0 [(0, .ref 100), (1, .int x), (2, .int wh)] [] h 0 0 Post
  refine wp_iload_n dX7_letter_0 rfl 1 rfl ?_
  refine wp_i2l dX7_letter_1 ?_
  refine wp_lconst (v := 0) dX7_letter_2 rfl ?_
  refine wp_aload_n dX7_letter_3 rfl 0 rfl ?_
  refine wv_getI (nI nl) dX7_letter_4 flX7_197 rfl rfl hW.1 hc22 ?_
  refine wp_i2l dX7_letter_7 ?_
  refine wp_lconst (v := 1) dX7_letter_8 rfl ?_
  refine wp_lsub dX7_letter_9 ?_
  refine wp_callS mX7_in [.long (Int32.toInt64 x), .long 0, .long ((Int32.toInt64 (nI nl)) - 1)] [] dX7_letter_10 iX7_in (fun _ => trivial) mlX7_143 stX7_in ⟨by decide, by decide⟩ rfl rfl (Nat.le_of_ble_eq_true rfl) (Nat.le_of_ble_eq_true rfl) (by decide) (by decide) ?_
  refine ct_in (Int32.toInt64 x) 0 ((Int32.toInt64 (nI nl)) - 1) (Int32.toInt x) 0 ((nl : Int) - 1) ((wid _).trans rfl) (by decide) (i64_sub1 (by omega)) (fun z => absurd (show inR x nl from ⟨by omega, by omega⟩) hx) (fun _ => ?_)
  show WP g mX7_letter 13 [(0, .ref 100), (1, .int x), (2, .int wh)] [.int 0] _ 0 0 _
  refine wp_if_ne (tgt := 20) dX7_letter_13 (by decide) (fun c_1 => absurd (by decide) c_1) (fun _ => ?_)
  refine wp_ldc2 dX7_letter_16 cnX7_155 ?_
  refine wp_lret dX7_letter_19 rfl (by decide) (by decide) ?_
  exact hp
set_option maxRecDepth 100000 in
set_option maxHeartbeats 4000000 in
theorem cm_letter_0 {g : GG} {h : HP} {Post : Option Value → HP → Prop} (nl : Nat) (hW : MW h) (hc22 : vI h 100 22 = nI nl) (hnl : nl < 200) (l : Nat) (hl : l < nl) (hp : Post (some (.long (Int32.toInt64 (vI h 124 l)))) h) : CT g mX7_letter [.ref 100, .int (nI l), .int 0] h Post := by
  show WP g mX7_letter 0 [(0, .ref 100), (1, .int (nI l)), (2, .int 0)] [] h 0 0 Post
  refine wp_iload_n dX7_letter_0 rfl 1 rfl ?_
  refine wp_i2l dX7_letter_1 ?_
  refine wp_lconst (v := 0) dX7_letter_2 rfl ?_
  refine wp_aload_n dX7_letter_3 rfl 0 rfl ?_
  refine wv_getI (nI nl) dX7_letter_4 flX7_197 rfl rfl hW.1 hc22 ?_
  refine wp_i2l dX7_letter_7 ?_
  refine wp_lconst (v := 1) dX7_letter_8 rfl ?_
  refine wp_lsub dX7_letter_9 ?_
  refine wp_callS mX7_in [.long (Int32.toInt64 (nI l)), .long 0, .long ((Int32.toInt64 (nI nl)) - 1)] [] dX7_letter_10 iX7_in (fun _ => trivial) mlX7_143 stX7_in ⟨by decide, by decide⟩ rfl rfl (Nat.le_of_ble_eq_true rfl) (Nat.le_of_ble_eq_true rfl) (by decide) (by decide) ?_
  refine ct_in (Int32.toInt64 (nI l)) 0 ((Int32.toInt64 (nI nl)) - 1) ((l : Nat)) 0 ((nl : Int) - 1) ((wid _).trans (nIt (by omega))) (by decide) (i64_sub1 (by omega)) (fun _ => ?_) (fun z => absurd ⟨by omega, by omega⟩ z)
  show WP g mX7_letter 13 [(0, .ref 100), (1, .int (nI l)), (2, .int 0)] [.int 1] _ 0 0 _
  refine wp_if_ne (tgt := 20) dX7_letter_13 (by decide) (fun _ => ?_) (fun c_1 => absurd c_1 (by decide))
  refine wp_iload_n dX7_letter_20 rfl 2 rfl ?_
  refine wp_tableIn (off := 35) (tgt := 56) dX7_letter_21 (by decide) (by decide) (by decide) (by decide) ?_
  refine wp_aload_n dX7_letter_56 rfl 0 rfl ?_
  refine wp_getP (b := 124) dX7_letter_57 flX7_72 rfl rfl hW.1 (hW.2 23 rfl).2 ?_
  refine wp_iload_n dX7_letter_60 rfl 1 rfl ?_
  refine wp_pc (pc' := 61) rfl ?_
  refine wv_iald l (vI h 124 l) dX7_letter_61 rfl (hW.2 23 rfl).1 rfl (by show l < 200; omega) rfl ?_
  refine wp_i2l dX7_letter_62 ?_
  refine wp_lret dX7_letter_63 rfl (by decide) (by decide) ?_
  exact hp
set_option maxRecDepth 100000 in
set_option maxHeartbeats 4000000 in
theorem cm_letter_1 {g : GG} {h : HP} {Post : Option Value → HP → Prop} (nl : Nat) (hW : MW h) (hc22 : vI h 100 22 = nI nl) (hnl : nl < 200) (l : Nat) (hl : l < nl) (hp : Post (some (.long (Int32.toInt64 (vI h 125 l)))) h) : CT g mX7_letter [.ref 100, .int (nI l), .int 1] h Post := by
  show WP g mX7_letter 0 [(0, .ref 100), (1, .int (nI l)), (2, .int 1)] [] h 0 0 Post
  refine wp_iload_n dX7_letter_0 rfl 1 rfl ?_
  refine wp_i2l dX7_letter_1 ?_
  refine wp_lconst (v := 0) dX7_letter_2 rfl ?_
  refine wp_aload_n dX7_letter_3 rfl 0 rfl ?_
  refine wv_getI (nI nl) dX7_letter_4 flX7_197 rfl rfl hW.1 hc22 ?_
  refine wp_i2l dX7_letter_7 ?_
  refine wp_lconst (v := 1) dX7_letter_8 rfl ?_
  refine wp_lsub dX7_letter_9 ?_
  refine wp_callS mX7_in [.long (Int32.toInt64 (nI l)), .long 0, .long ((Int32.toInt64 (nI nl)) - 1)] [] dX7_letter_10 iX7_in (fun _ => trivial) mlX7_143 stX7_in ⟨by decide, by decide⟩ rfl rfl (Nat.le_of_ble_eq_true rfl) (Nat.le_of_ble_eq_true rfl) (by decide) (by decide) ?_
  refine ct_in (Int32.toInt64 (nI l)) 0 ((Int32.toInt64 (nI nl)) - 1) ((l : Nat)) 0 ((nl : Int) - 1) ((wid _).trans (nIt (by omega))) (by decide) (i64_sub1 (by omega)) (fun _ => ?_) (fun z => absurd ⟨by omega, by omega⟩ z)
  show WP g mX7_letter 13 [(0, .ref 100), (1, .int (nI l)), (2, .int 1)] [.int 1] _ 0 0 _
  refine wp_if_ne (tgt := 20) dX7_letter_13 (by decide) (fun _ => ?_) (fun c_1 => absurd c_1 (by decide))
  refine wp_iload_n dX7_letter_20 rfl 2 rfl ?_
  refine wp_tableIn (off := 43) (tgt := 64) dX7_letter_21 (by decide) (by decide) (by decide) (by decide) ?_
  refine wp_aload_n dX7_letter_64 rfl 0 rfl ?_
  refine wp_getP (b := 125) dX7_letter_65 flX7_75 rfl rfl hW.1 (hW.2 24 rfl).2 ?_
  refine wp_iload_n dX7_letter_68 rfl 1 rfl ?_
  refine wp_pc (pc' := 69) rfl ?_
  refine wv_iald l (vI h 125 l) dX7_letter_69 rfl (hW.2 24 rfl).1 rfl (by show l < 200; omega) rfl ?_
  refine wp_i2l dX7_letter_70 ?_
  refine wp_lret dX7_letter_71 rfl (by decide) (by decide) ?_
  exact hp
set_option maxRecDepth 100000 in
set_option maxHeartbeats 4000000 in
theorem cm_letter_2 {g : GG} {h : HP} {Post : Option Value → HP → Prop} (nl : Nat) (hW : MW h) (hc22 : vI h 100 22 = nI nl) (hnl : nl < 200) (l : Nat) (hl : l < nl) (hp : Post (some (.long (Int32.toInt64 (vI h 126 l)))) h) : CT g mX7_letter [.ref 100, .int (nI l), .int 2] h Post := by
  show WP g mX7_letter 0 [(0, .ref 100), (1, .int (nI l)), (2, .int 2)] [] h 0 0 Post
  refine wp_iload_n dX7_letter_0 rfl 1 rfl ?_
  refine wp_i2l dX7_letter_1 ?_
  refine wp_lconst (v := 0) dX7_letter_2 rfl ?_
  refine wp_aload_n dX7_letter_3 rfl 0 rfl ?_
  refine wv_getI (nI nl) dX7_letter_4 flX7_197 rfl rfl hW.1 hc22 ?_
  refine wp_i2l dX7_letter_7 ?_
  refine wp_lconst (v := 1) dX7_letter_8 rfl ?_
  refine wp_lsub dX7_letter_9 ?_
  refine wp_callS mX7_in [.long (Int32.toInt64 (nI l)), .long 0, .long ((Int32.toInt64 (nI nl)) - 1)] [] dX7_letter_10 iX7_in (fun _ => trivial) mlX7_143 stX7_in ⟨by decide, by decide⟩ rfl rfl (Nat.le_of_ble_eq_true rfl) (Nat.le_of_ble_eq_true rfl) (by decide) (by decide) ?_
  refine ct_in (Int32.toInt64 (nI l)) 0 ((Int32.toInt64 (nI nl)) - 1) ((l : Nat)) 0 ((nl : Int) - 1) ((wid _).trans (nIt (by omega))) (by decide) (i64_sub1 (by omega)) (fun _ => ?_) (fun z => absurd ⟨by omega, by omega⟩ z)
  show WP g mX7_letter 13 [(0, .ref 100), (1, .int (nI l)), (2, .int 2)] [.int 1] _ 0 0 _
  refine wp_if_ne (tgt := 20) dX7_letter_13 (by decide) (fun _ => ?_) (fun c_1 => absurd c_1 (by decide))
  refine wp_iload_n dX7_letter_20 rfl 2 rfl ?_
  refine wp_tableIn (off := 51) (tgt := 72) dX7_letter_21 (by decide) (by decide) (by decide) (by decide) ?_
  refine wp_aload_n dX7_letter_72 rfl 0 rfl ?_
  refine wp_getP (b := 126) dX7_letter_73 flX7_78 rfl rfl hW.1 (hW.2 25 rfl).2 ?_
  refine wp_iload_n dX7_letter_76 rfl 1 rfl ?_
  refine wp_pc (pc' := 77) rfl ?_
  refine wv_iald l (vI h 126 l) dX7_letter_77 rfl (hW.2 25 rfl).1 rfl (by show l < 200; omega) rfl ?_
  refine wp_i2l dX7_letter_78 ?_
  refine wp_lret dX7_letter_79 rfl (by decide) (by decide) ?_
  exact hp
set_option maxRecDepth 100000 in
set_option maxHeartbeats 4000000 in
theorem cm_letter_3 {g : GG} {h : HP} {Post : Option Value → HP → Prop} (nl : Nat) (hW : MW h) (hc22 : vI h 100 22 = nI nl) (hnl : nl < 200) (l : Nat) (hl : l < nl) (hno : vI h 128 l = 0 → Post (some (.long (-9000000000000000000))) h) (hyes : ¬ vI h 128 l = 0 → Post (some (.long (vL h 129 l))) h) : CT g mX7_letter [.ref 100, .int (nI l), .int 3] h Post := by
  show WP g mX7_letter 0 [(0, .ref 100), (1, .int (nI l)), (2, .int 3)] [] h 0 0 Post
  refine wp_iload_n dX7_letter_0 rfl 1 rfl ?_
  refine wp_i2l dX7_letter_1 ?_
  refine wp_lconst (v := 0) dX7_letter_2 rfl ?_
  refine wp_aload_n dX7_letter_3 rfl 0 rfl ?_
  refine wv_getI (nI nl) dX7_letter_4 flX7_197 rfl rfl hW.1 hc22 ?_
  refine wp_i2l dX7_letter_7 ?_
  refine wp_lconst (v := 1) dX7_letter_8 rfl ?_
  refine wp_lsub dX7_letter_9 ?_
  refine wp_callS mX7_in [.long (Int32.toInt64 (nI l)), .long 0, .long ((Int32.toInt64 (nI nl)) - 1)] [] dX7_letter_10 iX7_in (fun _ => trivial) mlX7_143 stX7_in ⟨by decide, by decide⟩ rfl rfl (Nat.le_of_ble_eq_true rfl) (Nat.le_of_ble_eq_true rfl) (by decide) (by decide) ?_
  refine ct_in (Int32.toInt64 (nI l)) 0 ((Int32.toInt64 (nI nl)) - 1) ((l : Nat)) 0 ((nl : Int) - 1) ((wid _).trans (nIt (by omega))) (by decide) (i64_sub1 (by omega)) (fun _ => ?_) (fun z => absurd ⟨by omega, by omega⟩ z)
  show WP g mX7_letter 13 [(0, .ref 100), (1, .int (nI l)), (2, .int 3)] [.int 1] _ 0 0 _
  refine wp_if_ne (tgt := 20) dX7_letter_13 (by decide) (fun _ => ?_) (fun c_1 => absurd c_1 (by decide))
  refine wp_iload_n dX7_letter_20 rfl 2 rfl ?_
  refine wp_tableIn (off := 59) (tgt := 80) dX7_letter_21 (by decide) (by decide) (by decide) (by decide) ?_
  refine wp_aload_n dX7_letter_80 rfl 0 rfl ?_
  refine wp_getP (b := 128) dX7_letter_81 flX7_84 rfl rfl hW.1 (hW.2 27 rfl).2 ?_
  refine wp_iload_n dX7_letter_84 rfl 1 rfl ?_
  refine wp_pc (pc' := 85) rfl ?_
  refine wv_bald l (vI h 128 l) dX7_letter_85 rfl (hW.2 27 rfl).1 rfl (by show l < 200; omega) rfl ?_
  refine wp_if_eq (tgt := 98) dX7_letter_86 (by decide) (fun c_2 => ?_) (fun c_2 => ?_)
  · refine wp_ldc2 dX7_letter_98 cnX7_155 ?_
    refine wp_lret dX7_letter_101 rfl (by decide) (by decide) ?_
    exact hno c_2
  · refine wp_aload_n dX7_letter_89 rfl 0 rfl ?_
    refine wp_getP (b := 129) dX7_letter_90 flX7_87 rfl rfl hW.1 (hW.2 28 rfl).2 ?_
    refine wp_iload_n dX7_letter_93 rfl 1 rfl ?_
    refine wv_lald l (vL h 129 l) dX7_letter_94 rfl (hW.2 28 rfl).1 rfl (by show l < 200; omega) rfl ?_
    refine wp_goto (tgt := 101) dX7_letter_95 (by decide) ?_
    refine wp_lret dX7_letter_101 rfl (by decide) (by decide) ?_
    exact hyes c_2
set_option maxRecDepth 100000 in
set_option maxHeartbeats 4000000 in
theorem cm_letter_4 {g : GG} {h : HP} {Post : Option Value → HP → Prop} (nl : Nat) (hW : MW h) (hc22 : vI h 100 22 = nI nl) (hnl : nl < 200) (l : Nat) (hl : l < nl) (hno : vI h 128 l = 0 → Post (some (.long (-9000000000000000000))) h) (hyes : ¬ vI h 128 l = 0 → Post (some (.long (vL h 130 l))) h) : CT g mX7_letter [.ref 100, .int (nI l), .int 4] h Post := by
  show WP g mX7_letter 0 [(0, .ref 100), (1, .int (nI l)), (2, .int 4)] [] h 0 0 Post
  refine wp_iload_n dX7_letter_0 rfl 1 rfl ?_
  refine wp_i2l dX7_letter_1 ?_
  refine wp_lconst (v := 0) dX7_letter_2 rfl ?_
  refine wp_aload_n dX7_letter_3 rfl 0 rfl ?_
  refine wv_getI (nI nl) dX7_letter_4 flX7_197 rfl rfl hW.1 hc22 ?_
  refine wp_i2l dX7_letter_7 ?_
  refine wp_lconst (v := 1) dX7_letter_8 rfl ?_
  refine wp_lsub dX7_letter_9 ?_
  refine wp_callS mX7_in [.long (Int32.toInt64 (nI l)), .long 0, .long ((Int32.toInt64 (nI nl)) - 1)] [] dX7_letter_10 iX7_in (fun _ => trivial) mlX7_143 stX7_in ⟨by decide, by decide⟩ rfl rfl (Nat.le_of_ble_eq_true rfl) (Nat.le_of_ble_eq_true rfl) (by decide) (by decide) ?_
  refine ct_in (Int32.toInt64 (nI l)) 0 ((Int32.toInt64 (nI nl)) - 1) ((l : Nat)) 0 ((nl : Int) - 1) ((wid _).trans (nIt (by omega))) (by decide) (i64_sub1 (by omega)) (fun _ => ?_) (fun z => absurd ⟨by omega, by omega⟩ z)
  show WP g mX7_letter 13 [(0, .ref 100), (1, .int (nI l)), (2, .int 4)] [.int 1] _ 0 0 _
  refine wp_if_ne (tgt := 20) dX7_letter_13 (by decide) (fun _ => ?_) (fun c_1 => absurd c_1 (by decide))
  refine wp_iload_n dX7_letter_20 rfl 2 rfl ?_
  refine wp_tableIn (off := 81) (tgt := 102) dX7_letter_21 (by decide) (by decide) (by decide) (by decide) ?_
  refine wp_aload_n dX7_letter_102 rfl 0 rfl ?_
  refine wp_getP (b := 128) dX7_letter_103 flX7_84 rfl rfl hW.1 (hW.2 27 rfl).2 ?_
  refine wp_iload_n dX7_letter_106 rfl 1 rfl ?_
  refine wp_pc (pc' := 107) rfl ?_
  refine wv_bald l (vI h 128 l) dX7_letter_107 rfl (hW.2 27 rfl).1 rfl (by show l < 200; omega) rfl ?_
  refine wp_if_eq (tgt := 120) dX7_letter_108 (by decide) (fun c_2 => ?_) (fun c_2 => ?_)
  · refine wp_ldc2 dX7_letter_120 cnX7_155 ?_
    refine wp_lret dX7_letter_123 rfl (by decide) (by decide) ?_
    exact hno c_2
  · refine wp_aload_n dX7_letter_111 rfl 0 rfl ?_
    refine wp_getP (b := 130) dX7_letter_112 flX7_90 rfl rfl hW.1 (hW.2 29 rfl).2 ?_
    refine wp_iload_n dX7_letter_115 rfl 1 rfl ?_
    refine wv_lald l (vL h 130 l) dX7_letter_116 rfl (hW.2 29 rfl).1 rfl (by show l < 200; omega) rfl ?_
    refine wp_goto (tgt := 123) dX7_letter_117 (by decide) ?_
    refine wp_lret dX7_letter_123 rfl (by decide) (by decide) ?_
    exact hyes c_2
set_option maxRecDepth 100000 in
set_option maxHeartbeats 4000000 in
theorem cm_letter_x {g : GG} {h : HP} {Post : Option Value → HP → Prop} (nl : Nat) (hW : MW h) (hc22 : vI h 100 22 = nI nl) (hnl : nl < 200) (l : Nat) (hl : l < nl) (wh : Int32) (hw : wh.toInt < 0 ∨ 4 < wh.toInt) (hp : Post (some (.long (-9000000000000000000))) h) : CT g mX7_letter [.ref 100, .int (nI l), .int wh] h Post := by
  show WP g mX7_letter 0 [(0, .ref 100), (1, .int (nI l)), (2, .int wh)] [] h 0 0 Post
  refine wp_iload_n dX7_letter_0 rfl 1 rfl ?_
  refine wp_i2l dX7_letter_1 ?_
  refine wp_lconst (v := 0) dX7_letter_2 rfl ?_
  refine wp_aload_n dX7_letter_3 rfl 0 rfl ?_
  refine wv_getI (nI nl) dX7_letter_4 flX7_197 rfl rfl hW.1 hc22 ?_
  refine wp_i2l dX7_letter_7 ?_
  refine wp_lconst (v := 1) dX7_letter_8 rfl ?_
  refine wp_lsub dX7_letter_9 ?_
  refine wp_callS mX7_in [.long (Int32.toInt64 (nI l)), .long 0, .long ((Int32.toInt64 (nI nl)) - 1)] [] dX7_letter_10 iX7_in (fun _ => trivial) mlX7_143 stX7_in ⟨by decide, by decide⟩ rfl rfl (Nat.le_of_ble_eq_true rfl) (Nat.le_of_ble_eq_true rfl) (by decide) (by decide) ?_
  refine ct_in (Int32.toInt64 (nI l)) 0 ((Int32.toInt64 (nI nl)) - 1) ((l : Nat)) 0 ((nl : Int) - 1) ((wid _).trans (nIt (by omega))) (by decide) (i64_sub1 (by omega)) (fun _ => ?_) (fun z => absurd ⟨by omega, by omega⟩ z)
  show WP g mX7_letter 13 [(0, .ref 100), (1, .int (nI l)), (2, .int wh)] [.int 1] _ 0 0 _
  refine wp_if_ne (tgt := 20) dX7_letter_13 (by decide) (fun _ => ?_) (fun c_1 => absurd c_1 (by decide))
  refine wp_iload_n dX7_letter_20 rfl 2 rfl ?_
  refine wp_tableOut (tgt := 124) dX7_letter_21 hw (by decide) ?_
  refine wp_ldc2 dX7_letter_124 cnX7_155 ?_
  refine wp_lret dX7_letter_127 rfl (by decide) (by decide) ?_
  exact hp
set_option maxRecDepth 100000 in
set_option maxHeartbeats 4000000 in
theorem cm_heard0 {g : GG} {h : HP} {Post : Option Value → HP → Prop} (y : Int32) (wh : Int32) (nm : Nat) (hW : MW h) (hc1 : vI h 100 1 = nI nm) (hnm : nm ≤ 10) (x : Int32) (hx : ¬ inR x nm) (hp : Post (some (.long (-9000000000000000000))) h) : CT g mX7_heard [.ref 100, .int x, .int y, .int wh] h Post := by
  show WP g mX7_heard 0 [(0, .ref 100), (1, .int x), (2, .int y), (3, .int wh)] [] h 0 0 Post
  refine wp_aload_n dX7_heard_0 rfl 0 rfl ?_
  refine wp_iload_n dX7_heard_1 rfl 1 rfl ?_
  refine wp_callV mX7_isMember 100 [.int x] [] (c := 7) dX7_heard_2 iX7_isMember (fun _ => trivial) mlX7_163 imX7_isMember seX7_isMember (by decide) rfl rfl ⟨by decide, by decide⟩ rfl rfl (Nat.le_of_ble_eq_true rfl) (Nat.le_of_ble_eq_true rfl) (by decide) (by decide) ?_
  refine ct_isMember0 nm hW hc1 (by omega) x hx ?_
  show WP g mX7_heard 5 [(0, .ref 100), (1, .int x), (2, .int y), (3, .int wh)] [.int 0] _ 0 0 _
  refine wp_if_eq (tgt := 40) dX7_heard_5 (by decide) (fun _ => ?_) (fun c_1 => absurd (by decide) c_1)
  refine wp_ldc2 dX7_heard_40 cnX7_155 ?_
  refine wp_lret dX7_heard_43 rfl (by decide) (by decide) ?_
  exact hp
set_option maxRecDepth 100000 in
set_option maxHeartbeats 4000000 in
theorem cm_heard1 {g : GG} {h : HP} {Post : Option Value → HP → Prop} (y : Int32) (wh : Int32) (nm : Nat) (hW : MW h) (hc1 : vI h 100 1 = nI nm) (hnm : nm ≤ 10) (i : Nat) (hi : i < nm) (hy : ¬ inR y nm) (hp : Post (some (.long (-9000000000000000000))) h) : CT g mX7_heard [.ref 100, .int (nI i), .int y, .int wh] h Post := by
  show WP g mX7_heard 0 [(0, .ref 100), (1, .int (nI i)), (2, .int y), (3, .int wh)] [] h 0 0 Post
  refine wp_aload_n dX7_heard_0 rfl 0 rfl ?_
  refine wp_iload_n dX7_heard_1 rfl 1 rfl ?_
  refine wp_callV mX7_isMember 100 [.int (nI i)] [] (c := 7) dX7_heard_2 iX7_isMember (fun _ => trivial) mlX7_163 imX7_isMember seX7_isMember (by decide) rfl rfl ⟨by decide, by decide⟩ rfl rfl (Nat.le_of_ble_eq_true rfl) (Nat.le_of_ble_eq_true rfl) (by decide) (by decide) ?_
  refine ct_isMember nm hW hc1 (by omega) i hi ?_
  show WP g mX7_heard 5 [(0, .ref 100), (1, .int (nI i)), (2, .int y), (3, .int wh)] [.int 1] _ 0 0 _
  refine wp_if_eq (tgt := 40) dX7_heard_5 (by decide) (fun c_1 => absurd c_1 (by decide)) (fun _ => ?_)
  refine wp_aload_n dX7_heard_8 rfl 0 rfl ?_
  refine wp_iload_n dX7_heard_9 rfl 2 rfl ?_
  refine wp_callV mX7_isMember 100 [.int y] [] (c := 7) dX7_heard_10 iX7_isMember (fun _ => trivial) mlX7_163 imX7_isMember seX7_isMember (by decide) rfl rfl ⟨by decide, by decide⟩ rfl rfl (Nat.le_of_ble_eq_true rfl) (Nat.le_of_ble_eq_true rfl) (by decide) (by decide) ?_
  refine ct_isMember0 nm hW hc1 (by omega) y hy ?_
  show WP g mX7_heard 13 [(0, .ref 100), (1, .int (nI i)), (2, .int y), (3, .int wh)] [.int 0] _ 0 0 _
  refine wp_if_eq (tgt := 40) dX7_heard_13 (by decide) (fun _ => ?_) (fun c_2 => absurd (by decide) c_2)
  refine wp_ldc2 dX7_heard_40 cnX7_155 ?_
  refine wp_lret dX7_heard_43 rfl (by decide) (by decide) ?_
  exact hp
set_option maxRecDepth 100000 in
set_option maxHeartbeats 4000000 in
theorem cm_heard_0 {g : GG} {h : HP} {Post : Option Value → HP → Prop} (nm : Nat) (hW : MW h) (hc1 : vI h 100 1 = nI nm) (hnm : nm ≤ 10) (i : Nat) (hi : i < nm) (hd : DV h i) (j : Nat) (hj : j < nm) (hno : vI h 119 (10 * i + j) = 0 → Post (some (.long (-9000000000000000000))) h) (hyes : ¬ vI h 119 (10 * i + j) = 0 → Post (some (.long (mHL h i (10 * i + j)))) h) : CT g mX7_heard [.ref 100, .int (nI i), .int (nI j), .int 0] h Post := by
  show WP g mX7_heard 0 [(0, .ref 100), (1, .int (nI i)), (2, .int (nI j)), (3, .int 0)] [] h 0 0 Post
  refine wp_aload_n dX7_heard_0 rfl 0 rfl ?_
  refine wp_iload_n dX7_heard_1 rfl 1 rfl ?_
  refine wp_callV mX7_isMember 100 [.int (nI i)] [] (c := 7) dX7_heard_2 iX7_isMember (fun _ => trivial) mlX7_163 imX7_isMember seX7_isMember (by decide) rfl rfl ⟨by decide, by decide⟩ rfl rfl (Nat.le_of_ble_eq_true rfl) (Nat.le_of_ble_eq_true rfl) (by decide) (by decide) ?_
  refine ct_isMember nm hW hc1 (by omega) i hi ?_
  show WP g mX7_heard 5 [(0, .ref 100), (1, .int (nI i)), (2, .int (nI j)), (3, .int 0)] [.int 1] _ 0 0 _
  refine wp_if_eq (tgt := 40) dX7_heard_5 (by decide) (fun c_1 => absurd c_1 (by decide)) (fun _ => ?_)
  refine wp_aload_n dX7_heard_8 rfl 0 rfl ?_
  refine wp_iload_n dX7_heard_9 rfl 2 rfl ?_
  refine wp_callV mX7_isMember 100 [.int (nI j)] [] (c := 7) dX7_heard_10 iX7_isMember (fun _ => trivial) mlX7_163 imX7_isMember seX7_isMember (by decide) rfl rfl ⟨by decide, by decide⟩ rfl rfl (Nat.le_of_ble_eq_true rfl) (Nat.le_of_ble_eq_true rfl) (by decide) (by decide) ?_
  refine ct_isMember nm hW hc1 (by omega) j hj ?_
  show WP g mX7_heard 13 [(0, .ref 100), (1, .int (nI i)), (2, .int (nI j)), (3, .int 0)] [.int 1] _ 0 0 _
  refine wp_if_eq (tgt := 40) dX7_heard_13 (by decide) (fun c_2 => absurd c_2 (by decide)) (fun _ => ?_)
  refine wp_aload_n dX7_heard_16 rfl 0 rfl ?_
  refine wp_getP (b := 119) dX7_heard_17 flX7_60 rfl rfl hW.1 (hW.2 18 rfl).2 ?_
  refine wp_bipush (v := 10) dX7_heard_20 (by decide) ?_
  refine wp_iload_n dX7_heard_22 rfl 1 rfl ?_
  refine wv_imul (nI (10 * i)) (wN_mul rfl rfl) dX7_heard_23 ?_
  refine wp_iload_n dX7_heard_24 rfl 2 rfl ?_
  refine wv_iadd (nI ((10 * i) + j)) (wN_add rfl rfl) dX7_heard_25 ?_
  refine wp_pc (pc' := 26) rfl ?_
  refine wv_bald (10 * i + j) (vI h 119 (10 * i + j)) dX7_heard_26 rfl (hW.2 18 rfl).1 rfl (by show 10 * i + j < 100; omega) rfl ?_
  refine wp_if_eq (tgt := 40) dX7_heard_27 (by decide) (fun c_3 => ?_) (fun c_3 => ?_)
  · refine wp_ldc2 dX7_heard_40 cnX7_155 ?_
    refine wp_lret dX7_heard_43 rfl (by decide) (by decide) ?_
    exact hno c_3
  · refine wp_iload_n dX7_heard_30 rfl 3 rfl ?_
    refine wp_i2l dX7_heard_31 ?_
    refine wp_lconst (v := 0) dX7_heard_32 rfl ?_
    refine wp_lconst (v := 1) dX7_heard_33 rfl ?_
    refine wp_callS mX7_in [.long (Int32.toInt64 (0 : Int32)), .long 0, .long 1] [] dX7_heard_34 iX7_in (fun _ => trivial) mlX7_143 stX7_in ⟨by decide, by decide⟩ rfl rfl (Nat.le_of_ble_eq_true rfl) (Nat.le_of_ble_eq_true rfl) (by decide) (by decide) ?_
    refine ct_in (Int32.toInt64 (0 : Int32)) 0 1 (0) 0 1 ((wid _).trans (by decide)) (by decide) (by decide) (fun _ => ?_) (fun z => absurd (by omega) z)
    show WP g mX7_heard 37 [(0, .ref 100), (1, .int (nI i)), (2, .int (nI j)), (3, .int 0)] [.int 1] _ 0 0 _
    refine wp_if_ne (tgt := 44) dX7_heard_37 (by decide) (fun _ => ?_) (fun c_4 => absurd c_4 (by decide))
    refine wp_iload_n dX7_heard_44 rfl 3 rfl ?_
    refine wp_if_ne (tgt := 57) dX7_heard_45 (by decide) (fun c_5 => absurd (by decide) c_5) (fun _ => ?_)
    refine wp_aload_n dX7_heard_48 rfl 0 rfl ?_
    refine wp_iload_n dX7_heard_49 rfl 1 rfl ?_
    refine wp_iload_n dX7_heard_50 rfl 2 rfl ?_
    refine wp_callV mX7_heardLowOf 100 [.int (nI i), .int (nI j)] [] (c := 7) dX7_heard_51 iX7_heardLowOf (fun _ => trivial) mlX7_205 imX7_heardLowOf seX7_heardLowOf (by decide) rfl rfl ⟨by decide, by decide⟩ rfl rfl (Nat.le_of_ble_eq_true rfl) (Nat.le_of_ble_eq_true rfl) (by decide) (by decide) ?_
    refine cm_heardLowOf i (by omega) hW hd j (by omega) ?_
    show WP g mX7_heard 54 [(0, .ref 100), (1, .int (nI i)), (2, .int (nI j)), (3, .int 0)] [.long (mHL h i (10 * i + j))] _ 0 0 _
    refine wp_goto (tgt := 63) dX7_heard_54 (by decide) ?_
    refine wp_lret dX7_heard_63 rfl (by decide) (by decide) ?_
    exact hyes c_3
set_option maxRecDepth 100000 in
set_option maxHeartbeats 4000000 in
theorem cm_heard_1 {g : GG} {h : HP} {Post : Option Value → HP → Prop} (nm : Nat) (hW : MW h) (hc1 : vI h 100 1 = nI nm) (hnm : nm ≤ 10) (i : Nat) (hi : i < nm) (hd : DV h i) (j : Nat) (hj : j < nm) (hno : vI h 119 (10 * i + j) = 0 → Post (some (.long (-9000000000000000000))) h) (hyes : ¬ vI h 119 (10 * i + j) = 0 → Post (some (.long (mHH h i (10 * i + j)))) h) : CT g mX7_heard [.ref 100, .int (nI i), .int (nI j), .int 1] h Post := by
  show WP g mX7_heard 0 [(0, .ref 100), (1, .int (nI i)), (2, .int (nI j)), (3, .int 1)] [] h 0 0 Post
  refine wp_aload_n dX7_heard_0 rfl 0 rfl ?_
  refine wp_iload_n dX7_heard_1 rfl 1 rfl ?_
  refine wp_callV mX7_isMember 100 [.int (nI i)] [] (c := 7) dX7_heard_2 iX7_isMember (fun _ => trivial) mlX7_163 imX7_isMember seX7_isMember (by decide) rfl rfl ⟨by decide, by decide⟩ rfl rfl (Nat.le_of_ble_eq_true rfl) (Nat.le_of_ble_eq_true rfl) (by decide) (by decide) ?_
  refine ct_isMember nm hW hc1 (by omega) i hi ?_
  show WP g mX7_heard 5 [(0, .ref 100), (1, .int (nI i)), (2, .int (nI j)), (3, .int 1)] [.int 1] _ 0 0 _
  refine wp_if_eq (tgt := 40) dX7_heard_5 (by decide) (fun c_1 => absurd c_1 (by decide)) (fun _ => ?_)
  refine wp_aload_n dX7_heard_8 rfl 0 rfl ?_
  refine wp_iload_n dX7_heard_9 rfl 2 rfl ?_
  refine wp_callV mX7_isMember 100 [.int (nI j)] [] (c := 7) dX7_heard_10 iX7_isMember (fun _ => trivial) mlX7_163 imX7_isMember seX7_isMember (by decide) rfl rfl ⟨by decide, by decide⟩ rfl rfl (Nat.le_of_ble_eq_true rfl) (Nat.le_of_ble_eq_true rfl) (by decide) (by decide) ?_
  refine ct_isMember nm hW hc1 (by omega) j hj ?_
  show WP g mX7_heard 13 [(0, .ref 100), (1, .int (nI i)), (2, .int (nI j)), (3, .int 1)] [.int 1] _ 0 0 _
  refine wp_if_eq (tgt := 40) dX7_heard_13 (by decide) (fun c_2 => absurd c_2 (by decide)) (fun _ => ?_)
  refine wp_aload_n dX7_heard_16 rfl 0 rfl ?_
  refine wp_getP (b := 119) dX7_heard_17 flX7_60 rfl rfl hW.1 (hW.2 18 rfl).2 ?_
  refine wp_bipush (v := 10) dX7_heard_20 (by decide) ?_
  refine wp_iload_n dX7_heard_22 rfl 1 rfl ?_
  refine wv_imul (nI (10 * i)) (wN_mul rfl rfl) dX7_heard_23 ?_
  refine wp_iload_n dX7_heard_24 rfl 2 rfl ?_
  refine wv_iadd (nI ((10 * i) + j)) (wN_add rfl rfl) dX7_heard_25 ?_
  refine wp_pc (pc' := 26) rfl ?_
  refine wv_bald (10 * i + j) (vI h 119 (10 * i + j)) dX7_heard_26 rfl (hW.2 18 rfl).1 rfl (by show 10 * i + j < 100; omega) rfl ?_
  refine wp_if_eq (tgt := 40) dX7_heard_27 (by decide) (fun c_3 => ?_) (fun c_3 => ?_)
  · refine wp_ldc2 dX7_heard_40 cnX7_155 ?_
    refine wp_lret dX7_heard_43 rfl (by decide) (by decide) ?_
    exact hno c_3
  · refine wp_iload_n dX7_heard_30 rfl 3 rfl ?_
    refine wp_i2l dX7_heard_31 ?_
    refine wp_lconst (v := 0) dX7_heard_32 rfl ?_
    refine wp_lconst (v := 1) dX7_heard_33 rfl ?_
    refine wp_callS mX7_in [.long (Int32.toInt64 (1 : Int32)), .long 0, .long 1] [] dX7_heard_34 iX7_in (fun _ => trivial) mlX7_143 stX7_in ⟨by decide, by decide⟩ rfl rfl (Nat.le_of_ble_eq_true rfl) (Nat.le_of_ble_eq_true rfl) (by decide) (by decide) ?_
    refine ct_in (Int32.toInt64 (1 : Int32)) 0 1 (1) 0 1 ((wid _).trans (by decide)) (by decide) (by decide) (fun _ => ?_) (fun z => absurd (by omega) z)
    show WP g mX7_heard 37 [(0, .ref 100), (1, .int (nI i)), (2, .int (nI j)), (3, .int 1)] [.int 1] _ 0 0 _
    refine wp_if_ne (tgt := 44) dX7_heard_37 (by decide) (fun _ => ?_) (fun c_4 => absurd c_4 (by decide))
    refine wp_iload_n dX7_heard_44 rfl 3 rfl ?_
    refine wp_if_ne (tgt := 57) dX7_heard_45 (by decide) (fun _ => ?_) (fun c_5 => absurd c_5 (by decide))
    refine wp_aload_n dX7_heard_57 rfl 0 rfl ?_
    refine wp_iload_n dX7_heard_58 rfl 1 rfl ?_
    refine wp_iload_n dX7_heard_59 rfl 2 rfl ?_
    refine wp_callV mX7_heardHighOf 100 [.int (nI i), .int (nI j)] [] (c := 7) dX7_heard_60 iX7_heardHighOf (fun _ => trivial) mlX7_209 imX7_heardHighOf seX7_heardHighOf (by decide) rfl rfl ⟨by decide, by decide⟩ rfl rfl (Nat.le_of_ble_eq_true rfl) (Nat.le_of_ble_eq_true rfl) (by decide) (by decide) ?_
    refine cm_heardHighOf i (by omega) hW hd j (by omega) ?_
    show WP g mX7_heard 63 [(0, .ref 100), (1, .int (nI i)), (2, .int (nI j)), (3, .int 1)] [.long (mHH h i (10 * i + j))] _ 0 0 _
    refine wp_lret dX7_heard_63 rfl (by decide) (by decide) ?_
    exact hyes c_3
set_option maxRecDepth 100000 in
set_option maxHeartbeats 4000000 in
theorem cm_heard_x {g : GG} {h : HP} {Post : Option Value → HP → Prop} (nm : Nat) (hW : MW h) (hc1 : vI h 100 1 = nI nm) (hnm : nm ≤ 10) (i : Nat) (hi : i < nm) (hd : DV h i) (j : Nat) (hj : j < nm) (wh : Int32) (hw : ¬ wh.toInt = 0 ∧ ¬ wh.toInt = 1) (hp : Post (some (.long (-9000000000000000000))) h) : CT g mX7_heard [.ref 100, .int (nI i), .int (nI j), .int wh] h Post := by
  show WP g mX7_heard 0 [(0, .ref 100), (1, .int (nI i)), (2, .int (nI j)), (3, .int wh)] [] h 0 0 Post
  refine wp_aload_n dX7_heard_0 rfl 0 rfl ?_
  refine wp_iload_n dX7_heard_1 rfl 1 rfl ?_
  refine wp_callV mX7_isMember 100 [.int (nI i)] [] (c := 7) dX7_heard_2 iX7_isMember (fun _ => trivial) mlX7_163 imX7_isMember seX7_isMember (by decide) rfl rfl ⟨by decide, by decide⟩ rfl rfl (Nat.le_of_ble_eq_true rfl) (Nat.le_of_ble_eq_true rfl) (by decide) (by decide) ?_
  refine ct_isMember nm hW hc1 (by omega) i hi ?_
  show WP g mX7_heard 5 [(0, .ref 100), (1, .int (nI i)), (2, .int (nI j)), (3, .int wh)] [.int 1] _ 0 0 _
  refine wp_if_eq (tgt := 40) dX7_heard_5 (by decide) (fun c_1 => absurd c_1 (by decide)) (fun _ => ?_)
  refine wp_aload_n dX7_heard_8 rfl 0 rfl ?_
  refine wp_iload_n dX7_heard_9 rfl 2 rfl ?_
  refine wp_callV mX7_isMember 100 [.int (nI j)] [] (c := 7) dX7_heard_10 iX7_isMember (fun _ => trivial) mlX7_163 imX7_isMember seX7_isMember (by decide) rfl rfl ⟨by decide, by decide⟩ rfl rfl (Nat.le_of_ble_eq_true rfl) (Nat.le_of_ble_eq_true rfl) (by decide) (by decide) ?_
  refine ct_isMember nm hW hc1 (by omega) j hj ?_
  show WP g mX7_heard 13 [(0, .ref 100), (1, .int (nI i)), (2, .int (nI j)), (3, .int wh)] [.int 1] _ 0 0 _
  refine wp_if_eq (tgt := 40) dX7_heard_13 (by decide) (fun c_2 => absurd c_2 (by decide)) (fun _ => ?_)
  refine wp_aload_n dX7_heard_16 rfl 0 rfl ?_
  refine wp_getP (b := 119) dX7_heard_17 flX7_60 rfl rfl hW.1 (hW.2 18 rfl).2 ?_
  refine wp_bipush (v := 10) dX7_heard_20 (by decide) ?_
  refine wp_iload_n dX7_heard_22 rfl 1 rfl ?_
  refine wv_imul (nI (10 * i)) (wN_mul rfl rfl) dX7_heard_23 ?_
  refine wp_iload_n dX7_heard_24 rfl 2 rfl ?_
  refine wv_iadd (nI ((10 * i) + j)) (wN_add rfl rfl) dX7_heard_25 ?_
  refine wp_pc (pc' := 26) rfl ?_
  refine wv_bald (10 * i + j) (vI h 119 (10 * i + j)) dX7_heard_26 rfl (hW.2 18 rfl).1 rfl (by show 10 * i + j < 100; omega) rfl ?_
  refine wp_if_eq (tgt := 40) dX7_heard_27 (by decide) (fun c_3 => ?_) (fun c_3 => ?_)
  · refine wp_ldc2 dX7_heard_40 cnX7_155 ?_
    refine wp_lret dX7_heard_43 rfl (by decide) (by decide) ?_
    exact hp
  · refine wp_iload_n dX7_heard_30 rfl 3 rfl ?_
    refine wp_i2l dX7_heard_31 ?_
    refine wp_lconst (v := 0) dX7_heard_32 rfl ?_
    refine wp_lconst (v := 1) dX7_heard_33 rfl ?_
    refine wp_callS mX7_in [.long (Int32.toInt64 wh), .long 0, .long 1] [] dX7_heard_34 iX7_in (fun _ => trivial) mlX7_143 stX7_in ⟨by decide, by decide⟩ rfl rfl (Nat.le_of_ble_eq_true rfl) (Nat.le_of_ble_eq_true rfl) (by decide) (by decide) ?_
    refine ct_in (Int32.toInt64 wh) 0 1 (Int32.toInt wh) 0 1 ((wid _).trans rfl) (by decide) (by decide) (fun z => absurd z (by omega)) (fun _ => ?_)
    show WP g mX7_heard 37 [(0, .ref 100), (1, .int (nI i)), (2, .int (nI j)), (3, .int wh)] [.int 0] _ 0 0 _
    refine wp_if_ne (tgt := 44) dX7_heard_37 (by decide) (fun c_4 => absurd (by decide) c_4) (fun _ => ?_)
    refine wp_ldc2 dX7_heard_40 cnX7_155 ?_
    refine wp_lret dX7_heard_43 rfl (by decide) (by decide) ?_
    exact hp
set_option maxRecDepth 100000 in
set_option maxHeartbeats 4000000 in
theorem cm_lead0 {g : GG} {h : HP} {Post : Option Value → HP → Prop} (ld : Int32) (nm : Nat) (hW : MW h) (hc1 : vI h 100 1 = nI nm) (hnm : nm ≤ 10) (x : Int32) (hx : ¬ inR x nm) (hp : Post (some (.long (-9000000000000000000))) h) : CT g mX7_lead [.ref 100, .int x, .int ld] h Post := by
  show WP g mX7_lead 0 [(0, .ref 100), (1, .int x), (2, .int ld)] [] h 0 0 Post
  refine wp_aload_n dX7_lead_0 rfl 0 rfl ?_
  refine wp_iload_n dX7_lead_1 rfl 1 rfl ?_
  refine wp_callV mX7_isMember 100 [.int x] [] (c := 7) dX7_lead_2 iX7_isMember (fun _ => trivial) mlX7_163 imX7_isMember seX7_isMember (by decide) rfl rfl ⟨by decide, by decide⟩ rfl rfl (Nat.le_of_ble_eq_true rfl) (Nat.le_of_ble_eq_true rfl) (by decide) (by decide) ?_
  refine ct_isMember0 nm hW hc1 (by omega) x hx ?_
  show WP g mX7_lead 5 [(0, .ref 100), (1, .int x), (2, .int ld)] [.int 0] _ 0 0 _
  refine wp_if_eq (tgt := 29) dX7_lead_5 (by decide) (fun _ => ?_) (fun c_1 => absurd (by decide) c_1)
  refine wp_ldc2 dX7_lead_29 cnX7_155 ?_
  refine wp_lret dX7_lead_32 rfl (by decide) (by decide) ?_
  exact hp
def okLe (h : HP) (i : Nat) (ld : Int32) : Prop := 0 ≤ ld.toInt ∧ ld.toInt ≤ 1000 ∧ (vI h 114 i).toInt = 0
def leG (h : HP) (i : Nat) : Int64 := mCn h i - vL h 116 i
def leK (h : HP) (i : Nat) (ld : Int32) : Int64 := flo (leG h i * Int32.toInt64 ld) 1000
def leB (h : HP) (i : Nat) : Int64 := flo (mLo h i + mHi h i) 2 - vL h 115 i
def leS (h : HP) (i : Nat) (ld : Int32) : Int64 := if (leB h i).toInt < (leG h i - leK h i ld).toInt then leG h i - leK h i ld else if (leG h i + leK h i ld).toInt < (leB h i).toInt then leG h i + leK h i ld else leB h i
def leH (h : HP) (i : Nat) (ld : Int32) : HP := sL (sL h 115 i (vL h 115 i + leS h i ld)) 116 i (mCn h i)
set_option maxRecDepth 100000 in
set_option maxHeartbeats 4000000 in
theorem cm_lead {g : GG} {h : HP} {Post : Option Value → HP → Prop} (nm : Nat) (hW : MW h) (hc1 : vI h 100 1 = nI nm) (hnm : nm ≤ 10) (i : Nat) (hi : i < nm) (hd : DV h i) (ld : Int32) (hno : ¬ okLe h i ld → Post (some (.long (-9000000000000000000))) h) (hyes : okLe h i ld → Post (some (.long (vL h 115 i + leS h i ld))) (leH h i ld)) : CT g mX7_lead [.ref 100, .int (nI i), .int ld] h Post := by
  show WP g mX7_lead 0 [(0, .ref 100), (1, .int (nI i)), (2, .int ld)] [] h 0 0 Post
  refine wp_aload_n dX7_lead_0 rfl 0 rfl ?_
  refine wp_iload_n dX7_lead_1 rfl 1 rfl ?_
  refine wp_callV mX7_isMember 100 [.int (nI i)] [] (c := 7) dX7_lead_2 iX7_isMember (fun _ => trivial) mlX7_163 imX7_isMember seX7_isMember (by decide) rfl rfl ⟨by decide, by decide⟩ rfl rfl (Nat.le_of_ble_eq_true rfl) (Nat.le_of_ble_eq_true rfl) (by decide) (by decide) ?_
  refine ct_isMember nm hW hc1 (by omega) i hi ?_
  show WP g mX7_lead 5 [(0, .ref 100), (1, .int (nI i)), (2, .int ld)] [.int 1] _ 0 0 _
  refine wp_if_eq (tgt := 29) dX7_lead_5 (by decide) (fun c_1 => absurd c_1 (by decide)) (fun _ => ?_)
  refine wp_iload_n dX7_lead_8 rfl 2 rfl ?_
  refine wp_i2l dX7_lead_9 ?_
  refine wp_lconst (v := 0) dX7_lead_10 rfl ?_
  refine wp_ldc2 dX7_lead_11 cnX7_167 ?_
  refine wp_callS mX7_in [.long (Int32.toInt64 ld), .long 0, .long 1000] [] dX7_lead_14 iX7_in (fun _ => trivial) mlX7_143 stX7_in ⟨by decide, by decide⟩ rfl rfl (Nat.le_of_ble_eq_true rfl) (Nat.le_of_ble_eq_true rfl) (by decide) (by decide) ?_
  refine ct_in (Int32.toInt64 ld) 0 1000 (Int32.toInt ld) (0) (1000) ((wid _).trans rfl) (by decide) (by decide) (fun c_2 => ?_) (fun c_2 => ?_)
  · show WP g mX7_lead 17 [(0, .ref 100), (1, .int (nI i)), (2, .int ld)] [.int 1] _ 0 0 _
    refine wp_if_eq (tgt := 29) dX7_lead_17 (by decide) (fun c_3 => absurd c_3 (by decide)) (fun _ => ?_)
    refine wp_aload_n dX7_lead_20 rfl 0 rfl ?_
    refine wp_getP (b := 114) dX7_lead_21 flX7_44 rfl rfl hW.1 (hW.2 13 rfl).2 ?_
    refine wp_iload_n dX7_lead_24 rfl 1 rfl ?_
    refine wv_bald i (vI h 114 i) dX7_lead_25 rfl (hW.2 13 rfl).1 rfl (by show i < 10; omega) rfl ?_
    refine wi_if_eq (tgt := 33) (Int32.toInt (vI h 114 i)) rfl dX7_lead_26 (by decide) (fun c_4 => ?_) (fun c_4 => ?_)
    · refine wp_aload_n dX7_lead_33 rfl 0 rfl ?_
      refine wp_iload_n dX7_lead_34 rfl 1 rfl ?_
      refine wp_callV mX7_counterOf 100 [.int (nI i)] [] (c := 7) dX7_lead_35 iX7_counterOf (fun _ => trivial) mlX7_173 imX7_counterOf seX7_counterOf (by decide) rfl rfl ⟨by decide, by decide⟩ rfl rfl (Nat.le_of_ble_eq_true rfl) (Nat.le_of_ble_eq_true rfl) (by decide) (by decide) ?_
      refine cm_counterOf i (by omega) hW hd ?_
      show WP g mX7_lead 38 [(0, .ref 100), (1, .int (nI i)), (2, .int ld)] [.long (mCn h i)] _ 0 0 _
      refine wp_aload_n dX7_lead_38 rfl 0 rfl ?_
      refine wp_getP (b := 116) dX7_lead_39 flX7_51 rfl rfl hW.1 (hW.2 15 rfl).2 ?_
      refine wp_iload_n dX7_lead_42 rfl 1 rfl ?_
      refine wv_lald i (vL h 116 i) dX7_lead_43 rfl (hW.2 15 rfl).1 rfl (by show i < 10; omega) rfl ?_
      refine wp_lsub dX7_lead_44 ?_
      refine wp_lstore_n (lv' := [(3, .long ((mCn h i) - (vL h 116 i))), (0, .ref 100), (1, .int (nI i)), (2, .int ld)]) dX7_lead_45 rfl (by decide) rfl ?_
      refine wp_lload_n dX7_lead_46 rfl 0 rfl ?_
      refine wp_iload_n dX7_lead_47 rfl 3 rfl ?_
      refine wp_i2l dX7_lead_48 ?_
      refine wp_lmul dX7_lead_49 ?_
      refine wp_ldc2 dX7_lead_50 cnX7_167 ?_
      refine wp_pc (pc' := 53) rfl ?_
      refine wp_callS mX7_floor [.long (((mCn h i) - (vL h 116 i)) * (Int32.toInt64 ld)), .long 1000] [] dX7_lead_53 iX7_floor (fun _ => trivial) mlX7_135 stX7_floor ⟨by decide, by decide⟩ rfl rfl (Nat.le_of_ble_eq_true rfl) (Nat.le_of_ble_eq_true rfl) (by decide) (by decide) ?_
      refine ct_flo (((mCn h i) - (vL h 116 i)) * (Int32.toInt64 ld)) 1000 (by decide) ?_
      show WP g mX7_lead 56 [(3, .long ((mCn h i) - (vL h 116 i))), (0, .ref 100), (1, .int (nI i)), (2, .int ld)] [.long (flo (((mCn h i) - (vL h 116 i)) * (Int32.toInt64 ld)) 1000)] _ 0 0 _
      refine wp_lstore (lv' := [(5, .long (flo (((mCn h i) - (vL h 116 i)) * (Int32.toInt64 ld)) 1000)), (3, .long ((mCn h i) - (vL h 116 i))), (0, .ref 100), (1, .int (nI i)), (2, .int ld)]) dX7_lead_56 (by decide) rfl ?_
      refine wp_aload_n dX7_lead_58 rfl 2 rfl ?_
      refine wp_iload_n dX7_lead_59 rfl 3 rfl ?_
      refine wp_callV mX7_lowOf 100 [.int (nI i)] [] (c := 7) dX7_lead_60 iX7_lowOf (fun _ => trivial) mlX7_187 imX7_lowOf seX7_lowOf (by decide) rfl rfl ⟨by decide, by decide⟩ rfl rfl (Nat.le_of_ble_eq_true rfl) (Nat.le_of_ble_eq_true rfl) (by decide) (by decide) ?_
      refine cm_lowOf i (by omega) hW hd ?_
      show WP g mX7_lead 63 [(5, .long (flo (((mCn h i) - (vL h 116 i)) * (Int32.toInt64 ld)) 1000)), (3, .long ((mCn h i) - (vL h 116 i))), (0, .ref 100), (1, .int (nI i)), (2, .int ld)] [.long (mLo h i)] _ 0 0 _
      refine wp_aload_n dX7_lead_63 rfl 2 rfl ?_
      refine wp_iload_n dX7_lead_64 rfl 3 rfl ?_
      refine wp_callV mX7_highOf 100 [.int (nI i)] [.long (mLo h i)] (c := 7) dX7_lead_65 iX7_highOf (fun _ => trivial) mlX7_190 imX7_highOf seX7_highOf (by decide) rfl rfl ⟨by decide, by decide⟩ rfl rfl (Nat.le_of_ble_eq_true rfl) (Nat.le_of_ble_eq_true rfl) (by decide) (by decide) ?_
      refine cm_highOf i (by omega) hW hd ?_
      show WP g mX7_lead 68 [(5, .long (flo (((mCn h i) - (vL h 116 i)) * (Int32.toInt64 ld)) 1000)), (3, .long ((mCn h i) - (vL h 116 i))), (0, .ref 100), (1, .int (nI i)), (2, .int ld)] [.long (mHi h i), .long (mLo h i)] _ 0 0 _
      refine wp_ladd dX7_lead_68 ?_
      refine wp_ldc2 dX7_lead_69 cnX7_203 ?_
      refine wp_callS mX7_floor [.long ((mLo h i) + (mHi h i)), .long 2] [] dX7_lead_72 iX7_floor (fun _ => trivial) mlX7_135 stX7_floor ⟨by decide, by decide⟩ rfl rfl (Nat.le_of_ble_eq_true rfl) (Nat.le_of_ble_eq_true rfl) (by decide) (by decide) ?_
      refine ct_flo ((mLo h i) + (mHi h i)) 2 (by decide) ?_
      show WP g mX7_lead 75 [(5, .long (flo (((mCn h i) - (vL h 116 i)) * (Int32.toInt64 ld)) 1000)), (3, .long ((mCn h i) - (vL h 116 i))), (0, .ref 100), (1, .int (nI i)), (2, .int ld)] [.long (flo ((mLo h i) + (mHi h i)) 2)] _ 0 0 _
      refine wp_aload_n dX7_lead_75 rfl 2 rfl ?_
      refine wp_getP (b := 115) dX7_lead_76 flX7_48 rfl rfl hW.1 (hW.2 14 rfl).2 ?_
      refine wp_iload_n dX7_lead_79 rfl 3 rfl ?_
      refine wv_lald i (vL h 115 i) dX7_lead_80 rfl (hW.2 14 rfl).1 rfl (by show i < 10; omega) rfl ?_
      refine wp_pc (pc' := 81) rfl ?_
      refine wp_lsub dX7_lead_81 ?_
      refine wp_lstore (lv' := [(7, .long ((flo ((mLo h i) + (mHi h i)) 2) - (vL h 115 i))), (5, .long (flo (((mCn h i) - (vL h 116 i)) * (Int32.toInt64 ld)) 1000)), (3, .long ((mCn h i) - (vL h 116 i))), (0, .ref 100), (1, .int (nI i)), (2, .int ld)]) dX7_lead_82 (by decide) rfl ?_
      refine wp_lload dX7_lead_84 0 rfl ?_
      refine wp_lload_n dX7_lead_86 rfl 2 rfl ?_
      refine wp_lload dX7_lead_87 1 rfl ?_
      refine wp_lsub dX7_lead_89 ?_
      refine wil_ge (tgt := 101) (Int64.toInt ((flo ((mLo h i) + (mHi h i)) 2) - (vL h 115 i))) (Int64.toInt (((mCn h i) - (vL h 116 i)) - (flo (((mCn h i) - (vL h 116 i)) * (Int32.toInt64 ld)) 1000))) rfl rfl dX7_lead_90 dX7_lead_91 (by decide) (fun c_5 => ?_) (fun c_5 => ?_)
      · refine wp_lload dX7_lead_101 0 rfl ?_
        refine wp_lload_n dX7_lead_103 rfl 2 rfl ?_
        refine wp_lload dX7_lead_104 1 rfl ?_
        refine wp_ladd dX7_lead_106 ?_
        refine wil_le (tgt := 118) (Int64.toInt ((flo ((mLo h i) + (mHi h i)) 2) - (vL h 115 i))) (Int64.toInt (((mCn h i) - (vL h 116 i)) + (flo (((mCn h i) - (vL h 116 i)) * (Int32.toInt64 ld)) 1000))) rfl rfl dX7_lead_107 dX7_lead_108 (by decide) (fun c_6 => ?_) (fun c_6 => ?_)
        · refine wp_lload dX7_lead_118 0 rfl ?_
          refine wp_lstore (lv' := [(7, .long ((flo ((mLo h i) + (mHi h i)) 2) - (vL h 115 i))), (5, .long (flo (((mCn h i) - (vL h 116 i)) * (Int32.toInt64 ld)) 1000)), (3, .long ((mCn h i) - (vL h 116 i))), (0, .ref 100), (1, .int (nI i)), (2, .int ld)]) dX7_lead_120 (by decide) rfl ?_
          refine wp_aload_n dX7_lead_122 rfl 3 rfl ?_
          refine wp_getP (b := 115) dX7_lead_123 flX7_48 rfl rfl hW.1 (hW.2 14 rfl).2 ?_
          refine wp_iload_n dX7_lead_126 rfl 4 rfl ?_
          refine wp_dup2_11 dX7_lead_127 rfl rfl ?_
          refine wv_lald i (vL h 115 i) dX7_lead_128 rfl (hW.2 14 rfl).1 rfl (by show i < 10; omega) rfl ?_
          refine wp_lload dX7_lead_129 0 rfl ?_
          refine wp_ladd dX7_lead_131 ?_
          refine wv_last i dX7_lead_132 rfl (hW.2 14 rfl).1 rfl (by show i < 10; omega) ?_
          refine wp_aload_n dX7_lead_133 rfl 3 rfl ?_
          refine wp_getP (b := 116) dX7_lead_134 flX7_51 rfl rfl hW.1 (hW.2 15 rfl).2 ?_
          refine wp_iload_n dX7_lead_137 rfl 4 rfl ?_
          refine wp_aload_n dX7_lead_138 rfl 3 rfl ?_
          refine wp_pc (pc' := 139) rfl ?_
          refine wp_iload_n dX7_lead_139 rfl 4 rfl ?_
          refine wp_callV mX7_counterOf 100 [.int (nI i)] [.int (nI i), .ref 116] (c := 7) dX7_lead_140 iX7_counterOf (fun _ => trivial) mlX7_173 imX7_counterOf seX7_counterOf (by decide) rfl rfl ⟨by decide, by decide⟩ rfl rfl (Nat.le_of_ble_eq_true rfl) (Nat.le_of_ble_eq_true rfl) (by decide) (by decide) ?_
          have mc := mCong (h := h) (h' := (sL h 115 i ((vL h 115 i) + ((flo ((mLo h i) + (mHi h i)) 2) - (vL h 115 i))))) (fun a ha => by repeat first | rw [vL_sI] | rw [vLn (by omega)]) rfl i
          refine cm_counterOf i (by omega) (by exact MW_eq rfl rfl hW) (mc.2.2.2.2.2 hd) ?_
          rw [mc.1]
          show WP g mX7_lead 143 [(7, .long ((flo ((mLo h i) + (mHi h i)) 2) - (vL h 115 i))), (5, .long (flo (((mCn h i) - (vL h 116 i)) * (Int32.toInt64 ld)) 1000)), (3, .long ((mCn h i) - (vL h 116 i))), (0, .ref 100), (1, .int (nI i)), (2, .int ld)] [.long (mCn h i), .int (nI i), .ref 116] _ 0 0 _
          refine wv_last i dX7_lead_143 rfl (hW.2 15 rfl).1 rfl (by show i < 10; omega) ?_
          refine wp_aload_n dX7_lead_144 rfl 3 rfl ?_
          refine wp_getP (b := 115) dX7_lead_145 flX7_48 rfl rfl hW.1 (hW.2 14 rfl).2 ?_
          refine wp_iload_n dX7_lead_148 rfl 4 rfl ?_
          refine wv_lald i ((vL h 115 i) + ((flo ((mLo h i) + (mHi h i)) 2) - (vL h 115 i))) dX7_lead_149 rfl (hW.2 14 rfl).1 rfl (by show i < 10; omega) (by simp [vI, vL, vP, sI, sL, sP, up2]) ?_
          refine wp_lret dX7_lead_150 rfl (by decide) (by decide) ?_
          have q := hyes (by unfold okLe; omega)
          unfold leH at q
          rw [show leS h i ld = _ from (if_neg (by unfold leB leK leG; omega)).trans (if_neg (by unfold leB leK leG; omega))] at q
          exact q
        · refine wp_lload_n dX7_lead_111 rfl 2 rfl ?_
          refine wp_lload dX7_lead_112 1 rfl ?_
          refine wp_ladd dX7_lead_114 ?_
          refine wp_goto (tgt := 120) dX7_lead_115 (by decide) ?_
          refine wp_lstore (lv' := [(7, .long (((mCn h i) - (vL h 116 i)) + (flo (((mCn h i) - (vL h 116 i)) * (Int32.toInt64 ld)) 1000))), (5, .long (flo (((mCn h i) - (vL h 116 i)) * (Int32.toInt64 ld)) 1000)), (3, .long ((mCn h i) - (vL h 116 i))), (0, .ref 100), (1, .int (nI i)), (2, .int ld)]) dX7_lead_120 (by decide) rfl ?_
          refine wp_aload_n dX7_lead_122 rfl 3 rfl ?_
          refine wp_getP (b := 115) dX7_lead_123 flX7_48 rfl rfl hW.1 (hW.2 14 rfl).2 ?_
          refine wp_iload_n dX7_lead_126 rfl 4 rfl ?_
          refine wp_dup2_11 dX7_lead_127 rfl rfl ?_
          refine wv_lald i (vL h 115 i) dX7_lead_128 rfl (hW.2 14 rfl).1 rfl (by show i < 10; omega) rfl ?_
          refine wp_lload dX7_lead_129 0 rfl ?_
          refine wp_ladd dX7_lead_131 ?_
          refine wv_last i dX7_lead_132 rfl (hW.2 14 rfl).1 rfl (by show i < 10; omega) ?_
          refine wp_aload_n dX7_lead_133 rfl 3 rfl ?_
          refine wp_pc (pc' := 134) rfl ?_
          refine wp_getP (b := 116) dX7_lead_134 flX7_51 rfl rfl hW.1 (hW.2 15 rfl).2 ?_
          refine wp_iload_n dX7_lead_137 rfl 4 rfl ?_
          refine wp_aload_n dX7_lead_138 rfl 3 rfl ?_
          refine wp_iload_n dX7_lead_139 rfl 4 rfl ?_
          refine wp_callV mX7_counterOf 100 [.int (nI i)] [.int (nI i), .ref 116] (c := 7) dX7_lead_140 iX7_counterOf (fun _ => trivial) mlX7_173 imX7_counterOf seX7_counterOf (by decide) rfl rfl ⟨by decide, by decide⟩ rfl rfl (Nat.le_of_ble_eq_true rfl) (Nat.le_of_ble_eq_true rfl) (by decide) (by decide) ?_
          have mc := mCong (h := h) (h' := (sL h 115 i ((vL h 115 i) + (((mCn h i) - (vL h 116 i)) + (flo (((mCn h i) - (vL h 116 i)) * (Int32.toInt64 ld)) 1000))))) (fun a ha => by repeat first | rw [vL_sI] | rw [vLn (by omega)]) rfl i
          refine cm_counterOf i (by omega) (by exact MW_eq rfl rfl hW) (mc.2.2.2.2.2 hd) ?_
          rw [mc.1]
          show WP g mX7_lead 143 [(7, .long (((mCn h i) - (vL h 116 i)) + (flo (((mCn h i) - (vL h 116 i)) * (Int32.toInt64 ld)) 1000))), (5, .long (flo (((mCn h i) - (vL h 116 i)) * (Int32.toInt64 ld)) 1000)), (3, .long ((mCn h i) - (vL h 116 i))), (0, .ref 100), (1, .int (nI i)), (2, .int ld)] [.long (mCn h i), .int (nI i), .ref 116] _ 0 0 _
          refine wv_last i dX7_lead_143 rfl (hW.2 15 rfl).1 rfl (by show i < 10; omega) ?_
          refine wp_aload_n dX7_lead_144 rfl 3 rfl ?_
          refine wp_getP (b := 115) dX7_lead_145 flX7_48 rfl rfl hW.1 (hW.2 14 rfl).2 ?_
          refine wp_iload_n dX7_lead_148 rfl 4 rfl ?_
          refine wv_lald i ((vL h 115 i) + (((mCn h i) - (vL h 116 i)) + (flo (((mCn h i) - (vL h 116 i)) * (Int32.toInt64 ld)) 1000))) dX7_lead_149 rfl (hW.2 14 rfl).1 rfl (by show i < 10; omega) (by simp [vI, vL, vP, sI, sL, sP, up2]) ?_
          refine wp_lret dX7_lead_150 rfl (by decide) (by decide) ?_
          have q := hyes (by unfold okLe; omega)
          unfold leH at q
          rw [show leS h i ld = _ from (if_neg (by unfold leB leK leG; omega)).trans (if_pos (by unfold leB leK leG; omega))] at q
          exact q
      · refine wp_lload_n dX7_lead_94 rfl 2 rfl ?_
        refine wp_lload dX7_lead_95 1 rfl ?_
        refine wp_lsub dX7_lead_97 ?_
        refine wp_goto (tgt := 120) dX7_lead_98 (by decide) ?_
        refine wp_lstore (lv' := [(7, .long (((mCn h i) - (vL h 116 i)) - (flo (((mCn h i) - (vL h 116 i)) * (Int32.toInt64 ld)) 1000))), (5, .long (flo (((mCn h i) - (vL h 116 i)) * (Int32.toInt64 ld)) 1000)), (3, .long ((mCn h i) - (vL h 116 i))), (0, .ref 100), (1, .int (nI i)), (2, .int ld)]) dX7_lead_120 (by decide) rfl ?_
        refine wp_aload_n dX7_lead_122 rfl 3 rfl ?_
        refine wp_getP (b := 115) dX7_lead_123 flX7_48 rfl rfl hW.1 (hW.2 14 rfl).2 ?_
        refine wp_iload_n dX7_lead_126 rfl 4 rfl ?_
        refine wp_dup2_11 dX7_lead_127 rfl rfl ?_
        refine wv_lald i (vL h 115 i) dX7_lead_128 rfl (hW.2 14 rfl).1 rfl (by show i < 10; omega) rfl ?_
        refine wp_lload dX7_lead_129 0 rfl ?_
        refine wp_ladd dX7_lead_131 ?_
        refine wv_last i dX7_lead_132 rfl (hW.2 14 rfl).1 rfl (by show i < 10; omega) ?_
        refine wp_aload_n dX7_lead_133 rfl 3 rfl ?_
        refine wp_pc (pc' := 134) rfl ?_
        refine wp_getP (b := 116) dX7_lead_134 flX7_51 rfl rfl hW.1 (hW.2 15 rfl).2 ?_
        refine wp_iload_n dX7_lead_137 rfl 4 rfl ?_
        refine wp_aload_n dX7_lead_138 rfl 3 rfl ?_
        refine wp_iload_n dX7_lead_139 rfl 4 rfl ?_
        refine wp_callV mX7_counterOf 100 [.int (nI i)] [.int (nI i), .ref 116] (c := 7) dX7_lead_140 iX7_counterOf (fun _ => trivial) mlX7_173 imX7_counterOf seX7_counterOf (by decide) rfl rfl ⟨by decide, by decide⟩ rfl rfl (Nat.le_of_ble_eq_true rfl) (Nat.le_of_ble_eq_true rfl) (by decide) (by decide) ?_
        have mc := mCong (h := h) (h' := (sL h 115 i ((vL h 115 i) + (((mCn h i) - (vL h 116 i)) - (flo (((mCn h i) - (vL h 116 i)) * (Int32.toInt64 ld)) 1000))))) (fun a ha => by repeat first | rw [vL_sI] | rw [vLn (by omega)]) rfl i
        refine cm_counterOf i (by omega) (by exact MW_eq rfl rfl hW) (mc.2.2.2.2.2 hd) ?_
        rw [mc.1]
        show WP g mX7_lead 143 [(7, .long (((mCn h i) - (vL h 116 i)) - (flo (((mCn h i) - (vL h 116 i)) * (Int32.toInt64 ld)) 1000))), (5, .long (flo (((mCn h i) - (vL h 116 i)) * (Int32.toInt64 ld)) 1000)), (3, .long ((mCn h i) - (vL h 116 i))), (0, .ref 100), (1, .int (nI i)), (2, .int ld)] [.long (mCn h i), .int (nI i), .ref 116] _ 0 0 _
        refine wv_last i dX7_lead_143 rfl (hW.2 15 rfl).1 rfl (by show i < 10; omega) ?_
        refine wp_aload_n dX7_lead_144 rfl 3 rfl ?_
        refine wp_getP (b := 115) dX7_lead_145 flX7_48 rfl rfl hW.1 (hW.2 14 rfl).2 ?_
        refine wp_iload_n dX7_lead_148 rfl 4 rfl ?_
        refine wv_lald i ((vL h 115 i) + (((mCn h i) - (vL h 116 i)) - (flo (((mCn h i) - (vL h 116 i)) * (Int32.toInt64 ld)) 1000))) dX7_lead_149 rfl (hW.2 14 rfl).1 rfl (by show i < 10; omega) (by simp [vI, vL, vP, sI, sL, sP, up2]) ?_
        refine wp_lret dX7_lead_150 rfl (by decide) (by decide) ?_
        have q := hyes (by unfold okLe; omega)
        unfold leH at q
        rw [show leS h i ld = _ from if_pos (by unfold leB leK leG; omega)] at q
        exact q
    · refine wp_ldc2 dX7_lead_29 cnX7_155 ?_
      refine wp_lret dX7_lead_32 rfl (by decide) (by decide) ?_
      exact hno (fun q => by unfold okLe at q; omega)
  · show WP g mX7_lead 17 [(0, .ref 100), (1, .int (nI i)), (2, .int ld)] [.int 0] _ 0 0 _
    refine wp_if_eq (tgt := 29) dX7_lead_17 (by decide) (fun _ => ?_) (fun c_7 => absurd (by decide) c_7)
    refine wp_ldc2 dX7_lead_29 cnX7_155 ?_
    refine wp_lret dX7_lead_32 rfl (by decide) (by decide) ?_
    exact hno (fun q => by unfold okLe at q; omega)
set_option maxRecDepth 100000 in
set_option maxHeartbeats 4000000 in
theorem cm_stamp0 {g : GG} {h : HP} {Post : Option Value → HP → Prop}  (nm : Nat) (hW : MW h) (hc1 : vI h 100 1 = nI nm) (hnm : nm ≤ 10) (x : Int32) (hx : ¬ inR x nm) (hp : Post (some (.long (-9000000000000000000))) h) : CT g mX7_stamp [.ref 100, .int x] h Post := by
  show WP g mX7_stamp 0 [(0, .ref 100), (1, .int x)] [] h 0 0 Post
  refine wp_aload_n dX7_stamp_0 rfl 0 rfl ?_
  refine wp_iload_n dX7_stamp_1 rfl 1 rfl ?_
  refine wp_callV mX7_isMember 100 [.int x] [] (c := 7) dX7_stamp_2 iX7_isMember (fun _ => trivial) mlX7_163 imX7_isMember seX7_isMember (by decide) rfl rfl ⟨by decide, by decide⟩ rfl rfl (Nat.le_of_ble_eq_true rfl) (Nat.le_of_ble_eq_true rfl) (by decide) (by decide) ?_
  refine ct_isMember0 nm hW hc1 (by omega) x hx ?_
  show WP g mX7_stamp 5 [(0, .ref 100), (1, .int x)] [.int 0] _ 0 0 _
  refine wp_if_eq (tgt := 17) dX7_stamp_5 (by decide) (fun _ => ?_) (fun c_1 => absurd (by decide) c_1)
  refine wp_ldc2 dX7_stamp_17 cnX7_155 ?_
  refine wp_lret dX7_stamp_20 rfl (by decide) (by decide) ?_
  exact hp
def smH (h : HP) (ns i : Nat) (r : Int32) : HP := sI (sI (sI (sL (sL h 132 ns (mLo h i)) 133 ns (mHi h i)) 134 ns (nI i)) 135 ns r) 100 30 (nI (ns + 1))
set_option maxRecDepth 100000 in
set_option maxHeartbeats 4000000 in
theorem cm_stamp {g : GG} {h : HP} {Post : Option Value → HP → Prop} (nm : Nat) (hW : MW h) (hc1 : vI h 100 1 = nI nm) (hnm : nm ≤ 10) (i : Nat) (hi : i < nm) (hd : DV h i) (ns : Nat) (hc30 : vI h 100 30 = nI ns) (hns : ns < 100) (hy : mHo h i → Post (some (.long (Int32.toInt64 (nI ns)))) (smH h ns i 1)) (hn : ¬ mHo h i → Post (some (.long (Int32.toInt64 (nI ns)))) (smH h ns i 0)) : CT g mX7_stamp [.ref 100, .int (nI i)] h Post := by
  show WP g mX7_stamp 0 [(0, .ref 100), (1, .int (nI i))] [] h 0 0 Post
  refine wp_aload_n dX7_stamp_0 rfl 0 rfl ?_
  refine wp_iload_n dX7_stamp_1 rfl 1 rfl ?_
  refine wp_callV mX7_isMember 100 [.int (nI i)] [] (c := 7) dX7_stamp_2 iX7_isMember (fun _ => trivial) mlX7_163 imX7_isMember seX7_isMember (by decide) rfl rfl ⟨by decide, by decide⟩ rfl rfl (Nat.le_of_ble_eq_true rfl) (Nat.le_of_ble_eq_true rfl) (by decide) (by decide) ?_
  refine ct_isMember nm hW hc1 (by omega) i hi ?_
  show WP g mX7_stamp 5 [(0, .ref 100), (1, .int (nI i))] [.int 1] _ 0 0 _
  refine wp_if_eq (tgt := 17) dX7_stamp_5 (by decide) (fun c_1 => absurd c_1 (by decide)) (fun _ => ?_)
  refine wp_aload_n dX7_stamp_8 rfl 0 rfl ?_
  refine wv_getI (nI ns) dX7_stamp_9 flX7_238 rfl rfl hW.1 hc30 ?_
  refine wp_bipush (v := 100) dX7_stamp_12 (by decide) ?_
  refine wi_icmp_ne (tgt := 21) ((ns : Nat)) (100) (nIt (by omega)) (by decide) dX7_stamp_14 (by decide) (fun _ => ?_) (fun c_2 => absurd c_2 (by omega))
  refine wp_aload_n dX7_stamp_21 rfl 0 rfl ?_
  refine wp_getP (b := 132) dX7_stamp_22 flX7_93 rfl rfl hW.1 (hW.2 31 rfl).2 ?_
  refine wp_aload_n dX7_stamp_25 rfl 0 rfl ?_
  refine wv_getI (nI ns) dX7_stamp_26 flX7_238 rfl rfl hW.1 hc30 ?_
  refine wp_aload_n dX7_stamp_29 rfl 0 rfl ?_
  refine wp_iload_n dX7_stamp_30 rfl 1 rfl ?_
  refine wp_callV mX7_lowOf 100 [.int (nI i)] [.int (nI ns), .ref 132] (c := 7) dX7_stamp_31 iX7_lowOf (fun _ => trivial) mlX7_187 imX7_lowOf seX7_lowOf (by decide) rfl rfl ⟨by decide, by decide⟩ rfl rfl (Nat.le_of_ble_eq_true rfl) (Nat.le_of_ble_eq_true rfl) (by decide) (by decide) ?_
  refine cm_lowOf i (by omega) hW hd ?_
  show WP g mX7_stamp 34 [(0, .ref 100), (1, .int (nI i))] [.long (mLo h i), .int (nI ns), .ref 132] _ 0 0 _
  refine wp_pc (pc' := 34) rfl ?_
  refine wv_last ns dX7_stamp_34 rfl (hW.2 31 rfl).1 rfl (by show ns < 100; omega) ?_
  refine wp_aload_n dX7_stamp_35 rfl 0 rfl ?_
  refine wp_getP (b := 133) dX7_stamp_36 flX7_96 rfl rfl hW.1 (hW.2 32 rfl).2 ?_
  refine wp_aload_n dX7_stamp_39 rfl 0 rfl ?_
  refine wv_getI (nI ns) dX7_stamp_40 flX7_238 rfl rfl hW.1 hc30 ?_
  refine wp_aload_n dX7_stamp_43 rfl 0 rfl ?_
  refine wp_iload_n dX7_stamp_44 rfl 1 rfl ?_
  refine wp_callV mX7_highOf 100 [.int (nI i)] [.int (nI ns), .ref 133] (c := 7) dX7_stamp_45 iX7_highOf (fun _ => trivial) mlX7_190 imX7_highOf seX7_highOf (by decide) rfl rfl ⟨by decide, by decide⟩ rfl rfl (Nat.le_of_ble_eq_true rfl) (Nat.le_of_ble_eq_true rfl) (by decide) (by decide) ?_
  have mc := mCong (h := h) (h' := (sL h 132 ns (mLo h i))) (fun a ha => by repeat first | rw [vL_sI] | rw [vLn (by omega)]) (by funext q; simp [vI, sI, sL, up2]) i
  refine cm_highOf i (by omega) (by exact MW_eq rfl rfl hW) (mc.2.2.2.2.2 hd) ?_
  rw [mc.2.2.1]
  show WP g mX7_stamp 48 [(0, .ref 100), (1, .int (nI i))] [.long (mHi h i), .int (nI ns), .ref 133] _ 0 0 _
  refine wv_last ns dX7_stamp_48 rfl (hW.2 32 rfl).1 rfl (by show ns < 100; omega) ?_
  refine wp_aload_n dX7_stamp_49 rfl 0 rfl ?_
  refine wp_getP (b := 134) dX7_stamp_50 flX7_99 rfl rfl hW.1 (hW.2 33 rfl).2 ?_
  refine wp_aload_n dX7_stamp_53 rfl 0 rfl ?_
  refine wv_getI (nI ns) dX7_stamp_54 flX7_238 rfl rfl hW.1 hc30 ?_
  refine wp_iload_n dX7_stamp_57 rfl 1 rfl ?_
  refine wv_iast ns dX7_stamp_58 rfl (hW.2 33 rfl).1 rfl (by show ns < 100; omega) ?_
  refine wp_pc (pc' := 59) rfl ?_
  refine wp_aload_n dX7_stamp_59 rfl 0 rfl ?_
  refine wp_getP (b := 135) dX7_stamp_60 flX7_102 rfl rfl hW.1 (hW.2 34 rfl).2 ?_
  refine wp_aload_n dX7_stamp_63 rfl 0 rfl ?_
  refine wv_getI (nI ns) dX7_stamp_64 flX7_238 rfl rfl hW.1 (Eq.trans (b := vI h 100 30) (by simp [vI, vL, vP, sI, sL, sP, up2]) hc30) ?_
  refine wp_aload_n dX7_stamp_67 rfl 0 rfl ?_
  refine wv_getL (vL h 100 0) dX7_stamp_68 flX7_149 rfl rfl hW.1 (by simp [vI, vL, vP, sI, sL, sP, up2]) ?_
  refine wp_aload_n dX7_stamp_71 rfl 0 rfl ?_
  refine wp_iload_n dX7_stamp_72 rfl 1 rfl ?_
  refine wp_callV mX7_lowOf 100 [.int (nI i)] [.long (vL h 100 0), .int (nI ns), .ref 135] (c := 7) dX7_stamp_73 iX7_lowOf (fun _ => trivial) mlX7_187 imX7_lowOf seX7_lowOf (by decide) rfl rfl ⟨by decide, by decide⟩ rfl rfl (Nat.le_of_ble_eq_true rfl) (Nat.le_of_ble_eq_true rfl) (by decide) (by decide) ?_
  have mc := mCong (h := h) (h' := (sI (sL (sL h 132 ns (mLo h i)) 133 ns (mHi h i)) 134 ns (nI i))) (fun a ha => by repeat first | rw [vL_sI] | rw [vLn (by omega)]) (by funext q; simp [vI, sI, sL, up2]) i
  refine cm_lowOf i (by omega) (by exact MW_eq rfl rfl hW) (mc.2.2.2.2.2 hd) ?_
  rw [mc.2.1]
  show WP g mX7_stamp 76 [(0, .ref 100), (1, .int (nI i))] [.long (mLo h i), .long (vL h 100 0), .int (nI ns), .ref 135] _ 0 0 _
  refine wp_aload_n dX7_stamp_76 rfl 0 rfl ?_
  refine wp_iload_n dX7_stamp_77 rfl 1 rfl ?_
  refine wp_callV mX7_highOf 100 [.int (nI i)] [.long (mLo h i), .long (vL h 100 0), .int (nI ns), .ref 135] (c := 7) dX7_stamp_78 iX7_highOf (fun _ => trivial) mlX7_190 imX7_highOf seX7_highOf (by decide) rfl rfl ⟨by decide, by decide⟩ rfl rfl (Nat.le_of_ble_eq_true rfl) (Nat.le_of_ble_eq_true rfl) (by decide) (by decide) ?_
  have mc := mCong (h := h) (h' := (sI (sL (sL h 132 ns (mLo h i)) 133 ns (mHi h i)) 134 ns (nI i))) (fun a ha => by repeat first | rw [vL_sI] | rw [vLn (by omega)]) (by funext q; simp [vI, sI, sL, up2]) i
  refine cm_highOf i (by omega) (by exact MW_eq rfl rfl hW) (mc.2.2.2.2.2 hd) ?_
  rw [mc.2.2.1]
  show WP g mX7_stamp 81 [(0, .ref 100), (1, .int (nI i))] [.long (mHi h i), .long (mLo h i), .long (vL h 100 0), .int (nI ns), .ref 135] _ 0 0 _
  refine wp_callS mX7_in [.long (vL h 100 0), .long (mLo h i), .long (mHi h i)] [.int (nI ns), .ref 135] dX7_stamp_81 iX7_in (fun _ => trivial) mlX7_143 stX7_in ⟨by decide, by decide⟩ rfl rfl (Nat.le_of_ble_eq_true rfl) (Nat.le_of_ble_eq_true rfl) (by decide) (by decide) ?_
  refine ct_in (vL h 100 0) (mLo h i) (mHi h i) (Int64.toInt (vL h 100 0)) (Int64.toInt (mLo h i)) (Int64.toInt (mHi h i)) rfl rfl rfl (fun c_3 => ?_) (fun c_3 => ?_)
  · show WP g mX7_stamp 84 [(0, .ref 100), (1, .int (nI i))] [.int 1, .int (nI ns), .ref 135] _ 0 0 _
    refine wv_bast ns dX7_stamp_84 rfl (hW.2 34 rfl).1 rfl (by show ns < 100; omega) rfl ?_
    refine wp_aload_n dX7_stamp_85 rfl 0 rfl ?_
    refine wp_dup dX7_stamp_86 rfl ?_
    refine wp_pc (pc' := 87) rfl ?_
    refine wv_getI (nI ns) dX7_stamp_87 flX7_238 rfl rfl hW.1 (Eq.trans (b := vI h 100 30) (by simp [vI, vL, vP, sI, sL, sP, up2]) hc30) ?_
    refine wp_iconst (v := 1) dX7_stamp_90 (by decide) ?_
    refine wv_iadd (nI (ns + 1)) (wN_add rfl rfl) dX7_stamp_91 ?_
    refine wp_putI dX7_stamp_92 flX7_238 (Or.inl rfl) rfl rfl rfl rfl hW.1 ?_
    refine wp_aload_n dX7_stamp_95 rfl 0 rfl ?_
    refine wv_getI (nI (ns + 1)) dX7_stamp_96 flX7_238 rfl rfl hW.1 (by simp [vI, vL, vP, sI, sL, sP, up2]) ?_
    refine wp_iconst (v := 1) dX7_stamp_99 (by decide) ?_
    refine wv_isub (nI ns) (nI_pred _) dX7_stamp_100 ?_
    refine wp_i2l dX7_stamp_101 ?_
    refine wp_lret dX7_stamp_102 rfl (by decide) (by decide) ?_
    exact hy c_3
  · show WP g mX7_stamp 84 [(0, .ref 100), (1, .int (nI i))] [.int 0, .int (nI ns), .ref 135] _ 0 0 _
    refine wv_bast ns dX7_stamp_84 rfl (hW.2 34 rfl).1 rfl (by show ns < 100; omega) rfl ?_
    refine wp_aload_n dX7_stamp_85 rfl 0 rfl ?_
    refine wp_dup dX7_stamp_86 rfl ?_
    refine wp_pc (pc' := 87) rfl ?_
    refine wv_getI (nI ns) dX7_stamp_87 flX7_238 rfl rfl hW.1 (Eq.trans (b := vI h 100 30) (by simp [vI, vL, vP, sI, sL, sP, up2]) hc30) ?_
    refine wp_iconst (v := 1) dX7_stamp_90 (by decide) ?_
    refine wv_iadd (nI (ns + 1)) (wN_add rfl rfl) dX7_stamp_91 ?_
    refine wp_putI dX7_stamp_92 flX7_238 (Or.inl rfl) rfl rfl rfl rfl hW.1 ?_
    refine wp_aload_n dX7_stamp_95 rfl 0 rfl ?_
    refine wv_getI (nI (ns + 1)) dX7_stamp_96 flX7_238 rfl rfl hW.1 (by simp [vI, vL, vP, sI, sL, sP, up2]) ?_
    refine wp_iconst (v := 1) dX7_stamp_99 (by decide) ?_
    refine wv_isub (nI ns) (nI_pred _) dX7_stamp_100 ?_
    refine wp_i2l dX7_stamp_101 ?_
    refine wp_lret dX7_stamp_102 rfl (by decide) (by decide) ?_
    exact hn c_3
set_option maxRecDepth 100000 in
set_option maxHeartbeats 4000000 in
theorem cm_given0 {g : GG} {h : HP} {Post : Option Value → HP → Prop} (wh : Int32) (ns : Nat) (hW : MW h) (hc30 : vI h 100 30 = nI ns) (hns : ns < 100) (x : Int32) (hx : ¬ inR x ns) (hp : Post (some (.long (-9000000000000000000))) h) : CT g mX7_given [.ref 100, .int x, .int wh] h Post := by
  show WP g mX7_given 0 [(0, .ref 100), (1, .int x), (2, .int wh)] [] h 0 0 Post
  refine wp_aload_n dX7_given_0 rfl 0 rfl ?_
  refine wp_iload_n dX7_given_1 rfl 1 rfl ?_
  refine wp_callV mX7_isStamp 100 [.int x] [] (c := 7) dX7_given_2 iX7_isStamp (fun _ => trivial) mlX7_241 imX7_isStamp seX7_isStamp (by decide) rfl rfl ⟨by decide, by decide⟩ rfl rfl (Nat.le_of_ble_eq_true rfl) (Nat.le_of_ble_eq_true rfl) (by decide) (by decide) ?_
  refine ct_isStamp0 ns hW hc30 (by omega) x hx ?_
  show WP g mX7_given 5 [(0, .ref 100), (1, .int x), (2, .int wh)] [.int 0] _ 0 0 _
  refine wp_if_ne (tgt := 12) dX7_given_5 (by decide) (fun c_1 => absurd (by decide) c_1) (fun _ => ?_)
  refine wp_ldc2 dX7_given_8 cnX7_155 ?_
  refine wp_lret dX7_given_11 rfl (by decide) (by decide) ?_
  exact hp
set_option maxRecDepth 100000 in
set_option maxHeartbeats 4000000 in
theorem cm_given_0 {g : GG} {h : HP} {Post : Option Value → HP → Prop} (ns : Nat) (hW : MW h) (hc30 : vI h 100 30 = nI ns) (hns : ns < 100) (k : Nat) (hk : k < ns) (hp : Post (some (.long (vL h 132 k))) h) : CT g mX7_given [.ref 100, .int (nI k), .int 0] h Post := by
  show WP g mX7_given 0 [(0, .ref 100), (1, .int (nI k)), (2, .int 0)] [] h 0 0 Post
  refine wp_aload_n dX7_given_0 rfl 0 rfl ?_
  refine wp_iload_n dX7_given_1 rfl 1 rfl ?_
  refine wp_callV mX7_isStamp 100 [.int (nI k)] [] (c := 7) dX7_given_2 iX7_isStamp (fun _ => trivial) mlX7_241 imX7_isStamp seX7_isStamp (by decide) rfl rfl ⟨by decide, by decide⟩ rfl rfl (Nat.le_of_ble_eq_true rfl) (Nat.le_of_ble_eq_true rfl) (by decide) (by decide) ?_
  refine ct_isStamp ns hW hc30 (by omega) k hk ?_
  show WP g mX7_given 5 [(0, .ref 100), (1, .int (nI k)), (2, .int 0)] [.int 1] _ 0 0 _
  refine wp_if_ne (tgt := 12) dX7_given_5 (by decide) (fun _ => ?_) (fun c_1 => absurd c_1 (by decide))
  refine wp_iload_n dX7_given_12 rfl 2 rfl ?_
  refine wp_tableIn (off := 31) (tgt := 44) dX7_given_13 (by decide) (by decide) (by decide) (by decide) ?_
  refine wp_aload_n dX7_given_44 rfl 0 rfl ?_
  refine wp_getP (b := 132) dX7_given_45 flX7_93 rfl rfl hW.1 (hW.2 31 rfl).2 ?_
  refine wp_iload_n dX7_given_48 rfl 1 rfl ?_
  refine wv_lald k (vL h 132 k) dX7_given_49 rfl (hW.2 31 rfl).1 rfl (by show k < 100; omega) rfl ?_
  refine wp_lret dX7_given_50 rfl (by decide) (by decide) ?_
  exact hp
set_option maxRecDepth 100000 in
set_option maxHeartbeats 4000000 in
theorem cm_given_1 {g : GG} {h : HP} {Post : Option Value → HP → Prop} (ns : Nat) (hW : MW h) (hc30 : vI h 100 30 = nI ns) (hns : ns < 100) (k : Nat) (hk : k < ns) (hp : Post (some (.long (vL h 133 k))) h) : CT g mX7_given [.ref 100, .int (nI k), .int 1] h Post := by
  show WP g mX7_given 0 [(0, .ref 100), (1, .int (nI k)), (2, .int 1)] [] h 0 0 Post
  refine wp_aload_n dX7_given_0 rfl 0 rfl ?_
  refine wp_iload_n dX7_given_1 rfl 1 rfl ?_
  refine wp_callV mX7_isStamp 100 [.int (nI k)] [] (c := 7) dX7_given_2 iX7_isStamp (fun _ => trivial) mlX7_241 imX7_isStamp seX7_isStamp (by decide) rfl rfl ⟨by decide, by decide⟩ rfl rfl (Nat.le_of_ble_eq_true rfl) (Nat.le_of_ble_eq_true rfl) (by decide) (by decide) ?_
  refine ct_isStamp ns hW hc30 (by omega) k hk ?_
  show WP g mX7_given 5 [(0, .ref 100), (1, .int (nI k)), (2, .int 1)] [.int 1] _ 0 0 _
  refine wp_if_ne (tgt := 12) dX7_given_5 (by decide) (fun _ => ?_) (fun c_1 => absurd c_1 (by decide))
  refine wp_iload_n dX7_given_12 rfl 2 rfl ?_
  refine wp_tableIn (off := 38) (tgt := 51) dX7_given_13 (by decide) (by decide) (by decide) (by decide) ?_
  refine wp_aload_n dX7_given_51 rfl 0 rfl ?_
  refine wp_getP (b := 133) dX7_given_52 flX7_96 rfl rfl hW.1 (hW.2 32 rfl).2 ?_
  refine wp_iload_n dX7_given_55 rfl 1 rfl ?_
  refine wv_lald k (vL h 133 k) dX7_given_56 rfl (hW.2 32 rfl).1 rfl (by show k < 100; omega) rfl ?_
  refine wp_lret dX7_given_57 rfl (by decide) (by decide) ?_
  exact hp
set_option maxRecDepth 100000 in
set_option maxHeartbeats 4000000 in
theorem cm_given_2 {g : GG} {h : HP} {Post : Option Value → HP → Prop} (ns : Nat) (hW : MW h) (hc30 : vI h 100 30 = nI ns) (hns : ns < 100) (k : Nat) (hk : k < ns) (hp : Post (some (.long (Int32.toInt64 (vI h 134 k)))) h) : CT g mX7_given [.ref 100, .int (nI k), .int 2] h Post := by
  show WP g mX7_given 0 [(0, .ref 100), (1, .int (nI k)), (2, .int 2)] [] h 0 0 Post
  refine wp_aload_n dX7_given_0 rfl 0 rfl ?_
  refine wp_iload_n dX7_given_1 rfl 1 rfl ?_
  refine wp_callV mX7_isStamp 100 [.int (nI k)] [] (c := 7) dX7_given_2 iX7_isStamp (fun _ => trivial) mlX7_241 imX7_isStamp seX7_isStamp (by decide) rfl rfl ⟨by decide, by decide⟩ rfl rfl (Nat.le_of_ble_eq_true rfl) (Nat.le_of_ble_eq_true rfl) (by decide) (by decide) ?_
  refine ct_isStamp ns hW hc30 (by omega) k hk ?_
  show WP g mX7_given 5 [(0, .ref 100), (1, .int (nI k)), (2, .int 2)] [.int 1] _ 0 0 _
  refine wp_if_ne (tgt := 12) dX7_given_5 (by decide) (fun _ => ?_) (fun c_1 => absurd c_1 (by decide))
  refine wp_iload_n dX7_given_12 rfl 2 rfl ?_
  refine wp_tableIn (off := 45) (tgt := 58) dX7_given_13 (by decide) (by decide) (by decide) (by decide) ?_
  refine wp_aload_n dX7_given_58 rfl 0 rfl ?_
  refine wp_getP (b := 134) dX7_given_59 flX7_99 rfl rfl hW.1 (hW.2 33 rfl).2 ?_
  refine wp_iload_n dX7_given_62 rfl 1 rfl ?_
  refine wv_iald k (vI h 134 k) dX7_given_63 rfl (hW.2 33 rfl).1 rfl (by show k < 100; omega) rfl ?_
  refine wp_i2l dX7_given_64 ?_
  refine wp_lret dX7_given_65 rfl (by decide) (by decide) ?_
  exact hp
set_option maxRecDepth 100000 in
set_option maxHeartbeats 4000000 in
theorem cm_given_3 {g : GG} {h : HP} {Post : Option Value → HP → Prop} (ns : Nat) (hW : MW h) (hc30 : vI h 100 30 = nI ns) (hns : ns < 100) (k : Nat) (hk : k < ns) (hp : Post (some (.long (bitL (vI h 135 k)))) h) : CT g mX7_given [.ref 100, .int (nI k), .int 3] h Post := by
  show WP g mX7_given 0 [(0, .ref 100), (1, .int (nI k)), (2, .int 3)] [] h 0 0 Post
  refine wp_aload_n dX7_given_0 rfl 0 rfl ?_
  refine wp_iload_n dX7_given_1 rfl 1 rfl ?_
  refine wp_callV mX7_isStamp 100 [.int (nI k)] [] (c := 7) dX7_given_2 iX7_isStamp (fun _ => trivial) mlX7_241 imX7_isStamp seX7_isStamp (by decide) rfl rfl ⟨by decide, by decide⟩ rfl rfl (Nat.le_of_ble_eq_true rfl) (Nat.le_of_ble_eq_true rfl) (by decide) (by decide) ?_
  refine ct_isStamp ns hW hc30 (by omega) k hk ?_
  show WP g mX7_given 5 [(0, .ref 100), (1, .int (nI k)), (2, .int 3)] [.int 1] _ 0 0 _
  refine wp_if_ne (tgt := 12) dX7_given_5 (by decide) (fun _ => ?_) (fun c_1 => absurd c_1 (by decide))
  refine wp_iload_n dX7_given_12 rfl 2 rfl ?_
  refine wp_tableIn (off := 53) (tgt := 66) dX7_given_13 (by decide) (by decide) (by decide) (by decide) ?_
  refine wp_aload_n dX7_given_66 rfl 0 rfl ?_
  refine wp_getP (b := 135) dX7_given_67 flX7_102 rfl rfl hW.1 (hW.2 34 rfl).2 ?_
  refine wp_iload_n dX7_given_70 rfl 1 rfl ?_
  refine wv_bald k (vI h 135 k) dX7_given_71 rfl (hW.2 34 rfl).1 rfl (by show k < 100; omega) rfl ?_
  refine wp_if_eq (tgt := 79) dX7_given_72 (by decide) (fun c_2 => ?_) (fun c_2 => ?_)
  · refine wp_lconst (v := 0) dX7_given_79 rfl ?_
    refine wp_lret dX7_given_80 rfl (by decide) (by decide) ?_
    rw [show bitL (vI h 135 k) = 0 from if_pos c_2] at hp
    exact hp
  · refine wp_lconst (v := 1) dX7_given_75 rfl ?_
    refine wp_goto (tgt := 80) dX7_given_76 (by decide) ?_
    refine wp_lret dX7_given_80 rfl (by decide) (by decide) ?_
    rw [show bitL (vI h 135 k) = 1 from if_neg c_2] at hp
    exact hp
set_option maxRecDepth 100000 in
set_option maxHeartbeats 4000000 in
theorem cm_given_x {g : GG} {h : HP} {Post : Option Value → HP → Prop} (ns : Nat) (hW : MW h) (hc30 : vI h 100 30 = nI ns) (hns : ns < 100) (k : Nat) (hk : k < ns) (wh : Int32) (hw : wh.toInt < 0 ∨ 3 < wh.toInt) (hp : Post (some (.long (-9000000000000000000))) h) : CT g mX7_given [.ref 100, .int (nI k), .int wh] h Post := by
  show WP g mX7_given 0 [(0, .ref 100), (1, .int (nI k)), (2, .int wh)] [] h 0 0 Post
  refine wp_aload_n dX7_given_0 rfl 0 rfl ?_
  refine wp_iload_n dX7_given_1 rfl 1 rfl ?_
  refine wp_callV mX7_isStamp 100 [.int (nI k)] [] (c := 7) dX7_given_2 iX7_isStamp (fun _ => trivial) mlX7_241 imX7_isStamp seX7_isStamp (by decide) rfl rfl ⟨by decide, by decide⟩ rfl rfl (Nat.le_of_ble_eq_true rfl) (Nat.le_of_ble_eq_true rfl) (by decide) (by decide) ?_
  refine ct_isStamp ns hW hc30 (by omega) k hk ?_
  show WP g mX7_given 5 [(0, .ref 100), (1, .int (nI k)), (2, .int wh)] [.int 1] _ 0 0 _
  refine wp_if_ne (tgt := 12) dX7_given_5 (by decide) (fun _ => ?_) (fun c_1 => absurd c_1 (by decide))
  refine wp_iload_n dX7_given_12 rfl 2 rfl ?_
  refine wp_tableOut (tgt := 81) dX7_given_13 hw (by decide) ?_
  refine wp_ldc2 dX7_given_81 cnX7_155 ?_
  refine wp_lret dX7_given_84 rfl (by decide) (by decide) ?_
  exact hp
set_option maxRecDepth 100000 in
set_option maxHeartbeats 4000000 in
theorem cm_ahead0 {g : GG} {h : HP} {Post : Option Value → HP → Prop} (y : Int32) (ns : Nat) (hW : MW h) (hc30 : vI h 100 30 = nI ns) (hns : ns < 100) (x : Int32) (hx : ¬ inR x ns) (hp : Post (some (.long (-9000000000000000000))) h) : CT g mX7_ahead [.ref 100, .int x, .int y] h Post := by
  show WP g mX7_ahead 0 [(0, .ref 100), (1, .int x), (2, .int y)] [] h 0 0 Post
  refine wp_aload_n dX7_ahead_0 rfl 0 rfl ?_
  refine wp_iload_n dX7_ahead_1 rfl 1 rfl ?_
  refine wp_callV mX7_isStamp 100 [.int x] [] (c := 7) dX7_ahead_2 iX7_isStamp (fun _ => trivial) mlX7_241 imX7_isStamp seX7_isStamp (by decide) rfl rfl ⟨by decide, by decide⟩ rfl rfl (Nat.le_of_ble_eq_true rfl) (Nat.le_of_ble_eq_true rfl) (by decide) (by decide) ?_
  refine ct_isStamp0 ns hW hc30 (by omega) x hx ?_
  show WP g mX7_ahead 5 [(0, .ref 100), (1, .int x), (2, .int y)] [.int 0] _ 0 0 _
  refine wp_if_eq (tgt := 16) dX7_ahead_5 (by decide) (fun _ => ?_) (fun c_1 => absurd (by decide) c_1)
  refine wp_ldc2 dX7_ahead_16 cnX7_155 ?_
  refine wp_lret dX7_ahead_19 rfl (by decide) (by decide) ?_
  exact hp
set_option maxRecDepth 100000 in
set_option maxHeartbeats 4000000 in
theorem cm_ahead1 {g : GG} {h : HP} {Post : Option Value → HP → Prop} (y : Int32) (ns : Nat) (hW : MW h) (hc30 : vI h 100 30 = nI ns) (hns : ns < 100) (k : Nat) (hk : k < ns) (hy : ¬ inR y ns) (hp : Post (some (.long (-9000000000000000000))) h) : CT g mX7_ahead [.ref 100, .int (nI k), .int y] h Post := by
  show WP g mX7_ahead 0 [(0, .ref 100), (1, .int (nI k)), (2, .int y)] [] h 0 0 Post
  refine wp_aload_n dX7_ahead_0 rfl 0 rfl ?_
  refine wp_iload_n dX7_ahead_1 rfl 1 rfl ?_
  refine wp_callV mX7_isStamp 100 [.int (nI k)] [] (c := 7) dX7_ahead_2 iX7_isStamp (fun _ => trivial) mlX7_241 imX7_isStamp seX7_isStamp (by decide) rfl rfl ⟨by decide, by decide⟩ rfl rfl (Nat.le_of_ble_eq_true rfl) (Nat.le_of_ble_eq_true rfl) (by decide) (by decide) ?_
  refine ct_isStamp ns hW hc30 (by omega) k hk ?_
  show WP g mX7_ahead 5 [(0, .ref 100), (1, .int (nI k)), (2, .int y)] [.int 1] _ 0 0 _
  refine wp_if_eq (tgt := 16) dX7_ahead_5 (by decide) (fun c_1 => absurd c_1 (by decide)) (fun _ => ?_)
  refine wp_aload_n dX7_ahead_8 rfl 0 rfl ?_
  refine wp_iload_n dX7_ahead_9 rfl 2 rfl ?_
  refine wp_callV mX7_isStamp 100 [.int y] [] (c := 7) dX7_ahead_10 iX7_isStamp (fun _ => trivial) mlX7_241 imX7_isStamp seX7_isStamp (by decide) rfl rfl ⟨by decide, by decide⟩ rfl rfl (Nat.le_of_ble_eq_true rfl) (Nat.le_of_ble_eq_true rfl) (by decide) (by decide) ?_
  refine ct_isStamp0 ns hW hc30 (by omega) y hy ?_
  show WP g mX7_ahead 13 [(0, .ref 100), (1, .int (nI k)), (2, .int y)] [.int 0] _ 0 0 _
  refine wp_if_ne (tgt := 20) dX7_ahead_13 (by decide) (fun c_2 => absurd (by decide) c_2) (fun _ => ?_)
  refine wp_ldc2 dX7_ahead_16 cnX7_155 ?_
  refine wp_lret dX7_ahead_19 rfl (by decide) (by decide) ?_
  exact hp
def ahM (h : HP) (a b : Nat) : Int64 := if vL h 133 a < vL h 132 b then 1 else if vL h 133 b < vL h 132 a then -1 else 0
set_option maxRecDepth 100000 in
set_option maxHeartbeats 4000000 in
theorem cm_ahead {g : GG} {h : HP} {Post : Option Value → HP → Prop} (ns : Nat) (hW : MW h) (hc30 : vI h 100 30 = nI ns) (hns : ns < 100) (a b : Nat) (ha : a < ns) (hb : b < ns) (hp : Post (some (.long (ahM h a b))) h) : CT g mX7_ahead [.ref 100, .int (nI a), .int (nI b)] h Post := by
  show WP g mX7_ahead 0 [(0, .ref 100), (1, .int (nI a)), (2, .int (nI b))] [] h 0 0 Post
  refine wp_aload_n dX7_ahead_0 rfl 0 rfl ?_
  refine wp_iload_n dX7_ahead_1 rfl 1 rfl ?_
  refine wp_callV mX7_isStamp 100 [.int (nI a)] [] (c := 7) dX7_ahead_2 iX7_isStamp (fun _ => trivial) mlX7_241 imX7_isStamp seX7_isStamp (by decide) rfl rfl ⟨by decide, by decide⟩ rfl rfl (Nat.le_of_ble_eq_true rfl) (Nat.le_of_ble_eq_true rfl) (by decide) (by decide) ?_
  refine ct_isStamp ns hW hc30 (by omega) a ha ?_
  show WP g mX7_ahead 5 [(0, .ref 100), (1, .int (nI a)), (2, .int (nI b))] [.int 1] _ 0 0 _
  refine wp_if_eq (tgt := 16) dX7_ahead_5 (by decide) (fun c_1 => absurd c_1 (by decide)) (fun _ => ?_)
  refine wp_aload_n dX7_ahead_8 rfl 0 rfl ?_
  refine wp_iload_n dX7_ahead_9 rfl 2 rfl ?_
  refine wp_callV mX7_isStamp 100 [.int (nI b)] [] (c := 7) dX7_ahead_10 iX7_isStamp (fun _ => trivial) mlX7_241 imX7_isStamp seX7_isStamp (by decide) rfl rfl ⟨by decide, by decide⟩ rfl rfl (Nat.le_of_ble_eq_true rfl) (Nat.le_of_ble_eq_true rfl) (by decide) (by decide) ?_
  refine ct_isStamp ns hW hc30 (by omega) b hb ?_
  show WP g mX7_ahead 13 [(0, .ref 100), (1, .int (nI a)), (2, .int (nI b))] [.int 1] _ 0 0 _
  refine wp_if_ne (tgt := 20) dX7_ahead_13 (by decide) (fun _ => ?_) (fun c_2 => absurd c_2 (by decide))
  refine wp_aload_n dX7_ahead_20 rfl 0 rfl ?_
  refine wp_getP (b := 133) dX7_ahead_21 flX7_96 rfl rfl hW.1 (hW.2 32 rfl).2 ?_
  refine wp_iload_n dX7_ahead_24 rfl 1 rfl ?_
  refine wv_lald a (vL h 133 a) dX7_ahead_25 rfl (hW.2 32 rfl).1 rfl (by show a < 100; omega) rfl ?_
  refine wp_aload_n dX7_ahead_26 rfl 0 rfl ?_
  refine wp_getP (b := 132) dX7_ahead_27 flX7_93 rfl rfl hW.1 (hW.2 31 rfl).2 ?_
  refine wp_iload_n dX7_ahead_30 rfl 2 rfl ?_
  refine wp_pc (pc' := 31) rfl ?_
  refine wv_lald b (vL h 132 b) dX7_ahead_31 rfl (hW.2 31 rfl).1 rfl (by show b < 100; omega) rfl ?_
  refine wl_ge (tgt := 40) dX7_ahead_32 dX7_ahead_33 (by decide) (fun c_3 => ?_) (fun c_3 => ?_)
  · refine wp_aload_n dX7_ahead_40 rfl 0 rfl ?_
    refine wp_getP (b := 133) dX7_ahead_41 flX7_96 rfl rfl hW.1 (hW.2 32 rfl).2 ?_
    refine wp_iload_n dX7_ahead_44 rfl 2 rfl ?_
    refine wv_lald b (vL h 133 b) dX7_ahead_45 rfl (hW.2 32 rfl).1 rfl (by show b < 100; omega) rfl ?_
    refine wp_aload_n dX7_ahead_46 rfl 0 rfl ?_
    refine wp_getP (b := 132) dX7_ahead_47 flX7_93 rfl rfl hW.1 (hW.2 31 rfl).2 ?_
    refine wp_iload_n dX7_ahead_50 rfl 1 rfl ?_
    refine wv_lald a (vL h 132 a) dX7_ahead_51 rfl (hW.2 31 rfl).1 rfl (by show a < 100; omega) rfl ?_
    refine wl_ge (tgt := 62) dX7_ahead_52 dX7_ahead_53 (by decide) (fun c_4 => ?_) (fun c_4 => ?_)
    · refine wp_lconst (v := 0) dX7_ahead_62 rfl ?_
      refine wp_lret dX7_ahead_63 rfl (by decide) (by decide) ?_
      rw [show ahM h a b = 0 from (if_neg (Int64.not_lt.mpr c_3)).trans (if_neg (Int64.not_lt.mpr c_4))] at hp
      exact hp
    · refine wp_ldc2 dX7_ahead_56 cnX7_244 ?_
      refine wp_goto (tgt := 63) dX7_ahead_59 (by decide) ?_
      refine wp_lret dX7_ahead_63 rfl (by decide) (by decide) ?_
      rw [show ahM h a b = -1 from (if_neg (Int64.not_lt.mpr c_3)).trans (if_pos (Int64.not_le.mp c_4))] at hp
      exact hp
  · refine wp_lconst (v := 1) dX7_ahead_36 rfl ?_
    refine wp_goto (tgt := 63) dX7_ahead_37 (by decide) ?_
    refine wp_lret dX7_ahead_63 rfl (by decide) (by decide) ?_
    rw [show ahM h a b = 1 from if_pos (Int64.not_le.mp c_3)] at hp
    exact hp
set_option maxRecDepth 100000 in
set_option maxHeartbeats 4000000 in
theorem cm_wait0 {g : GG} {h : HP} {Post : Option Value → HP → Prop}  (nm : Nat) (hW : MW h) (hc1 : vI h 100 1 = nI nm) (hnm : nm ≤ 10) (x : Int32) (hx : ¬ inR x nm) (hp : Post (some (.long (-9000000000000000000))) h) : CT g mX7_wait [.ref 100, .int x] h Post := by
  show WP g mX7_wait 0 [(0, .ref 100), (1, .int x)] [] h 0 0 Post
  refine wp_aload_n dX7_wait_0 rfl 0 rfl ?_
  refine wp_iload_n dX7_wait_1 rfl 1 rfl ?_
  refine wp_callV mX7_isMember 100 [.int x] [] (c := 7) dX7_wait_2 iX7_isMember (fun _ => trivial) mlX7_163 imX7_isMember seX7_isMember (by decide) rfl rfl ⟨by decide, by decide⟩ rfl rfl (Nat.le_of_ble_eq_true rfl) (Nat.le_of_ble_eq_true rfl) (by decide) (by decide) ?_
  refine ct_isMember0 nm hW hc1 (by omega) x hx ?_
  show WP g mX7_wait 5 [(0, .ref 100), (1, .int x)] [.int 0] _ 0 0 _
  refine wp_if_eq (tgt := 18) dX7_wait_5 (by decide) (fun _ => ?_) (fun c_1 => absurd (by decide) c_1)
  refine wp_ldc2 dX7_wait_18 cnX7_155 ?_
  refine wp_lret dX7_wait_21 rfl (by decide) (by decide) ?_
  exact hp
def mxS (h : HP) : Nat → Int64
  | 0 => vL h 133 0
  | n + 1 => if mxS h n < vL h 133 (n + 1) then vL h 133 (n + 1) else mxS h n
def waN (h : HP) (i ns : Nat) : Int64 := mxS h (ns - 1) + 1 - vL h 109 i
def waD (h : HP) (i ns : Nat) : Int64 := 1 + cei ((waN h i ns - 1) * (1000 + vL h 104 i)) 1000
def waM (h : HP) (i ns : Nat) : Int64 := if mCn h i - vL h 111 i < waD h i ns then waD h i ns - (mCn h i - vL h 111 i) else 0
set_option maxRecDepth 100000 in
set_option maxHeartbeats 4000000 in
theorem lm_waitTail {g : GG} {h : HP} {Post : Option Value → HP → Prop} (nm : Nat) (hW : MW h) (hc1 : vI h 100 1 = nI nm) (hnm : nm ≤ 10) (i : Nat) (hi : i < nm) (hd : DV h i) (ns : Nat) (hc30 : vI h 100 30 = nI ns) (hns : ns < 100) (hp : Post (some (.long (waM h i ns))) h) : WP g mX7_wait 80 [(0, .ref 100), (1, .int (nI i)), (2, .long (mxS h (ns - 1)))] [] h 0 0 Post := by
  refine wp_lload_n dX7_wait_80 rfl 2 rfl ?_
  refine wp_lconst (v := 1) dX7_wait_81 rfl ?_
  refine wp_ladd dX7_wait_82 ?_
  refine wp_aload_n dX7_wait_83 rfl 0 rfl ?_
  refine wp_getP (b := 109) dX7_wait_84 flX7_29 rfl rfl hW.1 (hW.2 8 rfl).2 ?_
  refine wp_iload_n dX7_wait_87 rfl 1 rfl ?_
  refine wv_lald i (vL h 109 i) dX7_wait_88 rfl (hW.2 8 rfl).1 rfl (by show i < 10; omega) rfl ?_
  refine wp_lsub dX7_wait_89 ?_
  refine wp_lstore (lv' := [(4, .long (((mxS h (ns - 1)) + 1) - (vL h 109 i))), (0, .ref 100), (1, .int (nI i)), (2, .long (mxS h (ns - 1)))]) dX7_wait_90 (by decide) rfl ?_
  refine wp_lconst (v := 1) dX7_wait_92 rfl ?_
  refine wp_lload dX7_wait_93 0 rfl ?_
  refine wp_lconst (v := 1) dX7_wait_95 rfl ?_
  refine wp_lsub dX7_wait_96 ?_
  refine wp_ldc2 dX7_wait_97 cnX7_167 ?_
  refine wp_aload_n dX7_wait_100 rfl 1 rfl ?_
  refine wp_pc (pc' := 101) rfl ?_
  refine wp_getP (b := 104) dX7_wait_101 flX7_13 rfl rfl hW.1 (hW.2 3 rfl).2 ?_
  refine wp_iload_n dX7_wait_104 rfl 2 rfl ?_
  refine wv_lald i (vL h 104 i) dX7_wait_105 rfl (hW.2 3 rfl).1 rfl (by show i < 10; omega) rfl ?_
  refine wp_ladd dX7_wait_106 ?_
  refine wp_lmul dX7_wait_107 ?_
  refine wp_ldc2 dX7_wait_108 cnX7_167 ?_
  refine wp_callS mX7_ceil [.long (((((mxS h (ns - 1)) + 1) - (vL h 109 i)) - 1) * (1000 + (vL h 104 i))), .long 1000] [.long 1] dX7_wait_111 iX7_ceil (fun _ => trivial) mlX7_177 stX7_ceil ⟨by decide, by decide⟩ rfl rfl (Nat.le_of_ble_eq_true rfl) (Nat.le_of_ble_eq_true rfl) (by decide) (by decide) ?_
  refine ct_cei (((((mxS h (ns - 1)) + 1) - (vL h 109 i)) - 1) * (1000 + (vL h 104 i))) 1000 (by decide) ?_
  show WP g mX7_wait 114 [(4, .long (((mxS h (ns - 1)) + 1) - (vL h 109 i))), (0, .ref 100), (1, .int (nI i)), (2, .long (mxS h (ns - 1)))] [.long (cei (((((mxS h (ns - 1)) + 1) - (vL h 109 i)) - 1) * (1000 + (vL h 104 i))) 1000), .long 1] _ 0 0 _
  refine wp_ladd dX7_wait_114 ?_
  refine wp_lstore (lv' := [(6, .long (1 + (cei (((((mxS h (ns - 1)) + 1) - (vL h 109 i)) - 1) * (1000 + (vL h 104 i))) 1000))), (4, .long (((mxS h (ns - 1)) + 1) - (vL h 109 i))), (0, .ref 100), (1, .int (nI i)), (2, .long (mxS h (ns - 1)))]) dX7_wait_115 (by decide) rfl ?_
  refine wp_aload_n dX7_wait_117 rfl 2 rfl ?_
  refine wp_iload_n dX7_wait_118 rfl 3 rfl ?_
  refine wp_callV mX7_counterOf 100 [.int (nI i)] [] (c := 7) dX7_wait_119 iX7_counterOf (fun _ => trivial) mlX7_173 imX7_counterOf seX7_counterOf (by decide) rfl rfl ⟨by decide, by decide⟩ rfl rfl (Nat.le_of_ble_eq_true rfl) (Nat.le_of_ble_eq_true rfl) (by decide) (by decide) ?_
  refine cm_counterOf i (by omega) hW hd ?_
  show WP g mX7_wait 122 [(6, .long (1 + (cei (((((mxS h (ns - 1)) + 1) - (vL h 109 i)) - 1) * (1000 + (vL h 104 i))) 1000))), (4, .long (((mxS h (ns - 1)) + 1) - (vL h 109 i))), (0, .ref 100), (1, .int (nI i)), (2, .long (mxS h (ns - 1)))] [.long (mCn h i)] _ 0 0 _
  refine wp_aload_n dX7_wait_122 rfl 2 rfl ?_
  refine wp_getP (b := 111) dX7_wait_123 flX7_35 rfl rfl hW.1 (hW.2 10 rfl).2 ?_
  refine wp_iload_n dX7_wait_126 rfl 3 rfl ?_
  refine wp_pc (pc' := 127) rfl ?_
  refine wv_lald i (vL h 111 i) dX7_wait_127 rfl (hW.2 10 rfl).1 rfl (by show i < 10; omega) rfl ?_
  refine wp_lsub dX7_wait_128 ?_
  refine wp_lstore (lv' := [(8, .long ((mCn h i) - (vL h 111 i))), (6, .long (1 + (cei (((((mxS h (ns - 1)) + 1) - (vL h 109 i)) - 1) * (1000 + (vL h 104 i))) 1000))), (4, .long (((mxS h (ns - 1)) + 1) - (vL h 109 i))), (0, .ref 100), (1, .int (nI i)), (2, .long (mxS h (ns - 1)))]) dX7_wait_129 (by decide) rfl ?_
  refine wp_lload dX7_wait_131 1 rfl ?_
  refine wp_lload dX7_wait_133 0 rfl ?_
  refine wl_le (tgt := 147) dX7_wait_135 dX7_wait_136 (by decide) (fun c_1 => ?_) (fun c_1 => ?_)
  · refine wp_lconst (v := 0) dX7_wait_147 rfl ?_
    refine wp_lret dX7_wait_148 rfl (by decide) (by decide) ?_
    rw [show waM h i ns = _ from if_neg (Int64.not_lt.mpr c_1)] at hp
    exact hp
  · refine wp_lload dX7_wait_139 1 rfl ?_
    refine wp_lload dX7_wait_141 0 rfl ?_
    refine wp_lsub dX7_wait_143 ?_
    refine wp_goto (tgt := 148) dX7_wait_144 (by decide) ?_
    refine wp_lret dX7_wait_148 rfl (by decide) (by decide) ?_
    rw [show waM h i ns = _ from if_pos (Int64.not_le.mp c_1)] at hp
    exact hp
set_option maxRecDepth 100000 in
set_option maxHeartbeats 4000000 in
theorem lm_wait {g : GG} {h : HP} {Post : Option Value → HP → Prop} (nm : Nat) (hW : MW h) (hc1 : vI h 100 1 = nI nm) (hnm : nm ≤ 10) (i : Nat) (hi : i < nm) (hd : DV h i) (ns : Nat) (hc30 : vI h 100 30 = nI ns) (hns : ns < 100) (hp : Post (some (.long (waM h i ns))) h) : ∀ (k n : Nat), n + 1 + k = ns → WP g mX7_wait 41 [(0, .ref 100), (1, .int (nI i)), (2, .long (mxS h n)), (4, .int (nI (n + 1)))] [] h 0 0 Post := by
  intro k
  induction k with
  | zero =>
    intro n e0
    refine wp_iload dX7_wait_41 3 rfl ?_
    refine wp_aload_n dX7_wait_43 rfl 0 rfl ?_
    refine wv_getI (nI ns) dX7_wait_44 flX7_238 rfl rfl hW.1 hc30 ?_
    refine wp_icmp_ge (tgt := 80) dX7_wait_47 (by decide) (fun _ => ?_) (fun c_1 => absurd (nI_le (by omega) (by omega)) c_1)
    refine wp_sub [0, 1, 2] rfl ?_
    rw [show n = ns - 1 by omega]
    exact lm_waitTail nm hW hc1 hnm i hi hd ns hc30 hns hp
  | succ k ih =>
    intro n e0
    refine wp_iload dX7_wait_41 3 rfl ?_
    refine wp_aload_n dX7_wait_43 rfl 0 rfl ?_
    refine wv_getI (nI ns) dX7_wait_44 flX7_238 rfl rfl hW.1 hc30 ?_
    refine wp_icmp_ge (tgt := 80) dX7_wait_47 (by decide) (fun c_1 => absurd c_1 (nI_ge (by omega) (by omega))) (fun _ => ?_)
    refine wp_aload_n dX7_wait_50 rfl 0 rfl ?_
    refine wp_getP (b := 133) dX7_wait_51 flX7_96 rfl rfl hW.1 (hW.2 32 rfl).2 ?_
    refine wp_iload dX7_wait_54 3 rfl ?_
    refine wv_lald (n + 1) (vL h 133 (n + 1)) dX7_wait_56 rfl (hW.2 32 rfl).1 rfl (by show n + 1 < 100; omega) rfl ?_
    refine wp_lload_n dX7_wait_57 rfl 2 rfl ?_
    refine wl_le (tgt := 72) dX7_wait_58 dX7_wait_59 (by decide) (fun c_2 => ?_) (fun c_2 => ?_)
    · refine wp_lload_n dX7_wait_72 rfl 2 rfl ?_
      refine wp_lstore_n (lv' := [(2, .long (mxS h n)), (0, .ref 100), (1, .int (nI i)), (4, .int (nI (n + 1)))]) dX7_wait_73 rfl (by decide) rfl ?_
      refine wp_iinc (q := 3) (x := nI (n + 1)) (v := nI (n + 1 + 1)) (lv' := [(4, .int (nI (n + 1 + 1))), (2, .long (mxS h n)), (0, .ref 100), (1, .int (nI i))]) dX7_wait_74 rfl (nI_1 _) (by decide) rfl ?_
      refine wp_goto (tgt := 41) dX7_wait_77 (by decide) ?_
      refine wp_sub [2, 3, 1, 0] rfl ?_
      have q := ih (n + 1) (by omega)
      rw [show mxS h (n + 1) = _ from if_neg (Int64.not_lt.mpr c_2)] at q
      exact q
    · refine wp_aload_n dX7_wait_62 rfl 0 rfl ?_
      refine wp_getP (b := 133) dX7_wait_63 flX7_96 rfl rfl hW.1 (hW.2 32 rfl).2 ?_
      refine wp_iload dX7_wait_66 3 rfl ?_
      refine wv_lald (n + 1) (vL h 133 (n + 1)) dX7_wait_68 rfl (hW.2 32 rfl).1 rfl (by show n + 1 < 100; omega) rfl ?_
      refine wp_goto (tgt := 73) dX7_wait_69 (by decide) ?_
      refine wp_lstore_n (lv' := [(2, .long (vL h 133 (n + 1))), (0, .ref 100), (1, .int (nI i)), (4, .int (nI (n + 1)))]) dX7_wait_73 rfl (by decide) rfl ?_
      refine wp_iinc (q := 3) (x := nI (n + 1)) (v := nI (n + 1 + 1)) (lv' := [(4, .int (nI (n + 1 + 1))), (2, .long (vL h 133 (n + 1))), (0, .ref 100), (1, .int (nI i))]) dX7_wait_74 rfl (nI_1 _) (by decide) rfl ?_
      refine wp_goto (tgt := 41) dX7_wait_77 (by decide) ?_
      refine wp_sub [2, 3, 1, 0] rfl ?_
      have q := ih (n + 1) (by omega)
      rw [show mxS h (n + 1) = _ from if_pos (Int64.not_le.mp c_2)] at q
      exact q
set_option maxRecDepth 100000 in
set_option maxHeartbeats 4000000 in
theorem cm_wait {g : GG} {h : HP} {Post : Option Value → HP → Prop} (nm : Nat) (hW : MW h) (hc1 : vI h 100 1 = nI nm) (hnm : nm ≤ 10) (i : Nat) (hi : i < nm) (hd : DV h i) (ns : Nat) (hc30 : vI h 100 30 = nI ns) (hns : ns < 100) (h3 : vI h 103 i = 3 → Post (some (.long (-9000000000000000000))) h) (h0 : ¬ vI h 103 i = 3 → ns = 0 → Post (some (.long 0)) h) (hp : ¬ vI h 103 i = 3 → ¬ ns = 0 → Post (some (.long (waM h i ns))) h) : CT g mX7_wait [.ref 100, .int (nI i)] h Post := by
  show WP g mX7_wait 0 [(0, .ref 100), (1, .int (nI i))] [] h 0 0 Post
  refine wp_aload_n dX7_wait_0 rfl 0 rfl ?_
  refine wp_iload_n dX7_wait_1 rfl 1 rfl ?_
  refine wp_callV mX7_isMember 100 [.int (nI i)] [] (c := 7) dX7_wait_2 iX7_isMember (fun _ => trivial) mlX7_163 imX7_isMember seX7_isMember (by decide) rfl rfl ⟨by decide, by decide⟩ rfl rfl (Nat.le_of_ble_eq_true rfl) (Nat.le_of_ble_eq_true rfl) (by decide) (by decide) ?_
  refine ct_isMember nm hW hc1 (by omega) i hi ?_
  show WP g mX7_wait 5 [(0, .ref 100), (1, .int (nI i))] [.int 1] _ 0 0 _
  refine wp_if_eq (tgt := 18) dX7_wait_5 (by decide) (fun c_1 => absurd c_1 (by decide)) (fun _ => ?_)
  refine wp_aload_n dX7_wait_8 rfl 0 rfl ?_
  refine wp_getP (b := 103) dX7_wait_9 flX7_7 rfl rfl hW.1 (hW.2 2 rfl).2 ?_
  refine wp_iload_n dX7_wait_12 rfl 1 rfl ?_
  refine wv_iald i (vI h 103 i) dX7_wait_13 rfl (hW.2 2 rfl).1 rfl (by show i < 10; omega) rfl ?_
  refine wp_iconst (v := 3) dX7_wait_14 (by decide) ?_
  refine wp_icmp_ne (tgt := 22) dX7_wait_15 (by decide) (fun c_2 => ?_) (fun c_2 => ?_)
  · refine wp_aload_n dX7_wait_22 rfl 0 rfl ?_
    refine wv_getI (nI ns) dX7_wait_23 flX7_238 rfl rfl hW.1 hc30 ?_
    refine wp_if_ne (tgt := 31) dX7_wait_26 (by decide) (fun c_3 => ?_) (fun c_3 => ?_)
    · refine wp_aload_n dX7_wait_31 rfl 0 rfl ?_
      refine wp_getP (b := 133) dX7_wait_32 flX7_96 rfl rfl hW.1 (hW.2 32 rfl).2 ?_
      refine wp_iconst (v := 0) dX7_wait_35 (by decide) ?_
      refine wv_lald 0 (vL h 133 0) dX7_wait_36 rfl (hW.2 32 rfl).1 rfl (by decide) rfl ?_
      refine wp_lstore_n (lv' := [(2, .long (vL h 133 0)), (0, .ref 100), (1, .int (nI i))]) dX7_wait_37 rfl (by decide) rfl ?_
      refine wp_iconst (v := 1) dX7_wait_38 (by decide) ?_
      refine wp_istore (lv' := [(4, .int 1), (2, .long (vL h 133 0)), (0, .ref 100), (1, .int (nI i))]) dX7_wait_39 (by decide) rfl ?_
      refine wp_sub [2, 3, 1, 0] rfl ?_
      exact lm_wait nm hW hc1 hnm i hi hd ns hc30 hns (hp c_2 (fun z => c_3 (by rw [z]; rfl))) (ns - 1) 0 (by have q : ¬ ns = 0 := fun z => c_3 (by rw [z]; rfl); omega)
    · refine wp_lconst (v := 0) dX7_wait_29 rfl ?_
      refine wp_lret dX7_wait_30 rfl (by decide) (by decide) ?_
      exact h0 c_2 (by have q := c_3; rw [i32_eq, nIt (by omega)] at q; simpa using q)
  · refine wp_ldc2 dX7_wait_18 cnX7_155 ?_
    refine wp_lret dX7_wait_21 rfl (by decide) (by decide) ?_
    exact h3 c_2
set_option maxRecDepth 100000 in
set_option maxHeartbeats 4000000 in
theorem cm_event0 {g : GG} {h : HP} {Post : Option Value → HP → Prop} (ns : Nat) (hW : MW h) (hc30 : vI h 100 30 = nI ns) (hns : ns < 100) (x : Int32) (hx : ¬ inR x ns) (hp : Post (some (.long (-9000000000000000000))) h) : CT g mX7_event [.ref 100, .int x] h Post := by
  show WP g mX7_event 0 [(0, .ref 100), (1, .int x)] [] h 0 0 Post
  refine wp_aload_n dX7_event_0 rfl 0 rfl ?_
  refine wp_iload_n dX7_event_1 rfl 1 rfl ?_
  refine wp_callV mX7_isStamp 100 [.int x] [] (c := 7) dX7_event_2 iX7_isStamp (fun _ => trivial) mlX7_241 imX7_isStamp seX7_isStamp (by decide) rfl rfl ⟨by decide, by decide⟩ rfl rfl (Nat.le_of_ble_eq_true rfl) (Nat.le_of_ble_eq_true rfl) (by decide) (by decide) ?_
  refine ct_isStamp0 ns hW hc30 (by omega) x hx ?_
  show WP g mX7_event 5 [(0, .ref 100), (1, .int x)] [.int 0] _ 0 0 _
  refine wp_if_eq (tgt := 17) dX7_event_5 (by decide) (fun _ => ?_) (fun c_1 => absurd (by decide) c_1)
  refine wp_ldc2 dX7_event_17 cnX7_155 ?_
  refine wp_lret dX7_event_20 rfl (by decide) (by decide) ?_
  exact hp
def evM (h : HP) (ne k : Nat) : HP := sI (sL (sL h 137 ne (vL h 132 k)) 138 ne (vL h 133 k)) 100 35 (nI (ne + 1))
set_option maxRecDepth 100000 in
set_option maxHeartbeats 4000000 in
theorem cm_event {g : GG} {h : HP} {Post : Option Value → HP → Prop} (ns : Nat) (hW : MW h) (hc30 : vI h 100 30 = nI ns) (hns : ns < 100) (k : Nat) (hk : k < ns) (ne : Nat) (hc35 : vI h 100 35 = nI ne) (hne : ne ≤ 30) (hno : ne = 30 → Post (some (.long (-9000000000000000000))) h) (hyes : ne < 30 → Post (some (.long (Int32.toInt64 (nI ne)))) (evM h ne k)) : CT g mX7_event [.ref 100, .int (nI k)] h Post := by
  show WP g mX7_event 0 [(0, .ref 100), (1, .int (nI k))] [] h 0 0 Post
  refine wp_aload_n dX7_event_0 rfl 0 rfl ?_
  refine wp_iload_n dX7_event_1 rfl 1 rfl ?_
  refine wp_callV mX7_isStamp 100 [.int (nI k)] [] (c := 7) dX7_event_2 iX7_isStamp (fun _ => trivial) mlX7_241 imX7_isStamp seX7_isStamp (by decide) rfl rfl ⟨by decide, by decide⟩ rfl rfl (Nat.le_of_ble_eq_true rfl) (Nat.le_of_ble_eq_true rfl) (by decide) (by decide) ?_
  refine ct_isStamp ns hW hc30 (by omega) k hk ?_
  show WP g mX7_event 5 [(0, .ref 100), (1, .int (nI k))] [.int 1] _ 0 0 _
  refine wp_if_eq (tgt := 17) dX7_event_5 (by decide) (fun c_1 => absurd c_1 (by decide)) (fun _ => ?_)
  refine wp_aload_n dX7_event_8 rfl 0 rfl ?_
  refine wv_getI (nI ne) dX7_event_9 flX7_246 rfl rfl hW.1 hc35 ?_
  refine wp_bipush (v := 30) dX7_event_12 (by decide) ?_
  refine wi_icmp_ne (tgt := 21) ((ne : Nat)) (30) (nIt (by omega)) (by decide) dX7_event_14 (by decide) (fun c_2 => ?_) (fun c_2 => ?_)
  · refine wp_aload_n dX7_event_21 rfl 0 rfl ?_
    refine wp_getP (b := 137) dX7_event_22 flX7_105 rfl rfl hW.1 (hW.2 36 rfl).2 ?_
    refine wp_aload_n dX7_event_25 rfl 0 rfl ?_
    refine wv_getI (nI ne) dX7_event_26 flX7_246 rfl rfl hW.1 hc35 ?_
    refine wp_aload_n dX7_event_29 rfl 0 rfl ?_
    refine wp_getP (b := 132) dX7_event_30 flX7_93 rfl rfl hW.1 (hW.2 31 rfl).2 ?_
    refine wp_iload_n dX7_event_33 rfl 1 rfl ?_
    refine wv_lald k (vL h 132 k) dX7_event_34 rfl (hW.2 31 rfl).1 rfl (by show k < 100; omega) rfl ?_
    refine wv_last ne dX7_event_35 rfl (hW.2 36 rfl).1 rfl (by show ne < 30; omega) ?_
    refine wp_aload_n dX7_event_36 rfl 0 rfl ?_
    refine wp_getP (b := 138) dX7_event_37 flX7_108 rfl rfl hW.1 (hW.2 37 rfl).2 ?_
    refine wp_aload_n dX7_event_40 rfl 0 rfl ?_
    refine wv_getI (nI ne) dX7_event_41 flX7_246 rfl rfl hW.1 hc35 ?_
    refine wp_aload_n dX7_event_44 rfl 0 rfl ?_
    refine wp_pc (pc' := 45) rfl ?_
    refine wp_getP (b := 133) dX7_event_45 flX7_96 rfl rfl hW.1 (hW.2 32 rfl).2 ?_
    refine wp_iload_n dX7_event_48 rfl 1 rfl ?_
    refine wv_lald k (vL h 133 k) dX7_event_49 rfl (hW.2 32 rfl).1 rfl (by show k < 100; omega) (by simp [vI, vL, vP, sI, sL, sP, up2]) ?_
    refine wv_last ne dX7_event_50 rfl (hW.2 37 rfl).1 rfl (by show ne < 30; omega) ?_
    refine wp_aload_n dX7_event_51 rfl 0 rfl ?_
    refine wp_dup dX7_event_52 rfl ?_
    refine wv_getI (nI ne) dX7_event_53 flX7_246 rfl rfl hW.1 hc35 ?_
    refine wp_iconst (v := 1) dX7_event_56 (by decide) ?_
    refine wv_iadd (nI (ne + 1)) (wN_add rfl rfl) dX7_event_57 ?_
    refine wp_putI dX7_event_58 flX7_246 (Or.inl rfl) rfl rfl rfl rfl hW.1 ?_
    refine wp_aload_n dX7_event_61 rfl 0 rfl ?_
    refine wv_getI (nI (ne + 1)) dX7_event_62 flX7_246 rfl rfl hW.1 (by simp [vI, vL, vP, sI, sL, sP, up2]) ?_
    refine wp_iconst (v := 1) dX7_event_65 (by decide) ?_
    refine wv_isub (nI ne) (nI_pred _) dX7_event_66 ?_
    refine wp_i2l dX7_event_67 ?_
    refine wp_pc (pc' := 68) rfl ?_
    refine wp_lret dX7_event_68 rfl (by decide) (by decide) ?_
    exact hyes (by omega)
  · refine wp_ldc2 dX7_event_17 cnX7_155 ?_
    refine wp_lret dX7_event_20 rfl (by decide) (by decide) ?_
    exact hno (by omega)
def lkM (h : HP) (nk e k2 : Nat) : HP := sI (sI h 140 (30 * e + k2) 1) 100 38 (nI (nk + 1))
set_option maxRecDepth 100000 in
set_option maxHeartbeats 4000000 in
theorem cm_link0 {g : GG} {h : HP} {Post : Option Value → HP → Prop} (y : Int32) (ne : Nat) (hW : MW h) (hc35 : vI h 100 35 = nI ne) (hne : ne ≤ 30) (x : Int32) (hx : ¬ inR x ne) (hp : Post (some (.long (-9000000000000000000))) h) : CT g mX7_link [.ref 100, .int x, .int y] h Post := by
  show WP g mX7_link 0 [(0, .ref 100), (1, .int x), (2, .int y)] [] h 0 0 Post
  refine wp_aload_n dX7_link_0 rfl 0 rfl ?_
  refine wp_iload_n dX7_link_1 rfl 1 rfl ?_
  refine wp_callV mX7_isEvent 100 [.int x] [] (c := 7) dX7_link_2 iX7_isEvent (fun _ => trivial) mlX7_249 imX7_isEvent seX7_isEvent (by decide) rfl rfl ⟨by decide, by decide⟩ rfl rfl (Nat.le_of_ble_eq_true rfl) (Nat.le_of_ble_eq_true rfl) (by decide) (by decide) ?_
  refine ct_isEvent0 ne hW hc35 (by omega) x hx ?_
  show WP g mX7_link 5 [(0, .ref 100), (1, .int x), (2, .int y)] [.int 0] _ 0 0 _
  refine wp_if_eq (tgt := 30) dX7_link_5 (by decide) (fun _ => ?_) (fun c_1 => absurd (by decide) c_1)
  refine wp_ldc2 dX7_link_30 cnX7_155 ?_
  refine wp_lret dX7_link_33 rfl (by decide) (by decide) ?_
  exact hp
set_option maxRecDepth 100000 in
set_option maxHeartbeats 4000000 in
theorem cm_link1 {g : GG} {h : HP} {Post : Option Value → HP → Prop} (y : Int32) (ne : Nat) (hW : MW h) (hc35 : vI h 100 35 = nI ne) (hne : ne ≤ 30) (e : Nat) (he : e < ne) (hy : ¬ inR y ne) (hp : Post (some (.long (-9000000000000000000))) h) : CT g mX7_link [.ref 100, .int (nI e), .int y] h Post := by
  show WP g mX7_link 0 [(0, .ref 100), (1, .int (nI e)), (2, .int y)] [] h 0 0 Post
  refine wp_aload_n dX7_link_0 rfl 0 rfl ?_
  refine wp_iload_n dX7_link_1 rfl 1 rfl ?_
  refine wp_callV mX7_isEvent 100 [.int (nI e)] [] (c := 7) dX7_link_2 iX7_isEvent (fun _ => trivial) mlX7_249 imX7_isEvent seX7_isEvent (by decide) rfl rfl ⟨by decide, by decide⟩ rfl rfl (Nat.le_of_ble_eq_true rfl) (Nat.le_of_ble_eq_true rfl) (by decide) (by decide) ?_
  refine ct_isEvent ne hW hc35 (by omega) e he ?_
  show WP g mX7_link 5 [(0, .ref 100), (1, .int (nI e)), (2, .int y)] [.int 1] _ 0 0 _
  refine wp_if_eq (tgt := 30) dX7_link_5 (by decide) (fun c_1 => absurd c_1 (by decide)) (fun _ => ?_)
  refine wp_aload_n dX7_link_8 rfl 0 rfl ?_
  refine wp_iload_n dX7_link_9 rfl 2 rfl ?_
  refine wp_callV mX7_isEvent 100 [.int y] [] (c := 7) dX7_link_10 iX7_isEvent (fun _ => trivial) mlX7_249 imX7_isEvent seX7_isEvent (by decide) rfl rfl ⟨by decide, by decide⟩ rfl rfl (Nat.le_of_ble_eq_true rfl) (Nat.le_of_ble_eq_true rfl) (by decide) (by decide) ?_
  refine ct_isEvent0 ne hW hc35 (by omega) y hy ?_
  show WP g mX7_link 13 [(0, .ref 100), (1, .int (nI e)), (2, .int y)] [.int 0] _ 0 0 _
  refine wp_if_eq (tgt := 30) dX7_link_13 (by decide) (fun _ => ?_) (fun c_2 => absurd (by decide) c_2)
  refine wp_ldc2 dX7_link_30 cnX7_155 ?_
  refine wp_lret dX7_link_33 rfl (by decide) (by decide) ?_
  exact hp
set_option maxRecDepth 100000 in
set_option maxHeartbeats 4000000 in
theorem cm_link {g : GG} {h : HP} {Post : Option Value → HP → Prop} (ne : Nat) (hW : MW h) (hc35 : vI h 100 35 = nI ne) (hne : ne ≤ 30) (e k2 nk : Nat) (he : e < ne) (hk2 : k2 < ne) (hc38 : vI h 100 38 = nI nk) (hk6 : nk ≤ 60) (hno : (e = k2 ∨ nk = 60) → Post (some (.long (-9000000000000000000))) h) (hyes : e ≠ k2 → nk < 60 → Post (some (.long (Int32.toInt64 (nI (nk + 1))))) (lkM h nk e k2)) : CT g mX7_link [.ref 100, .int (nI e), .int (nI k2)] h Post := by
  show WP g mX7_link 0 [(0, .ref 100), (1, .int (nI e)), (2, .int (nI k2))] [] h 0 0 Post
  refine wp_aload_n dX7_link_0 rfl 0 rfl ?_
  refine wp_iload_n dX7_link_1 rfl 1 rfl ?_
  refine wp_callV mX7_isEvent 100 [.int (nI e)] [] (c := 7) dX7_link_2 iX7_isEvent (fun _ => trivial) mlX7_249 imX7_isEvent seX7_isEvent (by decide) rfl rfl ⟨by decide, by decide⟩ rfl rfl (Nat.le_of_ble_eq_true rfl) (Nat.le_of_ble_eq_true rfl) (by decide) (by decide) ?_
  refine ct_isEvent ne hW hc35 (by omega) e he ?_
  show WP g mX7_link 5 [(0, .ref 100), (1, .int (nI e)), (2, .int (nI k2))] [.int 1] _ 0 0 _
  refine wp_if_eq (tgt := 30) dX7_link_5 (by decide) (fun c_1 => absurd c_1 (by decide)) (fun _ => ?_)
  refine wp_aload_n dX7_link_8 rfl 0 rfl ?_
  refine wp_iload_n dX7_link_9 rfl 2 rfl ?_
  refine wp_callV mX7_isEvent 100 [.int (nI k2)] [] (c := 7) dX7_link_10 iX7_isEvent (fun _ => trivial) mlX7_249 imX7_isEvent seX7_isEvent (by decide) rfl rfl ⟨by decide, by decide⟩ rfl rfl (Nat.le_of_ble_eq_true rfl) (Nat.le_of_ble_eq_true rfl) (by decide) (by decide) ?_
  refine ct_isEvent ne hW hc35 (by omega) k2 hk2 ?_
  show WP g mX7_link 13 [(0, .ref 100), (1, .int (nI e)), (2, .int (nI k2))] [.int 1] _ 0 0 _
  refine wp_if_eq (tgt := 30) dX7_link_13 (by decide) (fun c_2 => absurd c_2 (by decide)) (fun _ => ?_)
  refine wp_iload_n dX7_link_16 rfl 1 rfl ?_
  refine wp_iload_n dX7_link_17 rfl 2 rfl ?_
  refine wi_icmp_eq (tgt := 30) ((e : Nat)) ((k2 : Nat)) (nIt (by omega)) (nIt (by omega)) dX7_link_18 (by decide) (fun c_3 => ?_) (fun c_3 => ?_)
  · refine wp_ldc2 dX7_link_30 cnX7_155 ?_
    refine wp_lret dX7_link_33 rfl (by decide) (by decide) ?_
    exact hno (by omega)
  · refine wp_aload_n dX7_link_21 rfl 0 rfl ?_
    refine wv_getI (nI nk) dX7_link_22 flX7_252 rfl rfl hW.1 hc38 ?_
    refine wp_bipush (v := 60) dX7_link_25 (by decide) ?_
    refine wi_icmp_ne (tgt := 34) ((nk : Nat)) (60) (nIt (by omega)) (by decide) dX7_link_27 (by decide) (fun c_4 => ?_) (fun c_4 => ?_)
    · refine wp_aload_n dX7_link_34 rfl 0 rfl ?_
      refine wp_getP (b := 140) dX7_link_35 flX7_111 rfl rfl hW.1 (hW.2 39 rfl).2 ?_
      refine wp_bipush (v := 30) dX7_link_38 (by decide) ?_
      refine wp_iload_n dX7_link_40 rfl 1 rfl ?_
      refine wv_imul (nI (30 * e)) (wN_mul rfl rfl) dX7_link_41 ?_
      refine wp_iload_n dX7_link_42 rfl 2 rfl ?_
      refine wv_iadd (nI ((30 * e) + k2)) (wN_add rfl rfl) dX7_link_43 ?_
      refine wp_iconst (v := 1) dX7_link_44 (by decide) ?_
      refine wv_bast (30 * e + k2) dX7_link_45 rfl (hW.2 39 rfl).1 rfl (by show 30 * e + k2 < 900; omega) rfl ?_
      refine wp_aload_n dX7_link_46 rfl 0 rfl ?_
      refine wp_dup dX7_link_47 rfl ?_
      refine wv_getI (nI nk) dX7_link_48 flX7_252 rfl rfl hW.1 (Eq.trans (b := vI h 100 38) (by simp [vI, vL, vP, sI, sL, sP, up2]) hc38) ?_
      refine wp_iconst (v := 1) dX7_link_51 (by decide) ?_
      refine wv_iadd (nI (nk + 1)) (wN_add rfl rfl) dX7_link_52 ?_
      refine wp_pc (pc' := 53) rfl ?_
      refine wp_putI dX7_link_53 flX7_252 (Or.inl rfl) rfl rfl rfl rfl hW.1 ?_
      refine wp_aload_n dX7_link_56 rfl 0 rfl ?_
      refine wv_getI (nI (nk + 1)) dX7_link_57 flX7_252 rfl rfl hW.1 (by simp [vI, vL, vP, sI, sL, sP, up2]) ?_
      refine wp_i2l dX7_link_60 ?_
      refine wp_lret dX7_link_61 rfl (by decide) (by decide) ?_
      exact hyes (by omega) (by omega)
    · refine wp_ldc2 dX7_link_30 cnX7_155 ?_
      refine wp_lret dX7_link_33 rfl (by decide) (by decide) ?_
      exact hno (by omega)
set_option maxRecDepth 100000 in
set_option maxHeartbeats 4000000 in
theorem cm_count_0 {g : GG} {h : HP} {Post : Option Value → HP → Prop} (hW : MW h) (hp : Post (some (.long (Int32.toInt64 (vI h 100 1)))) h) : CT g mX7_count [.ref 100, .int 0] h Post := by
  show WP g mX7_count 0 [(0, .ref 100), (1, .int 0)] [] h 0 0 Post
  refine wp_iload_n dX7_count_0 rfl 1 rfl ?_
  refine wp_tableIn (off := 43) (tgt := 44) dX7_count_1 (by decide) (by decide) (by decide) (by decide) ?_
  refine wp_aload_n dX7_count_44 rfl 0 rfl ?_
  refine wp_getI dX7_count_45 flX7_139 rfl rfl hW.1 ?_
  refine wp_i2l dX7_count_48 ?_
  refine wp_lret dX7_count_49 rfl (by decide) (by decide) ?_
  exact hp
set_option maxRecDepth 100000 in
set_option maxHeartbeats 4000000 in
theorem cm_count_1 {g : GG} {h : HP} {Post : Option Value → HP → Prop} (hW : MW h) (hp : Post (some (.long (Int32.toInt64 (vI h 100 22)))) h) : CT g mX7_count [.ref 100, .int 1] h Post := by
  show WP g mX7_count 0 [(0, .ref 100), (1, .int 1)] [] h 0 0 Post
  refine wp_iload_n dX7_count_0 rfl 1 rfl ?_
  refine wp_tableIn (off := 49) (tgt := 50) dX7_count_1 (by decide) (by decide) (by decide) (by decide) ?_
  refine wp_aload_n dX7_count_50 rfl 0 rfl ?_
  refine wp_getI dX7_count_51 flX7_197 rfl rfl hW.1 ?_
  refine wp_i2l dX7_count_54 ?_
  refine wp_lret dX7_count_55 rfl (by decide) (by decide) ?_
  exact hp
set_option maxRecDepth 100000 in
set_option maxHeartbeats 4000000 in
theorem cm_count_3 {g : GG} {h : HP} {Post : Option Value → HP → Prop} (hW : MW h) (hp : Post (some (.long (Int32.toInt64 (vI h 100 30)))) h) : CT g mX7_count [.ref 100, .int 3] h Post := by
  show WP g mX7_count 0 [(0, .ref 100), (1, .int 3)] [] h 0 0 Post
  refine wp_iload_n dX7_count_0 rfl 1 rfl ?_
  refine wp_tableIn (off := 94) (tgt := 95) dX7_count_1 (by decide) (by decide) (by decide) (by decide) ?_
  refine wp_aload_n dX7_count_95 rfl 0 rfl ?_
  refine wp_getI dX7_count_96 flX7_238 rfl rfl hW.1 ?_
  refine wp_i2l dX7_count_99 ?_
  refine wp_lret dX7_count_100 rfl (by decide) (by decide) ?_
  exact hp
set_option maxRecDepth 100000 in
set_option maxHeartbeats 4000000 in
theorem cm_count_4 {g : GG} {h : HP} {Post : Option Value → HP → Prop} (hW : MW h) (hp : Post (some (.long (Int32.toInt64 (vI h 100 35)))) h) : CT g mX7_count [.ref 100, .int 4] h Post := by
  show WP g mX7_count 0 [(0, .ref 100), (1, .int 4)] [] h 0 0 Post
  refine wp_iload_n dX7_count_0 rfl 1 rfl ?_
  refine wp_tableIn (off := 100) (tgt := 101) dX7_count_1 (by decide) (by decide) (by decide) (by decide) ?_
  refine wp_aload_n dX7_count_101 rfl 0 rfl ?_
  refine wp_getI dX7_count_102 flX7_246 rfl rfl hW.1 ?_
  refine wp_i2l dX7_count_105 ?_
  refine wp_lret dX7_count_106 rfl (by decide) (by decide) ?_
  exact hp
set_option maxRecDepth 100000 in
set_option maxHeartbeats 4000000 in
theorem cm_count_5 {g : GG} {h : HP} {Post : Option Value → HP → Prop} (hW : MW h) (hp : Post (some (.long (Int32.toInt64 (vI h 100 38)))) h) : CT g mX7_count [.ref 100, .int 5] h Post := by
  show WP g mX7_count 0 [(0, .ref 100), (1, .int 5)] [] h 0 0 Post
  refine wp_iload_n dX7_count_0 rfl 1 rfl ?_
  refine wp_tableIn (off := 106) (tgt := 107) dX7_count_1 (by decide) (by decide) (by decide) (by decide) ?_
  refine wp_aload_n dX7_count_107 rfl 0 rfl ?_
  refine wp_getI dX7_count_108 flX7_252 rfl rfl hW.1 ?_
  refine wp_i2l dX7_count_111 ?_
  refine wp_lret dX7_count_112 rfl (by decide) (by decide) ?_
  exact hp
set_option maxRecDepth 100000 in
set_option maxHeartbeats 4000000 in
theorem cm_count_6 {g : GG} {h : HP} {Post : Option Value → HP → Prop} (hW : MW h) (hp : Post (some (.long (vL h 100 0))) h) : CT g mX7_count [.ref 100, .int 6] h Post := by
  show WP g mX7_count 0 [(0, .ref 100), (1, .int 6)] [] h 0 0 Post
  refine wp_iload_n dX7_count_0 rfl 1 rfl ?_
  refine wp_tableIn (off := 112) (tgt := 113) dX7_count_1 (by decide) (by decide) (by decide) (by decide) ?_
  refine wp_aload_n dX7_count_113 rfl 0 rfl ?_
  refine wp_getL dX7_count_114 flX7_149 rfl rfl hW.1 ?_
  refine wp_lret dX7_count_117 rfl (by decide) (by decide) ?_
  exact hp
set_option maxRecDepth 100000 in
set_option maxHeartbeats 4000000 in
theorem cm_count_x {g : GG} {h : HP} {Post : Option Value → HP → Prop} (wh : Int32) (hW : MW h) (hw : wh.toInt < 0 ∨ 6 < wh.toInt) (hp : Post (some (.long (-9000000000000000000))) h) : CT g mX7_count [.ref 100, .int wh] h Post := by
  show WP g mX7_count 0 [(0, .ref 100), (1, .int wh)] [] h 0 0 Post
  refine wp_iload_n dX7_count_0 rfl 1 rfl ?_
  refine wp_tableOut (tgt := 118) dX7_count_1 hw (by decide) ?_
  refine wp_ldc2 dX7_count_118 cnX7_155 ?_
  refine wp_lret dX7_count_121 rfl (by decide) (by decide) ?_
  exact hp
def cuM (h : HP) : Nat → Nat
  | 0 => 0
  | n + 1 => cuM h n + (if (vI h 126 n).toInt < 2 then 1 else 0)
theorem cuM_1 {h : HP} {n : Nat} (hv : (vI h 126 n).toInt < 2) : cuM h n + 1 = cuM h (n + 1) := by show _ = _ + (if _ then 1 else 0); rw [if_pos hv]
theorem cuM_0 {h : HP} {n : Nat} (hv : ¬ (vI h 126 n).toInt < 2) : cuM h n + 0 = cuM h (n + 1) := by show _ = _ + (if _ then 1 else 0); rw [if_neg hv]
set_option maxRecDepth 100000 in
set_option maxHeartbeats 4000000 in
theorem lm_count {g : GG} {h : HP} {Post : Option Value → HP → Prop} (nl : Nat) (hW : MW h) (hc22 : vI h 100 22 = nI nl) (hnl : nl < 200) (hp : Post (some (.long (Int32.toInt64 (nI (cuM h nl))))) h) : ∀ (k n : Nat), n + k = nl → WP g mX7_count 60 [(0, .ref 100), (2, .int (nI (cuM h n))), (3, .int (nI n))] [] h 0 0 Post := by
  intro k
  induction k with
  | zero =>
    intro n e0
    refine wp_iload_n dX7_count_60 rfl 2 rfl ?_
    refine wp_aload_n dX7_count_61 rfl 0 rfl ?_
    refine wv_getI (nI nl) dX7_count_62 flX7_197 rfl rfl hW.1 hc22 ?_
    refine wi_icmp_ge (tgt := 92) ((n : Nat)) ((nl : Nat)) (nIt (by omega)) (nIt (by omega)) dX7_count_65 (by decide) (fun _ => ?_) (fun c_1 => absurd (by omega) c_1)
    refine wp_iload_n dX7_count_92 rfl 1 rfl ?_
    refine wp_i2l dX7_count_93 ?_
    refine wp_lret dX7_count_94 rfl (by decide) (by decide) ?_
    rw [show n = nl by omega]
    exact hp
  | succ k ih =>
    intro n e0
    refine wp_iload_n dX7_count_60 rfl 2 rfl ?_
    refine wp_aload_n dX7_count_61 rfl 0 rfl ?_
    refine wv_getI (nI nl) dX7_count_62 flX7_197 rfl rfl hW.1 hc22 ?_
    refine wi_icmp_ge (tgt := 92) ((n : Nat)) ((nl : Nat)) (nIt (by omega)) (nIt (by omega)) dX7_count_65 (by decide) (fun c_1 => absurd c_1 (by omega)) (fun _ => ?_)
    refine wp_iload_n dX7_count_68 rfl 1 rfl ?_
    refine wp_aload_n dX7_count_69 rfl 0 rfl ?_
    refine wp_getP (b := 126) dX7_count_70 flX7_78 rfl rfl hW.1 (hW.2 25 rfl).2 ?_
    refine wp_iload_n dX7_count_73 rfl 2 rfl ?_
    refine wv_iald n (vI h 126 n) dX7_count_74 rfl (hW.2 25 rfl).1 rfl (by show n < 200; omega) rfl ?_
    refine wp_iconst (v := 2) dX7_count_75 (by decide) ?_
    refine wi_icmp_ge (tgt := 83) (Int32.toInt (vI h 126 n)) (2) rfl (by decide) dX7_count_76 (by decide) (fun c_2 => ?_) (fun c_2 => ?_)
    · refine wp_iconst (v := 0) dX7_count_83 (by decide) ?_
      refine wv_iadd (nI ((cuM h n) + 0)) (wN_add rfl rfl) dX7_count_84 ?_
      refine wp_istore_n (lv' := [(2, .int (nI ((cuM h n) + 0))), (0, .ref 100), (3, .int (nI n))]) dX7_count_85 rfl (by decide) rfl ?_
      refine wp_iinc (q := 2) (x := nI n) (v := nI (n + 1)) (lv' := [(3, .int (nI (n + 1))), (2, .int (nI ((cuM h n) + 0))), (0, .ref 100)]) dX7_count_86 rfl (nI_1 _) (by decide) rfl ?_
      refine wp_goto (tgt := 60) dX7_count_89 (by decide) ?_
      refine wp_sub [2, 1, 0] rfl ?_
      have q := ih (n + 1) (by omega)
      rw [← cuM_0 (by omega)] at q
      exact q
    · refine wp_iconst (v := 1) dX7_count_79 (by decide) ?_
      refine wp_goto (tgt := 84) dX7_count_80 (by decide) ?_
      refine wv_iadd (nI ((cuM h n) + 1)) (wN_add rfl rfl) dX7_count_84 ?_
      refine wp_istore_n (lv' := [(2, .int (nI ((cuM h n) + 1))), (0, .ref 100), (3, .int (nI n))]) dX7_count_85 rfl (by decide) rfl ?_
      refine wp_iinc (q := 2) (x := nI n) (v := nI (n + 1)) (lv' := [(3, .int (nI (n + 1))), (2, .int (nI ((cuM h n) + 1))), (0, .ref 100)]) dX7_count_86 rfl (nI_1 _) (by decide) rfl ?_
      refine wp_goto (tgt := 60) dX7_count_89 (by decide) ?_
      refine wp_sub [2, 1, 0] rfl ?_
      have q := ih (n + 1) (by omega)
      rw [← cuM_1 (by omega)] at q
      exact q
set_option maxRecDepth 100000 in
set_option maxHeartbeats 4000000 in
theorem cm_count_2 {g : GG} {h : HP} {Post : Option Value → HP → Prop} (nl : Nat) (hW : MW h) (hc22 : vI h 100 22 = nI nl) (hnl : nl < 200) (hp : Post (some (.long (Int32.toInt64 (nI (cuM h nl))))) h) : CT g mX7_count [.ref 100, .int 2] h Post := by
  show WP g mX7_count 0 [(0, .ref 100), (1, .int 2)] [] h 0 0 Post
  refine wp_iload_n dX7_count_0 rfl 1 rfl ?_
  refine wp_tableIn (off := 55) (tgt := 56) dX7_count_1 (by decide) (by decide) (by decide) (by decide) ?_
  refine wp_iconst (v := 0) dX7_count_56 (by decide) ?_
  refine wp_istore_n (lv' := [(2, .int 0), (0, .ref 100), (1, .int 2)]) dX7_count_57 rfl (by decide) rfl ?_
  refine wp_iconst (v := 0) dX7_count_58 (by decide) ?_
  refine wp_istore_n (lv' := [(3, .int 0), (2, .int 0), (0, .ref 100), (1, .int 2)]) dX7_count_59 rfl (by decide) rfl ?_
  refine wp_sub [2, 1, 0] rfl ?_
  exact lm_count nl hW hc22 hnl hp nl 0 (by omega)
