/-! contracts: Letter, Stamp, the constructors of what is kept -/
def ltN (h : HP) (l m n : Nat) (t : Int64) : HP := sI (sL (sP (sP h l 0 (some m)) l 1 (some n)) l 2 t) l 3 0
set_option maxRecDepth 100000 in
set_option maxHeartbeats 4000000 in
theorem ct_Letter {g : GG} {h : HP} {Post : Option Value → HP → Prop} (l m n : Nat) (t : Int64) (hk : kd l = 1) (hl : liv h l = true) (hp : Post none (ltN h l m n t)) : CT g mX1_init [.ref l, .ref m, .ref n, .long t] h Post := by
  show WP g mX1_init 0 [(0, .ref l), (1, .ref m), (2, .ref n), (3, .long t)] [] h 0 0 Post
  refine wp_aload_n dX1_init_0 rfl 0 rfl ?_
  refine wp_obj dX1_init_1 mlX1_3 imObj cdObj (by decide) (Nat.le_of_ble_eq_true rfl) ?_
  refine wp_aload_n dX1_init_4 rfl 0 rfl ?_
  refine wp_aload_n dX1_init_5 rfl 1 rfl ?_
  refine wp_putP dX1_init_6 flX1_9 (Or.inr ⟨rfl, rfl, rfl⟩) rfl hk hl ?_
  refine wp_aload_n dX1_init_9 rfl 0 rfl ?_
  refine wp_aload_n dX1_init_10 rfl 2 rfl ?_
  refine wp_putP dX1_init_11 flX1_15 (Or.inr ⟨rfl, rfl, rfl⟩) rfl hk hl ?_
  refine wp_aload_n dX1_init_14 rfl 0 rfl ?_
  refine wp_lload_n dX1_init_15 rfl 3 rfl ?_
  refine wp_putL dX1_init_16 flX1_18 (Or.inr ⟨rfl, rfl, rfl⟩) rfl hk hl ?_
  refine wp_aload_n dX1_init_19 rfl 0 rfl ?_
  refine wp_iconst (v := 0) dX1_init_20 (by decide) ?_
  refine wp_putI dX1_init_21 flX1_22 (Or.inl rfl) rfl rfl rfl hk hl ?_
  refine wp_vret dX1_init_24 rfl (by decide) (by decide) ?_
  exact hp
def stN (h : HP) (k : Nat) (lo hi : Int64) (m r : Int32) : HP := sI (sI (sL (sL h k 0 lo) k 1 hi) k 2 m) k 3 r
set_option maxRecDepth 100000 in
set_option maxHeartbeats 4000000 in
theorem ct_Stamp {g : GG} {h : HP} {Post : Option Value → HP → Prop} (k : Nat) (lo hi : Int64) (m r : Int32) (hr : r = 0 ∨ r = 1) (hk : kd k = 5) (hl : liv h k = true) (hp : Post none (stN h k lo hi m r)) : CT g mX5_init [.ref k, .long lo, .long hi, .int m, .int r] h Post := by
  show WP g mX5_init 0 [(0, .ref k), (1, .long lo), (3, .long hi), (5, .int m), (6, .int r)] [] h 0 0 Post
  refine wp_aload_n dX5_init_0 rfl 0 rfl ?_
  refine wp_obj dX5_init_1 mlX5_1 imObj cdObj (by decide) (Nat.le_of_ble_eq_true rfl) ?_
  refine wp_aload_n dX5_init_4 rfl 0 rfl ?_
  refine wp_lload_n dX5_init_5 rfl 1 rfl ?_
  refine wp_putL dX5_init_6 flX5_7 (Or.inr ⟨rfl, rfl, rfl⟩) rfl hk hl ?_
  refine wp_aload_n dX5_init_9 rfl 0 rfl ?_
  refine wp_lload_n dX5_init_10 rfl 2 rfl ?_
  refine wp_putL dX5_init_11 flX5_13 (Or.inr ⟨rfl, rfl, rfl⟩) rfl hk hl ?_
  refine wp_aload_n dX5_init_14 rfl 0 rfl ?_
  refine wp_iload dX5_init_15 3 rfl ?_
  refine wp_putI dX5_init_17 flX5_16 (Or.inr ⟨rfl, rfl, rfl⟩) rfl rfl rfl hk hl ?_
  refine wp_aload_n dX5_init_20 rfl 0 rfl ?_
  refine wp_iload dX5_init_21 4 rfl ?_
  refine wp_putI dX5_init_23 flX5_20 (Or.inr ⟨rfl, rfl, rfl⟩) rfl (nb_n hr) (nb_f hr) hk hl ?_
  refine wp_vret dX5_init_26 rfl (by decide) (by decide) ?_
  exact hp
def mb1 (h : HP) (a : Nat) (num kind p e : Int32) (now : Int64) : HP := sI (sI (sL (sI (sI (sI (sI h a 0 num) a 1 kind) a 2 p) a 3 e) a 4 now) a 5 1) a 6 1
def mb2 (h : HP) (a o : Nat) (e : Int32) (now : Int64) : HP := sL (spP (sP (sN h o) a 8 (some o)) o (now - Int32.toInt64 e) (now + Int32.toInt64 e) 0) a 12 (now - Int32.toInt64 e)
def mbN (h : HP) (a o r : Nat) (num kind p e : Int32) (now : Int64) : HP := sP (sN (mb2 (mb1 h a num kind p e now) a o e now) r) a 9 (some r)
set_option maxRecDepth 100000 in
set_option maxHeartbeats 4000000 in
theorem ct_Member {g : GG} {h : HP} {Post : Option Value → HP → Prop} (a o r : Nat) (num kind p e : Int32) (now : Int64) (hk : kd a = 2) (hl : liv h a = true) (hko : kd o = 4) (hfo : liv h o = false) (hkr : kd r = 14) (hfr : liv h r = false) (hn : ln r = 10) (hp : Post none (mbN h a o r num kind p e now)) : CT g mX2_init [.ref a, .int num, .int kind, .int p, .int e, .long now] h Post := by
  show WP g mX2_init 0 [(0, .ref a), (1, .int num), (2, .int kind), (3, .int p), (4, .int e), (5, .long now)] [] h 0 0 Post
  refine wp_aload_n dX2_init_0 rfl 0 rfl ?_
  refine wp_obj dX2_init_1 mlX2_3 imObj cdObj (by decide) (Nat.le_of_ble_eq_true rfl) ?_
  refine wp_aload_n dX2_init_4 rfl 0 rfl ?_
  refine wp_iload_n dX2_init_5 rfl 1 rfl ?_
  refine wp_putI dX2_init_6 flX2_9 (Or.inr ⟨rfl, rfl, rfl⟩) rfl rfl rfl hk hl ?_
  refine wp_aload_n dX2_init_9 rfl 0 rfl ?_
  refine wp_iload_n dX2_init_10 rfl 2 rfl ?_
  refine wp_putI dX2_init_11 flX2_15 (Or.inr ⟨rfl, rfl, rfl⟩) rfl rfl rfl hk hl ?_
  refine wp_aload_n dX2_init_14 rfl 0 rfl ?_
  refine wp_iload_n dX2_init_15 rfl 3 rfl ?_
  refine wp_putI dX2_init_16 flX2_18 (Or.inr ⟨rfl, rfl, rfl⟩) rfl rfl rfl hk hl ?_
  refine wp_aload_n dX2_init_19 rfl 0 rfl ?_
  refine wp_iload dX2_init_20 4 rfl ?_
  refine wp_putI dX2_init_22 flX2_21 (Or.inr ⟨rfl, rfl, rfl⟩) rfl rfl rfl hk hl ?_
  refine wp_aload_n dX2_init_25 rfl 0 rfl ?_
  refine wp_pc (pc' := 26) rfl ?_
  refine wp_lload dX2_init_26 5 rfl ?_
  refine wp_putL dX2_init_28 flX2_24 (Or.inr ⟨rfl, rfl, rfl⟩) rfl hk hl ?_
  refine wp_aload_n dX2_init_31 rfl 0 rfl ?_
  refine wp_iconst (v := 1) dX2_init_32 (by decide) ?_
  refine wp_putI dX2_init_33 flX2_28 (Or.inl rfl) rfl rfl rfl hk hl ?_
  refine wp_aload_n dX2_init_36 rfl 0 rfl ?_
  refine wp_iconst (v := 1) dX2_init_37 (by decide) ?_
  refine wp_putI dX2_init_38 flX2_31 (Or.inl rfl) rfl rfl rfl hk hl ?_
  refine wp_aload_n dX2_init_41 rfl 0 rfl ?_
  refine wp_new o (c := 4) dX2_init_42 (by decide) clX2_34 nsX4 nzX4 hko hfo (by decide) (by decide) ?_
  refine wp_dup dX2_init_45 rfl ?_
  refine wp_callIN mX4_init o [] [.ref o, .ref a] dX2_init_46 iX4_init (fun _ => trivial) rfl rfl nlX2_36 imX4_init ⟨by decide, by decide⟩ rfl rfl (Nat.le_of_ble_eq_true rfl) (Nat.le_of_ble_eq_true rfl) (by decide) (by decide) ?_
  refine ct_Span o ?_
  show WP g mX2_init 49 [(0, .ref a), (1, .int num), (2, .int kind), (3, .int p), (4, .int e), (5, .long now)] [.ref o, .ref a] _ 1 4 _
  refine wp_putP dX2_init_49 flX2_37 (Or.inr ⟨rfl, rfl, rfl⟩) rfl hk (livN hl) ?_
  refine wp_aload_n dX2_init_52 rfl 0 rfl ?_
  refine wp_getP (b := o) dX2_init_53 flX2_37 rfl hk (livN hl) (by simp [vP, sI, sL, sP, up2]) ?_
  refine wp_pc (pc' := 56) rfl ?_
  refine wp_lload dX2_init_56 5 rfl ?_
  refine wp_iload dX2_init_58 4 rfl ?_
  refine wp_i2l dX2_init_60 ?_
  refine wp_lsub dX2_init_61 ?_
  refine wp_lload dX2_init_62 5 rfl ?_
  refine wp_iload dX2_init_64 4 rfl ?_
  refine wp_i2l dX2_init_66 ?_
  refine wp_ladd dX2_init_67 ?_
  refine wp_lconst (v := 0) dX2_init_68 rfl ?_
  refine wp_callV mX4_put o [.long (now - (Int32.toInt64 e)), .long (now + (Int32.toInt64 e)), .long 0] [] (c := 4) dX2_init_69 iX4_put (fun _ => trivial) mlX2_41 imX4_put seX4_put (by decide) rfl hko ⟨by decide, by decide⟩ rfl rfl (Nat.le_of_ble_eq_true rfl) (Nat.le_of_ble_eq_true rfl) (by decide) (by decide) ?_
  refine ct_put o (now - (Int32.toInt64 e)) (now + (Int32.toInt64 e)) 0 hko (liv_new _ o) ?_
  show WP g mX2_init 72 [(0, .ref a), (1, .int num), (2, .int kind), (3, .int p), (4, .int e), (5, .long now)] [] _ 1 4 _
  refine wp_aload_n dX2_init_72 rfl 0 rfl ?_
  refine wp_lload dX2_init_73 5 rfl ?_
  refine wp_iload dX2_init_75 4 rfl ?_
  refine wp_i2l dX2_init_77 ?_
  refine wp_lsub dX2_init_78 ?_
  refine wp_pc (pc' := 79) rfl ?_
  refine wp_putL dX2_init_79 flX2_45 (Or.inl rfl) rfl hk (livN hl) ?_
  refine wp_aload_n dX2_init_82 rfl 0 rfl ?_
  refine wp_bipush (v := 10) dX2_init_83 (by decide) ?_
  refine wp_newQ r (t := 14) dX2_init_85 (by decide) (by decide) clX2_34 hkr (by show liv (sN _ o) r = false; rw [liv_other (kd_ne hkr hko (by decide))]; exact hfr) (by decide) (by rw [hn]; rfl) (by rw [hn]; decide) (by decide) (by rw [hn]; decide) ?_
  refine wp_putP dX2_init_88 flX2_48 (Or.inr ⟨rfl, rfl, rfl⟩) rfl hk (livN (livN hl)) ?_
  refine wp_vret dX2_init_91 rfl (by decide) (by rw [hn]; decide) ?_
  exact hp
def uw (h : HP) (l : Nat) : Prop := vI h l 3 = 0 ∨ vI h l 3 = 1
set_option maxRecDepth 100000 in
set_option maxHeartbeats 4000000 in
theorem ct_isUnderWay {g : GG} {h : HP} {Post : Option Value → HP → Prop} (l : Nat) (hk : kd l = 1) (hl : liv h l = true) (hy : uw h l → Post (some (.int 1)) h) (hn : ¬ uw h l → Post (some (.int 0)) h) : CT g mX1_isUnderWay [.ref l] h Post := by
  show WP g mX1_isUnderWay 0 [(0, .ref l)] [] h 0 0 Post
  refine wp_aload_n dX1_isUnderWay_0 rfl 0 rfl ?_
  refine wp_getI dX1_isUnderWay_1 flX1_22 rfl hk hl ?_
  refine wp_if_eq (tgt := 15) dX1_isUnderWay_4 (by decide) (fun c_1 => ?_) (fun c_1 => ?_)
  · refine wp_iconst (v := 1) dX1_isUnderWay_15 (by decide) ?_
    refine wp_goto (tgt := 20) dX1_isUnderWay_16 (by decide) ?_
    refine wp_zret dX1_isUnderWay_20 rfl (by decide) (by decide) rfl ?_
    exact hy (Or.inl c_1)
  · refine wp_aload_n dX1_isUnderWay_7 rfl 0 rfl ?_
    refine wp_getI dX1_isUnderWay_8 flX1_22 rfl hk hl ?_
    refine wp_iconst (v := 1) dX1_isUnderWay_11 (by decide) ?_
    refine wp_icmp_ne (tgt := 19) dX1_isUnderWay_12 (by decide) (fun c_2 => ?_) (fun c_2 => ?_)
    · refine wp_iconst (v := 0) dX1_isUnderWay_19 (by decide) ?_
      refine wp_zret dX1_isUnderWay_20 rfl (by decide) (by decide) rfl ?_
      exact hn (fun q => q.elim c_1 c_2)
    · refine wp_iconst (v := 1) dX1_isUnderWay_15 (by decide) ?_
      refine wp_goto (tgt := 20) dX1_isUnderWay_16 (by decide) ?_
      refine wp_zret dX1_isUnderWay_20 rfl (by decide) (by decide) rfl ?_
      exact hy (Or.inr c_2)
theorem cCn_congr {h h' : HP} {a : Nat} {now : Int64} (e1 : vI h' a = vI h a) (e2 : vL h' a = vL h a) : cCn h' a now = cCn h a now := by unfold cCn; rw [e1, e2]
theorem cLo_congr {h h' : HP} {a o : Nat} {now : Int64} (e1 : vI h' a = vI h a) (e2 : vL h' a = vL h a) (e3 : vL h' o = vL h o) : cLo h' a o now = cLo h a o now := by unfold cLo sLo; rw [cCn_congr e1 e2, e1, e3]
theorem cHi_congr {h h' : HP} {a o : Nat} {now : Int64} (e1 : vI h' a = vI h a) (e2 : vL h' a = vL h a) (e3 : vL h' o = vL h o) : cHi h' a o now = cHi h a o now := by unfold cHi sHi; rw [cCn_congr e1 e2, e1, e3]
def tkH (h : HP) (l : Nat) (lo hi : Int64) : HP := sI (sI (sL (sL h l 5 lo) l 6 hi) l 4 1) l 3 1
def tak (h : HP) (l n o : Nat) (now : Int64) : HP := if vI h n 1 = 4 then tkH h l (vL h n 10) (vL h n 11) else tkH h l (cLo h n o now) (cHi h n o now)
set_option maxRecDepth 100000 in
set_option maxHeartbeats 4000000 in
theorem ct_takeAnswer {g : GG} {h : HP} {Post : Option Value → HP → Prop} (l n o : Nat) (now : Int64) (hk : kd l = 1) (hl : liv h l = true) (hm : vP h l 1 = some n) (hkn : kd n = 2) (hln : liv h n = true) (hno : vP h n 8 = some o) (hko : kd o = 4) (hlo : liv h o = true) (hp : Post none (tak h l n o now)) : CT g mX1_takeAnswer [.ref l, .long now] h Post := by
  show WP g mX1_takeAnswer 0 [(0, .ref l), (1, .long now)] [] h 0 0 Post
  refine wp_aload_n dX1_takeAnswer_0 rfl 0 rfl ?_
  refine wp_getP (b := n) dX1_takeAnswer_1 flX1_15 rfl hk hl hm ?_
  refine wp_getI dX1_takeAnswer_4 flX1_26 rfl hkn hln ?_
  refine wp_iconst (v := 4) dX1_takeAnswer_7 (by decide) ?_
  refine wp_icmp_ne (tgt := 15) dX1_takeAnswer_8 (by decide) (fun c_1 => ?_) (fun c_1 => ?_)
  · refine wp_iconst (v := 0) dX1_takeAnswer_15 (by decide) ?_
    refine wp_istore_n (lv' := [(3, .int 0), (0, .ref l), (1, .long now)]) dX1_takeAnswer_16 rfl (by decide) rfl ?_
    refine wp_aload_n dX1_takeAnswer_17 rfl 1 rfl ?_
    refine wp_iload_n dX1_takeAnswer_18 rfl 0 rfl ?_
    refine wp_if_eq (tgt := 32) dX1_takeAnswer_19 (by decide) (fun _ => ?_) (fun c_2 => absurd (by decide) c_2)
    refine wp_aload_n dX1_takeAnswer_32 rfl 1 rfl ?_
    refine wp_getP (b := n) dX1_takeAnswer_33 flX1_15 rfl hk hl hm ?_
    refine wp_lload_n dX1_takeAnswer_36 rfl 2 rfl ?_
    refine wp_callV mX2_lowAt n [.long now] [.ref l] (c := 2) dX1_takeAnswer_37 iX2_lowAt (fun _ => trivial) mlX1_34 imX2_lowAt seX2_lowAt (by decide) rfl hkn ⟨by decide, by decide⟩ rfl rfl (Nat.le_of_ble_eq_true rfl) (Nat.le_of_ble_eq_true rfl) (by decide) (by decide) ?_
    refine ct_lowAt n o now hkn hln hno hko hlo ?_
    show WP g mX1_takeAnswer 40 [(3, .int 0), (0, .ref l), (1, .long now)] [.long (cLo h n o now), .ref l] _ 0 0 _
    refine wp_putL dX1_takeAnswer_40 flX1_38 (Or.inl rfl) rfl hk hl ?_
    refine wp_aload_n dX1_takeAnswer_43 rfl 1 rfl ?_
    refine wp_iload_n dX1_takeAnswer_44 rfl 0 rfl ?_
    refine wp_if_eq (tgt := 58) dX1_takeAnswer_45 (by decide) (fun _ => ?_) (fun c_3 => absurd (by decide) c_3)
    refine wp_aload_n dX1_takeAnswer_58 rfl 1 rfl ?_
    refine wp_pc (pc' := 59) rfl ?_
    refine wp_getP (b := n) dX1_takeAnswer_59 flX1_15 rfl hk hl hm ?_
    refine wp_lload_n dX1_takeAnswer_62 rfl 2 rfl ?_
    refine wp_callV mX2_highAt n [.long now] [.ref l] (c := 2) dX1_takeAnswer_63 iX2_highAt (fun _ => trivial) mlX1_44 imX2_highAt seX2_highAt (by decide) rfl hkn ⟨by decide, by decide⟩ rfl rfl (Nat.le_of_ble_eq_true rfl) (Nat.le_of_ble_eq_true rfl) (by decide) (by decide) ?_
    refine ct_highAt n o now hkn hln hno hko hlo ?_
    rw [cHi_congr (h := h) (h' := sL h l 5 _) (a := n) (o := o) rfl (up2_ne (kd_ne hkn hk (by decide))) (up2_ne (kd_ne hko hk (by decide)))]
    show WP g mX1_takeAnswer 66 [(3, .int 0), (0, .ref l), (1, .long now)] [.long (cHi h n o now), .ref l] _ 0 0 _
    refine wp_putL dX1_takeAnswer_66 flX1_47 (Or.inl rfl) rfl hk hl ?_
    refine wp_aload_n dX1_takeAnswer_69 rfl 1 rfl ?_
    refine wp_iconst (v := 1) dX1_takeAnswer_70 (by decide) ?_
    refine wp_putI dX1_takeAnswer_71 flX1_50 (Or.inl rfl) rfl rfl rfl hk hl ?_
    refine wp_aload_n dX1_takeAnswer_74 rfl 1 rfl ?_
    refine wp_iconst (v := 1) dX1_takeAnswer_75 (by decide) ?_
    refine wp_putI dX1_takeAnswer_76 flX1_22 (Or.inl rfl) rfl rfl rfl hk hl ?_
    refine wp_vret dX1_takeAnswer_79 rfl (by decide) (by decide) ?_
    have q := hp
    unfold tak at q
    rw [if_neg c_1] at q
    exact q
  · refine wp_iconst (v := 1) dX1_takeAnswer_11 (by decide) ?_
    refine wp_goto (tgt := 16) dX1_takeAnswer_12 (by decide) ?_
    refine wp_istore_n (lv' := [(3, .int 1), (0, .ref l), (1, .long now)]) dX1_takeAnswer_16 rfl (by decide) rfl ?_
    refine wp_aload_n dX1_takeAnswer_17 rfl 1 rfl ?_
    refine wp_iload_n dX1_takeAnswer_18 rfl 0 rfl ?_
    refine wp_if_eq (tgt := 32) dX1_takeAnswer_19 (by decide) (fun c_4 => absurd c_4 (by decide)) (fun _ => ?_)
    refine wp_aload_n dX1_takeAnswer_22 rfl 1 rfl ?_
    refine wp_getP (b := n) dX1_takeAnswer_23 flX1_15 rfl hk hl hm ?_
    refine wp_getL dX1_takeAnswer_26 flX1_31 rfl hkn hln ?_
    refine wp_goto (tgt := 40) dX1_takeAnswer_29 (by decide) ?_
    refine wp_putL dX1_takeAnswer_40 flX1_38 (Or.inl rfl) rfl hk hl ?_
    refine wp_aload_n dX1_takeAnswer_43 rfl 1 rfl ?_
    refine wp_iload_n dX1_takeAnswer_44 rfl 0 rfl ?_
    refine wp_if_eq (tgt := 58) dX1_takeAnswer_45 (by decide) (fun c_5 => absurd c_5 (by decide)) (fun _ => ?_)
    refine wp_pc (pc' := 48) rfl ?_
    refine wp_aload_n dX1_takeAnswer_48 rfl 1 rfl ?_
    refine wp_getP (b := n) dX1_takeAnswer_49 flX1_15 rfl hk hl hm ?_
    refine wv_getL (vL h n 11) dX1_takeAnswer_52 flX1_41 rfl hkn hln (congrFun (up2_ne (kd_ne hkn hk (by decide))) 11) ?_
    refine wp_goto (tgt := 66) dX1_takeAnswer_55 (by decide) ?_
    refine wp_putL dX1_takeAnswer_66 flX1_47 (Or.inl rfl) rfl hk hl ?_
    refine wp_aload_n dX1_takeAnswer_69 rfl 1 rfl ?_
    refine wp_iconst (v := 1) dX1_takeAnswer_70 (by decide) ?_
    refine wp_putI dX1_takeAnswer_71 flX1_50 (Or.inl rfl) rfl rfl rfl hk hl ?_
    refine wp_aload_n dX1_takeAnswer_74 rfl 1 rfl ?_
    refine wp_iconst (v := 1) dX1_takeAnswer_75 (by decide) ?_
    refine wp_putI dX1_takeAnswer_76 flX1_22 (Or.inl rfl) rfl rfl rfl hk hl ?_
    refine wp_vret dX1_takeAnswer_79 rfl (by decide) (by decide) ?_
    have q := hp
    unfold tak at q
    rw [if_pos c_1] at q
    exact q
def brg (h : HP) (l m r j b0 : Nat) (now : Int64) : HP := sI (heaH h r j b0 (vL h l 5) (vL h l 6 + aMo (cCn h m now - vL h l 2) (vI h m 2)) (cCn h m now)) l 3 2
theorem heaH_liv {h : HP} {r j b0 : Nat} {lo hi c : Int64} {a : Nat} (hl : liv h a = true) : liv (heaH h r j b0 lo hi c) a = true := by
  unfold heaH
  split
  · exact livN hl
  · exact hl
set_option maxRecDepth 100000 in
set_option maxHeartbeats 4000000 in
theorem ct_bringBack {g : GG} {h : HP} {Post : Option Value → HP → Prop} (l m n r j b0 : Nat) (now : Int64) (hkl : kd l = 1) (hll : liv h l = true) (hma : vP h l 0 = some m) (hna : vP h l 1 = some n) (hkn : kd n = 2) (hln : liv h n = true) (hnum : vI h n 0 = nI j) (hk : kd m = 2) (hl : liv h m = true) (hr : vP h m 9 = some r) (hkr : kd r = 14) (hlr : liv h r = true) (hn : ln r = 10) (hj : j < 10) (hb : ∀ b, vP h r j = some b → kd b = 4 ∧ liv h b = true) (hb0 : vP h r j = none → kd b0 = 4 ∧ liv h b0 = false) (hp : Post none (brg h l m r j b0 now)) : CT g mX1_bringBack [.ref l, .long now] h Post := by
  show WP g mX1_bringBack 0 [(0, .ref l), (1, .long now)] [] h 0 0 Post
  refine wp_aload_n dX1_bringBack_0 rfl 0 rfl ?_
  refine wp_getP (b := m) dX1_bringBack_1 flX1_9 rfl hkl hll hma ?_
  refine wp_lload_n dX1_bringBack_4 rfl 1 rfl ?_
  refine wp_callV mX2_countedAt m [.long now] [] (c := 2) dX1_bringBack_5 iX2_countedAt (fun _ => trivial) mlX1_54 imX2_countedAt seX2_countedAt (by decide) rfl hk ⟨by decide, by decide⟩ rfl rfl (Nat.le_of_ble_eq_true rfl) (Nat.le_of_ble_eq_true rfl) (by decide) (by decide) ?_
  refine ct_countedAt m now hk hl ?_
  show WP g mX1_bringBack 8 [(0, .ref l), (1, .long now)] [.long (cCn h m now)] _ 0 0 _
  refine wp_lstore_n (lv' := [(3, .long (cCn h m now)), (0, .ref l), (1, .long now)]) dX1_bringBack_8 rfl (by decide) rfl ?_
  refine wp_aload_n dX1_bringBack_9 rfl 1 rfl ?_
  refine wp_getP (b := m) dX1_bringBack_10 flX1_9 rfl hkl hll hma ?_
  refine wp_aload_n dX1_bringBack_13 rfl 1 rfl ?_
  refine wp_getP (b := n) dX1_bringBack_14 flX1_15 rfl hkl hll hna ?_
  refine wv_getI (nI j) dX1_bringBack_17 flX1_57 rfl hkn hln hnum ?_
  refine wp_aload_n dX1_bringBack_20 rfl 1 rfl ?_
  refine wp_getL dX1_bringBack_21 flX1_38 rfl hkl hll ?_
  refine wp_aload_n dX1_bringBack_24 rfl 1 rfl ?_
  refine wp_getL dX1_bringBack_25 flX1_47 rfl hkl hll ?_
  refine wp_lload_n dX1_bringBack_28 rfl 0 rfl ?_
  refine wp_pc (pc' := 29) rfl ?_
  refine wp_aload_n dX1_bringBack_29 rfl 1 rfl ?_
  refine wp_getL dX1_bringBack_30 flX1_18 rfl hkl hll ?_
  refine wp_lsub dX1_bringBack_33 ?_
  refine wp_aload_n dX1_bringBack_34 rfl 1 rfl ?_
  refine wp_getP (b := m) dX1_bringBack_35 flX1_9 rfl hkl hll hma ?_
  refine wp_getI dX1_bringBack_38 flX1_60 rfl hk hl ?_
  refine wp_callSN mX6_atMost [.long ((cCn h m now) - (vL h l 2)), .int (vI h m 2)] [.long (vL h l 6), .long (vL h l 5), .int (nI j), .ref m] dX1_bringBack_41 iX6_atMost (fun _ => trivial) nlX1_63 stX6_atMost ⟨by decide, by decide⟩ rfl rfl (Nat.le_of_ble_eq_true rfl) (Nat.le_of_ble_eq_true rfl) (by decide) (by decide) ?_
  refine ct_atMost ((cCn h m now) - (vL h l 2)) (vI h m 2)  ?_
  show WP g mX1_bringBack 44 [(3, .long (cCn h m now)), (0, .ref l), (1, .long now)] [.long (aMo ((cCn h m now) - (vL h l 2)) (vI h m 2)), .long (vL h l 6), .long (vL h l 5), .int (nI j), .ref m] _ 0 0 _
  refine wp_ladd dX1_bringBack_44 ?_
  refine wp_lload_n dX1_bringBack_45 rfl 0 rfl ?_
  refine wp_callV mX2_hear m [.int (nI j), .long (vL h l 5), .long ((vL h l 6) + (aMo ((cCn h m now) - (vL h l 2)) (vI h m 2))), .long (cCn h m now)] [] (c := 2) dX1_bringBack_46 iX2_hear (fun _ => trivial) mlX1_67 imX2_hear seX2_hear (by decide) rfl hk ⟨by decide, by decide⟩ rfl rfl (Nat.le_of_ble_eq_true rfl) (Nat.le_of_ble_eq_true rfl) (by decide) (by decide) ?_
  refine ct_hear m r j b0 (vL h l 5) ((vL h l 6) + (aMo ((cCn h m now) - (vL h l 2)) (vI h m 2))) (cCn h m now) hk hl hr hkr hlr hn hj hb hb0 ?_
  show WP g mX1_bringBack 49 [(3, .long (cCn h m now)), (0, .ref l), (1, .long now)] [] _ 1 4 _
  refine wp_aload_n dX1_bringBack_49 rfl 1 rfl ?_
  refine wp_iconst (v := 2) dX1_bringBack_50 (by decide) ?_
  refine wp_putI dX1_bringBack_51 flX1_22 (Or.inl rfl) rfl rfl rfl hkl (heaH_liv hll) ?_
  refine wp_vret dX1_bringBack_54 rfl (by decide) (by decide) ?_
  exact hp
