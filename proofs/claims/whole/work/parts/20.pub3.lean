/-! contracts: the council's own methods, third part -/
set_option maxRecDepth 100000 in
set_option maxHeartbeats 4000000 in
theorem ct_lead0 {g : GG} {h : HP} {Post : Option Value → HP → Prop} (ld : Int32) (nm : Nat) (x : Int32) (hr : SR h) (hM : SM h nm) (hx : ¬ inR x nm) (hp : Post (some (.long (-9000000000000000000))) h) : CT g mX6_lead [.ref 1, .int x, .int ld] h Post := by
  show WP g mX6_lead 0 [(0, .ref 1), (1, .int x), (2, .int ld)] [] h 0 0 Post
  refine wp_aload_n dX6_lead_0 rfl 0 rfl ?_
  refine wp_iload_n dX6_lead_1 rfl 1 rfl ?_
  refine wp_callV mX6_findMember 1 [.int x] [] (c := 6) dX6_lead_2 iX6_findMember (fun _ => trivial) mlX6_64 imX6_findMember seX6_findMember (by decide) rfl rfl ⟨by decide, by decide⟩ rfl rfl (Nat.le_of_ble_eq_true rfl) (Nat.le_of_ble_eq_true rfl) (by decide) (by decide) ?_
  refine ct_findMember0 nm x hr hM.2.1 (by have := hM.1; omega) hx ?_
  show WP g mX6_lead 5 [(0, .ref 1), (1, .int x), (2, .int ld)] [.null] _ 0 0 _
  refine wp_astore_nN (lv' := [(3, .null), (0, .ref 1), (1, .int x), (2, .int ld)]) dX6_lead_5 rfl (by decide) rfl ?_
  refine wp_aload_nN dX6_lead_6 rfl 0 rfl ?_
  refine wp_ifnullN (tgt := 28) dX6_lead_7 (by decide) ?_
  refine wp_ldc2 dX6_lead_28 cnX6_58 ?_
  refine wp_lret dX6_lead_31 rfl (by decide) (by decide) ?_
  exact hp
def okLd (h : HP) (a : Nat) (ld : Int32) : Prop := 0 ≤ ld.toInt ∧ ld.toInt ≤ 1000 ∧ (vI h a 7).toInt = 0
def ldG (h : HP) (a : Nat) (now : Int64) : Int64 := cCn h a now - vL h a 13
def ldK (h : HP) (a : Nat) (now : Int64) (ld : Int32) : Int64 := floO (ldG h a now * Int32.toInt64 ld) 1000
def ldS (h : HP) (a o : Nat) (now : Int64) (ld : Int32) : Int64 := vL h a 12 + mn64 (mx64 (floO (cLo h a o now + cHi h a o now) 2 - vL h a 12) (ldG h a now - ldK h a now ld)) (ldG h a now + ldK h a now ld)
set_option maxRecDepth 100000 in
set_option maxHeartbeats 4000000 in
theorem ct_lead {g : GG} {h : HP} {Post : Option Value → HP → Prop} (nm i : Nat) (hr : SR h) (hM : SM h nm) (hi : i < nm) (ld : Int32) (hno : ¬ okLd h (1000 + i) ld → Post (some (.long (-9000000000000000000))) h) (hyes : okLd h (1000 + i) ld → Post (some (.long (ldS h (1000 + i) (2000 + i) (vL h 1 0) ld))) (sL (sL h (1000 + i) 12 (ldS h (1000 + i) (2000 + i) (vL h 1 0) ld)) (1000 + i) 13 (cCn h (1000 + i) (vL h 1 0)))) : CT g mX6_lead [.ref 1, .int (nI i), .int ld] h Post := by
  show WP g mX6_lead 0 [(0, .ref 1), (1, .int (nI i)), (2, .int ld)] [] h 0 0 Post
  have hnm := hM.1
  have hc2 := hM.2.1
  obtain ⟨he, hl, hlo, hlr, ho, h9, hnum, hbs, hbn⟩ := hM.2.2.1 i hi
  have hk : kd (1000 + i) = 2 := kd_mem (by omega)
  have hko : kd (2000 + i) = 4 := kd_own (by omega)
  have hkr : kd (3000 + i) = 14 := kd_arr (by omega)
  refine wp_aload_n dX6_lead_0 rfl 0 rfl ?_
  refine wp_iload_n dX6_lead_1 rfl 1 rfl ?_
  refine wp_callV mX6_findMember 1 [.int (nI i)] [] (c := 6) dX6_lead_2 iX6_findMember (fun _ => trivial) mlX6_64 imX6_findMember seX6_findMember (by decide) rfl rfl ⟨by decide, by decide⟩ rfl rfl (Nat.le_of_ble_eq_true rfl) (Nat.le_of_ble_eq_true rfl) (by decide) (by decide) ?_
  refine ct_findMember nm i hr hc2 hnm hi he ?_
  show WP g mX6_lead 5 [(0, .ref 1), (1, .int (nI i)), (2, .int ld)] [.ref (1000 + i)] _ 0 0 _
  refine wp_astore_n (lv' := [(3, .ref (1000 + i)), (0, .ref 1), (1, .int (nI i)), (2, .int ld)]) dX6_lead_5 rfl (by decide) rfl ?_
  refine wp_aload_n dX6_lead_6 rfl 0 rfl ?_
  refine wp_ifnull dX6_lead_7 ?_
  refine wp_iload_n dX6_lead_10 rfl 3 rfl ?_
  refine wi_if_lt (tgt := 28) (Int32.toInt ld) rfl dX6_lead_11 (by decide) (fun c_1 => ?_) (fun c_1 => ?_)
  · refine wp_ldc2 dX6_lead_28 cnX6_58 ?_
    refine wp_lret dX6_lead_31 rfl (by decide) (by decide) ?_
    exact hno (fun q => by unfold okLd at q; omega)
  · refine wp_iload_n dX6_lead_14 rfl 3 rfl ?_
    refine wp_sipush (v := 1000) dX6_lead_15 (by decide) ?_
    refine wi_icmp_gt (tgt := 28) (Int32.toInt ld) (1000) rfl (by decide) dX6_lead_18 (by decide) (fun c_2 => ?_) (fun c_2 => ?_)
    · refine wp_ldc2 dX6_lead_28 cnX6_58 ?_
      refine wp_lret dX6_lead_31 rfl (by decide) (by decide) ?_
      exact hno (fun q => by unfold okLd at q; omega)
    · refine wp_aload_n dX6_lead_21 rfl 0 rfl ?_
      refine wp_getI dX6_lead_22 flX6_105 rfl hk hl ?_
      refine wi_if_eq (tgt := 32) (Int32.toInt (vI h (1000 + i) 7)) rfl dX6_lead_25 (by decide) (fun c_3 => ?_) (fun c_3 => ?_)
      · refine wp_aload_n dX6_lead_32 rfl 0 rfl ?_
        refine wp_aload_n dX6_lead_33 rfl 1 rfl ?_
        refine wp_getL dX6_lead_34 flX6_7 rfl rfl hr.1 ?_
        refine wp_callV mX2_countedAt (1000 + i) [.long (vL h 1 0)] [] (c := 2) dX6_lead_37 iX2_countedAt (fun _ => trivial) mlX6_109 imX2_countedAt seX2_countedAt (by decide) rfl hk ⟨by decide, by decide⟩ rfl rfl (Nat.le_of_ble_eq_true rfl) (Nat.le_of_ble_eq_true rfl) (by decide) (by decide) ?_
        refine ct_countedAt (1000 + i) (vL h 1 0) hk hl ?_
        show WP g mX6_lead 40 [(3, .ref (1000 + i)), (0, .ref 1), (1, .int (nI i)), (2, .int ld)] [.long (cCn h (1000 + i) (vL h 1 0))] _ 0 0 _
        refine wp_lstore (lv' := [(4, .long (cCn h (1000 + i) (vL h 1 0))), (3, .ref (1000 + i)), (0, .ref 1), (1, .int (nI i)), (2, .int ld)]) dX6_lead_40 (by decide) rfl ?_
        refine wp_lload dX6_lead_42 0 rfl ?_
        refine wp_aload_n dX6_lead_44 rfl 1 rfl ?_
        refine wp_getL dX6_lead_45 flX6_237 rfl hk hl ?_
        refine wp_lsub dX6_lead_48 ?_
        refine wp_lstore (lv' := [(6, .long ((cCn h (1000 + i) (vL h 1 0)) - (vL h (1000 + i) 13))), (4, .long (cCn h (1000 + i) (vL h 1 0))), (3, .ref (1000 + i)), (0, .ref 1), (1, .int (nI i)), (2, .int ld)]) dX6_lead_49 (by decide) rfl ?_
        refine wp_lload dX6_lead_51 0 rfl ?_
        refine wp_iload_n dX6_lead_53 rfl 5 rfl ?_
        refine wp_i2l dX6_lead_54 ?_
        refine wp_lmul dX6_lead_55 ?_
        refine wp_pc (pc' := 56) rfl ?_
        refine wp_ldc2 dX6_lead_56 cnX6_83 ?_
        refine wp_callS mX6_floorOf [.long (((cCn h (1000 + i) (vL h 1 0)) - (vL h (1000 + i) 13)) * (Int32.toInt64 ld)), .long 1000] [] dX6_lead_59 iX6_floorOf (fun _ => trivial) mlX6_240 stX6_floorOf ⟨by decide, by decide⟩ rfl rfl (Nat.le_of_ble_eq_true rfl) (Nat.le_of_ble_eq_true rfl) (by decide) (by decide) ?_
        refine ct_floorOf (((cCn h (1000 + i) (vL h 1 0)) - (vL h (1000 + i) 13)) * (Int32.toInt64 ld)) 1000  ?_
        show WP g mX6_lead 62 [(6, .long ((cCn h (1000 + i) (vL h 1 0)) - (vL h (1000 + i) 13))), (4, .long (cCn h (1000 + i) (vL h 1 0))), (3, .ref (1000 + i)), (0, .ref 1), (1, .int (nI i)), (2, .int ld)] [.long (floO (((cCn h (1000 + i) (vL h 1 0)) - (vL h (1000 + i) 13)) * (Int32.toInt64 ld)) 1000)] _ 0 0 _
        refine wp_lstore (lv' := [(8, .long (floO (((cCn h (1000 + i) (vL h 1 0)) - (vL h (1000 + i) 13)) * (Int32.toInt64 ld)) 1000)), (6, .long ((cCn h (1000 + i) (vL h 1 0)) - (vL h (1000 + i) 13))), (4, .long (cCn h (1000 + i) (vL h 1 0))), (3, .ref (1000 + i)), (0, .ref 1), (1, .int (nI i)), (2, .int ld)]) dX6_lead_62 (by decide) rfl ?_
        refine wp_aload_n dX6_lead_64 rfl 3 rfl ?_
        refine wp_aload_n dX6_lead_65 rfl 4 rfl ?_
        refine wp_getL dX6_lead_66 flX6_7 rfl rfl hr.1 ?_
        refine wp_callV mX2_lowAt (1000 + i) [.long (vL h 1 0)] [] (c := 2) dX6_lead_69 iX2_lowAt (fun _ => trivial) mlX6_112 imX2_lowAt seX2_lowAt (by decide) rfl hk ⟨by decide, by decide⟩ rfl rfl (Nat.le_of_ble_eq_true rfl) (Nat.le_of_ble_eq_true rfl) (by decide) (by decide) ?_
        refine ct_lowAt (1000 + i) (2000 + i) (vL h 1 0) hk hl ho hko hlo ?_
        show WP g mX6_lead 72 [(8, .long (floO (((cCn h (1000 + i) (vL h 1 0)) - (vL h (1000 + i) 13)) * (Int32.toInt64 ld)) 1000)), (6, .long ((cCn h (1000 + i) (vL h 1 0)) - (vL h (1000 + i) 13))), (4, .long (cCn h (1000 + i) (vL h 1 0))), (3, .ref (1000 + i)), (0, .ref 1), (1, .int (nI i)), (2, .int ld)] [.long (cLo h (1000 + i) (2000 + i) (vL h 1 0))] _ 0 0 _
        refine wp_aload_n dX6_lead_72 rfl 3 rfl ?_
        refine wp_aload_n dX6_lead_73 rfl 4 rfl ?_
        refine wp_getL dX6_lead_74 flX6_7 rfl rfl hr.1 ?_
        refine wp_callV mX2_highAt (1000 + i) [.long (vL h 1 0)] [.long (cLo h (1000 + i) (2000 + i) (vL h 1 0))] (c := 2) dX6_lead_77 iX2_highAt (fun _ => trivial) mlX6_115 imX2_highAt seX2_highAt (by decide) rfl hk ⟨by decide, by decide⟩ rfl rfl (Nat.le_of_ble_eq_true rfl) (Nat.le_of_ble_eq_true rfl) (by decide) (by decide) ?_
        refine ct_highAt (1000 + i) (2000 + i) (vL h 1 0) hk hl ho hko hlo ?_
        show WP g mX6_lead 80 [(8, .long (floO (((cCn h (1000 + i) (vL h 1 0)) - (vL h (1000 + i) 13)) * (Int32.toInt64 ld)) 1000)), (6, .long ((cCn h (1000 + i) (vL h 1 0)) - (vL h (1000 + i) 13))), (4, .long (cCn h (1000 + i) (vL h 1 0))), (3, .ref (1000 + i)), (0, .ref 1), (1, .int (nI i)), (2, .int ld)] [.long (cHi h (1000 + i) (2000 + i) (vL h 1 0)), .long (cLo h (1000 + i) (2000 + i) (vL h 1 0))] _ 0 0 _
        refine wp_ladd dX6_lead_80 ?_
        refine wp_ldc2 dX6_lead_81 cnX6_163 ?_
        refine wp_callS mX6_floorOf [.long ((cLo h (1000 + i) (2000 + i) (vL h 1 0)) + (cHi h (1000 + i) (2000 + i) (vL h 1 0))), .long 2] [] dX6_lead_84 iX6_floorOf (fun _ => trivial) mlX6_240 stX6_floorOf ⟨by decide, by decide⟩ rfl rfl (Nat.le_of_ble_eq_true rfl) (Nat.le_of_ble_eq_true rfl) (by decide) (by decide) ?_
        refine ct_floorOf ((cLo h (1000 + i) (2000 + i) (vL h 1 0)) + (cHi h (1000 + i) (2000 + i) (vL h 1 0))) 2  ?_
        show WP g mX6_lead 87 [(8, .long (floO (((cCn h (1000 + i) (vL h 1 0)) - (vL h (1000 + i) 13)) * (Int32.toInt64 ld)) 1000)), (6, .long ((cCn h (1000 + i) (vL h 1 0)) - (vL h (1000 + i) 13))), (4, .long (cCn h (1000 + i) (vL h 1 0))), (3, .ref (1000 + i)), (0, .ref 1), (1, .int (nI i)), (2, .int ld)] [.long (floO ((cLo h (1000 + i) (2000 + i) (vL h 1 0)) + (cHi h (1000 + i) (2000 + i) (vL h 1 0))) 2)] _ 0 0 _
        refine wp_lstore (lv' := [(10, .long (floO ((cLo h (1000 + i) (2000 + i) (vL h 1 0)) + (cHi h (1000 + i) (2000 + i) (vL h 1 0))) 2)), (8, .long (floO (((cCn h (1000 + i) (vL h 1 0)) - (vL h (1000 + i) 13)) * (Int32.toInt64 ld)) 1000)), (6, .long ((cCn h (1000 + i) (vL h 1 0)) - (vL h (1000 + i) 13))), (4, .long (cCn h (1000 + i) (vL h 1 0))), (3, .ref (1000 + i)), (0, .ref 1), (1, .int (nI i)), (2, .int ld)]) dX6_lead_87 (by decide) rfl ?_
        refine wp_pc (pc' := 89) rfl ?_
        refine wp_lload dX6_lead_89 0 rfl ?_
        refine wp_aload_n dX6_lead_91 rfl 4 rfl ?_
        refine wp_getL dX6_lead_92 flX6_118 rfl hk hl ?_
        refine wp_lsub dX6_lead_95 ?_
        refine wp_lload dX6_lead_96 2 rfl ?_
        refine wp_lload dX6_lead_98 1 rfl ?_
        refine wp_lsub dX6_lead_100 ?_
        refine wp_callS mJ9_max_f86c9 [.long ((floO ((cLo h (1000 + i) (2000 + i) (vL h 1 0)) + (cHi h (1000 + i) (2000 + i) (vL h 1 0))) 2) - (vL h (1000 + i) 12)), .long (((cCn h (1000 + i) (vL h 1 0)) - (vL h (1000 + i) 13)) - (floO (((cCn h (1000 + i) (vL h 1 0)) - (vL h (1000 + i) 13)) * (Int32.toInt64 ld)) 1000))] [] dX6_lead_101 iJ9_max_f86c9 (fun _ => trivial) mlX6_244 stJ9_max_f86c9 ⟨by decide, by decide⟩ rfl rfl (Nat.le_of_ble_eq_true rfl) (Nat.le_of_ble_eq_true rfl) (by decide) (by decide) ?_
        refine ct_max ((floO ((cLo h (1000 + i) (2000 + i) (vL h 1 0)) + (cHi h (1000 + i) (2000 + i) (vL h 1 0))) 2) - (vL h (1000 + i) 12)) (((cCn h (1000 + i) (vL h 1 0)) - (vL h (1000 + i) 13)) - (floO (((cCn h (1000 + i) (vL h 1 0)) - (vL h (1000 + i) 13)) * (Int32.toInt64 ld)) 1000))  ?_
        show WP g mX6_lead 104 [(10, .long (floO ((cLo h (1000 + i) (2000 + i) (vL h 1 0)) + (cHi h (1000 + i) (2000 + i) (vL h 1 0))) 2)), (8, .long (floO (((cCn h (1000 + i) (vL h 1 0)) - (vL h (1000 + i) 13)) * (Int32.toInt64 ld)) 1000)), (6, .long ((cCn h (1000 + i) (vL h 1 0)) - (vL h (1000 + i) 13))), (4, .long (cCn h (1000 + i) (vL h 1 0))), (3, .ref (1000 + i)), (0, .ref 1), (1, .int (nI i)), (2, .int ld)] [.long (mx64 ((floO ((cLo h (1000 + i) (2000 + i) (vL h 1 0)) + (cHi h (1000 + i) (2000 + i) (vL h 1 0))) 2) - (vL h (1000 + i) 12)) (((cCn h (1000 + i) (vL h 1 0)) - (vL h (1000 + i) 13)) - (floO (((cCn h (1000 + i) (vL h 1 0)) - (vL h (1000 + i) 13)) * (Int32.toInt64 ld)) 1000)))] _ 0 0 _
        refine wp_lload dX6_lead_104 2 rfl ?_
        refine wp_lload dX6_lead_106 1 rfl ?_
        refine wp_ladd dX6_lead_108 ?_
        refine wp_callS mJ9_min_f86c9 [.long (mx64 ((floO ((cLo h (1000 + i) (2000 + i) (vL h 1 0)) + (cHi h (1000 + i) (2000 + i) (vL h 1 0))) 2) - (vL h (1000 + i) 12)) (((cCn h (1000 + i) (vL h 1 0)) - (vL h (1000 + i) 13)) - (floO (((cCn h (1000 + i) (vL h 1 0)) - (vL h (1000 + i) 13)) * (Int32.toInt64 ld)) 1000))), .long (((cCn h (1000 + i) (vL h 1 0)) - (vL h (1000 + i) 13)) + (floO (((cCn h (1000 + i) (vL h 1 0)) - (vL h (1000 + i) 13)) * (Int32.toInt64 ld)) 1000))] [] dX6_lead_109 iJ9_min_f86c9 (fun _ => trivial) mlX6_247 stJ9_min_f86c9 ⟨by decide, by decide⟩ rfl rfl (Nat.le_of_ble_eq_true rfl) (Nat.le_of_ble_eq_true rfl) (by decide) (by decide) ?_
        refine ct_min (mx64 ((floO ((cLo h (1000 + i) (2000 + i) (vL h 1 0)) + (cHi h (1000 + i) (2000 + i) (vL h 1 0))) 2) - (vL h (1000 + i) 12)) (((cCn h (1000 + i) (vL h 1 0)) - (vL h (1000 + i) 13)) - (floO (((cCn h (1000 + i) (vL h 1 0)) - (vL h (1000 + i) 13)) * (Int32.toInt64 ld)) 1000))) (((cCn h (1000 + i) (vL h 1 0)) - (vL h (1000 + i) 13)) + (floO (((cCn h (1000 + i) (vL h 1 0)) - (vL h (1000 + i) 13)) * (Int32.toInt64 ld)) 1000))  ?_
        show WP g mX6_lead 112 [(10, .long (floO ((cLo h (1000 + i) (2000 + i) (vL h 1 0)) + (cHi h (1000 + i) (2000 + i) (vL h 1 0))) 2)), (8, .long (floO (((cCn h (1000 + i) (vL h 1 0)) - (vL h (1000 + i) 13)) * (Int32.toInt64 ld)) 1000)), (6, .long ((cCn h (1000 + i) (vL h 1 0)) - (vL h (1000 + i) 13))), (4, .long (cCn h (1000 + i) (vL h 1 0))), (3, .ref (1000 + i)), (0, .ref 1), (1, .int (nI i)), (2, .int ld)] [.long (mn64 (mx64 ((floO ((cLo h (1000 + i) (2000 + i) (vL h 1 0)) + (cHi h (1000 + i) (2000 + i) (vL h 1 0))) 2) - (vL h (1000 + i) 12)) (((cCn h (1000 + i) (vL h 1 0)) - (vL h (1000 + i) 13)) - (floO (((cCn h (1000 + i) (vL h 1 0)) - (vL h (1000 + i) 13)) * (Int32.toInt64 ld)) 1000))) (((cCn h (1000 + i) (vL h 1 0)) - (vL h (1000 + i) 13)) + (floO (((cCn h (1000 + i) (vL h 1 0)) - (vL h (1000 + i) 13)) * (Int32.toInt64 ld)) 1000)))] _ 0 0 _
        refine wp_lstore (lv' := [(12, .long (mn64 (mx64 ((floO ((cLo h (1000 + i) (2000 + i) (vL h 1 0)) + (cHi h (1000 + i) (2000 + i) (vL h 1 0))) 2) - (vL h (1000 + i) 12)) (((cCn h (1000 + i) (vL h 1 0)) - (vL h (1000 + i) 13)) - (floO (((cCn h (1000 + i) (vL h 1 0)) - (vL h (1000 + i) 13)) * (Int32.toInt64 ld)) 1000))) (((cCn h (1000 + i) (vL h 1 0)) - (vL h (1000 + i) 13)) + (floO (((cCn h (1000 + i) (vL h 1 0)) - (vL h (1000 + i) 13)) * (Int32.toInt64 ld)) 1000)))), (10, .long (floO ((cLo h (1000 + i) (2000 + i) (vL h 1 0)) + (cHi h (1000 + i) (2000 + i) (vL h 1 0))) 2)), (8, .long (floO (((cCn h (1000 + i) (vL h 1 0)) - (vL h (1000 + i) 13)) * (Int32.toInt64 ld)) 1000)), (6, .long ((cCn h (1000 + i) (vL h 1 0)) - (vL h (1000 + i) 13))), (4, .long (cCn h (1000 + i) (vL h 1 0))), (3, .ref (1000 + i)), (0, .ref 1), (1, .int (nI i)), (2, .int ld)]) dX6_lead_112 (by decide) rfl ?_
        refine wp_aload_n dX6_lead_114 rfl 5 rfl ?_
        refine wp_dup dX6_lead_115 rfl ?_
        refine wp_pc (pc' := 116) rfl ?_
        refine wp_getL dX6_lead_116 flX6_118 rfl hk hl ?_
        refine wp_lload dX6_lead_119 0 rfl ?_
        refine wp_ladd dX6_lead_121 ?_
        refine wp_putL dX6_lead_122 flX6_118 (Or.inl rfl) rfl hk hl ?_
        refine wp_aload_n dX6_lead_125 rfl 5 rfl ?_
        refine wp_lload dX6_lead_126 4 rfl ?_
        refine wp_putL dX6_lead_128 flX6_237 (Or.inl rfl) rfl hk hl ?_
        refine wp_aload_n dX6_lead_131 rfl 5 rfl ?_
        refine wv_getL ((vL h (1000 + i) 12) + (mn64 (mx64 ((floO ((cLo h (1000 + i) (2000 + i) (vL h 1 0)) + (cHi h (1000 + i) (2000 + i) (vL h 1 0))) 2) - (vL h (1000 + i) 12)) (((cCn h (1000 + i) (vL h 1 0)) - (vL h (1000 + i) 13)) - (floO (((cCn h (1000 + i) (vL h 1 0)) - (vL h (1000 + i) 13)) * (Int32.toInt64 ld)) 1000))) (((cCn h (1000 + i) (vL h 1 0)) - (vL h (1000 + i) 13)) + (floO (((cCn h (1000 + i) (vL h 1 0)) - (vL h (1000 + i) 13)) * (Int32.toInt64 ld)) 1000)))) dX6_lead_132 flX6_118 rfl hk hl (by simp [vI, vL, vP, sI, sL, sP, up2]) ?_
        refine wp_lret dX6_lead_135 rfl (by decide) (by decide) ?_
        exact hyes (by unfold okLd; omega)
      · refine wp_ldc2 dX6_lead_28 cnX6_58 ?_
        refine wp_lret dX6_lead_31 rfl (by decide) (by decide) ?_
        exact hno (fun q => by unfold okLd at q; omega)
def spH (h : HP) (ns i : Nat) (r : Int32) : HP := sI (sP (stN (sN h (6000 + ns)) (6000 + ns) (cLo h (1000 + i) (2000 + i) (vL h 1 0)) (cHi h (1000 + i) (2000 + i) (vL h 1 0)) (nI i) r) 4 ns (some (6000 + ns))) 1 6 (nI (ns + 1))
theorem cHo_cong2 {h h' : HP} {a o : Nat} {now : Int64} (e1 : vI h' a = vI h a) (e2 : vL h' a = vL h a) (e3 : vL h' o = vL h o) : cHo h' a o now = cHo h a o now := by unfold cHo; rw [cLo_congr e1 e2 e3, cHi_congr e1 e2 e3]
set_option maxRecDepth 100000 in
set_option maxHeartbeats 4000000 in
theorem ct_stamp0 {g : GG} {h : HP} {Post : Option Value → HP → Prop}  (nm : Nat) (x : Int32) (hr : SR h) (hM : SM h nm) (hx : ¬ inR x nm) (hp : Post (some (.long (-9000000000000000000))) h) : CT g mX6_stamp [.ref 1, .int x] h Post := by
  show WP g mX6_stamp 0 [(0, .ref 1), (1, .int x)] [] h 0 0 Post
  refine wp_aload_n dX6_stamp_0 rfl 0 rfl ?_
  refine wp_iload_n dX6_stamp_1 rfl 1 rfl ?_
  refine wp_callV mX6_findMember 1 [.int x] [] (c := 6) dX6_stamp_2 iX6_findMember (fun _ => trivial) mlX6_64 imX6_findMember seX6_findMember (by decide) rfl rfl ⟨by decide, by decide⟩ rfl rfl (Nat.le_of_ble_eq_true rfl) (Nat.le_of_ble_eq_true rfl) (by decide) (by decide) ?_
  refine ct_findMember0 nm x hr hM.2.1 (by have := hM.1; omega) hx ?_
  show WP g mX6_stamp 5 [(0, .ref 1), (1, .int x)] [.null] _ 0 0 _
  refine wp_astore_nN (lv' := [(2, .null), (0, .ref 1), (1, .int x)]) dX6_stamp_5 rfl (by decide) rfl ?_
  refine wp_aload_nN dX6_stamp_6 rfl 0 rfl ?_
  refine wp_ifnullN (tgt := 19) dX6_stamp_7 (by decide) ?_
  refine wp_ldc2 dX6_stamp_19 cnX6_58 ?_
  refine wp_lret dX6_stamp_22 rfl (by decide) (by decide) ?_
  exact hp
set_option maxRecDepth 100000 in
set_option maxHeartbeats 4000000 in
theorem ct_stamp {g : GG} {h : HP} {Post : Option Value → HP → Prop} (nm i : Nat) (hr : SR h) (hM : SM h nm) (hi : i < nm) (ns : Nat) (hS : SS h ns) (hy : cHo h (1000 + i) (2000 + i) (vL h 1 0) → Post (some (.long (Int32.toInt64 (nI ns)))) (spH h ns i 1)) (hn : ¬ cHo h (1000 + i) (2000 + i) (vL h 1 0) → Post (some (.long (Int32.toInt64 (nI ns)))) (spH h ns i 0)) : CT g mX6_stamp [.ref 1, .int (nI i)] h Post := by
  show WP g mX6_stamp 0 [(0, .ref 1), (1, .int (nI i))] [] h 0 0 Post
  have hnm := hM.1
  have hc2 := hM.2.1
  obtain ⟨he, hl, hlo, hlr, ho, h9, hnum, hbs, hbn⟩ := hM.2.2.1 i hi
  have hk : kd (1000 + i) = 2 := kd_mem (by omega)
  have hko : kd (2000 + i) = 4 := kd_own (by omega)
  have hkr : kd (3000 + i) = 14 := kd_arr (by omega)
  have hns := hS.1
  refine wp_aload_n dX6_stamp_0 rfl 0 rfl ?_
  refine wp_iload_n dX6_stamp_1 rfl 1 rfl ?_
  refine wp_callV mX6_findMember 1 [.int (nI i)] [] (c := 6) dX6_stamp_2 iX6_findMember (fun _ => trivial) mlX6_64 imX6_findMember seX6_findMember (by decide) rfl rfl ⟨by decide, by decide⟩ rfl rfl (Nat.le_of_ble_eq_true rfl) (Nat.le_of_ble_eq_true rfl) (by decide) (by decide) ?_
  refine ct_findMember nm i hr hc2 hnm hi he ?_
  show WP g mX6_stamp 5 [(0, .ref 1), (1, .int (nI i))] [.ref (1000 + i)] _ 0 0 _
  refine wp_astore_n (lv' := [(2, .ref (1000 + i)), (0, .ref 1), (1, .int (nI i))]) dX6_stamp_5 rfl (by decide) rfl ?_
  refine wp_aload_n dX6_stamp_6 rfl 0 rfl ?_
  refine wp_ifnull dX6_stamp_7 ?_
  refine wp_aload_n dX6_stamp_10 rfl 1 rfl ?_
  refine wv_getI (nI ns) dX6_stamp_11 flX6_38 rfl rfl hr.1 hS.2.1 ?_
  refine wp_bipush (v := 100) dX6_stamp_14 (by decide) ?_
  refine wp_icmp_lt (tgt := 23) dX6_stamp_16 (by decide) (fun _ => ?_) (fun c_1 => absurd (nI_lt hS.1 (by omega)) c_1)
  refine wp_aload_n dX6_stamp_23 rfl 1 rfl ?_
  refine wp_getP (b := 4) dX6_stamp_24 flX6_34 rfl rfl hr.1 hr.2.2.2.2.2.2.2.1 ?_
  refine wp_aload_n dX6_stamp_27 rfl 1 rfl ?_
  refine wv_getI (nI ns) dX6_stamp_28 flX6_38 rfl rfl hr.1 hS.2.1 ?_
  refine wp_new (6000 + ns) (c := 5) dX6_stamp_31 (by decide) clX6_32 nsX5 nzX5 (kd_stp (by omega)) (hS.2.2.2 ns (by omega) (by omega)) (by decide) (by decide) ?_
  refine wp_pc (pc' := 34) rfl ?_
  refine wp_dup dX6_stamp_34 rfl ?_
  refine wp_aload_n dX6_stamp_35 rfl 0 rfl ?_
  refine wp_aload_n dX6_stamp_36 rfl 1 rfl ?_
  refine wv_getL (vL h 1 0) dX6_stamp_37 flX6_7 rfl rfl (livN hr.1) (congrFun (vL_N (by omega)) 0) ?_
  refine wp_callV mX2_lowAt (1000 + i) [.long (vL h 1 0)] [.ref (6000 + ns), .ref (6000 + ns), .int (nI ns), .ref 4] (c := 2) dX6_stamp_40 iX2_lowAt (fun _ => trivial) mlX6_112 imX2_lowAt seX2_lowAt (by decide) rfl hk ⟨by decide, by decide⟩ rfl rfl (Nat.le_of_ble_eq_true rfl) (Nat.le_of_ble_eq_true rfl) (by decide) (by decide) ?_
  refine ct_lowAt (1000 + i) (2000 + i) (vL h 1 0) hk (livN hl) (by rw [vP_N (by omega)]; exact ho) hko (livN hlo) ?_
  rw [cLo_congr (h := h) (vI_N (by omega)) (vL_N (by omega)) (vL_N (by omega))]
  show WP g mX6_stamp 43 [(2, .ref (1000 + i)), (0, .ref 1), (1, .int (nI i))] [.long (cLo h (1000 + i) (2000 + i) (vL h 1 0)), .ref (6000 + ns), .ref (6000 + ns), .int (nI ns), .ref 4] _ 1 4 _
  refine wp_aload_n dX6_stamp_43 rfl 0 rfl ?_
  refine wp_aload_n dX6_stamp_44 rfl 1 rfl ?_
  refine wv_getL (vL h 1 0) dX6_stamp_45 flX6_7 rfl rfl (livN hr.1) (congrFun (vL_N (by omega)) 0) ?_
  refine wp_callV mX2_highAt (1000 + i) [.long (vL h 1 0)] [.long (cLo h (1000 + i) (2000 + i) (vL h 1 0)), .ref (6000 + ns), .ref (6000 + ns), .int (nI ns), .ref 4] (c := 2) dX6_stamp_48 iX2_highAt (fun _ => trivial) mlX6_115 imX2_highAt seX2_highAt (by decide) rfl hk ⟨by decide, by decide⟩ rfl rfl (Nat.le_of_ble_eq_true rfl) (Nat.le_of_ble_eq_true rfl) (by decide) (by decide) ?_
  refine ct_highAt (1000 + i) (2000 + i) (vL h 1 0) hk (livN hl) (by rw [vP_N (by omega)]; exact ho) hko (livN hlo) ?_
  rw [cHi_congr (h := h) (vI_N (by omega)) (vL_N (by omega)) (vL_N (by omega))]
  show WP g mX6_stamp 51 [(2, .ref (1000 + i)), (0, .ref 1), (1, .int (nI i))] [.long (cHi h (1000 + i) (2000 + i) (vL h 1 0)), .long (cLo h (1000 + i) (2000 + i) (vL h 1 0)), .ref (6000 + ns), .ref (6000 + ns), .int (nI ns), .ref 4] _ 1 4 _
  refine wp_iload_n dX6_stamp_51 rfl 2 rfl ?_
  refine wp_aload_n dX6_stamp_52 rfl 0 rfl ?_
  refine wp_aload_n dX6_stamp_53 rfl 1 rfl ?_
  refine wv_getL (vL h 1 0) dX6_stamp_54 flX6_7 rfl rfl (livN hr.1) (congrFun (vL_N (by omega)) 0) ?_
  refine wp_callV16 mX2_holds (1000 + i) [.long (vL h 1 0)] [.int (nI i), .long (cHi h (1000 + i) (2000 + i) (vL h 1 0)), .long (cLo h (1000 + i) (2000 + i) (vL h 1 0)), .ref (6000 + ns), .ref (6000 + ns), .int (nI ns), .ref 4] (c := 2) dX6_stamp_57 iX2_holds (fun _ => trivial) mlX6_121 imX2_holds seX2_holds (by decide) rfl hk ⟨by decide, by decide⟩ (by decide) rfl rfl (Nat.le_of_ble_eq_true rfl) (Nat.le_of_ble_eq_true rfl) (by decide) (by decide) ?_
  refine ct_holds (1000 + i) (2000 + i) (vL h 1 0) hk (livN hl) (by rw [vP_N (by omega)]; exact ho) hko (livN hlo) (fun hz => ?_) (fun hz => ?_)
  · rw [cHo_congr (h := h) (vI_N (by omega)) (vL_N (by omega)) (vL_N (by omega))] at hz
    show WP g mX6_stamp 60 [(2, .ref (1000 + i)), (0, .ref 1), (1, .int (nI i))] [.int 1, .int (nI i), .long (cHi h (1000 + i) (2000 + i) (vL h 1 0)), .long (cLo h (1000 + i) (2000 + i) (vL h 1 0)), .ref (6000 + ns), .ref (6000 + ns), .int (nI ns), .ref 4] _ 1 4 _
    refine wp_callI mX5_init (6000 + ns) [.long (cLo h (1000 + i) (2000 + i) (vL h 1 0)), .long (cHi h (1000 + i) (2000 + i) (vL h 1 0)), .int (nI i), .int 1] [.ref (6000 + ns), .int (nI ns), .ref 4] dX6_stamp_60 iX5_init (fun _ => trivial) rfl rfl mlX6_250 imX5_init ⟨by decide, by decide⟩ rfl rfl (Nat.le_of_ble_eq_true rfl) (Nat.le_of_ble_eq_true rfl) (by decide) (by decide) ?_
    refine ct_Stamp (6000 + ns) (cLo h (1000 + i) (2000 + i) (vL h 1 0)) (cHi h (1000 + i) (2000 + i) (vL h 1 0)) (nI i) 1 (Or.inr rfl) (kd_stp (by omega)) (liv_new _ _) ?_
    show WP g mX6_stamp 63 [(2, .ref (1000 + i)), (0, .ref 1), (1, .int (nI i))] [.ref (6000 + ns), .int (nI ns), .ref 4] _ 1 4 _
    refine wv_aast ns dX6_stamp_63 rfl (by decide) (by decide) (livN hr.2.2.2.1) rfl (by show ns < 100; omega) (kd_stp (by omega)) ?_
    refine wp_pc (pc' := 64) rfl ?_
    refine wp_aload_n dX6_stamp_64 rfl 1 rfl ?_
    refine wp_dup dX6_stamp_65 rfl ?_
    refine wv_getI (nI ns) dX6_stamp_66 flX6_38 rfl rfl (livN hr.1) (by show vI (stN _ _ _ _ _ _) 1 6 = _; unfold stN; rw [vIn (by omega), vIn (by omega)]; show vI (sN h _) 1 6 = _; rw [vI_N (by omega)]; exact hS.2.1) ?_
    refine wp_iconst (v := 1) dX6_stamp_69 (by decide) ?_
    refine wv_iadd (nI (ns + 1)) (wN_add rfl rfl) dX6_stamp_70 ?_
    refine wp_putI dX6_stamp_71 flX6_38 (Or.inl rfl) rfl rfl rfl rfl (livN hr.1) ?_
    refine wp_aload_n dX6_stamp_74 rfl 1 rfl ?_
    refine wv_getI (nI (ns + 1)) dX6_stamp_75 flX6_38 rfl rfl (livN hr.1) vIs ?_
    refine wp_iconst (v := 1) dX6_stamp_78 (by decide) ?_
    refine wv_isub (nI ns) (nI_pred _) dX6_stamp_79 ?_
    refine wp_i2l dX6_stamp_80 ?_
    refine wp_lret dX6_stamp_81 rfl (by decide) (by decide) ?_
    exact hy hz
  · rw [cHo_congr (h := h) (vI_N (by omega)) (vL_N (by omega)) (vL_N (by omega))] at hz
    show WP g mX6_stamp 60 [(2, .ref (1000 + i)), (0, .ref 1), (1, .int (nI i))] [.int 0, .int (nI i), .long (cHi h (1000 + i) (2000 + i) (vL h 1 0)), .long (cLo h (1000 + i) (2000 + i) (vL h 1 0)), .ref (6000 + ns), .ref (6000 + ns), .int (nI ns), .ref 4] _ 1 4 _
    refine wp_callI mX5_init (6000 + ns) [.long (cLo h (1000 + i) (2000 + i) (vL h 1 0)), .long (cHi h (1000 + i) (2000 + i) (vL h 1 0)), .int (nI i), .int 0] [.ref (6000 + ns), .int (nI ns), .ref 4] dX6_stamp_60 iX5_init (fun _ => trivial) rfl rfl mlX6_250 imX5_init ⟨by decide, by decide⟩ rfl rfl (Nat.le_of_ble_eq_true rfl) (Nat.le_of_ble_eq_true rfl) (by decide) (by decide) ?_
    refine ct_Stamp (6000 + ns) (cLo h (1000 + i) (2000 + i) (vL h 1 0)) (cHi h (1000 + i) (2000 + i) (vL h 1 0)) (nI i) 0 (Or.inl rfl) (kd_stp (by omega)) (liv_new _ _) ?_
    show WP g mX6_stamp 63 [(2, .ref (1000 + i)), (0, .ref 1), (1, .int (nI i))] [.ref (6000 + ns), .int (nI ns), .ref 4] _ 1 4 _
    refine wv_aast ns dX6_stamp_63 rfl (by decide) (by decide) (livN hr.2.2.2.1) rfl (by show ns < 100; omega) (kd_stp (by omega)) ?_
    refine wp_pc (pc' := 64) rfl ?_
    refine wp_aload_n dX6_stamp_64 rfl 1 rfl ?_
    refine wp_dup dX6_stamp_65 rfl ?_
    refine wv_getI (nI ns) dX6_stamp_66 flX6_38 rfl rfl (livN hr.1) (by show vI (stN _ _ _ _ _ _) 1 6 = _; unfold stN; rw [vIn (by omega), vIn (by omega)]; show vI (sN h _) 1 6 = _; rw [vI_N (by omega)]; exact hS.2.1) ?_
    refine wp_iconst (v := 1) dX6_stamp_69 (by decide) ?_
    refine wv_iadd (nI (ns + 1)) (wN_add rfl rfl) dX6_stamp_70 ?_
    refine wp_putI dX6_stamp_71 flX6_38 (Or.inl rfl) rfl rfl rfl rfl (livN hr.1) ?_
    refine wp_aload_n dX6_stamp_74 rfl 1 rfl ?_
    refine wv_getI (nI (ns + 1)) dX6_stamp_75 flX6_38 rfl rfl (livN hr.1) vIs ?_
    refine wp_iconst (v := 1) dX6_stamp_78 (by decide) ?_
    refine wv_isub (nI ns) (nI_pred _) dX6_stamp_79 ?_
    refine wp_i2l dX6_stamp_80 ?_
    refine wp_lret dX6_stamp_81 rfl (by decide) (by decide) ?_
    exact hn hz
set_option maxRecDepth 100000 in
set_option maxHeartbeats 4000000 in
theorem ct_given0 {g : GG} {h : HP} {Post : Option Value → HP → Prop} (wh : Int32) (ns : Nat) (x : Int32) (hr : SR h) (hS : SS h ns) (hx : ¬ inR x ns) (hp : Post (some (.long (-9000000000000000000))) h) : CT g mX6_given [.ref 1, .int x, .int wh] h Post := by
  show WP g mX6_given 0 [(0, .ref 1), (1, .int x), (2, .int wh)] [] h 0 0 Post
  refine wp_aload_n dX6_given_0 rfl 0 rfl ?_
  refine wp_iload_n dX6_given_1 rfl 1 rfl ?_
  refine wp_callV mX6_findStamp 1 [.int x] [] (c := 6) dX6_given_2 iX6_findStamp (fun _ => trivial) mlX6_253 imX6_findStamp seX6_findStamp (by decide) rfl rfl ⟨by decide, by decide⟩ rfl rfl (Nat.le_of_ble_eq_true rfl) (Nat.le_of_ble_eq_true rfl) (by decide) (by decide) ?_
  refine ct_findStamp0 ns x hr hS.2.1 (by have := hS.1; omega) hx ?_
  show WP g mX6_given 5 [(0, .ref 1), (1, .int x), (2, .int wh)] [.null] _ 0 0 _
  refine wp_astore_nN (lv' := [(3, .null), (0, .ref 1), (1, .int x), (2, .int wh)]) dX6_given_5 rfl (by decide) rfl ?_
  refine wp_aload_nN dX6_given_6 rfl 0 rfl ?_
  refine wp_ifnonnullN dX6_given_7 ?_
  refine wp_ldc2 dX6_given_10 cnX6_58 ?_
  refine wp_lret dX6_given_13 rfl (by decide) (by decide) ?_
  exact hp
set_option maxRecDepth 100000 in
set_option maxHeartbeats 4000000 in
theorem ct_given_0 {g : GG} {h : HP} {Post : Option Value → HP → Prop} (ns k : Nat) (hr : SR h) (hS : SS h ns) (hk : k < ns) (hp : Post (some (.long (vL h (6000 + k) 0))) h) : CT g mX6_given [.ref 1, .int (nI k), .int 0] h Post := by
  show WP g mX6_given 0 [(0, .ref 1), (1, .int (nI k)), (2, .int 0)] [] h 0 0 Post
  refine wp_aload_n dX6_given_0 rfl 0 rfl ?_
  refine wp_iload_n dX6_given_1 rfl 1 rfl ?_
  refine wp_callV mX6_findStamp 1 [.int (nI k)] [] (c := 6) dX6_given_2 iX6_findStamp (fun _ => trivial) mlX6_253 imX6_findStamp seX6_findStamp (by decide) rfl rfl ⟨by decide, by decide⟩ rfl rfl (Nat.le_of_ble_eq_true rfl) (Nat.le_of_ble_eq_true rfl) (by decide) (by decide) ?_
  refine ct_findStamp ns k hr hS.2.1 (by have := hS.1; omega) hk (hS.2.2.1 k hk).1 ?_
  show WP g mX6_given 5 [(0, .ref 1), (1, .int (nI k)), (2, .int 0)] [.ref (6000 + k)] _ 0 0 _
  refine wp_astore_n (lv' := [(3, .ref (6000 + k)), (0, .ref 1), (1, .int (nI k)), (2, .int 0)]) dX6_given_5 rfl (by decide) rfl ?_
  refine wp_aload_n dX6_given_6 rfl 0 rfl ?_
  refine wp_ifnonnull (tgt := 14) dX6_given_7 (by decide) ?_
  refine wp_iload_n dX6_given_14 rfl 3 rfl ?_
  refine wp_tableIn (off := 29) (tgt := 44) dX6_given_15 (by decide) (by decide) (by decide) (by decide) ?_
  refine wp_aload_n dX6_given_44 rfl 0 rfl ?_
  refine wp_getL dX6_given_45 flX6_257 rfl (kd_stp (by have := hS.1; omega)) (hS.2.2.1 k hk).2 ?_
  refine wp_lret dX6_given_48 rfl (by decide) (by decide) ?_
  exact hp
set_option maxRecDepth 100000 in
set_option maxHeartbeats 4000000 in
theorem ct_given_1 {g : GG} {h : HP} {Post : Option Value → HP → Prop} (ns k : Nat) (hr : SR h) (hS : SS h ns) (hk : k < ns) (hp : Post (some (.long (vL h (6000 + k) 1))) h) : CT g mX6_given [.ref 1, .int (nI k), .int 1] h Post := by
  show WP g mX6_given 0 [(0, .ref 1), (1, .int (nI k)), (2, .int 1)] [] h 0 0 Post
  refine wp_aload_n dX6_given_0 rfl 0 rfl ?_
  refine wp_iload_n dX6_given_1 rfl 1 rfl ?_
  refine wp_callV mX6_findStamp 1 [.int (nI k)] [] (c := 6) dX6_given_2 iX6_findStamp (fun _ => trivial) mlX6_253 imX6_findStamp seX6_findStamp (by decide) rfl rfl ⟨by decide, by decide⟩ rfl rfl (Nat.le_of_ble_eq_true rfl) (Nat.le_of_ble_eq_true rfl) (by decide) (by decide) ?_
  refine ct_findStamp ns k hr hS.2.1 (by have := hS.1; omega) hk (hS.2.2.1 k hk).1 ?_
  show WP g mX6_given 5 [(0, .ref 1), (1, .int (nI k)), (2, .int 1)] [.ref (6000 + k)] _ 0 0 _
  refine wp_astore_n (lv' := [(3, .ref (6000 + k)), (0, .ref 1), (1, .int (nI k)), (2, .int 1)]) dX6_given_5 rfl (by decide) rfl ?_
  refine wp_aload_n dX6_given_6 rfl 0 rfl ?_
  refine wp_ifnonnull (tgt := 14) dX6_given_7 (by decide) ?_
  refine wp_iload_n dX6_given_14 rfl 3 rfl ?_
  refine wp_tableIn (off := 34) (tgt := 49) dX6_given_15 (by decide) (by decide) (by decide) (by decide) ?_
  refine wp_aload_n dX6_given_49 rfl 0 rfl ?_
  refine wp_getL dX6_given_50 flX6_258 rfl (kd_stp (by have := hS.1; omega)) (hS.2.2.1 k hk).2 ?_
  refine wp_lret dX6_given_53 rfl (by decide) (by decide) ?_
  exact hp
set_option maxRecDepth 100000 in
set_option maxHeartbeats 4000000 in
theorem ct_given_2 {g : GG} {h : HP} {Post : Option Value → HP → Prop} (ns k : Nat) (hr : SR h) (hS : SS h ns) (hk : k < ns) (hp : Post (some (.long (Int32.toInt64 (vI h (6000 + k) 2)))) h) : CT g mX6_given [.ref 1, .int (nI k), .int 2] h Post := by
  show WP g mX6_given 0 [(0, .ref 1), (1, .int (nI k)), (2, .int 2)] [] h 0 0 Post
  refine wp_aload_n dX6_given_0 rfl 0 rfl ?_
  refine wp_iload_n dX6_given_1 rfl 1 rfl ?_
  refine wp_callV mX6_findStamp 1 [.int (nI k)] [] (c := 6) dX6_given_2 iX6_findStamp (fun _ => trivial) mlX6_253 imX6_findStamp seX6_findStamp (by decide) rfl rfl ⟨by decide, by decide⟩ rfl rfl (Nat.le_of_ble_eq_true rfl) (Nat.le_of_ble_eq_true rfl) (by decide) (by decide) ?_
  refine ct_findStamp ns k hr hS.2.1 (by have := hS.1; omega) hk (hS.2.2.1 k hk).1 ?_
  show WP g mX6_given 5 [(0, .ref 1), (1, .int (nI k)), (2, .int 2)] [.ref (6000 + k)] _ 0 0 _
  refine wp_astore_n (lv' := [(3, .ref (6000 + k)), (0, .ref 1), (1, .int (nI k)), (2, .int 2)]) dX6_given_5 rfl (by decide) rfl ?_
  refine wp_aload_n dX6_given_6 rfl 0 rfl ?_
  refine wp_ifnonnull (tgt := 14) dX6_given_7 (by decide) ?_
  refine wp_iload_n dX6_given_14 rfl 3 rfl ?_
  refine wp_tableIn (off := 39) (tgt := 54) dX6_given_15 (by decide) (by decide) (by decide) (by decide) ?_
  refine wp_aload_n dX6_given_54 rfl 0 rfl ?_
  refine wp_getI dX6_given_55 flX6_259 rfl (kd_stp (by have := hS.1; omega)) (hS.2.2.1 k hk).2 ?_
  refine wp_i2l dX6_given_58 ?_
  refine wp_lret dX6_given_59 rfl (by decide) (by decide) ?_
  exact hp
set_option maxRecDepth 100000 in
set_option maxHeartbeats 4000000 in
theorem ct_given_3 {g : GG} {h : HP} {Post : Option Value → HP → Prop} (ns k : Nat) (hr : SR h) (hS : SS h ns) (hk : k < ns) (hp : Post (some (.long (bitL (vI h (6000 + k) 3)))) h) : CT g mX6_given [.ref 1, .int (nI k), .int 3] h Post := by
  show WP g mX6_given 0 [(0, .ref 1), (1, .int (nI k)), (2, .int 3)] [] h 0 0 Post
  refine wp_aload_n dX6_given_0 rfl 0 rfl ?_
  refine wp_iload_n dX6_given_1 rfl 1 rfl ?_
  refine wp_callV mX6_findStamp 1 [.int (nI k)] [] (c := 6) dX6_given_2 iX6_findStamp (fun _ => trivial) mlX6_253 imX6_findStamp seX6_findStamp (by decide) rfl rfl ⟨by decide, by decide⟩ rfl rfl (Nat.le_of_ble_eq_true rfl) (Nat.le_of_ble_eq_true rfl) (by decide) (by decide) ?_
  refine ct_findStamp ns k hr hS.2.1 (by have := hS.1; omega) hk (hS.2.2.1 k hk).1 ?_
  show WP g mX6_given 5 [(0, .ref 1), (1, .int (nI k)), (2, .int 3)] [.ref (6000 + k)] _ 0 0 _
  refine wp_astore_n (lv' := [(3, .ref (6000 + k)), (0, .ref 1), (1, .int (nI k)), (2, .int 3)]) dX6_given_5 rfl (by decide) rfl ?_
  refine wp_aload_n dX6_given_6 rfl 0 rfl ?_
  refine wp_ifnonnull (tgt := 14) dX6_given_7 (by decide) ?_
  refine wp_iload_n dX6_given_14 rfl 3 rfl ?_
  refine wp_tableIn (off := 45) (tgt := 60) dX6_given_15 (by decide) (by decide) (by decide) (by decide) ?_
  refine wp_aload_n dX6_given_60 rfl 0 rfl ?_
  refine wp_getI dX6_given_61 flX6_262 rfl (kd_stp (by have := hS.1; omega)) (hS.2.2.1 k hk).2 ?_
  refine wp_callS mX6_asBit [.int (vI h (6000 + k) 3)] [] dX6_given_64 iX6_asBit (fun _ => trivial) mlX6_88 stX6_asBit ⟨by decide, by decide⟩ rfl rfl (Nat.le_of_ble_eq_true rfl) (Nat.le_of_ble_eq_true rfl) (by decide) (by decide) ?_
  refine ct_asBit (vI h (6000 + k) 3) ?_
  show WP g mX6_given 67 [(3, .ref (6000 + k)), (0, .ref 1), (1, .int (nI k)), (2, .int 3)] [.long (bitL (vI h (6000 + k) 3))] _ 0 0 _
  refine wp_lret dX6_given_67 rfl (by decide) (by decide) ?_
  exact hp
set_option maxRecDepth 100000 in
set_option maxHeartbeats 4000000 in
theorem ct_given_x {g : GG} {h : HP} {Post : Option Value → HP → Prop} (ns k : Nat) (hr : SR h) (hS : SS h ns) (hk : k < ns) (wh : Int32) (hw : wh.toInt < 0 ∨ 3 < wh.toInt) (hp : Post (some (.long (-9000000000000000000))) h) : CT g mX6_given [.ref 1, .int (nI k), .int wh] h Post := by
  show WP g mX6_given 0 [(0, .ref 1), (1, .int (nI k)), (2, .int wh)] [] h 0 0 Post
  refine wp_aload_n dX6_given_0 rfl 0 rfl ?_
  refine wp_iload_n dX6_given_1 rfl 1 rfl ?_
  refine wp_callV mX6_findStamp 1 [.int (nI k)] [] (c := 6) dX6_given_2 iX6_findStamp (fun _ => trivial) mlX6_253 imX6_findStamp seX6_findStamp (by decide) rfl rfl ⟨by decide, by decide⟩ rfl rfl (Nat.le_of_ble_eq_true rfl) (Nat.le_of_ble_eq_true rfl) (by decide) (by decide) ?_
  refine ct_findStamp ns k hr hS.2.1 (by have := hS.1; omega) hk (hS.2.2.1 k hk).1 ?_
  show WP g mX6_given 5 [(0, .ref 1), (1, .int (nI k)), (2, .int wh)] [.ref (6000 + k)] _ 0 0 _
  refine wp_astore_n (lv' := [(3, .ref (6000 + k)), (0, .ref 1), (1, .int (nI k)), (2, .int wh)]) dX6_given_5 rfl (by decide) rfl ?_
  refine wp_aload_n dX6_given_6 rfl 0 rfl ?_
  refine wp_ifnonnull (tgt := 14) dX6_given_7 (by decide) ?_
  refine wp_iload_n dX6_given_14 rfl 3 rfl ?_
  refine wp_tableOut (tgt := 68) dX6_given_15 hw (by decide) ?_
  refine wp_ldc2 dX6_given_68 cnX6_58 ?_
  refine wp_lret dX6_given_71 rfl (by decide) (by decide) ?_
  exact hp
set_option maxRecDepth 100000 in
set_option maxHeartbeats 4000000 in
theorem ct_ahead0 {g : GG} {h : HP} {Post : Option Value → HP → Prop} (ns : Nat) (hr : SR h) (hS : SS h ns) (x y : Int32) (hx : ¬ inR x ns) (hy : ¬ inR y ns) (hp : Post (some (.long (-9000000000000000000))) h) : CT g mX6_ahead [.ref 1, .int x, .int y] h Post := by
  show WP g mX6_ahead 0 [(0, .ref 1), (1, .int x), (2, .int y)] [] h 0 0 Post
  refine wp_aload_n dX6_ahead_0 rfl 0 rfl ?_
  refine wp_iload_n dX6_ahead_1 rfl 1 rfl ?_
  refine wp_callV mX6_findStamp 1 [.int x] [] (c := 6) dX6_ahead_2 iX6_findStamp (fun _ => trivial) mlX6_253 imX6_findStamp seX6_findStamp (by decide) rfl rfl ⟨by decide, by decide⟩ rfl rfl (Nat.le_of_ble_eq_true rfl) (Nat.le_of_ble_eq_true rfl) (by decide) (by decide) ?_
  refine ct_findStamp0 ns x hr hS.2.1 (by have := hS.1; omega) hx ?_
  show WP g mX6_ahead 5 [(0, .ref 1), (1, .int x), (2, .int y)] [.null] _ 0 0 _
  refine wp_astore_nN (lv' := [(3, .null), (0, .ref 1), (1, .int x), (2, .int y)]) dX6_ahead_5 rfl (by decide) rfl ?_
  refine wp_aload_n dX6_ahead_6 rfl 1 rfl ?_
  refine wp_iload_n dX6_ahead_7 rfl 3 rfl ?_
  refine wp_callV mX6_findStamp 1 [.int y] [] (c := 6) dX6_ahead_8 iX6_findStamp (fun _ => trivial) mlX6_253 imX6_findStamp seX6_findStamp (by decide) rfl rfl ⟨by decide, by decide⟩ rfl rfl (Nat.le_of_ble_eq_true rfl) (Nat.le_of_ble_eq_true rfl) (by decide) (by decide) ?_
  refine ct_findStamp0 ns y hr hS.2.1 (by have := hS.1; omega) hy ?_
  show WP g mX6_ahead 11 [(3, .null), (0, .ref 1), (1, .int x), (2, .int y)] [.null] _ 0 0 _
  refine wp_astoreN (lv' := [(4, .null), (3, .null), (0, .ref 1), (1, .int x), (2, .int y)]) dX6_ahead_11 (by decide) rfl ?_
  refine wp_aload_nN dX6_ahead_13 rfl 1 rfl ?_
  refine wp_ifnullN (tgt := 22) dX6_ahead_14 (by decide) ?_
  refine wp_ldc2 dX6_ahead_22 cnX6_58 ?_
  refine wp_lret dX6_ahead_25 rfl (by decide) (by decide) ?_
  exact hp
set_option maxRecDepth 100000 in
set_option maxHeartbeats 4000000 in
theorem ct_ahead1 {g : GG} {h : HP} {Post : Option Value → HP → Prop} (ns : Nat) (hr : SR h) (hS : SS h ns) (x : Int32) (k : Nat) (hx : ¬ inR x ns) (hk : k < ns) (hp : Post (some (.long (-9000000000000000000))) h) : CT g mX6_ahead [.ref 1, .int x, .int (nI k)] h Post := by
  show WP g mX6_ahead 0 [(0, .ref 1), (1, .int x), (2, .int (nI k))] [] h 0 0 Post
  refine wp_aload_n dX6_ahead_0 rfl 0 rfl ?_
  refine wp_iload_n dX6_ahead_1 rfl 1 rfl ?_
  refine wp_callV mX6_findStamp 1 [.int x] [] (c := 6) dX6_ahead_2 iX6_findStamp (fun _ => trivial) mlX6_253 imX6_findStamp seX6_findStamp (by decide) rfl rfl ⟨by decide, by decide⟩ rfl rfl (Nat.le_of_ble_eq_true rfl) (Nat.le_of_ble_eq_true rfl) (by decide) (by decide) ?_
  refine ct_findStamp0 ns x hr hS.2.1 (by have := hS.1; omega) hx ?_
  show WP g mX6_ahead 5 [(0, .ref 1), (1, .int x), (2, .int (nI k))] [.null] _ 0 0 _
  refine wp_astore_nN (lv' := [(3, .null), (0, .ref 1), (1, .int x), (2, .int (nI k))]) dX6_ahead_5 rfl (by decide) rfl ?_
  refine wp_aload_n dX6_ahead_6 rfl 1 rfl ?_
  refine wp_iload_n dX6_ahead_7 rfl 3 rfl ?_
  refine wp_callV mX6_findStamp 1 [.int (nI k)] [] (c := 6) dX6_ahead_8 iX6_findStamp (fun _ => trivial) mlX6_253 imX6_findStamp seX6_findStamp (by decide) rfl rfl ⟨by decide, by decide⟩ rfl rfl (Nat.le_of_ble_eq_true rfl) (Nat.le_of_ble_eq_true rfl) (by decide) (by decide) ?_
  refine ct_findStamp ns k hr hS.2.1 (by have := hS.1; omega) hk (hS.2.2.1 k hk).1 ?_
  show WP g mX6_ahead 11 [(3, .null), (0, .ref 1), (1, .int x), (2, .int (nI k))] [.ref (6000 + k)] _ 0 0 _
  refine wp_astore (lv' := [(4, .ref (6000 + k)), (3, .null), (0, .ref 1), (1, .int x), (2, .int (nI k))]) dX6_ahead_11 (by decide) rfl ?_
  refine wp_aload_nN dX6_ahead_13 rfl 1 rfl ?_
  refine wp_ifnullN (tgt := 22) dX6_ahead_14 (by decide) ?_
  refine wp_ldc2 dX6_ahead_22 cnX6_58 ?_
  refine wp_lret dX6_ahead_25 rfl (by decide) (by decide) ?_
  exact hp
set_option maxRecDepth 100000 in
set_option maxHeartbeats 4000000 in
theorem ct_ahead2 {g : GG} {h : HP} {Post : Option Value → HP → Prop} (ns : Nat) (hr : SR h) (hS : SS h ns) (k : Nat) (y : Int32) (hk : k < ns) (hy : ¬ inR y ns) (hp : Post (some (.long (-9000000000000000000))) h) : CT g mX6_ahead [.ref 1, .int (nI k), .int y] h Post := by
  show WP g mX6_ahead 0 [(0, .ref 1), (1, .int (nI k)), (2, .int y)] [] h 0 0 Post
  refine wp_aload_n dX6_ahead_0 rfl 0 rfl ?_
  refine wp_iload_n dX6_ahead_1 rfl 1 rfl ?_
  refine wp_callV mX6_findStamp 1 [.int (nI k)] [] (c := 6) dX6_ahead_2 iX6_findStamp (fun _ => trivial) mlX6_253 imX6_findStamp seX6_findStamp (by decide) rfl rfl ⟨by decide, by decide⟩ rfl rfl (Nat.le_of_ble_eq_true rfl) (Nat.le_of_ble_eq_true rfl) (by decide) (by decide) ?_
  refine ct_findStamp ns k hr hS.2.1 (by have := hS.1; omega) hk (hS.2.2.1 k hk).1 ?_
  show WP g mX6_ahead 5 [(0, .ref 1), (1, .int (nI k)), (2, .int y)] [.ref (6000 + k)] _ 0 0 _
  refine wp_astore_n (lv' := [(3, .ref (6000 + k)), (0, .ref 1), (1, .int (nI k)), (2, .int y)]) dX6_ahead_5 rfl (by decide) rfl ?_
  refine wp_aload_n dX6_ahead_6 rfl 1 rfl ?_
  refine wp_iload_n dX6_ahead_7 rfl 3 rfl ?_
  refine wp_callV mX6_findStamp 1 [.int y] [] (c := 6) dX6_ahead_8 iX6_findStamp (fun _ => trivial) mlX6_253 imX6_findStamp seX6_findStamp (by decide) rfl rfl ⟨by decide, by decide⟩ rfl rfl (Nat.le_of_ble_eq_true rfl) (Nat.le_of_ble_eq_true rfl) (by decide) (by decide) ?_
  refine ct_findStamp0 ns y hr hS.2.1 (by have := hS.1; omega) hy ?_
  show WP g mX6_ahead 11 [(3, .ref (6000 + k)), (0, .ref 1), (1, .int (nI k)), (2, .int y)] [.null] _ 0 0 _
  refine wp_astoreN (lv' := [(4, .null), (3, .ref (6000 + k)), (0, .ref 1), (1, .int (nI k)), (2, .int y)]) dX6_ahead_11 (by decide) rfl ?_
  refine wp_aload_n dX6_ahead_13 rfl 1 rfl ?_
  refine wp_ifnull dX6_ahead_14 ?_
  refine wp_aloadN dX6_ahead_17 0 rfl ?_
  refine wp_ifnonnullN dX6_ahead_19 ?_
  refine wp_ldc2 dX6_ahead_22 cnX6_58 ?_
  refine wp_lret dX6_ahead_25 rfl (by decide) (by decide) ?_
  exact hp
def ahS (h : HP) (a b : Nat) : Int64 := if vL h (6000 + a) 1 < vL h (6000 + b) 0 then 1 else if vL h (6000 + b) 1 < vL h (6000 + a) 0 then -1 else 0
set_option maxRecDepth 100000 in
set_option maxHeartbeats 4000000 in
theorem ct_ahead {g : GG} {h : HP} {Post : Option Value → HP → Prop} (ns a b : Nat) (hr : SR h) (hS : SS h ns) (ha : a < ns) (hb : b < ns) (hp : Post (some (.long (ahS h a b))) h) : CT g mX6_ahead [.ref 1, .int (nI a), .int (nI b)] h Post := by
  show WP g mX6_ahead 0 [(0, .ref 1), (1, .int (nI a)), (2, .int (nI b))] [] h 0 0 Post
  refine wp_aload_n dX6_ahead_0 rfl 0 rfl ?_
  refine wp_iload_n dX6_ahead_1 rfl 1 rfl ?_
  refine wp_callV mX6_findStamp 1 [.int (nI a)] [] (c := 6) dX6_ahead_2 iX6_findStamp (fun _ => trivial) mlX6_253 imX6_findStamp seX6_findStamp (by decide) rfl rfl ⟨by decide, by decide⟩ rfl rfl (Nat.le_of_ble_eq_true rfl) (Nat.le_of_ble_eq_true rfl) (by decide) (by decide) ?_
  refine ct_findStamp ns a hr hS.2.1 (by have := hS.1; omega) ha (hS.2.2.1 a ha).1 ?_
  show WP g mX6_ahead 5 [(0, .ref 1), (1, .int (nI a)), (2, .int (nI b))] [.ref (6000 + a)] _ 0 0 _
  refine wp_astore_n (lv' := [(3, .ref (6000 + a)), (0, .ref 1), (1, .int (nI a)), (2, .int (nI b))]) dX6_ahead_5 rfl (by decide) rfl ?_
  refine wp_aload_n dX6_ahead_6 rfl 1 rfl ?_
  refine wp_iload_n dX6_ahead_7 rfl 3 rfl ?_
  refine wp_callV mX6_findStamp 1 [.int (nI b)] [] (c := 6) dX6_ahead_8 iX6_findStamp (fun _ => trivial) mlX6_253 imX6_findStamp seX6_findStamp (by decide) rfl rfl ⟨by decide, by decide⟩ rfl rfl (Nat.le_of_ble_eq_true rfl) (Nat.le_of_ble_eq_true rfl) (by decide) (by decide) ?_
  refine ct_findStamp ns b hr hS.2.1 (by have := hS.1; omega) hb (hS.2.2.1 b hb).1 ?_
  show WP g mX6_ahead 11 [(3, .ref (6000 + a)), (0, .ref 1), (1, .int (nI a)), (2, .int (nI b))] [.ref (6000 + b)] _ 0 0 _
  refine wp_astore (lv' := [(4, .ref (6000 + b)), (3, .ref (6000 + a)), (0, .ref 1), (1, .int (nI a)), (2, .int (nI b))]) dX6_ahead_11 (by decide) rfl ?_
  refine wp_aload_n dX6_ahead_13 rfl 1 rfl ?_
  refine wp_ifnull dX6_ahead_14 ?_
  refine wp_aload dX6_ahead_17 0 rfl ?_
  refine wp_ifnonnull (tgt := 26) dX6_ahead_19 (by decide) ?_
  refine wp_aload_n dX6_ahead_26 rfl 1 rfl ?_
  refine wp_getL dX6_ahead_27 flX6_258 rfl (kd_stp (by have := hS.1; omega)) (hS.2.2.1 a ha).2 ?_
  refine wp_aload dX6_ahead_30 0 rfl ?_
  refine wp_pc (pc' := 32) rfl ?_
  refine wp_getL dX6_ahead_32 flX6_257 rfl (kd_stp (by have := hS.1; omega)) (hS.2.2.1 b hb).2 ?_
  refine wl_ge (tgt := 41) dX6_ahead_35 dX6_ahead_36 (by decide) (fun c_1 => ?_) (fun c_1 => ?_)
  · refine wp_aload dX6_ahead_41 0 rfl ?_
    refine wp_getL dX6_ahead_43 flX6_258 rfl (kd_stp (by have := hS.1; omega)) (hS.2.2.1 b hb).2 ?_
    refine wp_aload_n dX6_ahead_46 rfl 1 rfl ?_
    refine wp_getL dX6_ahead_47 flX6_257 rfl (kd_stp (by have := hS.1; omega)) (hS.2.2.1 a ha).2 ?_
    refine wl_ge (tgt := 60) dX6_ahead_50 dX6_ahead_51 (by decide) (fun c_2 => ?_) (fun c_2 => ?_)
    · refine wp_lconst (v := 0) dX6_ahead_60 rfl ?_
      refine wp_lret dX6_ahead_61 rfl (by decide) (by decide) ?_
      rw [show ahS h a b = 0 from (if_neg (Int64.not_lt.mpr c_1)).trans (if_neg (Int64.not_lt.mpr c_2))] at hp
      exact hp
    · refine wp_ldc2 dX6_ahead_54 cnX6_265 ?_
      refine wp_goto (tgt := 61) dX6_ahead_57 (by decide) ?_
      refine wp_lret dX6_ahead_61 rfl (by decide) (by decide) ?_
      rw [show ahS h a b = -1 from (if_neg (Int64.not_lt.mpr c_1)).trans (if_pos (Int64.not_le.mp c_2))] at hp
      exact hp
  · refine wp_lconst (v := 1) dX6_ahead_39 rfl ?_
    refine wp_lret dX6_ahead_40 rfl (by decide) (by decide) ?_
    rw [show ahS h a b = 1 from if_pos (Int64.not_le.mp c_1)] at hp
    exact hp
set_option maxRecDepth 100000 in
set_option maxHeartbeats 4000000 in
theorem ct_wait0 {g : GG} {h : HP} {Post : Option Value → HP → Prop}  (nm : Nat) (x : Int32) (hr : SR h) (hM : SM h nm) (hx : ¬ inR x nm) (hp : Post (some (.long (-9000000000000000000))) h) : CT g mX6_wait [.ref 1, .int x] h Post := by
  show WP g mX6_wait 0 [(0, .ref 1), (1, .int x)] [] h 0 0 Post
  refine wp_aload_n dX6_wait_0 rfl 0 rfl ?_
  refine wp_iload_n dX6_wait_1 rfl 1 rfl ?_
  refine wp_callV mX6_findMember 1 [.int x] [] (c := 6) dX6_wait_2 iX6_findMember (fun _ => trivial) mlX6_64 imX6_findMember seX6_findMember (by decide) rfl rfl ⟨by decide, by decide⟩ rfl rfl (Nat.le_of_ble_eq_true rfl) (Nat.le_of_ble_eq_true rfl) (by decide) (by decide) ?_
  refine ct_findMember0 nm x hr hM.2.1 (by have := hM.1; omega) hx ?_
  show WP g mX6_wait 5 [(0, .ref 1), (1, .int x)] [.null] _ 0 0 _
  refine wp_astore_nN (lv' := [(2, .null), (0, .ref 1), (1, .int x)]) dX6_wait_5 rfl (by decide) rfl ?_
  refine wp_aload_nN dX6_wait_6 rfl 0 rfl ?_
  refine wp_ifnullN (tgt := 18) dX6_wait_7 (by decide) ?_
  refine wp_ldc2 dX6_wait_18 cnX6_58 ?_
  refine wp_lret dX6_wait_21 rfl (by decide) (by decide) ?_
  exact hp
def waS (h : HP) (a o ns : Nat) (now : Int64) : Int64 := if ltS h ns + 1 ≤ cLo h a o now then 0 else cFo (ltS h ns + 1 - vL h o 1) (vI h a 2) - (cCn h a now - vL h o 3)
set_option maxRecDepth 100000 in
set_option maxHeartbeats 4000000 in
theorem ct_wait {g : GG} {h : HP} {Post : Option Value → HP → Prop} (nm i : Nat) (hr : SR h) (hM : SM h nm) (hi : i < nm) (ns : Nat) (hS : SS h ns) (h3 : vI h (1000 + i) 1 = 3 → Post (some (.long (-9000000000000000000))) h) (h0 : ¬ vI h (1000 + i) 1 = 3 → ns = 0 → Post (some (.long 0)) h) (hp : ¬ vI h (1000 + i) 1 = 3 → ¬ ns = 0 → Post (some (.long (waS h (1000 + i) (2000 + i) ns (vL h 1 0)))) h) : CT g mX6_wait [.ref 1, .int (nI i)] h Post := by
  show WP g mX6_wait 0 [(0, .ref 1), (1, .int (nI i))] [] h 0 0 Post
  have hnm := hM.1
  have hc2 := hM.2.1
  obtain ⟨he, hl, hlo, hlr, ho, h9, hnum, hbs, hbn⟩ := hM.2.2.1 i hi
  have hk : kd (1000 + i) = 2 := kd_mem (by omega)
  have hko : kd (2000 + i) = 4 := kd_own (by omega)
  have hkr : kd (3000 + i) = 14 := kd_arr (by omega)
  have hns := hS.1
  refine wp_aload_n dX6_wait_0 rfl 0 rfl ?_
  refine wp_iload_n dX6_wait_1 rfl 1 rfl ?_
  refine wp_callV mX6_findMember 1 [.int (nI i)] [] (c := 6) dX6_wait_2 iX6_findMember (fun _ => trivial) mlX6_64 imX6_findMember seX6_findMember (by decide) rfl rfl ⟨by decide, by decide⟩ rfl rfl (Nat.le_of_ble_eq_true rfl) (Nat.le_of_ble_eq_true rfl) (by decide) (by decide) ?_
  refine ct_findMember nm i hr hc2 hnm hi he ?_
  show WP g mX6_wait 5 [(0, .ref 1), (1, .int (nI i))] [.ref (1000 + i)] _ 0 0 _
  refine wp_astore_n (lv' := [(2, .ref (1000 + i)), (0, .ref 1), (1, .int (nI i))]) dX6_wait_5 rfl (by decide) rfl ?_
  refine wp_aload_n dX6_wait_6 rfl 0 rfl ?_
  refine wp_ifnull dX6_wait_7 ?_
  refine wp_aload_n dX6_wait_10 rfl 0 rfl ?_
  refine wp_getI dX6_wait_11 flX6_92 rfl hk hl ?_
  refine wp_iconst (v := 3) dX6_wait_14 (by decide) ?_
  refine wp_icmp_ne (tgt := 22) dX6_wait_15 (by decide) (fun c_1 => ?_) (fun c_1 => ?_)
  · refine wp_aload_n dX6_wait_22 rfl 1 rfl ?_
    refine wv_getI (nI ns) dX6_wait_23 flX6_38 rfl rfl hr.1 hS.2.1 ?_
    refine wp_if_ne (tgt := 31) dX6_wait_26 (by decide) (fun c_2 => ?_) (fun c_2 => ?_)
    · refine wp_aload_n dX6_wait_31 rfl 1 rfl ?_
      refine wp_callV mX6_latestStamped 1 [] [] (c := 6) dX6_wait_32 iX6_latestStamped (fun _ => trivial) mlX6_267 imX6_latestStamped seX6_latestStamped (by decide) rfl rfl ⟨by decide, by decide⟩ rfl rfl (Nat.le_of_ble_eq_true rfl) (Nat.le_of_ble_eq_true rfl) (by decide) (by decide) ?_
      refine ct_latest ns (by omega) hr hS.2.1 hS.2.2.1 ?_
      show WP g mX6_wait 35 [(2, .ref (1000 + i)), (0, .ref 1), (1, .int (nI i))] [.long (ltS h ns)] _ 0 0 _
      refine wp_lconst (v := 1) dX6_wait_35 rfl ?_
      refine wp_ladd dX6_wait_36 ?_
      refine wp_lstore_n (lv' := [(3, .long ((ltS h ns) + 1)), (2, .ref (1000 + i)), (0, .ref 1), (1, .int (nI i))]) dX6_wait_37 rfl (by decide) rfl ?_
      refine wp_aload_n dX6_wait_38 rfl 1 rfl ?_
      refine wp_aload_n dX6_wait_39 rfl 2 rfl ?_
      refine wp_getL dX6_wait_40 flX6_7 rfl rfl hr.1 ?_
      refine wp_callV mX2_lowAt (1000 + i) [.long (vL h 1 0)] [] (c := 2) dX6_wait_43 iX2_lowAt (fun _ => trivial) mlX6_112 imX2_lowAt seX2_lowAt (by decide) rfl hk ⟨by decide, by decide⟩ rfl rfl (Nat.le_of_ble_eq_true rfl) (Nat.le_of_ble_eq_true rfl) (by decide) (by decide) ?_
      refine ct_lowAt (1000 + i) (2000 + i) (vL h 1 0) hk hl ho hko hlo ?_
      show WP g mX6_wait 46 [(3, .long ((ltS h ns) + 1)), (2, .ref (1000 + i)), (0, .ref 1), (1, .int (nI i))] [.long (cLo h (1000 + i) (2000 + i) (vL h 1 0))] _ 0 0 _
      refine wp_lload_n dX6_wait_46 rfl 0 rfl ?_
      refine wl_lt (tgt := 53) dX6_wait_47 dX6_wait_48 (by decide) (fun c_3 => ?_) (fun c_3 => ?_)
      · refine wp_aload_n dX6_wait_53 rfl 1 rfl ?_
        refine wp_aload_n dX6_wait_54 rfl 2 rfl ?_
        refine wp_getL dX6_wait_55 flX6_7 rfl rfl hr.1 ?_
        refine wp_callV mX2_countedAt (1000 + i) [.long (vL h 1 0)] [] (c := 2) dX6_wait_58 iX2_countedAt (fun _ => trivial) mlX6_109 imX2_countedAt seX2_countedAt (by decide) rfl hk ⟨by decide, by decide⟩ rfl rfl (Nat.le_of_ble_eq_true rfl) (Nat.le_of_ble_eq_true rfl) (by decide) (by decide) ?_
        refine ct_countedAt (1000 + i) (vL h 1 0) hk hl ?_
        show WP g mX6_wait 61 [(3, .long ((ltS h ns) + 1)), (2, .ref (1000 + i)), (0, .ref 1), (1, .int (nI i))] [.long (cCn h (1000 + i) (vL h 1 0))] _ 0 0 _
        refine wp_aload_n dX6_wait_61 rfl 1 rfl ?_
        refine wp_getP (b := 2000 + i) dX6_wait_62 flX6_227 rfl hk hl ho ?_
        refine wp_getL dX6_wait_65 flX6_271 rfl hko hlo ?_
        refine wp_lsub dX6_wait_68 ?_
        refine wp_lstore (lv' := [(5, .long ((cCn h (1000 + i) (vL h 1 0)) - (vL h (2000 + i) 3))), (3, .long ((ltS h ns) + 1)), (2, .ref (1000 + i)), (0, .ref 1), (1, .int (nI i))]) dX6_wait_69 (by decide) rfl ?_
        refine wp_lload_n dX6_wait_71 rfl 1 rfl ?_
        refine wp_aload_n dX6_wait_72 rfl 2 rfl ?_
        refine wp_getP (b := 2000 + i) dX6_wait_73 flX6_227 rfl hk hl ho ?_
        refine wp_getL dX6_wait_76 flX6_274 rfl hko hlo ?_
        refine wp_lsub dX6_wait_79 ?_
        refine wp_pc (pc' := 80) rfl ?_
        refine wp_aload_n dX6_wait_80 rfl 2 rfl ?_
        refine wp_getI dX6_wait_81 flX6_85 rfl hk hl ?_
        refine wp_callS mX6_countFor [.long (((ltS h ns) + 1) - (vL h (2000 + i) 1)), .int (vI h (1000 + i) 2)] [] dX6_wait_84 iX6_countFor (fun _ => trivial) mlX6_275 stX6_countFor ⟨by decide, by decide⟩ rfl rfl (Nat.le_of_ble_eq_true rfl) (Nat.le_of_ble_eq_true rfl) (by decide) (by decide) ?_
        refine ct_countFor (((ltS h ns) + 1) - (vL h (2000 + i) 1)) (vI h (1000 + i) 2)  ?_
        show WP g mX6_wait 87 [(5, .long ((cCn h (1000 + i) (vL h 1 0)) - (vL h (2000 + i) 3))), (3, .long ((ltS h ns) + 1)), (2, .ref (1000 + i)), (0, .ref 1), (1, .int (nI i))] [.long (cFo (((ltS h ns) + 1) - (vL h (2000 + i) 1)) (vI h (1000 + i) 2))] _ 0 0 _
        refine wp_lload dX6_wait_87 0 rfl ?_
        refine wp_lsub dX6_wait_89 ?_
        refine wp_lret dX6_wait_90 rfl (by decide) (by decide) ?_
        have q := hp c_1 (fun z => c_2 (by rw [z]; rfl))
        rw [show waS h (1000 + i) (2000 + i) ns (vL h 1 0) = _ from if_neg (Int64.not_le.mpr c_3)] at q
        exact q
      · refine wp_lconst (v := 0) dX6_wait_51 rfl ?_
        refine wp_lret dX6_wait_52 rfl (by decide) (by decide) ?_
        have q := hp c_1 (fun z => c_2 (by rw [z]; rfl))
        rw [show waS h (1000 + i) (2000 + i) ns (vL h 1 0) = _ from if_pos (Int64.not_lt.mp c_3)] at q
        exact q
    · refine wp_lconst (v := 0) dX6_wait_29 rfl ?_
      refine wp_lret dX6_wait_30 rfl (by decide) (by decide) ?_
      exact h0 c_1 (by have q := c_2; rw [i32_eq, nIt (by omega)] at q; simpa using q)
  · refine wp_ldc2 dX6_wait_18 cnX6_58 ?_
    refine wp_lret dX6_wait_21 rfl (by decide) (by decide) ?_
    exact h3 c_1
def TW (h : HP) : Prop := liv h 10 = true ∧ (liv h 11 = true ∧ liv h 12 = true ∧ liv h 13 = true ∧ liv h 14 = true ∧ liv h 15 = true ∧ liv h 16 = true ∧ liv h 17 = true ∧ liv h 18 = true ∧ liv h 19 = true) ∧ vP h 10 0 = some 11 ∧ vP h 10 1 = some 12 ∧ vP h 10 3 = some 13 ∧ vP h 10 4 = some 14 ∧ vP h 10 6 = some 15 ∧ vP h 10 7 = some 16 ∧ vP h 10 8 = some 17 ∧ vP h 10 9 = some 18 ∧ vP h 10 10 = some 19
def evH (h : HP) (ne : Nat) (lo hi : Int64) : HP := sI (sI (sL (sL h 11 ne lo) 12 ne hi) 10 2 (nI (ne + 1))) 10 13 0
def lkH (h : HP) (nk e g : Nat) : HP := sI (sI (sI (sI (sI h 13 nk (nI e)) 14 nk (nI g)) 15 e (vI h 15 e ||| (1 <<< (nI g &&& 31)))) 10 5 (nI (nk + 1))) 10 13 0
set_option maxRecDepth 100000 in
set_option maxHeartbeats 4000000 in
theorem ct_hasEvent {g : GG} {h : HP} {Post : Option Value → HP → Prop} (ne : Nat) (x : Int32) (hT : TW h) (hne : vI h 10 2 = nI ne) (hn : ne ≤ 30) (hy : inR x ne → Post (some (.int 1)) h) (hno : ¬ inR x ne → Post (some (.int 0)) h) : CT g mX3_hasEvent [.ref 10, .int x] h Post := by
  show WP g mX3_hasEvent 0 [(0, .ref 10), (1, .int x)] [] h 0 0 Post
  refine wp_iload_n dX3_hasEvent_0 rfl 1 rfl ?_
  refine wi_if_lt (tgt := 16) (Int32.toInt x) rfl dX3_hasEvent_1 (by decide) (fun c_1 => ?_) (fun c_1 => ?_)
  · refine wp_iconst (v := 0) dX3_hasEvent_16 (by decide) ?_
    refine wp_zret dX3_hasEvent_17 rfl (by decide) (by decide) rfl ?_
    exact hno (fun q => by unfold inR at q; omega)
  · refine wp_iload_n dX3_hasEvent_4 rfl 1 rfl ?_
    refine wp_aload_n dX3_hasEvent_5 rfl 0 rfl ?_
    refine wv_getI (nI ne) dX3_hasEvent_6 flX3_40 rfl rfl hT.1 hne ?_
    refine wi_icmp_ge (tgt := 16) (Int32.toInt x) ((ne : Nat)) rfl (nIt (by omega)) dX3_hasEvent_9 (by decide) (fun c_2 => ?_) (fun c_2 => ?_)
    · refine wp_iconst (v := 0) dX3_hasEvent_16 (by decide) ?_
      refine wp_zret dX3_hasEvent_17 rfl (by decide) (by decide) rfl ?_
      exact hno (fun q => by unfold inR at q; omega)
    · refine wp_iconst (v := 1) dX3_hasEvent_12 (by decide) ?_
      refine wp_goto (tgt := 17) dX3_hasEvent_13 (by decide) ?_
      refine wp_zret dX3_hasEvent_17 rfl (by decide) (by decide) rfl ?_
      exact hy ⟨by omega, by omega⟩
set_option maxRecDepth 100000 in
set_option maxHeartbeats 4000000 in
theorem ct_addEvent {g : GG} {h : HP} {Post : Option Value → HP → Prop} (ne : Nat) (lo hi : Int64) (hT : TW h) (hne : vI h 10 2 = nI ne) (hn : ne < 30) (hp : Post (some (.long (Int32.toInt64 (nI ne)))) (evH h ne lo hi)) : CT g mX3_addEvent [.ref 10, .long lo, .long hi] h Post := by
  show WP g mX3_addEvent 0 [(0, .ref 10), (1, .long lo), (3, .long hi)] [] h 0 0 Post
  refine wp_aload_n dX3_addEvent_0 rfl 0 rfl ?_
  refine wv_getI (nI ne) dX3_addEvent_1 flX3_40 rfl rfl hT.1 hne ?_
  refine wp_bipush (v := 30) dX3_addEvent_4 (by decide) ?_
  refine wp_icmp_lt (tgt := 13) dX3_addEvent_6 (by decide) (fun _ => ?_) (fun c_1 => absurd (nI_lt hn (by omega)) c_1)
  refine wp_aload_n dX3_addEvent_13 rfl 0 rfl ?_
  refine wp_getP (b := 11) dX3_addEvent_14 flX3_9 rfl rfl hT.1 hT.2.2.1 ?_
  refine wp_aload_n dX3_addEvent_17 rfl 0 rfl ?_
  refine wv_getI (nI ne) dX3_addEvent_18 flX3_40 rfl rfl hT.1 hne ?_
  refine wp_lload_n dX3_addEvent_21 rfl 1 rfl ?_
  refine wv_last ne dX3_addEvent_22 rfl hT.2.1.1 rfl (by show ne < 30; omega) ?_
  refine wp_aload_n dX3_addEvent_23 rfl 0 rfl ?_
  refine wp_getP (b := 12) dX3_addEvent_24 flX3_15 rfl rfl hT.1 hT.2.2.2.1 ?_
  refine wp_aload_n dX3_addEvent_27 rfl 0 rfl ?_
  refine wv_getI (nI ne) dX3_addEvent_28 flX3_40 rfl rfl hT.1 hne ?_
  refine wp_lload_n dX3_addEvent_31 rfl 2 rfl ?_
  refine wp_pc (pc' := 32) rfl ?_
  refine wv_last ne dX3_addEvent_32 rfl hT.2.1.2.1 rfl (by show ne < 30; omega) ?_
  refine wp_aload_n dX3_addEvent_33 rfl 0 rfl ?_
  refine wp_dup dX3_addEvent_34 rfl ?_
  refine wv_getI (nI ne) dX3_addEvent_35 flX3_40 rfl rfl hT.1 hne ?_
  refine wp_iconst (v := 1) dX3_addEvent_38 (by decide) ?_
  refine wv_iadd (nI (ne + 1)) (wN_add rfl rfl) dX3_addEvent_39 ?_
  refine wp_putI dX3_addEvent_40 flX3_40 (Or.inl rfl) rfl rfl rfl rfl hT.1 ?_
  refine wp_aload_n dX3_addEvent_43 rfl 0 rfl ?_
  refine wp_iconst (v := 0) dX3_addEvent_44 (by decide) ?_
  refine wp_putI dX3_addEvent_45 flX3_46 (Or.inl rfl) rfl rfl rfl rfl hT.1 ?_
  refine wp_aload_n dX3_addEvent_48 rfl 0 rfl ?_
  refine wv_getI (nI (ne + 1)) dX3_addEvent_49 flX3_40 rfl rfl hT.1 (by rw [vIj (by decide)]; exact vIs) ?_
  refine wp_iconst (v := 1) dX3_addEvent_52 (by decide) ?_
  refine wv_isub (nI ne) (nI_pred _) dX3_addEvent_53 ?_
  refine wp_i2l dX3_addEvent_54 ?_
  refine wp_pc (pc' := 55) rfl ?_
  refine wp_lret dX3_addEvent_55 rfl (by decide) (by decide) ?_
  exact hp
