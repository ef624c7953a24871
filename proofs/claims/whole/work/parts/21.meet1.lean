/-! contracts: events and links; gathering; meetings -/
set_option maxRecDepth 100000 in
set_option maxHeartbeats 4000000 in
theorem ct_addLink {g : GG} {h : HP} {Post : Option Value → HP → Prop} (e k2 : Nat) (ne nk : Nat) (hT : TW h) (hne : vI h 10 2 = nI ne) (hn : ne ≤ 30) (hnk : vI h 10 5 = nI nk) (hk6 : nk < 60) (he : e < ne) (hk2 : k2 < ne) (hp : Post (some (.long (Int32.toInt64 (nI (nk + 1))))) (lkH h nk e k2)) : CT g mX3_addLink [.ref 10, .int (nI e), .int (nI k2)] h Post := by
  show WP g mX3_addLink 0 [(0, .ref 10), (1, .int (nI e)), (2, .int (nI k2))] [] h 0 0 Post
  refine wp_aload_n dX3_addLink_0 rfl 0 rfl ?_
  refine wv_getI (nI nk) dX3_addLink_1 flX3_50 rfl rfl hT.1 hnk ?_
  refine wp_bipush (v := 60) dX3_addLink_4 (by decide) ?_
  refine wp_icmp_ge (tgt := 25) dX3_addLink_6 (by decide) (fun c_1 => absurd c_1 (nI_ge (a := nk) (b := 60) hk6 (by decide))) (fun _ => ?_)
  refine wp_aload_n dX3_addLink_9 rfl 0 rfl ?_
  refine wp_iload_n dX3_addLink_10 rfl 1 rfl ?_
  refine wp_callV mX3_hasEvent 10 [.int (nI e)] [] (c := 3) dX3_addLink_11 iX3_hasEvent (fun _ => trivial) mlX3_53 imX3_hasEvent seX3_hasEvent (by decide) rfl rfl ⟨by decide, by decide⟩ rfl rfl (Nat.le_of_ble_eq_true rfl) (Nat.le_of_ble_eq_true rfl) (by decide) (by decide) ?_
  refine ct_hasEvent ne (nI e) hT hne hn (fun _ => ?_) (fun z => absurd (inR_nI he (by omega)) z)
  show WP g mX3_addLink 14 [(0, .ref 10), (1, .int (nI e)), (2, .int (nI k2))] [.int 1] _ 0 0 _
  refine wp_if_eq (tgt := 25) dX3_addLink_14 (by decide) (fun c_2 => absurd c_2 (by decide)) (fun _ => ?_)
  refine wp_aload_n dX3_addLink_17 rfl 0 rfl ?_
  refine wp_iload_n dX3_addLink_18 rfl 2 rfl ?_
  refine wp_callV mX3_hasEvent 10 [.int (nI k2)] [] (c := 3) dX3_addLink_19 iX3_hasEvent (fun _ => trivial) mlX3_53 imX3_hasEvent seX3_hasEvent (by decide) rfl rfl ⟨by decide, by decide⟩ rfl rfl (Nat.le_of_ble_eq_true rfl) (Nat.le_of_ble_eq_true rfl) (by decide) (by decide) ?_
  refine ct_hasEvent ne (nI k2) hT hne hn (fun _ => ?_) (fun z => absurd (inR_nI hk2 (by omega)) z)
  show WP g mX3_addLink 22 [(0, .ref 10), (1, .int (nI e)), (2, .int (nI k2))] [.int 1] _ 0 0 _
  refine wp_if_ne (tgt := 29) dX3_addLink_22 (by decide) (fun _ => ?_) (fun c_3 => absurd c_3 (by decide))
  refine wp_aload_n dX3_addLink_29 rfl 0 rfl ?_
  refine wp_getP (b := 13) dX3_addLink_30 flX3_18 rfl rfl hT.1 hT.2.2.2.2.1 ?_
  refine wp_aload_n dX3_addLink_33 rfl 0 rfl ?_
  refine wp_pc (pc' := 34) rfl ?_
  refine wv_getI (nI nk) dX3_addLink_34 flX3_50 rfl rfl hT.1 hnk ?_
  refine wp_iload_n dX3_addLink_37 rfl 1 rfl ?_
  refine wv_iast nk dX3_addLink_38 rfl hT.2.1.2.2.1 rfl (by show nk < 60; omega) ?_
  refine wp_aload_n dX3_addLink_39 rfl 0 rfl ?_
  refine wp_getP (b := 14) dX3_addLink_40 flX3_22 rfl rfl hT.1 hT.2.2.2.2.2.1 ?_
  refine wp_aload_n dX3_addLink_43 rfl 0 rfl ?_
  refine wv_getI (nI nk) dX3_addLink_44 flX3_50 rfl rfl hT.1 (by rw [vIn (by decide)]; exact hnk) ?_
  refine wp_iload_n dX3_addLink_47 rfl 2 rfl ?_
  refine wv_iast nk dX3_addLink_48 rfl hT.2.1.2.2.2.1 rfl (by show nk < 60; omega) ?_
  refine wp_aload_n dX3_addLink_49 rfl 0 rfl ?_
  refine wp_getP (b := 15) dX3_addLink_50 flX3_25 rfl rfl hT.1 hT.2.2.2.2.2.2.1 ?_
  refine wp_iload_n dX3_addLink_53 rfl 1 rfl ?_
  refine wp_dup2_11 dX3_addLink_54 rfl rfl ?_
  refine wv_iald e (vI h 15 e) dX3_addLink_55 rfl hT.2.1.2.2.2.2.1 rfl (by show e < 30; omega) (by rw [vIn (by decide), vIn (by decide)]) ?_
  refine wp_iconst (v := 1) dX3_addLink_56 (by decide) ?_
  refine wp_pc (pc' := 57) rfl ?_
  refine wp_iload_n dX3_addLink_57 rfl 2 rfl ?_
  refine wp_ishl dX3_addLink_58 ?_
  refine wp_ior dX3_addLink_59 ?_
  refine wv_iast e dX3_addLink_60 rfl hT.2.1.2.2.2.2.1 rfl (by show e < 30; omega) ?_
  refine wp_aload_n dX3_addLink_61 rfl 0 rfl ?_
  refine wp_dup dX3_addLink_62 rfl ?_
  refine wv_getI (nI nk) dX3_addLink_63 flX3_50 rfl rfl hT.1 (by rw [vIn (by decide), vIn (by decide), vIn (by decide)]; exact hnk) ?_
  refine wp_iconst (v := 1) dX3_addLink_66 (by decide) ?_
  refine wv_iadd (nI (nk + 1)) (wN_add rfl rfl) dX3_addLink_67 ?_
  refine wp_putI dX3_addLink_68 flX3_50 (Or.inl rfl) rfl rfl rfl rfl hT.1 ?_
  refine wp_aload_n dX3_addLink_71 rfl 0 rfl ?_
  refine wp_iconst (v := 0) dX3_addLink_72 (by decide) ?_
  refine wp_putI dX3_addLink_73 flX3_46 (Or.inl rfl) rfl rfl rfl rfl hT.1 ?_
  refine wp_aload_n dX3_addLink_76 rfl 0 rfl ?_
  refine wv_getI (nI (nk + 1)) dX3_addLink_77 flX3_50 rfl rfl hT.1 (by rw [vIj (by decide)]; exact vIs) ?_
  refine wp_pc (pc' := 80) rfl ?_
  refine wp_i2l dX3_addLink_80 ?_
  refine wp_lret dX3_addLink_81 rfl (by decide) (by decide) ?_
  exact hp
set_option maxRecDepth 100000 in
set_option maxHeartbeats 4000000 in
theorem ct_event0 {g : GG} {h : HP} {Post : Option Value → HP → Prop} (ns : Nat) (x : Int32) (hr : SR h) (hS : SS h ns) (hx : ¬ inR x ns) (hp : Post (some (.long (-9000000000000000000))) h) : CT g mX6_event [.ref 1, .int x] h Post := by
  show WP g mX6_event 0 [(0, .ref 1), (1, .int x)] [] h 0 0 Post
  refine wp_aload_n dX6_event_0 rfl 0 rfl ?_
  refine wp_iload_n dX6_event_1 rfl 1 rfl ?_
  refine wp_callV mX6_findStamp 1 [.int x] [] (c := 6) dX6_event_2 iX6_findStamp (fun _ => trivial) mlX6_253 imX6_findStamp seX6_findStamp (by decide) rfl rfl ⟨by decide, by decide⟩ rfl rfl (Nat.le_of_ble_eq_true rfl) (Nat.le_of_ble_eq_true rfl) (by decide) (by decide) ?_
  refine ct_findStamp0 ns x hr hS.2.1 (by have := hS.1; omega) hx ?_
  show WP g mX6_event 5 [(0, .ref 1), (1, .int x)] [.null] _ 0 0 _
  refine wp_astore_nN (lv' := [(2, .null), (0, .ref 1), (1, .int x)]) dX6_event_5 rfl (by decide) rfl ?_
  refine wp_aload_nN dX6_event_6 rfl 0 rfl ?_
  refine wp_ifnullN (tgt := 22) dX6_event_7 (by decide) ?_
  refine wp_ldc2 dX6_event_22 cnX6_58 ?_
  refine wp_lret dX6_event_25 rfl (by decide) (by decide) ?_
  exact hp
set_option maxRecDepth 100000 in
set_option maxHeartbeats 4000000 in
theorem ct_event {g : GG} {h : HP} {Post : Option Value → HP → Prop} (ns k ne : Nat) (hr : SR h) (hS : SS h ns) (hk : k < ns) (hT : TW h) (hne : vI h 10 2 = nI ne) (hn : ne ≤ 30) (hno : ne = 30 → Post (some (.long (-9000000000000000000))) h) (hyes : ne < 30 → Post (some (.long (Int32.toInt64 (nI ne)))) (evH h ne (vL h (6000 + k) 0) (vL h (6000 + k) 1))) : CT g mX6_event [.ref 1, .int (nI k)] h Post := by
  show WP g mX6_event 0 [(0, .ref 1), (1, .int (nI k))] [] h 0 0 Post
  refine wp_aload_n dX6_event_0 rfl 0 rfl ?_
  refine wp_iload_n dX6_event_1 rfl 1 rfl ?_
  refine wp_callV mX6_findStamp 1 [.int (nI k)] [] (c := 6) dX6_event_2 iX6_findStamp (fun _ => trivial) mlX6_253 imX6_findStamp seX6_findStamp (by decide) rfl rfl ⟨by decide, by decide⟩ rfl rfl (Nat.le_of_ble_eq_true rfl) (Nat.le_of_ble_eq_true rfl) (by decide) (by decide) ?_
  refine ct_findStamp ns k hr hS.2.1 (by have := hS.1; omega) hk (hS.2.2.1 k hk).1 ?_
  show WP g mX6_event 5 [(0, .ref 1), (1, .int (nI k))] [.ref (6000 + k)] _ 0 0 _
  refine wp_astore_n (lv' := [(2, .ref (6000 + k)), (0, .ref 1), (1, .int (nI k))]) dX6_event_5 rfl (by decide) rfl ?_
  refine wp_aload_n dX6_event_6 rfl 0 rfl ?_
  refine wp_ifnull dX6_event_7 ?_
  refine wp_aload_n dX6_event_10 rfl 1 rfl ?_
  refine wp_getP (b := 10) dX6_event_11 flX6_51 rfl rfl hr.1 hr.2.2.2.2.2.2.2.2.2.1 ?_
  refine wv_getI (nI ne) dX6_event_14 flX6_279 rfl rfl hT.1 hne ?_
  refine wp_bipush (v := 30) dX6_event_17 (by decide) ?_
  refine wi_icmp_lt (tgt := 26) ((ne : Nat)) (30) (nIt (by omega)) (by decide) dX6_event_19 (by decide) (fun c_1 => ?_) (fun c_1 => ?_)
  · refine wp_aload_n dX6_event_26 rfl 1 rfl ?_
    refine wp_getP (b := 10) dX6_event_27 flX6_51 rfl rfl hr.1 hr.2.2.2.2.2.2.2.2.2.1 ?_
    refine wp_aload_n dX6_event_30 rfl 0 rfl ?_
    refine wp_getL dX6_event_31 flX6_257 rfl (kd_stp (by have := hS.1; omega)) (hS.2.2.1 k hk).2 ?_
    refine wp_aload_n dX6_event_34 rfl 0 rfl ?_
    refine wp_getL dX6_event_35 flX6_258 rfl (kd_stp (by have := hS.1; omega)) (hS.2.2.1 k hk).2 ?_
    refine wp_callV mX3_addEvent 10 [.long (vL h (6000 + k) 0), .long (vL h (6000 + k) 1)] [] (c := 3) dX6_event_38 iX3_addEvent (fun _ => trivial) mlX6_282 imX3_addEvent seX3_addEvent (by decide) rfl rfl ⟨by decide, by decide⟩ rfl rfl (Nat.le_of_ble_eq_true rfl) (Nat.le_of_ble_eq_true rfl) (by decide) (by decide) ?_
    refine ct_addEvent ne (vL h (6000 + k) 0) (vL h (6000 + k) 1) hT hne (by omega) ?_
    show WP g mX6_event 41 [(2, .ref (6000 + k)), (0, .ref 1), (1, .int (nI k))] [.long (Int32.toInt64 (nI ne))] _ 0 0 _
    refine wp_lret dX6_event_41 rfl (by decide) (by decide) ?_
    exact hyes (by omega)
  · refine wp_ldc2 dX6_event_22 cnX6_58 ?_
    refine wp_lret dX6_event_25 rfl (by decide) (by decide) ?_
    exact hno (by omega)
set_option maxRecDepth 100000 in
set_option maxHeartbeats 4000000 in
theorem ct_link0 {g : GG} {h : HP} {Post : Option Value → HP → Prop} (x y : Int32) (ne nk : Nat) (hr : SR h) (hT : TW h) (hne : vI h 10 2 = nI ne) (hn : ne ≤ 30) (hnk : vI h 10 5 = nI nk) (hx : ¬ inR x ne) (hp : Post (some (.long (-9000000000000000000))) h) : CT g mX6_link [.ref 1, .int x, .int y] h Post := by
  show WP g mX6_link 0 [(0, .ref 1), (1, .int x), (2, .int y)] [] h 0 0 Post
  refine wp_aload_n dX6_link_0 rfl 0 rfl ?_
  refine wp_getP (b := 10) dX6_link_1 flX6_51 rfl rfl hr.1 hr.2.2.2.2.2.2.2.2.2.1 ?_
  refine wp_iload_n dX6_link_4 rfl 1 rfl ?_
  refine wp_callV mX3_hasEvent 10 [.int x] [] (c := 3) dX6_link_5 iX3_hasEvent (fun _ => trivial) mlX6_285 imX3_hasEvent seX3_hasEvent (by decide) rfl rfl ⟨by decide, by decide⟩ rfl rfl (Nat.le_of_ble_eq_true rfl) (Nat.le_of_ble_eq_true rfl) (by decide) (by decide) ?_
  refine ct_hasEvent ne x hT hne hn (fun z => absurd z hx) (fun _ => ?_)
  show WP g mX6_link 8 [(0, .ref 1), (1, .int x), (2, .int y)] [.int 0] _ 0 0 _
  refine wp_if_eq (tgt := 39) dX6_link_8 (by decide) (fun _ => ?_) (fun c_1 => absurd (by decide) c_1)
  refine wp_ldc2 dX6_link_39 cnX6_58 ?_
  refine wp_lret dX6_link_42 rfl (by decide) (by decide) ?_
  exact hp
set_option maxRecDepth 100000 in
set_option maxHeartbeats 4000000 in
theorem ct_link1 {g : GG} {h : HP} {Post : Option Value → HP → Prop} (e : Nat) (y : Int32) (ne nk : Nat) (hr : SR h) (hT : TW h) (hne : vI h 10 2 = nI ne) (hn : ne ≤ 30) (hnk : vI h 10 5 = nI nk) (he : e < ne) (hy : ¬ inR y ne) (hp : Post (some (.long (-9000000000000000000))) h) : CT g mX6_link [.ref 1, .int (nI e), .int y] h Post := by
  show WP g mX6_link 0 [(0, .ref 1), (1, .int (nI e)), (2, .int y)] [] h 0 0 Post
  refine wp_aload_n dX6_link_0 rfl 0 rfl ?_
  refine wp_getP (b := 10) dX6_link_1 flX6_51 rfl rfl hr.1 hr.2.2.2.2.2.2.2.2.2.1 ?_
  refine wp_iload_n dX6_link_4 rfl 1 rfl ?_
  refine wp_callV mX3_hasEvent 10 [.int (nI e)] [] (c := 3) dX6_link_5 iX3_hasEvent (fun _ => trivial) mlX6_285 imX3_hasEvent seX3_hasEvent (by decide) rfl rfl ⟨by decide, by decide⟩ rfl rfl (Nat.le_of_ble_eq_true rfl) (Nat.le_of_ble_eq_true rfl) (by decide) (by decide) ?_
  refine ct_hasEvent ne (nI e) hT hne hn (fun _ => ?_) (fun z => absurd (inR_nI he (by omega)) z)
  show WP g mX6_link 8 [(0, .ref 1), (1, .int (nI e)), (2, .int y)] [.int 1] _ 0 0 _
  refine wp_if_eq (tgt := 39) dX6_link_8 (by decide) (fun c_1 => absurd c_1 (by decide)) (fun _ => ?_)
  refine wp_aload_n dX6_link_11 rfl 0 rfl ?_
  refine wp_getP (b := 10) dX6_link_12 flX6_51 rfl rfl hr.1 hr.2.2.2.2.2.2.2.2.2.1 ?_
  refine wp_iload_n dX6_link_15 rfl 2 rfl ?_
  refine wp_callV mX3_hasEvent 10 [.int y] [] (c := 3) dX6_link_16 iX3_hasEvent (fun _ => trivial) mlX6_285 imX3_hasEvent seX3_hasEvent (by decide) rfl rfl ⟨by decide, by decide⟩ rfl rfl (Nat.le_of_ble_eq_true rfl) (Nat.le_of_ble_eq_true rfl) (by decide) (by decide) ?_
  refine ct_hasEvent ne y hT hne hn (fun z => absurd z hy) (fun _ => ?_)
  show WP g mX6_link 19 [(0, .ref 1), (1, .int (nI e)), (2, .int y)] [.int 0] _ 0 0 _
  refine wp_if_eq (tgt := 39) dX6_link_19 (by decide) (fun _ => ?_) (fun c_2 => absurd (by decide) c_2)
  refine wp_ldc2 dX6_link_39 cnX6_58 ?_
  refine wp_lret dX6_link_42 rfl (by decide) (by decide) ?_
  exact hp
set_option maxRecDepth 100000 in
set_option maxHeartbeats 4000000 in
theorem ct_link {g : GG} {h : HP} {Post : Option Value → HP → Prop} (e k2 : Nat) (ne nk : Nat) (hr : SR h) (hT : TW h) (hne : vI h 10 2 = nI ne) (hn : ne ≤ 30) (hnk : vI h 10 5 = nI nk) (hk6 : nk ≤ 60) (he : e < ne) (hk2 : k2 < ne) (hno : (e = k2 ∨ nk = 60) → Post (some (.long (-9000000000000000000))) h) (hyes : e ≠ k2 → nk < 60 → Post (some (.long (Int32.toInt64 (nI (nk + 1))))) (lkH h nk e k2)) : CT g mX6_link [.ref 1, .int (nI e), .int (nI k2)] h Post := by
  show WP g mX6_link 0 [(0, .ref 1), (1, .int (nI e)), (2, .int (nI k2))] [] h 0 0 Post
  refine wp_aload_n dX6_link_0 rfl 0 rfl ?_
  refine wp_getP (b := 10) dX6_link_1 flX6_51 rfl rfl hr.1 hr.2.2.2.2.2.2.2.2.2.1 ?_
  refine wp_iload_n dX6_link_4 rfl 1 rfl ?_
  refine wp_callV mX3_hasEvent 10 [.int (nI e)] [] (c := 3) dX6_link_5 iX3_hasEvent (fun _ => trivial) mlX6_285 imX3_hasEvent seX3_hasEvent (by decide) rfl rfl ⟨by decide, by decide⟩ rfl rfl (Nat.le_of_ble_eq_true rfl) (Nat.le_of_ble_eq_true rfl) (by decide) (by decide) ?_
  refine ct_hasEvent ne (nI e) hT hne hn (fun _ => ?_) (fun z => absurd (inR_nI he (by omega)) z)
  show WP g mX6_link 8 [(0, .ref 1), (1, .int (nI e)), (2, .int (nI k2))] [.int 1] _ 0 0 _
  refine wp_if_eq (tgt := 39) dX6_link_8 (by decide) (fun c_1 => absurd c_1 (by decide)) (fun _ => ?_)
  refine wp_aload_n dX6_link_11 rfl 0 rfl ?_
  refine wp_getP (b := 10) dX6_link_12 flX6_51 rfl rfl hr.1 hr.2.2.2.2.2.2.2.2.2.1 ?_
  refine wp_iload_n dX6_link_15 rfl 2 rfl ?_
  refine wp_callV mX3_hasEvent 10 [.int (nI k2)] [] (c := 3) dX6_link_16 iX3_hasEvent (fun _ => trivial) mlX6_285 imX3_hasEvent seX3_hasEvent (by decide) rfl rfl ⟨by decide, by decide⟩ rfl rfl (Nat.le_of_ble_eq_true rfl) (Nat.le_of_ble_eq_true rfl) (by decide) (by decide) ?_
  refine ct_hasEvent ne (nI k2) hT hne hn (fun _ => ?_) (fun z => absurd (inR_nI hk2 (by omega)) z)
  show WP g mX6_link 19 [(0, .ref 1), (1, .int (nI e)), (2, .int (nI k2))] [.int 1] _ 0 0 _
  refine wp_if_eq (tgt := 39) dX6_link_19 (by decide) (fun c_2 => absurd c_2 (by decide)) (fun _ => ?_)
  refine wp_iload_n dX6_link_22 rfl 1 rfl ?_
  refine wp_iload_n dX6_link_23 rfl 2 rfl ?_
  refine wi_icmp_eq (tgt := 39) ((e : Nat)) ((k2 : Nat)) (nIt (by omega)) (nIt (by omega)) dX6_link_24 (by decide) (fun c_3 => ?_) (fun c_3 => ?_)
  · refine wp_ldc2 dX6_link_39 cnX6_58 ?_
    refine wp_lret dX6_link_42 rfl (by decide) (by decide) ?_
    exact hno (by omega)
  · refine wp_aload_n dX6_link_27 rfl 0 rfl ?_
    refine wp_getP (b := 10) dX6_link_28 flX6_51 rfl rfl hr.1 hr.2.2.2.2.2.2.2.2.2.1 ?_
    refine wv_getI (nI nk) dX6_link_31 flX6_288 rfl rfl hT.1 hnk ?_
    refine wp_bipush (v := 60) dX6_link_34 (by decide) ?_
    refine wi_icmp_lt (tgt := 43) ((nk : Nat)) (60) (nIt (by omega)) (by decide) dX6_link_36 (by decide) (fun c_4 => ?_) (fun c_4 => ?_)
    · refine wp_aload_n dX6_link_43 rfl 0 rfl ?_
      refine wp_getP (b := 10) dX6_link_44 flX6_51 rfl rfl hr.1 hr.2.2.2.2.2.2.2.2.2.1 ?_
      refine wp_iload_n dX6_link_47 rfl 1 rfl ?_
      refine wp_iload_n dX6_link_48 rfl 2 rfl ?_
      refine wp_callV mX3_addLink 10 [.int (nI e), .int (nI k2)] [] (c := 3) dX6_link_49 iX3_addLink (fun _ => trivial) mlX6_291 imX3_addLink seX3_addLink (by decide) rfl rfl ⟨by decide, by decide⟩ rfl rfl (Nat.le_of_ble_eq_true rfl) (Nat.le_of_ble_eq_true rfl) (by decide) (by decide) ?_
      refine ct_addLink e k2 ne nk hT hne hn hnk (by omega) he hk2 ?_
      show WP g mX6_link 52 [(0, .ref 1), (1, .int (nI e)), (2, .int (nI k2))] [.long (Int32.toInt64 (nI (nk + 1)))] _ 0 0 _
      refine wp_lret dX6_link_52 rfl (by decide) (by decide) ?_
      exact hyes (by omega) (by omega)
    · refine wp_ldc2 dX6_link_39 cnX6_58 ?_
      refine wp_lret dX6_link_42 rfl (by decide) (by decide) ?_
      exact hno (by omega)
set_option maxRecDepth 100000 in
set_option maxHeartbeats 4000000 in
theorem ct_count_0 {g : GG} {h : HP} {Post : Option Value → HP → Prop} (hr : SR h) (hp : Post (some (.long (Int32.toInt64 (vI h 1 2)))) h) : CT g mX6_count [.ref 1, .int 0] h Post := by
  show WP g mX6_count 0 [(0, .ref 1), (1, .int 0)] [] h 0 0 Post
  refine wp_iload_n dX6_count_0 rfl 1 rfl ?_
  refine wp_tableIn (off := 43) (tgt := 44) dX6_count_1 (by decide) (by decide) (by decide) (by decide) ?_
  refine wp_aload_n dX6_count_44 rfl 0 rfl ?_
  refine wp_getI dX6_count_45 flX6_19 rfl rfl hr.1 ?_
  refine wp_i2l dX6_count_48 ?_
  refine wp_lret dX6_count_49 rfl (by decide) (by decide) ?_
  exact hp
set_option maxRecDepth 100000 in
set_option maxHeartbeats 4000000 in
theorem ct_count_1 {g : GG} {h : HP} {Post : Option Value → HP → Prop} (hr : SR h) (hp : Post (some (.long (Int32.toInt64 (vI h 1 4)))) h) : CT g mX6_count [.ref 1, .int 1] h Post := by
  show WP g mX6_count 0 [(0, .ref 1), (1, .int 1)] [] h 0 0 Post
  refine wp_iload_n dX6_count_0 rfl 1 rfl ?_
  refine wp_tableIn (off := 49) (tgt := 50) dX6_count_1 (by decide) (by decide) (by decide) (by decide) ?_
  refine wp_aload_n dX6_count_50 rfl 0 rfl ?_
  refine wp_getI dX6_count_51 flX6_29 rfl rfl hr.1 ?_
  refine wp_i2l dX6_count_54 ?_
  refine wp_lret dX6_count_55 rfl (by decide) (by decide) ?_
  exact hp
set_option maxRecDepth 100000 in
set_option maxHeartbeats 4000000 in
theorem ct_count_3 {g : GG} {h : HP} {Post : Option Value → HP → Prop} (hr : SR h) (hp : Post (some (.long (Int32.toInt64 (vI h 1 6)))) h) : CT g mX6_count [.ref 1, .int 3] h Post := by
  show WP g mX6_count 0 [(0, .ref 1), (1, .int 3)] [] h 0 0 Post
  refine wp_iload_n dX6_count_0 rfl 1 rfl ?_
  refine wp_tableIn (off := 61) (tgt := 62) dX6_count_1 (by decide) (by decide) (by decide) (by decide) ?_
  refine wp_aload_n dX6_count_62 rfl 0 rfl ?_
  refine wp_getI dX6_count_63 flX6_38 rfl rfl hr.1 ?_
  refine wp_i2l dX6_count_66 ?_
  refine wp_lret dX6_count_67 rfl (by decide) (by decide) ?_
  exact hp
set_option maxRecDepth 100000 in
set_option maxHeartbeats 4000000 in
theorem ct_count_4 {g : GG} {h : HP} {Post : Option Value → HP → Prop} (hr : SR h) (hp : Post (some (.long (Int32.toInt64 (vI h 10 2)))) h) : CT g mX6_count [.ref 1, .int 4] h Post := by
  show WP g mX6_count 0 [(0, .ref 1), (1, .int 4)] [] h 0 0 Post
  refine wp_iload_n dX6_count_0 rfl 1 rfl ?_
  refine wp_tableIn (off := 67) (tgt := 68) dX6_count_1 (by decide) (by decide) (by decide) (by decide) ?_
  refine wp_aload_n dX6_count_68 rfl 0 rfl ?_
  refine wp_getP (b := 10) dX6_count_69 flX6_51 rfl rfl hr.1 hr.2.2.2.2.2.2.2.2.2.1 ?_
  refine wp_getI dX6_count_72 flX6_279 rfl rfl hr.2.2.2.2.1 ?_
  refine wp_i2l dX6_count_75 ?_
  refine wp_lret dX6_count_76 rfl (by decide) (by decide) ?_
  exact hp
set_option maxRecDepth 100000 in
set_option maxHeartbeats 4000000 in
theorem ct_count_5 {g : GG} {h : HP} {Post : Option Value → HP → Prop} (hr : SR h) (hp : Post (some (.long (Int32.toInt64 (vI h 10 5)))) h) : CT g mX6_count [.ref 1, .int 5] h Post := by
  show WP g mX6_count 0 [(0, .ref 1), (1, .int 5)] [] h 0 0 Post
  refine wp_iload_n dX6_count_0 rfl 1 rfl ?_
  refine wp_tableIn (off := 76) (tgt := 77) dX6_count_1 (by decide) (by decide) (by decide) (by decide) ?_
  refine wp_aload_n dX6_count_77 rfl 0 rfl ?_
  refine wp_getP (b := 10) dX6_count_78 flX6_51 rfl rfl hr.1 hr.2.2.2.2.2.2.2.2.2.1 ?_
  refine wp_getI dX6_count_81 flX6_288 rfl rfl hr.2.2.2.2.1 ?_
  refine wp_i2l dX6_count_84 ?_
  refine wp_lret dX6_count_85 rfl (by decide) (by decide) ?_
  exact hp
set_option maxRecDepth 100000 in
set_option maxHeartbeats 4000000 in
theorem ct_count_6 {g : GG} {h : HP} {Post : Option Value → HP → Prop} (hr : SR h) (hp : Post (some (.long (vL h 1 0))) h) : CT g mX6_count [.ref 1, .int 6] h Post := by
  show WP g mX6_count 0 [(0, .ref 1), (1, .int 6)] [] h 0 0 Post
  refine wp_iload_n dX6_count_0 rfl 1 rfl ?_
  refine wp_tableIn (off := 85) (tgt := 86) dX6_count_1 (by decide) (by decide) (by decide) (by decide) ?_
  refine wp_aload_n dX6_count_86 rfl 0 rfl ?_
  refine wp_getL dX6_count_87 flX6_7 rfl rfl hr.1 ?_
  refine wp_lret dX6_count_90 rfl (by decide) (by decide) ?_
  exact hp
set_option maxRecDepth 100000 in
set_option maxHeartbeats 4000000 in
theorem ct_count_2 {g : GG} {h : HP} {Post : Option Value → HP → Prop} (nm nl : Nat) (hr : SR h) (hL : SL h nm nl) (hp : Post (some (.long (Int32.toInt64 (nI (cuN h nl))))) h) : CT g mX6_count [.ref 1, .int 2] h Post := by
  show WP g mX6_count 0 [(0, .ref 1), (1, .int 2)] [] h 0 0 Post
  refine wp_iload_n dX6_count_0 rfl 1 rfl ?_
  refine wp_tableIn (off := 55) (tgt := 56) dX6_count_1 (by decide) (by decide) (by decide) (by decide) ?_
  refine wp_aload_n dX6_count_56 rfl 0 rfl ?_
  refine wp_callV mX6_howManyUnderWay 1 [] [] (c := 6) dX6_count_57 iX6_howManyUnderWay (fun _ => trivial) mlX6_315 imX6_howManyUnderWay seX6_howManyUnderWay (by decide) rfl rfl ⟨by decide, by decide⟩ rfl rfl (Nat.le_of_ble_eq_true rfl) (Nat.le_of_ble_eq_true rfl) (by decide) (by decide) ?_
  refine ct_howMany nl (by have := hL.1; omega) hr hL.2.1 (fun l hl => ⟨(hL.2.2.1 l hl).1, (hL.2.2.1 l hl).2.1⟩) ?_
  show WP g mX6_count 60 [(0, .ref 1), (1, .int 2)] [.int (nI (cuN h nl))] _ 0 0 _
  refine wp_i2l dX6_count_60 ?_
  refine wp_lret dX6_count_61 rfl (by decide) (by decide) ?_
  exact hp
set_option maxRecDepth 100000 in
set_option maxHeartbeats 4000000 in
theorem ct_count_x {g : GG} {h : HP} {Post : Option Value → HP → Prop} (wh : Int32) (hr : SR h) (hw : wh.toInt < 0 ∨ 6 < wh.toInt) (hp : Post (some (.long (-9000000000000000000))) h) : CT g mX6_count [.ref 1, .int wh] h Post := by
  show WP g mX6_count 0 [(0, .ref 1), (1, .int wh)] [] h 0 0 Post
  refine wp_iload_n dX6_count_0 rfl 1 rfl ?_
  refine wp_tableOut (tgt := 91) dX6_count_1 hw (by decide) ?_
  refine wp_ldc2 dX6_count_91 cnX6_58 ?_
  refine wp_lret dX6_count_94 rfl (by decide) (by decide) ?_
  exact hp
/-- how many have been gathered, and the heap then, behind the members below n -/
def gz (h : HP) (i : Nat) : Nat → Nat
  | 0 => 1
  | n + 1 => gz h i n + (if (hsp h (3000 + i) n).isSome then 1 else 0)
def gtH (h : HP) (i : Nat) : Nat → HP
  | 0 => gaH (sI h 5 3 0) 0 (nI i) (cLo h (1000 + i) (2000 + i) (vL h 1 0)) (cHi h (1000 + i) (2000 + i) (vL h 1 0))
  | n + 1 => match hsp h (3000 + i) n with
    | none => gtH h i n
    | some b => gaH (gtH h i n) (gz h i n) (nI n) (sLo h b (cCn h (1000 + i) (vL h 1 0)) (vI h (1000 + i) 2)) (sHi h b (cCn h (1000 + i) (vL h 1 0)) (vI h (1000 + i) 2))
theorem gz_no {h : HP} {i n : Nat} (hv : hsp h (3000 + i) n = none) : gz h i (n + 1) = gz h i n := by simp [gz, hv]
theorem gz_yes {h : HP} {i n b : Nat} (hv : hsp h (3000 + i) n = some b) : gz h i (n + 1) = gz h i n + 1 := by simp [gz, hv]
theorem gz_le (h : HP) (i : Nat) : ∀ n, gz h i n ≤ n + 1
  | 0 => Nat.le_refl 1
  | n + 1 => by
    have := gz_le h i n
    show gz h i n + (if _ then 1 else 0) ≤ n + 1 + 1
    split <;> omega
theorem gtH_no {h : HP} {i n : Nat} (hv : hsp h (3000 + i) n = none) : gtH h i (n + 1) = gtH h i n := by
  show (match hsp h (3000 + i) n with | none => _ | some b => _) = _
  rw [hv]
theorem gtH_yes {h : HP} {i n b : Nat} (hv : hsp h (3000 + i) n = some b) : gtH h i (n + 1) = gaH (gtH h i n) (gz h i n) (nI n) (sLo h b (cCn h (1000 + i) (vL h 1 0)) (vI h (1000 + i) 2)) (sHi h b (cCn h (1000 + i) (vL h 1 0)) (vI h (1000 + i) 2)) := by
  show (match hsp h (3000 + i) n with | none => _ | some b => _) = _
  rw [hv]
theorem gtH_k (h : HP) (i : Nat) : ∀ n, liv (gtH h i n) = liv h ∧ vP (gtH h i n) = vP h ∧ (∀ a, a ≠ 5 → a ≠ 6 → vI (gtH h i n) a = vI h a) ∧ (∀ a, a ≠ 7 → a ≠ 8 → vL (gtH h i n) a = vL h a) ∧ vI (gtH h i n) 5 3 = nI (gz h i n)
  | 0 => by
    refine ⟨rfl, rfl, fun a h1 h2 => ?_, fun a h1 h2 => ?_, vIs⟩
    · show vI (sI (sI (sI h 5 3 0) 6 0 _) 5 3 _) a = _
      rw [vIn h1, vIn h2, vIn h1]
    · show vL (sL (sL _ 7 0 _) 8 0 _) a = _
      rw [vLn h2, vLn h1]; rfl
  | n + 1 => by
    obtain ⟨h1, h2, h3, h4, h5⟩ := gtH_k h i n
    cases hv : hsp h (3000 + i) n with
    | none => rw [gtH_no hv, gz_no hv]; exact ⟨h1, h2, h3, h4, h5⟩
    | some b =>
      rw [gtH_yes hv, gz_yes hv]
      refine ⟨h1, h2, fun a q1 q2 => ?_, fun a q1 q2 => ?_, vIs⟩
      · unfold gaH; rw [vIn q1]; show vI (sI (gtH h i n) 6 _ _) a = _; rw [vIn q2]; exact h3 a q1 q2
      · unfold gaH; show vL (sL (sL _ 7 _ _) 8 _ _) a = _; rw [vLn q2, vLn q1]; exact h4 a q1 q2
theorem GW_eq {h h' : HP} (e1 : liv h' = liv h) (e2 : vP h' = vP h) (hg : GW h) : GW h' := by unfold GW at *; rw [e1, e2]; exact hg
theorem SR_eq {h h' : HP} (e1 : liv h' = liv h) (e2 : vP h' = vP h) (hr : SR h) : SR h' := by unfold SR GW at *; rw [e1, e2]; exact hr
theorem hsp_congr {h h' : HP} {r j : Nat} (e1 : vP h' r = vP h r) (e2 : ∀ b, vP h r j = some b → vI h' b = vI h b) : hsp h' r j = hsp h r j := by
  unfold hsp
  rw [e1]
  cases hv : vP h r j with
  | none => rfl
  | some b => simp only []; rw [e2 b hv]
theorem sLo_congr {h h' : HP} {o : Nat} {c : Int64} {p : Int32} (e : vL h' o = vL h o) : sLo h' o c p = sLo h o c p := by unfold sLo; rw [e]
theorem sHi_congr {h h' : HP} {o : Nat} {c : Int64} {p : Int32} (e : vL h' o = vL h o) : sHi h' o c p = sHi h o c p := by unfold sHi; rw [e]
theorem gtH_hsp {h : HP} {i n j : Nat} (hbs : ∀ b, vP h (3000 + i) j = some b → b = 4000 + (10 * i + j) ∧ liv h b = true) : hsp (gtH h i n) (3000 + i) j = hsp h (3000 + i) j :=
  hsp_congr (by rw [(gtH_k h i n).2.1]) (fun b q => (gtH_k h i n).2.2.1 b (by have := (hbs b q).1; omega) (by have := (hbs b q).1; omega))
theorem gtH_cCn {h : HP} {i n : Nat} {now : Int64} : cCn (gtH h i n) (1000 + i) now = cCn h (1000 + i) now := cCn_congr ((gtH_k h i n).2.2.1 _ (by omega) (by omega)) ((gtH_k h i n).2.2.2.1 _ (by omega) (by omega))
theorem hspne {h : HP} {i j b : Nat} (hbs : ∀ j b, j < 10 → vP h (3000 + i) j = some b → b = 4000 + (10 * i + j) ∧ liv h b = true) (hj : j < 10) (hv : hsp h (3000 + i) j = some b) : b ≠ 7 ∧ b ≠ 8 := by
  unfold hsp at hv
  cases e : vP h (3000 + i) j with
  | none => rw [e] at hv; cases hv
  | some q =>
    rw [e] at hv
    simp only [] at hv
    split at hv
    · cases hv
    · cases hv
      have := (hbs j b hj e).1
      omega
theorem gz_nm {h : HP} {i : Nat} (hs : hsp h (3000 + i) i = none) : ∀ n, (i < n → gz h i n ≤ n) ∧ gz h i n ≤ n + 1
  | 0 => ⟨fun q => absurd q (Nat.not_lt_zero _), Nat.le_refl 1⟩
  | n + 1 => by
    obtain ⟨h1, h2⟩ := gz_nm hs n
    refine ⟨fun q => ?_, gz_le h i (n + 1)⟩
    rcases Nat.lt_succ_iff_lt_or_eq.mp q with z | z
    · have := h1 z
      show gz h i n + (if _ then 1 else 0) ≤ n + 1
      split <;> omega
    · subst z
      rw [gz_no hs]; exact h2
theorem gz10 {h : HP} {nm i : Nat} (hM : SM h nm) (hi : i < nm) (hs : hsp h (3000 + i) i = none) : gz h i nm ≤ 10 := Nat.le_trans ((gz_nm hs nm).1 hi) hM.1
theorem gz_add {h : HP} {nm i n b : Nat} (hnm : nm ≤ 10) (hi : i < nm) (hn : n < nm) (hs : hsp h (3000 + i) i = none) (hv : hsp h (3000 + i) n = some b) : gz h i n < 10 := by
  have h1 := (gz_nm hs n).1
  have h2 := gz_le h i n
  have h3 : n ≠ i := fun z => by rw [z, hs] at hv; cases hv
  rcases Nat.lt_or_ge i n with z | z
  · have := h1 z; omega
  · omega
set_option maxRecDepth 100000 in
set_option maxHeartbeats 4000000 in
theorem lp_gather {g : GG} {h : HP} {Post : Option Value → HP → Prop} (nm i : Nat) (hr : SR h) (hM : SM h nm) (hi : i < nm) (hself : hsp h (3000 + i) i = none) (hp : Post none (gtH h i nm)) : ∀ (k n : Nat), n + k = nm → WP g mX6_gather 36 [(0, .ref 1), (1, .ref (1000 + i)), (2, .int (nI n))] [] (gtH h i n) 0 0 Post := by
  have hnm := hM.1
  have hc2 := hM.2.1
  obtain ⟨he, hl, hlo, hlr, ho, h9, hnum, hbs, hbn⟩ := hM.2.2.1 i hi
  have hk : kd (1000 + i) = 2 := kd_mem (by omega)
  have hko : kd (2000 + i) = 4 := kd_own (by omega)
  have hkr : kd (3000 + i) = 14 := kd_arr (by omega)
  intro k
  induction k with
  | zero =>
    intro n e0
    refine wp_iload_n dX6_gather_36 rfl 2 rfl ?_
    refine wp_aload_n dX6_gather_37 rfl 0 rfl ?_
    refine wv_getI (nI nm) dX6_gather_38 flX6_19 rfl rfl (by rw [(gtH_k h i n).1]; exact hr.1) (by rw [(gtH_k h i n).2.2.1 1 (by omega) (by omega)]; exact hc2) ?_
    refine wp_icmp_ge (tgt := 84) dX6_gather_41 (by decide) (fun _ => ?_) (fun c_1 => absurd (nI_le (by omega) (by omega)) c_1)
    refine wp_vret dX6_gather_84 rfl (by decide) (by decide) ?_
    rw [show n = nm by omega]
    exact hp
  | succ k ih =>
    intro n e0
    refine wp_iload_n dX6_gather_36 rfl 2 rfl ?_
    refine wp_aload_n dX6_gather_37 rfl 0 rfl ?_
    refine wv_getI (nI nm) dX6_gather_38 flX6_19 rfl rfl (by rw [(gtH_k h i n).1]; exact hr.1) (by rw [(gtH_k h i n).2.2.1 1 (by omega) (by omega)]; exact hc2) ?_
    refine wp_icmp_ge (tgt := 84) dX6_gather_41 (by decide) (fun c_1 => absurd c_1 (nI_ge (by omega) (by omega))) (fun _ => ?_)
    refine wp_aload_n dX6_gather_44 rfl 1 rfl ?_
    refine wp_iload_n dX6_gather_45 rfl 2 rfl ?_
    refine wp_callV mX2_hasHeardOf (1000 + i) [.int (nI n)] [] (c := 2) dX6_gather_46 iX2_hasHeardOf (fun _ => trivial) mlX6_183 imX2_hasHeardOf seX2_hasHeardOf (by decide) rfl hk ⟨by decide, by decide⟩ rfl rfl (Nat.le_of_ble_eq_true rfl) (Nat.le_of_ble_eq_true rfl) (by decide) (by decide) ?_
    refine ct_hasHeardOf (1000 + i) (3000 + i) n hk (by rw [(gtH_k h i n).1]; exact hl) (by rw [(gtH_k h i n).2.1]; exact h9) hkr (by rw [(gtH_k h i n).1]; exact hlr) (ln_arr (by omega)) (by omega) (fun b q => by rw [(gtH_k h i n).2.1] at q; rw [(gtH_k h i n).1]; exact ⟨by rw [(hbs n b (by omega) q).1]; exact kd_hrd (by omega), (hbs n b (by omega) q).2⟩) (fun hv => ?_) (fun b hv => ?_)
    · rw [(gtH_hsp (n := n) (fun b q => hbs n b (by omega) q))] at hv
      show WP g mX6_gather 49 [(0, .ref 1), (1, .ref (1000 + i)), (2, .int (nI n))] [.int 0] _ 0 0 _
      refine wp_if_eq (tgt := 78) dX6_gather_49 (by decide) (fun _ => ?_) (fun c_2 => absurd (by decide) c_2)
      refine wp_iinc (q := 2) (x := nI n) (v := nI (n + 1)) (lv' := [(2, .int (nI (n + 1))), (0, .ref 1), (1, .ref (1000 + i))]) dX6_gather_78 rfl (nI_1 _) (by decide) rfl ?_
      refine wp_goto (tgt := 36) dX6_gather_81 (by decide) ?_
      refine wp_sub [1, 2, 0] rfl ?_
      have q := ih (n + 1) (by omega)
      rw [gtH_no hv] at q
      exact q
    · rw [(gtH_hsp (n := n) (fun b q => hbs n b (by omega) q))] at hv
      show WP g mX6_gather 49 [(0, .ref 1), (1, .ref (1000 + i)), (2, .int (nI n))] [.int 1] _ 0 0 _
      refine wp_if_eq (tgt := 78) dX6_gather_49 (by decide) (fun c_3 => absurd c_3 (by decide)) (fun _ => ?_)
      refine wp_aload_n dX6_gather_52 rfl 0 rfl ?_
      refine wp_getP (b := 5) dX6_gather_53 flX6_44 rfl rfl (by rw [(gtH_k h i n).1]; exact hr.1) (by rw [(gtH_k h i n).2.1]; exact hr.2.2.2.2.2.2.2.2.1) ?_
      refine wp_iload_n dX6_gather_56 rfl 2 rfl ?_
      refine wp_aload_n dX6_gather_57 rfl 1 rfl ?_
      refine wp_iload_n dX6_gather_58 rfl 2 rfl ?_
      refine wp_aload_n dX6_gather_59 rfl 0 rfl ?_
      refine wv_getL (vL h 1 0) dX6_gather_60 flX6_7 rfl rfl (by rw [(gtH_k h i n).1]; exact hr.1) (by rw [(gtH_k h i n).2.2.2.1 1 (by omega) (by omega)]) ?_
      refine wp_callV mX2_heardLowAt (1000 + i) [.int (nI n), .long (vL h 1 0)] [.int (nI n), .ref 5] (c := 2) dX6_gather_63 iX2_heardLowAt (fun _ => trivial) mlX6_187 imX2_heardLowAt seX2_heardLowAt (by decide) rfl hk ⟨by decide, by decide⟩ rfl rfl (Nat.le_of_ble_eq_true rfl) (Nat.le_of_ble_eq_true rfl) (by decide) (by decide) ?_
      refine ct_heardLowAt (vL h 1 0) (1000 + i) (3000 + i) n hk (by rw [(gtH_k h i n).1]; exact hl) (by rw [(gtH_k h i n).2.1]; exact h9) hkr (by rw [(gtH_k h i n).1]; exact hlr) (ln_arr (by omega)) (by omega) (fun b q => by rw [(gtH_k h i n).2.1] at q; rw [(gtH_k h i n).1]; exact ⟨by rw [(hbs n b (by omega) q).1]; exact kd_hrd (by omega), (hbs n b (by omega) q).2⟩) (fun hv2 => absurd (hv.symm.trans ((gtH_hsp (n := n) (fun b q => hbs n b (by omega) q)).symm.trans hv2)) (by simp)) (fun b2 hv2 => ?_)
      obtain rfl : b = b2 := Option.some.inj (hv.symm.trans ((gtH_hsp (n := n) (fun b q => hbs n b (by omega) q)).symm.trans hv2))
      rw [gtH_cCn, (gtH_k h i n).2.2.1 (1000 + i) (by omega) (by omega), sLo_congr (h := h) ((gtH_k h i n).2.2.2.1 b (hspne hbs (by omega) hv).1 (hspne hbs (by omega) hv).2)]
      show WP g mX6_gather 66 [(0, .ref 1), (1, .ref (1000 + i)), (2, .int (nI n))] [.long (sLo h b (cCn h (1000 + i) (vL h 1 0)) (vI h (1000 + i) 2)), .int (nI n), .ref 5] _ 0 0 _
      refine wp_pc (pc' := 66) rfl ?_
      refine wp_aload_n dX6_gather_66 rfl 1 rfl ?_
      refine wp_iload_n dX6_gather_67 rfl 2 rfl ?_
      refine wp_aload_n dX6_gather_68 rfl 0 rfl ?_
      refine wv_getL (vL h 1 0) dX6_gather_69 flX6_7 rfl rfl (by rw [(gtH_k h i n).1]; exact hr.1) (by rw [(gtH_k h i n).2.2.2.1 1 (by omega) (by omega)]) ?_
      refine wp_callV mX2_heardHighAt (1000 + i) [.int (nI n), .long (vL h 1 0)] [.long (sLo h b (cCn h (1000 + i) (vL h 1 0)) (vI h (1000 + i) 2)), .int (nI n), .ref 5] (c := 2) dX6_gather_72 iX2_heardHighAt (fun _ => trivial) mlX6_191 imX2_heardHighAt seX2_heardHighAt (by decide) rfl hk ⟨by decide, by decide⟩ rfl rfl (Nat.le_of_ble_eq_true rfl) (Nat.le_of_ble_eq_true rfl) (by decide) (by decide) ?_
      refine ct_heardHighAt (vL h 1 0) (1000 + i) (3000 + i) n hk (by rw [(gtH_k h i n).1]; exact hl) (by rw [(gtH_k h i n).2.1]; exact h9) hkr (by rw [(gtH_k h i n).1]; exact hlr) (ln_arr (by omega)) (by omega) (fun b q => by rw [(gtH_k h i n).2.1] at q; rw [(gtH_k h i n).1]; exact ⟨by rw [(hbs n b (by omega) q).1]; exact kd_hrd (by omega), (hbs n b (by omega) q).2⟩) (fun hv2 => absurd (hv.symm.trans ((gtH_hsp (n := n) (fun b q => hbs n b (by omega) q)).symm.trans hv2)) (by simp)) (fun b2 hv2 => ?_)
      obtain rfl : b = b2 := Option.some.inj (hv.symm.trans ((gtH_hsp (n := n) (fun b q => hbs n b (by omega) q)).symm.trans hv2))
      rw [gtH_cCn, (gtH_k h i n).2.2.1 (1000 + i) (by omega) (by omega), sHi_congr (h := h) ((gtH_k h i n).2.2.2.1 b (hspne hbs (by omega) hv).1 (hspne hbs (by omega) hv).2)]
      show WP g mX6_gather 75 [(0, .ref 1), (1, .ref (1000 + i)), (2, .int (nI n))] [.long (sHi h b (cCn h (1000 + i) (vL h 1 0)) (vI h (1000 + i) 2)), .long (sLo h b (cCn h (1000 + i) (vL h 1 0)) (vI h (1000 + i) 2)), .int (nI n), .ref 5] _ 0 0 _
      refine wp_callV mX0_add 5 [.int (nI n), .long (sLo h b (cCn h (1000 + i) (vL h 1 0)) (vI h (1000 + i) 2)), .long (sHi h b (cCn h (1000 + i) (vL h 1 0)) (vI h (1000 + i) 2))] [] (c := 0) dX6_gather_75 iX0_add (fun _ => trivial) mlX6_325 imX0_add seX0_add (by decide) rfl rfl ⟨by decide, by decide⟩ rfl rfl (Nat.le_of_ble_eq_true rfl) (Nat.le_of_ble_eq_true rfl) (by decide) (by decide) ?_
      refine ct_add (gz h i n) (nI n) (sLo h b (cCn h (1000 + i) (vL h 1 0)) (vI h (1000 + i) 2)) (sHi h b (cCn h (1000 + i) (vL h 1 0)) (vI h (1000 + i) 2)) (gz_add hnm hi (by omega) hself hv) (GW_eq (gtH_k h i n).1 (gtH_k h i n).2.1 hr.2.2.2.2.2.2.2.2.2.2) (gtH_k h i n).2.2.2.2 ?_
      show WP g mX6_gather 78 [(0, .ref 1), (1, .ref (1000 + i)), (2, .int (nI n))] [] _ 0 0 _
      refine wp_iinc (q := 2) (x := nI n) (v := nI (n + 1)) (lv' := [(2, .int (nI (n + 1))), (0, .ref 1), (1, .ref (1000 + i))]) dX6_gather_78 rfl (nI_1 _) (by decide) rfl ?_
      refine wp_goto (tgt := 36) dX6_gather_81 (by decide) ?_
      refine wp_sub [1, 2, 0] rfl ?_
      have q := ih (n + 1) (by omega)
      rw [gtH_yes hv] at q
      exact q
set_option maxRecDepth 100000 in
set_option maxHeartbeats 4000000 in
theorem ct_gather {g : GG} {h : HP} {Post : Option Value → HP → Prop} (nm i : Nat) (hr : SR h) (hM : SM h nm) (hi : i < nm) (hself : hsp h (3000 + i) i = none) (hp : Post none (gtH h i nm)) : CT g mX6_gather [.ref 1, .ref (1000 + i)] h Post := by
  show WP g mX6_gather 0 [(0, .ref 1), (1, .ref (1000 + i))] [] h 0 0 Post
  have hnm := hM.1
  have hc2 := hM.2.1
  obtain ⟨he, hl, hlo, hlr, ho, h9, hnum, hbs, hbn⟩ := hM.2.2.1 i hi
  have hk : kd (1000 + i) = 2 := kd_mem (by omega)
  have hko : kd (2000 + i) = 4 := kd_own (by omega)
  have hkr : kd (3000 + i) = 14 := kd_arr (by omega)
  refine wp_aload_n dX6_gather_0 rfl 0 rfl ?_
  refine wp_getP (b := 5) dX6_gather_1 flX6_44 rfl rfl hr.1 hr.2.2.2.2.2.2.2.2.1 ?_
  refine wp_callV mX0_clear 5 [] [] (c := 0) dX6_gather_4 iX0_clear (fun _ => trivial) mlX6_322 imX0_clear seX0_clear (by decide) rfl rfl ⟨by decide, by decide⟩ rfl rfl (Nat.le_of_ble_eq_true rfl) (Nat.le_of_ble_eq_true rfl) (by decide) (by decide) ?_
  refine ct_clear hr.2.2.2.2.2.2.2.2.2.2.1 ?_
  show WP g mX6_gather 7 [(0, .ref 1), (1, .ref (1000 + i))] [] _ 0 0 _
  refine wp_aload_n dX6_gather_7 rfl 0 rfl ?_
  refine wp_getP (b := 5) dX6_gather_8 flX6_44 rfl rfl hr.1 hr.2.2.2.2.2.2.2.2.1 ?_
  refine wp_aload_n dX6_gather_11 rfl 1 rfl ?_
  refine wv_getI (nI i) dX6_gather_12 flX6_180 rfl hk hl (by rw [vIn (by omega)]; exact hnum) ?_
  refine wp_aload_n dX6_gather_15 rfl 1 rfl ?_
  refine wp_aload_n dX6_gather_16 rfl 0 rfl ?_
  refine wv_getL (vL h 1 0) dX6_gather_17 flX6_7 rfl rfl hr.1 rfl ?_
  refine wp_callV mX2_lowAt (1000 + i) [.long (vL h 1 0)] [.int (nI i), .ref 5] (c := 2) dX6_gather_20 iX2_lowAt (fun _ => trivial) mlX6_112 imX2_lowAt seX2_lowAt (by decide) rfl hk ⟨by decide, by decide⟩ rfl rfl (Nat.le_of_ble_eq_true rfl) (Nat.le_of_ble_eq_true rfl) (by decide) (by decide) ?_
  refine ct_lowAt (1000 + i) (2000 + i) (vL h 1 0) hk hl ho hko hlo ?_
  rw [cLo_congr (h := h) (vIn (by omega)) rfl rfl]
  show WP g mX6_gather 23 [(0, .ref 1), (1, .ref (1000 + i))] [.long (cLo h (1000 + i) (2000 + i) (vL h 1 0)), .int (nI i), .ref 5] _ 0 0 _
  refine wp_aload_n dX6_gather_23 rfl 1 rfl ?_
  refine wp_aload_n dX6_gather_24 rfl 0 rfl ?_
  refine wv_getL (vL h 1 0) dX6_gather_25 flX6_7 rfl rfl hr.1 rfl ?_
  refine wp_callV mX2_highAt (1000 + i) [.long (vL h 1 0)] [.long (cLo h (1000 + i) (2000 + i) (vL h 1 0)), .int (nI i), .ref 5] (c := 2) dX6_gather_28 iX2_highAt (fun _ => trivial) mlX6_115 imX2_highAt seX2_highAt (by decide) rfl hk ⟨by decide, by decide⟩ rfl rfl (Nat.le_of_ble_eq_true rfl) (Nat.le_of_ble_eq_true rfl) (by decide) (by decide) ?_
  refine ct_highAt (1000 + i) (2000 + i) (vL h 1 0) hk hl ho hko hlo ?_
  rw [cHi_congr (h := h) (vIn (by omega)) rfl rfl]
  show WP g mX6_gather 31 [(0, .ref 1), (1, .ref (1000 + i))] [.long (cHi h (1000 + i) (2000 + i) (vL h 1 0)), .long (cLo h (1000 + i) (2000 + i) (vL h 1 0)), .int (nI i), .ref 5] _ 0 0 _
  refine wp_pc (pc' := 31) rfl ?_
  refine wp_callV mX0_add 5 [.int (nI i), .long (cLo h (1000 + i) (2000 + i) (vL h 1 0)), .long (cHi h (1000 + i) (2000 + i) (vL h 1 0))] [] (c := 0) dX6_gather_31 iX0_add (fun _ => trivial) mlX6_325 imX0_add seX0_add (by decide) rfl rfl ⟨by decide, by decide⟩ rfl rfl (Nat.le_of_ble_eq_true rfl) (Nat.le_of_ble_eq_true rfl) (by decide) (by decide) ?_
  refine ct_add 0 (nI i) (cLo h (1000 + i) (2000 + i) (vL h 1 0)) (cHi h (1000 + i) (2000 + i) (vL h 1 0)) (by omega) (GW_eq rfl rfl hr.2.2.2.2.2.2.2.2.2.2) vIs ?_
  show WP g mX6_gather 34 [(0, .ref 1), (1, .ref (1000 + i))] [] _ 0 0 _
  refine wp_iconst (v := 0) dX6_gather_34 (by decide) ?_
  refine wp_istore_n (lv' := [(2, .int 0), (0, .ref 1), (1, .ref (1000 + i))]) dX6_gather_35 rfl (by decide) rfl ?_
  refine wp_sub [1, 2, 0] rfl ?_
  exact lp_gather nm i hr hM hi hself hp nm 0 (by omega)
set_option maxRecDepth 100000 in
set_option maxHeartbeats 4000000 in
theorem ct_votes0 {g : GG} {h : HP} {Post : Option Value → HP → Prop} (t : Int64) (nm : Nat) (x : Int32) (hr : SR h) (hM : SM h nm) (hx : ¬ inR x nm) (hp : Post (some (.long (-9000000000000000000))) h) : CT g mX6_votes [.ref 1, .int x, .long t] h Post := by
  show WP g mX6_votes 0 [(0, .ref 1), (1, .int x), (2, .long t)] [] h 0 0 Post
  refine wp_aload_n dX6_votes_0 rfl 0 rfl ?_
  refine wp_iload_n dX6_votes_1 rfl 1 rfl ?_
  refine wp_callV mX6_findMember 1 [.int x] [] (c := 6) dX6_votes_2 iX6_findMember (fun _ => trivial) mlX6_64 imX6_findMember seX6_findMember (by decide) rfl rfl ⟨by decide, by decide⟩ rfl rfl (Nat.le_of_ble_eq_true rfl) (Nat.le_of_ble_eq_true rfl) (by decide) (by decide) ?_
  refine ct_findMember0 nm x hr hM.2.1 (by have := hM.1; omega) hx ?_
  show WP g mX6_votes 5 [(0, .ref 1), (1, .int x), (2, .long t)] [.null] _ 0 0 _
  refine wp_astoreN (lv' := [(4, .null), (0, .ref 1), (1, .int x), (2, .long t)]) dX6_votes_5 (by decide) rfl ?_
  refine wp_aloadN dX6_votes_7 0 rfl ?_
  refine wp_ifnonnullN dX6_votes_9 ?_
  refine wp_ldc2 dX6_votes_12 cnX6_58 ?_
  refine wp_lret dX6_votes_15 rfl (by decide) (by decide) ?_
  exact hp
set_option maxRecDepth 100000 in
set_option maxHeartbeats 4000000 in
theorem ct_votes {g : GG} {h : HP} {Post : Option Value → HP → Prop} (nm i : Nat) (hr : SR h) (hM : SM h nm) (hi : i < nm) (hself : hsp h (3000 + i) i = none) (t : Int64) (hp : Post (some (.long (Int32.toInt64 (nI (hvN (vL (gtH h i nm) 7) (vL (gtH h i nm) 8) t (gz h i nm)))))) (gtH h i nm)) : CT g mX6_votes [.ref 1, .int (nI i), .long t] h Post := by
  show WP g mX6_votes 0 [(0, .ref 1), (1, .int (nI i)), (2, .long t)] [] h 0 0 Post
  have hnm := hM.1
  have hc2 := hM.2.1
  obtain ⟨he, hl, hlo, hlr, ho, h9, hnum, hbs, hbn⟩ := hM.2.2.1 i hi
  have hk : kd (1000 + i) = 2 := kd_mem (by omega)
  have hko : kd (2000 + i) = 4 := kd_own (by omega)
  have hkr : kd (3000 + i) = 14 := kd_arr (by omega)
  refine wp_aload_n dX6_votes_0 rfl 0 rfl ?_
  refine wp_iload_n dX6_votes_1 rfl 1 rfl ?_
  refine wp_callV mX6_findMember 1 [.int (nI i)] [] (c := 6) dX6_votes_2 iX6_findMember (fun _ => trivial) mlX6_64 imX6_findMember seX6_findMember (by decide) rfl rfl ⟨by decide, by decide⟩ rfl rfl (Nat.le_of_ble_eq_true rfl) (Nat.le_of_ble_eq_true rfl) (by decide) (by decide) ?_
  refine ct_findMember nm i hr hc2 hnm hi he ?_
  show WP g mX6_votes 5 [(0, .ref 1), (1, .int (nI i)), (2, .long t)] [.ref (1000 + i)] _ 0 0 _
  refine wp_astore (lv' := [(4, .ref (1000 + i)), (0, .ref 1), (1, .int (nI i)), (2, .long t)]) dX6_votes_5 (by decide) rfl ?_
  refine wp_aload dX6_votes_7 0 rfl ?_
  refine wp_ifnonnull (tgt := 16) dX6_votes_9 (by decide) ?_
  refine wp_aload_n dX6_votes_16 rfl 1 rfl ?_
  refine wp_aload dX6_votes_17 0 rfl ?_
  refine wp_callV mX6_gather 1 [.ref (1000 + i)] [] (c := 6) dX6_votes_19 iX6_gather (fun _ => trivial) mlX6_194 imX6_gather seX6_gather (by decide) rfl rfl ⟨by decide, by decide⟩ rfl rfl (Nat.le_of_ble_eq_true rfl) (Nat.le_of_ble_eq_true rfl) (by decide) (by decide) ?_
  refine ct_gather nm i hr hM hi hself ?_
  show WP g mX6_votes 22 [(4, .ref (1000 + i)), (0, .ref 1), (1, .int (nI i)), (2, .long t)] [] _ 0 0 _
  refine wp_aload_n dX6_votes_22 rfl 1 rfl ?_
  refine wp_getP (b := 5) dX6_votes_23 flX6_44 rfl rfl (by rw [(gtH_k h i nm).1]; exact hr.1) (by rw [(gtH_k h i nm).2.1]; exact hr.2.2.2.2.2.2.2.2.1) ?_
  refine wp_lload_n dX6_votes_26 rfl 3 rfl ?_
  refine wp_callV mX0_having 5 [.long t] [] (c := 0) dX6_votes_27 iX0_having (fun _ => trivial) mlX6_198 imX0_having seX0_having (by decide) rfl rfl ⟨by decide, by decide⟩ rfl rfl (Nat.le_of_ble_eq_true rfl) (Nat.le_of_ble_eq_true rfl) (by decide) (by decide) ?_
  refine ct_having (gz h i nm) (by have := gz_le h i nm; have := gz10 hM hi hself; omega) (GW_eq (gtH_k h i nm).1 (gtH_k h i nm).2.1 hr.2.2.2.2.2.2.2.2.2.2) (gtH_k h i nm).2.2.2.2 t ?_
  show WP g mX6_votes 30 [(4, .ref (1000 + i)), (0, .ref 1), (1, .int (nI i)), (2, .long t)] [.int (nI (hvN (vL (gtH h i nm) 7) (vL (gtH h i nm) 8) t (gz h i nm)))] _ 0 0 _
  refine wp_i2l dX6_votes_30 ?_
  refine wp_lret dX6_votes_31 rfl (by decide) (by decide) ?_
  exact hp
