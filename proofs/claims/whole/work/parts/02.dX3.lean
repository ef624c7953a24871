theorem dX3_init_0 : decode cX3_init 0 = .ok (.aload_n 0, 1) := by decide +kernel
theorem dX3_init_1 : decode cX3_init 1 = .ok (.invokespecial 3, 3) := by decide +kernel
theorem dX3_init_4 : decode cX3_init 4 = .ok (.aload_n 0, 1) := by decide +kernel
theorem dX3_init_5 : decode cX3_init 5 = .ok (.bipush 30, 2) := by decide +kernel
theorem dX3_init_7 : decode cX3_init 7 = .ok (.newarray .long, 2) := by decide +kernel
theorem dX3_init_9 : decode cX3_init 9 = .ok (.putfield 9, 3) := by decide +kernel
theorem dX3_init_12 : decode cX3_init 12 = .ok (.aload_n 0, 1) := by decide +kernel
theorem dX3_init_13 : decode cX3_init 13 = .ok (.bipush 30, 2) := by decide +kernel
theorem dX3_init_15 : decode cX3_init 15 = .ok (.newarray .long, 2) := by decide +kernel
theorem dX3_init_17 : decode cX3_init 17 = .ok (.putfield 15, 3) := by decide +kernel
theorem dX3_init_20 : decode cX3_init 20 = .ok (.aload_n 0, 1) := by decide +kernel
theorem dX3_init_21 : decode cX3_init 21 = .ok (.bipush 60, 2) := by decide +kernel
theorem dX3_init_23 : decode cX3_init 23 = .ok (.newarray .int, 2) := by decide +kernel
theorem dX3_init_25 : decode cX3_init 25 = .ok (.putfield 18, 3) := by decide +kernel
theorem dX3_init_28 : decode cX3_init 28 = .ok (.aload_n 0, 1) := by decide +kernel
theorem dX3_init_29 : decode cX3_init 29 = .ok (.bipush 60, 2) := by decide +kernel
theorem dX3_init_31 : decode cX3_init 31 = .ok (.newarray .int, 2) := by decide +kernel
theorem dX3_init_33 : decode cX3_init 33 = .ok (.putfield 22, 3) := by decide +kernel
theorem dX3_init_36 : decode cX3_init 36 = .ok (.aload_n 0, 1) := by decide +kernel
theorem dX3_init_37 : decode cX3_init 37 = .ok (.bipush 30, 2) := by decide +kernel
theorem dX3_init_39 : decode cX3_init 39 = .ok (.newarray .int, 2) := by decide +kernel
theorem dX3_init_41 : decode cX3_init 41 = .ok (.putfield 25, 3) := by decide +kernel
theorem dX3_init_44 : decode cX3_init 44 = .ok (.aload_n 0, 1) := by decide +kernel
theorem dX3_init_45 : decode cX3_init 45 = .ok (.bipush 30, 2) := by decide +kernel
theorem dX3_init_47 : decode cX3_init 47 = .ok (.newarray .long, 2) := by decide +kernel
theorem dX3_init_49 : decode cX3_init 49 = .ok (.putfield 28, 3) := by decide +kernel
theorem dX3_init_52 : decode cX3_init 52 = .ok (.aload_n 0, 1) := by decide +kernel
theorem dX3_init_53 : decode cX3_init 53 = .ok (.bipush 30, 2) := by decide +kernel
theorem dX3_init_55 : decode cX3_init 55 = .ok (.newarray .int, 2) := by decide +kernel
theorem dX3_init_57 : decode cX3_init 57 = .ok (.putfield 31, 3) := by decide +kernel
theorem dX3_init_60 : decode cX3_init 60 = .ok (.aload_n 0, 1) := by decide +kernel
theorem dX3_init_61 : decode cX3_init 61 = .ok (.bipush 30, 2) := by decide +kernel
theorem dX3_init_63 : decode cX3_init 63 = .ok (.newarray .int, 2) := by decide +kernel
theorem dX3_init_65 : decode cX3_init 65 = .ok (.putfield 34, 3) := by decide +kernel
theorem dX3_init_68 : decode cX3_init 68 = .ok (.aload_n 0, 1) := by decide +kernel
theorem dX3_init_69 : decode cX3_init 69 = .ok (.bipush 30, 2) := by decide +kernel
theorem dX3_init_71 : decode cX3_init 71 = .ok (.newarray .int, 2) := by decide +kernel
theorem dX3_init_73 : decode cX3_init 73 = .ok (.putfield 37, 3) := by decide +kernel
theorem dX3_init_76 : decode cX3_init 76 = .ok (.return_, 1) := by decide +kernel
theorem dX3_hasEvent_0 : decode cX3_hasEvent 0 = .ok (.iload_n 1, 1) := by decide +kernel
theorem dX3_hasEvent_1 : decode cX3_hasEvent 1 = .ok (.ifCond .lt 15, 3) := by decide +kernel
theorem dX3_hasEvent_4 : decode cX3_hasEvent 4 = .ok (.iload_n 1, 1) := by decide +kernel
theorem dX3_hasEvent_5 : decode cX3_hasEvent 5 = .ok (.aload_n 0, 1) := by decide +kernel
theorem dX3_hasEvent_6 : decode cX3_hasEvent 6 = .ok (.getfield 40, 3) := by decide +kernel
theorem dX3_hasEvent_9 : decode cX3_hasEvent 9 = .ok (.if_icmp .ge 7, 3) := by decide +kernel
theorem dX3_hasEvent_12 : decode cX3_hasEvent 12 = .ok (.iconst 1, 1) := by decide +kernel
theorem dX3_hasEvent_13 : decode cX3_hasEvent 13 = .ok (.goto 4, 3) := by decide +kernel
theorem dX3_hasEvent_16 : decode cX3_hasEvent 16 = .ok (.iconst 0, 1) := by decide +kernel
theorem dX3_hasEvent_17 : decode cX3_hasEvent 17 = .ok (.ireturn, 1) := by decide +kernel
theorem dX3_addEvent_0 : decode cX3_addEvent 0 = .ok (.aload_n 0, 1) := by decide +kernel
theorem dX3_addEvent_1 : decode cX3_addEvent 1 = .ok (.getfield 40, 3) := by decide +kernel
theorem dX3_addEvent_4 : decode cX3_addEvent 4 = .ok (.bipush 30, 2) := by decide +kernel
theorem dX3_addEvent_6 : decode cX3_addEvent 6 = .ok (.if_icmp .lt 7, 3) := by decide +kernel
theorem dX3_addEvent_9 : decode cX3_addEvent 9 = .ok (.ldc2_w 44, 3) := by decide +kernel
theorem dX3_addEvent_12 : decode cX3_addEvent 12 = .ok (.lreturn, 1) := by decide +kernel
theorem dX3_addEvent_13 : decode cX3_addEvent 13 = .ok (.aload_n 0, 1) := by decide +kernel
theorem dX3_addEvent_14 : decode cX3_addEvent 14 = .ok (.getfield 9, 3) := by decide +kernel
theorem dX3_addEvent_17 : decode cX3_addEvent 17 = .ok (.aload_n 0, 1) := by decide +kernel
theorem dX3_addEvent_18 : decode cX3_addEvent 18 = .ok (.getfield 40, 3) := by decide +kernel
theorem dX3_addEvent_21 : decode cX3_addEvent 21 = .ok (.lload_n 1, 1) := by decide +kernel
theorem dX3_addEvent_22 : decode cX3_addEvent 22 = .ok (.lastore, 1) := by decide +kernel
theorem dX3_addEvent_23 : decode cX3_addEvent 23 = .ok (.aload_n 0, 1) := by decide +kernel
theorem dX3_addEvent_24 : decode cX3_addEvent 24 = .ok (.getfield 15, 3) := by decide +kernel
theorem dX3_addEvent_27 : decode cX3_addEvent 27 = .ok (.aload_n 0, 1) := by decide +kernel
theorem dX3_addEvent_28 : decode cX3_addEvent 28 = .ok (.getfield 40, 3) := by decide +kernel
theorem dX3_addEvent_31 : decode cX3_addEvent 31 = .ok (.lload_n 3, 1) := by decide +kernel
theorem dX3_addEvent_32 : decode cX3_addEvent 32 = .ok (.lastore, 1) := by decide +kernel
theorem dX3_addEvent_33 : decode cX3_addEvent 33 = .ok (.aload_n 0, 1) := by decide +kernel
theorem dX3_addEvent_34 : decode cX3_addEvent 34 = .ok (.dup, 1) := by decide +kernel
theorem dX3_addEvent_35 : decode cX3_addEvent 35 = .ok (.getfield 40, 3) := by decide +kernel
theorem dX3_addEvent_38 : decode cX3_addEvent 38 = .ok (.iconst 1, 1) := by decide +kernel
theorem dX3_addEvent_39 : decode cX3_addEvent 39 = .ok (.iadd, 1) := by decide +kernel
theorem dX3_addEvent_40 : decode cX3_addEvent 40 = .ok (.putfield 40, 3) := by decide +kernel
theorem dX3_addEvent_43 : decode cX3_addEvent 43 = .ok (.aload_n 0, 1) := by decide +kernel
theorem dX3_addEvent_44 : decode cX3_addEvent 44 = .ok (.iconst 0, 1) := by decide +kernel
theorem dX3_addEvent_45 : decode cX3_addEvent 45 = .ok (.putfield 46, 3) := by decide +kernel
theorem dX3_addEvent_48 : decode cX3_addEvent 48 = .ok (.aload_n 0, 1) := by decide +kernel
theorem dX3_addEvent_49 : decode cX3_addEvent 49 = .ok (.getfield 40, 3) := by decide +kernel
theorem dX3_addEvent_52 : decode cX3_addEvent 52 = .ok (.iconst 1, 1) := by decide +kernel
theorem dX3_addEvent_53 : decode cX3_addEvent 53 = .ok (.isub, 1) := by decide +kernel
theorem dX3_addEvent_54 : decode cX3_addEvent 54 = .ok (.i2l, 1) := by decide +kernel
theorem dX3_addEvent_55 : decode cX3_addEvent 55 = .ok (.lreturn, 1) := by decide +kernel
theorem dX3_addLink_0 : decode cX3_addLink 0 = .ok (.aload_n 0, 1) := by decide +kernel
theorem dX3_addLink_1 : decode cX3_addLink 1 = .ok (.getfield 50, 3) := by decide +kernel
theorem dX3_addLink_4 : decode cX3_addLink 4 = .ok (.bipush 60, 2) := by decide +kernel
theorem dX3_addLink_6 : decode cX3_addLink 6 = .ok (.if_icmp .ge 19, 3) := by decide +kernel
theorem dX3_addLink_9 : decode cX3_addLink 9 = .ok (.aload_n 0, 1) := by decide +kernel
theorem dX3_addLink_10 : decode cX3_addLink 10 = .ok (.iload_n 1, 1) := by decide +kernel
theorem dX3_addLink_11 : decode cX3_addLink 11 = .ok (.invokevirtual 53, 3) := by decide +kernel
theorem dX3_addLink_14 : decode cX3_addLink 14 = .ok (.ifCond .eq 11, 3) := by decide +kernel
theorem dX3_addLink_17 : decode cX3_addLink 17 = .ok (.aload_n 0, 1) := by decide +kernel
theorem dX3_addLink_18 : decode cX3_addLink 18 = .ok (.iload_n 2, 1) := by decide +kernel
theorem dX3_addLink_19 : decode cX3_addLink 19 = .ok (.invokevirtual 53, 3) := by decide +kernel
theorem dX3_addLink_22 : decode cX3_addLink 22 = .ok (.ifCond .ne 7, 3) := by decide +kernel
theorem dX3_addLink_25 : decode cX3_addLink 25 = .ok (.ldc2_w 44, 3) := by decide +kernel
theorem dX3_addLink_28 : decode cX3_addLink 28 = .ok (.lreturn, 1) := by decide +kernel
theorem dX3_addLink_29 : decode cX3_addLink 29 = .ok (.aload_n 0, 1) := by decide +kernel
theorem dX3_addLink_30 : decode cX3_addLink 30 = .ok (.getfield 18, 3) := by decide +kernel
theorem dX3_addLink_33 : decode cX3_addLink 33 = .ok (.aload_n 0, 1) := by decide +kernel
theorem dX3_addLink_34 : decode cX3_addLink 34 = .ok (.getfield 50, 3) := by decide +kernel
theorem dX3_addLink_37 : decode cX3_addLink 37 = .ok (.iload_n 1, 1) := by decide +kernel
theorem dX3_addLink_38 : decode cX3_addLink 38 = .ok (.iastore, 1) := by decide +kernel
theorem dX3_addLink_39 : decode cX3_addLink 39 = .ok (.aload_n 0, 1) := by decide +kernel
theorem dX3_addLink_40 : decode cX3_addLink 40 = .ok (.getfield 22, 3) := by decide +kernel
theorem dX3_addLink_43 : decode cX3_addLink 43 = .ok (.aload_n 0, 1) := by decide +kernel
theorem dX3_addLink_44 : decode cX3_addLink 44 = .ok (.getfield 50, 3) := by decide +kernel
theorem dX3_addLink_47 : decode cX3_addLink 47 = .ok (.iload_n 2, 1) := by decide +kernel
theorem dX3_addLink_48 : decode cX3_addLink 48 = .ok (.iastore, 1) := by decide +kernel
theorem dX3_addLink_49 : decode cX3_addLink 49 = .ok (.aload_n 0, 1) := by decide +kernel
theorem dX3_addLink_50 : decode cX3_addLink 50 = .ok (.getfield 25, 3) := by decide +kernel
theorem dX3_addLink_53 : decode cX3_addLink 53 = .ok (.iload_n 1, 1) := by decide +kernel
theorem dX3_addLink_54 : decode cX3_addLink 54 = .ok (.dup2, 1) := by decide +kernel
theorem dX3_addLink_55 : decode cX3_addLink 55 = .ok (.iaload, 1) := by decide +kernel
theorem dX3_addLink_56 : decode cX3_addLink 56 = .ok (.iconst 1, 1) := by decide +kernel
theorem dX3_addLink_57 : decode cX3_addLink 57 = .ok (.iload_n 2, 1) := by decide +kernel
theorem dX3_addLink_58 : decode cX3_addLink 58 = .ok (.ishl, 1) := by decide +kernel
theorem dX3_addLink_59 : decode cX3_addLink 59 = .ok (.ior, 1) := by decide +kernel
theorem dX3_addLink_60 : decode cX3_addLink 60 = .ok (.iastore, 1) := by decide +kernel
theorem dX3_addLink_61 : decode cX3_addLink 61 = .ok (.aload_n 0, 1) := by decide +kernel
theorem dX3_addLink_62 : decode cX3_addLink 62 = .ok (.dup, 1) := by decide +kernel
theorem dX3_addLink_63 : decode cX3_addLink 63 = .ok (.getfield 50, 3) := by decide +kernel
theorem dX3_addLink_66 : decode cX3_addLink 66 = .ok (.iconst 1, 1) := by decide +kernel
theorem dX3_addLink_67 : decode cX3_addLink 67 = .ok (.iadd, 1) := by decide +kernel
theorem dX3_addLink_68 : decode cX3_addLink 68 = .ok (.putfield 50, 3) := by decide +kernel
theorem dX3_addLink_71 : decode cX3_addLink 71 = .ok (.aload_n 0, 1) := by decide +kernel
theorem dX3_addLink_72 : decode cX3_addLink 72 = .ok (.iconst 0, 1) := by decide +kernel
theorem dX3_addLink_73 : decode cX3_addLink 73 = .ok (.putfield 46, 3) := by decide +kernel
theorem dX3_addLink_76 : decode cX3_addLink 76 = .ok (.aload_n 0, 1) := by decide +kernel
theorem dX3_addLink_77 : decode cX3_addLink 77 = .ok (.getfield 50, 3) := by decide +kernel
theorem dX3_addLink_80 : decode cX3_addLink 80 = .ok (.i2l, 1) := by decide +kernel
theorem dX3_addLink_81 : decode cX3_addLink 81 = .ok (.lreturn, 1) := by decide +kernel
theorem dX3_settle_0 : decode cX3_settle 0 = .ok (.aload_n 0, 1) := by decide +kernel
theorem dX3_settle_1 : decode cX3_settle 1 = .ok (.getfield 46, 3) := by decide +kernel
theorem dX3_settle_4 : decode cX3_settle 4 = .ok (.ifCond .eq 4, 3) := by decide +kernel
theorem dX3_settle_7 : decode cX3_settle 7 = .ok (.return_, 1) := by decide +kernel
theorem dX3_settle_8 : decode cX3_settle 8 = .ok (.aload_n 0, 1) := by decide +kernel
theorem dX3_settle_9 : decode cX3_settle 9 = .ok (.iconst 1, 1) := by decide +kernel
theorem dX3_settle_10 : decode cX3_settle 10 = .ok (.putfield 46, 3) := by decide +kernel
theorem dX3_settle_13 : decode cX3_settle 13 = .ok (.aload_n 0, 1) := by decide +kernel
theorem dX3_settle_14 : decode cX3_settle 14 = .ok (.iconst 0, 1) := by decide +kernel
theorem dX3_settle_15 : decode cX3_settle 15 = .ok (.putfield 57, 3) := by decide +kernel
theorem dX3_settle_18 : decode cX3_settle 18 = .ok (.aload_n 0, 1) := by decide +kernel
theorem dX3_settle_19 : decode cX3_settle 19 = .ok (.invokevirtual 60, 3) := by decide +kernel
theorem dX3_settle_22 : decode cX3_settle 22 = .ok (.ifCond .ne 15, 3) := by decide +kernel
theorem dX3_settle_25 : decode cX3_settle 25 = .ok (.aload_n 0, 1) := by decide +kernel
theorem dX3_settle_26 : decode cX3_settle 26 = .ok (.ldc2_w 64, 3) := by decide +kernel
theorem dX3_settle_29 : decode cX3_settle 29 = .ok (.putfield 66, 3) := by decide +kernel
theorem dX3_settle_32 : decode cX3_settle 32 = .ok (.aload_n 0, 1) := by decide +kernel
theorem dX3_settle_33 : decode cX3_settle 33 = .ok (.invokevirtual 70, 3) := by decide +kernel
theorem dX3_settle_36 : decode cX3_settle 36 = .ok (.return_, 1) := by decide +kernel
theorem dX3_settle_37 : decode cX3_settle 37 = .ok (.aload_n 0, 1) := by decide +kernel
theorem dX3_settle_38 : decode cX3_settle 38 = .ok (.invokevirtual 73, 3) := by decide +kernel
theorem dX3_settle_41 : decode cX3_settle 41 = .ok (.aload_n 0, 1) := by decide +kernel
theorem dX3_settle_42 : decode cX3_settle 42 = .ok (.invokevirtual 76, 3) := by decide +kernel
theorem dX3_settle_45 : decode cX3_settle 45 = .ok (.return_, 1) := by decide +kernel
theorem dX3_findEarliest_0 : decode cX3_findEarliest 0 = .ok (.iconst 0, 1) := by decide +kernel
theorem dX3_findEarliest_1 : decode cX3_findEarliest 1 = .ok (.istore_n 1, 1) := by decide +kernel
theorem dX3_findEarliest_2 : decode cX3_findEarliest 2 = .ok (.iload_n 1, 1) := by decide +kernel
theorem dX3_findEarliest_3 : decode cX3_findEarliest 3 = .ok (.aload_n 0, 1) := by decide +kernel
theorem dX3_findEarliest_4 : decode cX3_findEarliest 4 = .ok (.getfield 40, 3) := by decide +kernel
theorem dX3_findEarliest_7 : decode cX3_findEarliest 7 = .ok (.if_icmp .ge 21, 3) := by decide +kernel
theorem dX3_findEarliest_10 : decode cX3_findEarliest 10 = .ok (.aload_n 0, 1) := by decide +kernel
theorem dX3_findEarliest_11 : decode cX3_findEarliest 11 = .ok (.getfield 28, 3) := by decide +kernel
theorem dX3_findEarliest_14 : decode cX3_findEarliest 14 = .ok (.iload_n 1, 1) := by decide +kernel
theorem dX3_findEarliest_15 : decode cX3_findEarliest 15 = .ok (.aload_n 0, 1) := by decide +kernel
theorem dX3_findEarliest_16 : decode cX3_findEarliest 16 = .ok (.getfield 9, 3) := by decide +kernel
theorem dX3_findEarliest_19 : decode cX3_findEarliest 19 = .ok (.iload_n 1, 1) := by decide +kernel
theorem dX3_findEarliest_20 : decode cX3_findEarliest 20 = .ok (.laload, 1) := by decide +kernel
theorem dX3_findEarliest_21 : decode cX3_findEarliest 21 = .ok (.lastore, 1) := by decide +kernel
theorem dX3_findEarliest_22 : decode cX3_findEarliest 22 = .ok (.iinc 1 1, 3) := by decide +kernel
theorem dX3_findEarliest_25 : decode cX3_findEarliest 25 = .ok (.goto (-23), 3) := by decide +kernel
theorem dX3_findEarliest_28 : decode cX3_findEarliest 28 = .ok (.iconst 1, 1) := by decide +kernel
theorem dX3_findEarliest_29 : decode cX3_findEarliest 29 = .ok (.istore_n 1, 1) := by decide +kernel
theorem dX3_findEarliest_30 : decode cX3_findEarliest 30 = .ok (.iconst 0, 1) := by decide +kernel
theorem dX3_findEarliest_31 : decode cX3_findEarliest 31 = .ok (.istore_n 2, 1) := by decide +kernel
theorem dX3_findEarliest_32 : decode cX3_findEarliest 32 = .ok (.iload_n 2, 1) := by decide +kernel
theorem dX3_findEarliest_33 : decode cX3_findEarliest 33 = .ok (.aload_n 0, 1) := by decide +kernel
theorem dX3_findEarliest_34 : decode cX3_findEarliest 34 = .ok (.getfield 40, 3) := by decide +kernel
theorem dX3_findEarliest_37 : decode cX3_findEarliest 37 = .ok (.if_icmp .gt 18, 3) := by decide +kernel
theorem dX3_findEarliest_40 : decode cX3_findEarliest 40 = .ok (.iload_n 1, 1) := by decide +kernel
theorem dX3_findEarliest_41 : decode cX3_findEarliest 41 = .ok (.ifCond .eq 14, 3) := by decide +kernel
theorem dX3_findEarliest_44 : decode cX3_findEarliest 44 = .ok (.aload_n 0, 1) := by decide +kernel
theorem dX3_findEarliest_45 : decode cX3_findEarliest 45 = .ok (.invokevirtual 79, 3) := by decide +kernel
theorem dX3_findEarliest_48 : decode cX3_findEarliest 48 = .ok (.istore_n 1, 1) := by decide +kernel
theorem dX3_findEarliest_49 : decode cX3_findEarliest 49 = .ok (.iinc 2 1, 3) := by decide +kernel
theorem dX3_findEarliest_52 : decode cX3_findEarliest 52 = .ok (.goto (-20), 3) := by decide +kernel
theorem dX3_findEarliest_55 : decode cX3_findEarliest 55 = .ok (.iload_n 1, 1) := by decide +kernel
theorem dX3_findEarliest_56 : decode cX3_findEarliest 56 = .ok (.ifCond .ne 7, 3) := by decide +kernel
theorem dX3_findEarliest_59 : decode cX3_findEarliest 59 = .ok (.iconst 1, 1) := by decide +kernel
theorem dX3_findEarliest_60 : decode cX3_findEarliest 60 = .ok (.goto 4, 3) := by decide +kernel
theorem dX3_findEarliest_63 : decode cX3_findEarliest 63 = .ok (.iconst 0, 1) := by decide +kernel
theorem dX3_findEarliest_64 : decode cX3_findEarliest 64 = .ok (.ireturn, 1) := by decide +kernel
theorem dX3_raiseOnce_0 : decode cX3_raiseOnce 0 = .ok (.iconst 0, 1) := by decide +kernel
theorem dX3_raiseOnce_1 : decode cX3_raiseOnce 1 = .ok (.istore_n 1, 1) := by decide +kernel
theorem dX3_raiseOnce_2 : decode cX3_raiseOnce 2 = .ok (.iconst 0, 1) := by decide +kernel
theorem dX3_raiseOnce_3 : decode cX3_raiseOnce 3 = .ok (.istore_n 2, 1) := by decide +kernel
theorem dX3_raiseOnce_4 : decode cX3_raiseOnce 4 = .ok (.iload_n 2, 1) := by decide +kernel
theorem dX3_raiseOnce_5 : decode cX3_raiseOnce 5 = .ok (.aload_n 0, 1) := by decide +kernel
theorem dX3_raiseOnce_6 : decode cX3_raiseOnce 6 = .ok (.getfield 50, 3) := by decide +kernel
theorem dX3_raiseOnce_9 : decode cX3_raiseOnce 9 = .ok (.if_icmp .ge 61, 3) := by decide +kernel
theorem dX3_raiseOnce_12 : decode cX3_raiseOnce 12 = .ok (.aload_n 0, 1) := by decide +kernel
theorem dX3_raiseOnce_13 : decode cX3_raiseOnce 13 = .ok (.getfield 28, 3) := by decide +kernel
theorem dX3_raiseOnce_16 : decode cX3_raiseOnce 16 = .ok (.aload_n 0, 1) := by decide +kernel
theorem dX3_raiseOnce_17 : decode cX3_raiseOnce 17 = .ok (.getfield 22, 3) := by decide +kernel
theorem dX3_raiseOnce_20 : decode cX3_raiseOnce 20 = .ok (.iload_n 2, 1) := by decide +kernel
theorem dX3_raiseOnce_21 : decode cX3_raiseOnce 21 = .ok (.iaload, 1) := by decide +kernel
theorem dX3_raiseOnce_22 : decode cX3_raiseOnce 22 = .ok (.laload, 1) := by decide +kernel
theorem dX3_raiseOnce_23 : decode cX3_raiseOnce 23 = .ok (.aload_n 0, 1) := by decide +kernel
theorem dX3_raiseOnce_24 : decode cX3_raiseOnce 24 = .ok (.getfield 28, 3) := by decide +kernel
theorem dX3_raiseOnce_27 : decode cX3_raiseOnce 27 = .ok (.aload_n 0, 1) := by decide +kernel
theorem dX3_raiseOnce_28 : decode cX3_raiseOnce 28 = .ok (.getfield 18, 3) := by decide +kernel
theorem dX3_raiseOnce_31 : decode cX3_raiseOnce 31 = .ok (.iload_n 2, 1) := by decide +kernel
theorem dX3_raiseOnce_32 : decode cX3_raiseOnce 32 = .ok (.iaload, 1) := by decide +kernel
theorem dX3_raiseOnce_33 : decode cX3_raiseOnce 33 = .ok (.laload, 1) := by decide +kernel
theorem dX3_raiseOnce_34 : decode cX3_raiseOnce 34 = .ok (.lcmp, 1) := by decide +kernel
theorem dX3_raiseOnce_35 : decode cX3_raiseOnce 35 = .ok (.ifCond .gt 29, 3) := by decide +kernel
theorem dX3_raiseOnce_38 : decode cX3_raiseOnce 38 = .ok (.aload_n 0, 1) := by decide +kernel
theorem dX3_raiseOnce_39 : decode cX3_raiseOnce 39 = .ok (.getfield 28, 3) := by decide +kernel
theorem dX3_raiseOnce_42 : decode cX3_raiseOnce 42 = .ok (.aload_n 0, 1) := by decide +kernel
theorem dX3_raiseOnce_43 : decode cX3_raiseOnce 43 = .ok (.getfield 22, 3) := by decide +kernel
theorem dX3_raiseOnce_46 : decode cX3_raiseOnce 46 = .ok (.iload_n 2, 1) := by decide +kernel
theorem dX3_raiseOnce_47 : decode cX3_raiseOnce 47 = .ok (.iaload, 1) := by decide +kernel
theorem dX3_raiseOnce_48 : decode cX3_raiseOnce 48 = .ok (.aload_n 0, 1) := by decide +kernel
theorem dX3_raiseOnce_49 : decode cX3_raiseOnce 49 = .ok (.getfield 28, 3) := by decide +kernel
theorem dX3_raiseOnce_52 : decode cX3_raiseOnce 52 = .ok (.aload_n 0, 1) := by decide +kernel
theorem dX3_raiseOnce_53 : decode cX3_raiseOnce 53 = .ok (.getfield 18, 3) := by decide +kernel
theorem dX3_raiseOnce_56 : decode cX3_raiseOnce 56 = .ok (.iload_n 2, 1) := by decide +kernel
theorem dX3_raiseOnce_57 : decode cX3_raiseOnce 57 = .ok (.iaload, 1) := by decide +kernel
theorem dX3_raiseOnce_58 : decode cX3_raiseOnce 58 = .ok (.laload, 1) := by decide +kernel
theorem dX3_raiseOnce_59 : decode cX3_raiseOnce 59 = .ok (.lconst 1, 1) := by decide +kernel
theorem dX3_raiseOnce_60 : decode cX3_raiseOnce 60 = .ok (.ladd, 1) := by decide +kernel
theorem dX3_raiseOnce_61 : decode cX3_raiseOnce 61 = .ok (.lastore, 1) := by decide +kernel
theorem dX3_raiseOnce_62 : decode cX3_raiseOnce 62 = .ok (.iconst 1, 1) := by decide +kernel
theorem dX3_raiseOnce_63 : decode cX3_raiseOnce 63 = .ok (.istore_n 1, 1) := by decide +kernel
theorem dX3_raiseOnce_64 : decode cX3_raiseOnce 64 = .ok (.iinc 2 1, 3) := by decide +kernel
theorem dX3_raiseOnce_67 : decode cX3_raiseOnce 67 = .ok (.goto (-63), 3) := by decide +kernel
theorem dX3_raiseOnce_70 : decode cX3_raiseOnce 70 = .ok (.iload_n 1, 1) := by decide +kernel
theorem dX3_raiseOnce_71 : decode cX3_raiseOnce 71 = .ok (.ireturn, 1) := by decide +kernel
theorem dX3_findWidening_0 : decode cX3_findWidening 0 = .ok (.aload_n 0, 1) := by decide +kernel
theorem dX3_findWidening_1 : decode cX3_findWidening 1 = .ok (.lconst 0, 1) := by decide +kernel
theorem dX3_findWidening_2 : decode cX3_findWidening 2 = .ok (.putfield 66, 3) := by decide +kernel
theorem dX3_findWidening_5 : decode cX3_findWidening 5 = .ok (.iconst 0, 1) := by decide +kernel
theorem dX3_findWidening_6 : decode cX3_findWidening 6 = .ok (.istore_n 1, 1) := by decide +kernel
theorem dX3_findWidening_7 : decode cX3_findWidening 7 = .ok (.iload_n 1, 1) := by decide +kernel
theorem dX3_findWidening_8 : decode cX3_findWidening 8 = .ok (.aload_n 0, 1) := by decide +kernel
theorem dX3_findWidening_9 : decode cX3_findWidening 9 = .ok (.getfield 40, 3) := by decide +kernel
theorem dX3_findWidening_12 : decode cX3_findWidening 12 = .ok (.if_icmp .ge 39, 3) := by decide +kernel
theorem dX3_findWidening_15 : decode cX3_findWidening 15 = .ok (.aload_n 0, 1) := by decide +kernel
theorem dX3_findWidening_16 : decode cX3_findWidening 16 = .ok (.aload_n 0, 1) := by decide +kernel
theorem dX3_findWidening_17 : decode cX3_findWidening 17 = .ok (.getfield 66, 3) := by decide +kernel
theorem dX3_findWidening_20 : decode cX3_findWidening 20 = .ok (.aload_n 0, 1) := by decide +kernel
theorem dX3_findWidening_21 : decode cX3_findWidening 21 = .ok (.getfield 28, 3) := by decide +kernel
theorem dX3_findWidening_24 : decode cX3_findWidening 24 = .ok (.iload_n 1, 1) := by decide +kernel
theorem dX3_findWidening_25 : decode cX3_findWidening 25 = .ok (.laload, 1) := by decide +kernel
theorem dX3_findWidening_26 : decode cX3_findWidening 26 = .ok (.aload_n 0, 1) := by decide +kernel
theorem dX3_findWidening_27 : decode cX3_findWidening 27 = .ok (.getfield 15, 3) := by decide +kernel
theorem dX3_findWidening_30 : decode cX3_findWidening 30 = .ok (.iload_n 1, 1) := by decide +kernel
theorem dX3_findWidening_31 : decode cX3_findWidening 31 = .ok (.laload, 1) := by decide +kernel
theorem dX3_findWidening_32 : decode cX3_findWidening 32 = .ok (.lsub, 1) := by decide +kernel
theorem dX3_findWidening_33 : decode cX3_findWidening 33 = .ok (.ldc2_w 82, 3) := by decide +kernel
theorem dX3_findWidening_36 : decode cX3_findWidening 36 = .ok (.invokestatic 84, 3) := by decide +kernel
theorem dX3_findWidening_39 : decode cX3_findWidening 39 = .ok (.invokestatic 88, 3) := by decide +kernel
theorem dX3_findWidening_42 : decode cX3_findWidening 42 = .ok (.putfield 66, 3) := by decide +kernel
theorem dX3_findWidening_45 : decode cX3_findWidening 45 = .ok (.iinc 1 1, 3) := by decide +kernel
theorem dX3_findWidening_48 : decode cX3_findWidening 48 = .ok (.goto (-41), 3) := by decide +kernel
theorem dX3_findWidening_51 : decode cX3_findWidening 51 = .ok (.return_, 1) := by decide +kernel
theorem dX3_rank_0 : decode cX3_rank 0 = .ok (.iconst 0, 1) := by decide +kernel
theorem dX3_rank_1 : decode cX3_rank 1 = .ok (.istore_n 1, 1) := by decide +kernel
theorem dX3_rank_2 : decode cX3_rank 2 = .ok (.iload_n 1, 1) := by decide +kernel
theorem dX3_rank_3 : decode cX3_rank 3 = .ok (.aload_n 0, 1) := by decide +kernel
theorem dX3_rank_4 : decode cX3_rank 4 = .ok (.getfield 40, 3) := by decide +kernel
theorem dX3_rank_7 : decode cX3_rank 7 = .ok (.if_icmp .ge 65, 3) := by decide +kernel
theorem dX3_rank_10 : decode cX3_rank 10 = .ok (.iload_n 1, 1) := by decide +kernel
theorem dX3_rank_11 : decode cX3_rank 11 = .ok (.istore_n 2, 1) := by decide +kernel
theorem dX3_rank_12 : decode cX3_rank 12 = .ok (.iload_n 2, 1) := by decide +kernel
theorem dX3_rank_13 : decode cX3_rank 13 = .ok (.ifCond .le 46, 3) := by decide +kernel
theorem dX3_rank_16 : decode cX3_rank 16 = .ok (.aload_n 0, 1) := by decide +kernel
theorem dX3_rank_17 : decode cX3_rank 17 = .ok (.getfield 28, 3) := by decide +kernel
theorem dX3_rank_20 : decode cX3_rank 20 = .ok (.aload_n 0, 1) := by decide +kernel
theorem dX3_rank_21 : decode cX3_rank 21 = .ok (.getfield 31, 3) := by decide +kernel
theorem dX3_rank_24 : decode cX3_rank 24 = .ok (.iload_n 2, 1) := by decide +kernel
theorem dX3_rank_25 : decode cX3_rank 25 = .ok (.iconst 1, 1) := by decide +kernel
theorem dX3_rank_26 : decode cX3_rank 26 = .ok (.isub, 1) := by decide +kernel
theorem dX3_rank_27 : decode cX3_rank 27 = .ok (.iaload, 1) := by decide +kernel
theorem dX3_rank_28 : decode cX3_rank 28 = .ok (.laload, 1) := by decide +kernel
theorem dX3_rank_29 : decode cX3_rank 29 = .ok (.aload_n 0, 1) := by decide +kernel
theorem dX3_rank_30 : decode cX3_rank 30 = .ok (.getfield 28, 3) := by decide +kernel
theorem dX3_rank_33 : decode cX3_rank 33 = .ok (.iload_n 1, 1) := by decide +kernel
theorem dX3_rank_34 : decode cX3_rank 34 = .ok (.laload, 1) := by decide +kernel
theorem dX3_rank_35 : decode cX3_rank 35 = .ok (.lcmp, 1) := by decide +kernel
theorem dX3_rank_36 : decode cX3_rank 36 = .ok (.ifCond .le 23, 3) := by decide +kernel
theorem dX3_rank_39 : decode cX3_rank 39 = .ok (.aload_n 0, 1) := by decide +kernel
theorem dX3_rank_40 : decode cX3_rank 40 = .ok (.getfield 31, 3) := by decide +kernel
theorem dX3_rank_43 : decode cX3_rank 43 = .ok (.iload_n 2, 1) := by decide +kernel
theorem dX3_rank_44 : decode cX3_rank 44 = .ok (.aload_n 0, 1) := by decide +kernel
theorem dX3_rank_45 : decode cX3_rank 45 = .ok (.getfield 31, 3) := by decide +kernel
theorem dX3_rank_48 : decode cX3_rank 48 = .ok (.iload_n 2, 1) := by decide +kernel
theorem dX3_rank_49 : decode cX3_rank 49 = .ok (.iconst 1, 1) := by decide +kernel
theorem dX3_rank_50 : decode cX3_rank 50 = .ok (.isub, 1) := by decide +kernel
theorem dX3_rank_51 : decode cX3_rank 51 = .ok (.iaload, 1) := by decide +kernel
theorem dX3_rank_52 : decode cX3_rank 52 = .ok (.iastore, 1) := by decide +kernel
theorem dX3_rank_53 : decode cX3_rank 53 = .ok (.iinc 2 (-1), 3) := by decide +kernel
theorem dX3_rank_56 : decode cX3_rank 56 = .ok (.goto (-44), 3) := by decide +kernel
theorem dX3_rank_59 : decode cX3_rank 59 = .ok (.aload_n 0, 1) := by decide +kernel
theorem dX3_rank_60 : decode cX3_rank 60 = .ok (.getfield 31, 3) := by decide +kernel
theorem dX3_rank_63 : decode cX3_rank 63 = .ok (.iload_n 2, 1) := by decide +kernel
theorem dX3_rank_64 : decode cX3_rank 64 = .ok (.iload_n 1, 1) := by decide +kernel
theorem dX3_rank_65 : decode cX3_rank 65 = .ok (.iastore, 1) := by decide +kernel
theorem dX3_rank_66 : decode cX3_rank 66 = .ok (.iinc 1 1, 3) := by decide +kernel
theorem dX3_rank_69 : decode cX3_rank 69 = .ok (.goto (-67), 3) := by decide +kernel
theorem dX3_rank_72 : decode cX3_rank 72 = .ok (.return_, 1) := by decide +kernel
theorem dX3_findRing_0 : decode cX3_findRing 0 = .ok (.iconst (-1), 1) := by decide +kernel
theorem dX3_findRing_1 : decode cX3_findRing 1 = .ok (.istore_n 1, 1) := by decide +kernel
theorem dX3_findRing_2 : decode cX3_findRing 2 = .ok (.iconst 0, 1) := by decide +kernel
theorem dX3_findRing_3 : decode cX3_findRing 3 = .ok (.istore_n 2, 1) := by decide +kernel
theorem dX3_findRing_4 : decode cX3_findRing 4 = .ok (.iload_n 2, 1) := by decide +kernel
theorem dX3_findRing_5 : decode cX3_findRing 5 = .ok (.aload_n 0, 1) := by decide +kernel
theorem dX3_findRing_6 : decode cX3_findRing 6 = .ok (.getfield 40, 3) := by decide +kernel
theorem dX3_findRing_9 : decode cX3_findRing 9 = .ok (.if_icmp .ge 57, 3) := by decide +kernel
theorem dX3_findRing_12 : decode cX3_findRing 12 = .ok (.aload_n 0, 1) := by decide +kernel
theorem dX3_findRing_13 : decode cX3_findRing 13 = .ok (.iload_n 2, 1) := by decide +kernel
theorem dX3_findRing_14 : decode cX3_findRing 14 = .ok (.invokevirtual 93, 3) := by decide +kernel
theorem dX3_findRing_17 : decode cX3_findRing 17 = .ok (.aload_n 0, 1) := by decide +kernel
theorem dX3_findRing_18 : decode cX3_findRing 18 = .ok (.iload_n 2, 1) := by decide +kernel
theorem dX3_findRing_19 : decode cX3_findRing 19 = .ok (.invokevirtual 97, 3) := by decide +kernel
theorem dX3_findRing_22 : decode cX3_findRing 22 = .ok (.istore_n 3, 1) := by decide +kernel
theorem dX3_findRing_23 : decode cX3_findRing 23 = .ok (.iload_n 3, 1) := by decide +kernel
theorem dX3_findRing_24 : decode cX3_findRing 24 = .ok (.ifCond .lt 36, 3) := by decide +kernel
theorem dX3_findRing_27 : decode cX3_findRing 27 = .ok (.iload_n 1, 1) := by decide +kernel
theorem dX3_findRing_28 : decode cX3_findRing 28 = .ok (.ifCond .lt 18, 3) := by decide +kernel
theorem dX3_findRing_31 : decode cX3_findRing 31 = .ok (.aload_n 0, 1) := by decide +kernel
theorem dX3_findRing_32 : decode cX3_findRing 32 = .ok (.getfield 37, 3) := by decide +kernel
theorem dX3_findRing_35 : decode cX3_findRing 35 = .ok (.iload_n 3, 1) := by decide +kernel
theorem dX3_findRing_36 : decode cX3_findRing 36 = .ok (.iaload, 1) := by decide +kernel
theorem dX3_findRing_37 : decode cX3_findRing 37 = .ok (.iconst 1, 1) := by decide +kernel
theorem dX3_findRing_38 : decode cX3_findRing 38 = .ok (.iadd, 1) := by decide +kernel
theorem dX3_findRing_39 : decode cX3_findRing 39 = .ok (.aload_n 0, 1) := by decide +kernel
theorem dX3_findRing_40 : decode cX3_findRing 40 = .ok (.getfield 57, 3) := by decide +kernel
theorem dX3_findRing_43 : decode cX3_findRing 43 = .ok (.if_icmp .ge 17, 3) := by decide +kernel
theorem dX3_findRing_46 : decode cX3_findRing 46 = .ok (.iload_n 2, 1) := by decide +kernel
theorem dX3_findRing_47 : decode cX3_findRing 47 = .ok (.istore_n 1, 1) := by decide +kernel
theorem dX3_findRing_48 : decode cX3_findRing 48 = .ok (.aload_n 0, 1) := by decide +kernel
theorem dX3_findRing_49 : decode cX3_findRing 49 = .ok (.aload_n 0, 1) := by decide +kernel
theorem dX3_findRing_50 : decode cX3_findRing 50 = .ok (.getfield 37, 3) := by decide +kernel
theorem dX3_findRing_53 : decode cX3_findRing 53 = .ok (.iload_n 3, 1) := by decide +kernel
theorem dX3_findRing_54 : decode cX3_findRing 54 = .ok (.iaload, 1) := by decide +kernel
theorem dX3_findRing_55 : decode cX3_findRing 55 = .ok (.iconst 1, 1) := by decide +kernel
theorem dX3_findRing_56 : decode cX3_findRing 56 = .ok (.iadd, 1) := by decide +kernel
theorem dX3_findRing_57 : decode cX3_findRing 57 = .ok (.putfield 57, 3) := by decide +kernel
theorem dX3_findRing_60 : decode cX3_findRing 60 = .ok (.iinc 2 1, 3) := by decide +kernel
theorem dX3_findRing_63 : decode cX3_findRing 63 = .ok (.goto (-59), 3) := by decide +kernel
theorem dX3_findRing_66 : decode cX3_findRing 66 = .ok (.iload_n 1, 1) := by decide +kernel
theorem dX3_findRing_67 : decode cX3_findRing 67 = .ok (.ifCond .ge 4, 3) := by decide +kernel
theorem dX3_findRing_70 : decode cX3_findRing 70 = .ok (.return_, 1) := by decide +kernel
theorem dX3_findRing_71 : decode cX3_findRing 71 = .ok (.aload_n 0, 1) := by decide +kernel
theorem dX3_findRing_72 : decode cX3_findRing 72 = .ok (.iload_n 1, 1) := by decide +kernel
theorem dX3_findRing_73 : decode cX3_findRing 73 = .ok (.invokevirtual 93, 3) := by decide +kernel
theorem dX3_findRing_76 : decode cX3_findRing 76 = .ok (.iload_n 1, 1) := by decide +kernel
theorem dX3_findRing_77 : decode cX3_findRing 77 = .ok (.istore_n 2, 1) := by decide +kernel
theorem dX3_findRing_78 : decode cX3_findRing 78 = .ok (.iconst 0, 1) := by decide +kernel
theorem dX3_findRing_79 : decode cX3_findRing 79 = .ok (.istore_n 3, 1) := by decide +kernel
theorem dX3_findRing_80 : decode cX3_findRing 80 = .ok (.iload_n 3, 1) := by decide +kernel
theorem dX3_findRing_81 : decode cX3_findRing 81 = .ok (.aload_n 0, 1) := by decide +kernel
theorem dX3_findRing_82 : decode cX3_findRing 82 = .ok (.getfield 57, 3) := by decide +kernel
theorem dX3_findRing_85 : decode cX3_findRing 85 = .ok (.if_icmp .ge 26, 3) := by decide +kernel
theorem dX3_findRing_88 : decode cX3_findRing 88 = .ok (.iload_n 2, 1) := by decide +kernel
theorem dX3_findRing_89 : decode cX3_findRing 89 = .ok (.ifCond .lt 22, 3) := by decide +kernel
theorem dX3_findRing_92 : decode cX3_findRing 92 = .ok (.aload_n 0, 1) := by decide +kernel
theorem dX3_findRing_93 : decode cX3_findRing 93 = .ok (.getfield 34, 3) := by decide +kernel
theorem dX3_findRing_96 : decode cX3_findRing 96 = .ok (.iload_n 3, 1) := by decide +kernel
theorem dX3_findRing_97 : decode cX3_findRing 97 = .ok (.iload_n 2, 1) := by decide +kernel
theorem dX3_findRing_98 : decode cX3_findRing 98 = .ok (.iastore, 1) := by decide +kernel
theorem dX3_findRing_99 : decode cX3_findRing 99 = .ok (.aload_n 0, 1) := by decide +kernel
theorem dX3_findRing_100 : decode cX3_findRing 100 = .ok (.iload_n 2, 1) := by decide +kernel
theorem dX3_findRing_101 : decode cX3_findRing 101 = .ok (.invokevirtual 97, 3) := by decide +kernel
theorem dX3_findRing_104 : decode cX3_findRing 104 = .ok (.istore_n 2, 1) := by decide +kernel
theorem dX3_findRing_105 : decode cX3_findRing 105 = .ok (.iinc 3 1, 3) := by decide +kernel
theorem dX3_findRing_108 : decode cX3_findRing 108 = .ok (.goto (-28), 3) := by decide +kernel
theorem dX3_findRing_111 : decode cX3_findRing 111 = .ok (.return_, 1) := by decide +kernel
theorem dX3_measureTo_0 : decode cX3_measureTo 0 = .ok (.iconst 0, 1) := by decide +kernel
theorem dX3_measureTo_1 : decode cX3_measureTo 1 = .ok (.istore_n 2, 1) := by decide +kernel
theorem dX3_measureTo_2 : decode cX3_measureTo 2 = .ok (.iload_n 2, 1) := by decide +kernel
theorem dX3_measureTo_3 : decode cX3_measureTo 3 = .ok (.aload_n 0, 1) := by decide +kernel
theorem dX3_measureTo_4 : decode cX3_measureTo 4 = .ok (.getfield 40, 3) := by decide +kernel
theorem dX3_measureTo_7 : decode cX3_measureTo 7 = .ok (.if_icmp .ge 25, 3) := by decide +kernel
theorem dX3_measureTo_10 : decode cX3_measureTo 10 = .ok (.aload_n 0, 1) := by decide +kernel
theorem dX3_measureTo_11 : decode cX3_measureTo 11 = .ok (.getfield 37, 3) := by decide +kernel
theorem dX3_measureTo_14 : decode cX3_measureTo 14 = .ok (.iload_n 2, 1) := by decide +kernel
theorem dX3_measureTo_15 : decode cX3_measureTo 15 = .ok (.iload_n 2, 1) := by decide +kernel
theorem dX3_measureTo_16 : decode cX3_measureTo 16 = .ok (.iload_n 1, 1) := by decide +kernel
theorem dX3_measureTo_17 : decode cX3_measureTo 17 = .ok (.if_icmp .ne 7, 3) := by decide +kernel
theorem dX3_measureTo_20 : decode cX3_measureTo 20 = .ok (.iconst 0, 1) := by decide +kernel
theorem dX3_measureTo_21 : decode cX3_measureTo 21 = .ok (.goto 4, 3) := by decide +kernel
theorem dX3_measureTo_24 : decode cX3_measureTo 24 = .ok (.iconst (-1), 1) := by decide +kernel
theorem dX3_measureTo_25 : decode cX3_measureTo 25 = .ok (.iastore, 1) := by decide +kernel
theorem dX3_measureTo_26 : decode cX3_measureTo 26 = .ok (.iinc 2 1, 3) := by decide +kernel
theorem dX3_measureTo_29 : decode cX3_measureTo 29 = .ok (.goto (-27), 3) := by decide +kernel
theorem dX3_measureTo_32 : decode cX3_measureTo 32 = .ok (.iconst 1, 1) := by decide +kernel
theorem dX3_measureTo_33 : decode cX3_measureTo 33 = .ok (.iload_n 1, 1) := by decide +kernel
theorem dX3_measureTo_34 : decode cX3_measureTo 34 = .ok (.ishl, 1) := by decide +kernel
theorem dX3_measureTo_35 : decode cX3_measureTo 35 = .ok (.istore_n 2, 1) := by decide +kernel
theorem dX3_measureTo_36 : decode cX3_measureTo 36 = .ok (.iconst 1, 1) := by decide +kernel
theorem dX3_measureTo_37 : decode cX3_measureTo 37 = .ok (.istore_n 3, 1) := by decide +kernel
theorem dX3_measureTo_38 : decode cX3_measureTo 38 = .ok (.iload_n 3, 1) := by decide +kernel
theorem dX3_measureTo_39 : decode cX3_measureTo 39 = .ok (.aload_n 0, 1) := by decide +kernel
theorem dX3_measureTo_40 : decode cX3_measureTo 40 = .ok (.getfield 40, 3) := by decide +kernel
theorem dX3_measureTo_43 : decode cX3_measureTo 43 = .ok (.if_icmp .gt 76, 3) := by decide +kernel
theorem dX3_measureTo_46 : decode cX3_measureTo 46 = .ok (.iload_n 2, 1) := by decide +kernel
theorem dX3_measureTo_47 : decode cX3_measureTo 47 = .ok (.ifCond .eq 72, 3) := by decide +kernel
theorem dX3_measureTo_50 : decode cX3_measureTo 50 = .ok (.iconst 0, 1) := by decide +kernel
theorem dX3_measureTo_51 : decode cX3_measureTo 51 = .ok (.istore 4, 2) := by decide +kernel
theorem dX3_measureTo_53 : decode cX3_measureTo 53 = .ok (.iconst 0, 1) := by decide +kernel
theorem dX3_measureTo_54 : decode cX3_measureTo 54 = .ok (.istore 5, 2) := by decide +kernel
theorem dX3_measureTo_56 : decode cX3_measureTo 56 = .ok (.iload 5, 2) := by decide +kernel
theorem dX3_measureTo_58 : decode cX3_measureTo 58 = .ok (.aload_n 0, 1) := by decide +kernel
theorem dX3_measureTo_59 : decode cX3_measureTo 59 = .ok (.getfield 40, 3) := by decide +kernel
theorem dX3_measureTo_62 : decode cX3_measureTo 62 = .ok (.if_icmp .ge 48, 3) := by decide +kernel
theorem dX3_measureTo_65 : decode cX3_measureTo 65 = .ok (.aload_n 0, 1) := by decide +kernel
theorem dX3_measureTo_66 : decode cX3_measureTo 66 = .ok (.getfield 37, 3) := by decide +kernel
theorem dX3_measureTo_69 : decode cX3_measureTo 69 = .ok (.iload 5, 2) := by decide +kernel
theorem dX3_measureTo_71 : decode cX3_measureTo 71 = .ok (.iaload, 1) := by decide +kernel
theorem dX3_measureTo_72 : decode cX3_measureTo 72 = .ok (.ifCond .ge 32, 3) := by decide +kernel
theorem dX3_measureTo_75 : decode cX3_measureTo 75 = .ok (.aload_n 0, 1) := by decide +kernel
theorem dX3_measureTo_76 : decode cX3_measureTo 76 = .ok (.getfield 25, 3) := by decide +kernel
theorem dX3_measureTo_79 : decode cX3_measureTo 79 = .ok (.iload 5, 2) := by decide +kernel
theorem dX3_measureTo_81 : decode cX3_measureTo 81 = .ok (.iaload, 1) := by decide +kernel
theorem dX3_measureTo_82 : decode cX3_measureTo 82 = .ok (.iload_n 2, 1) := by decide +kernel
theorem dX3_measureTo_83 : decode cX3_measureTo 83 = .ok (.iand, 1) := by decide +kernel
theorem dX3_measureTo_84 : decode cX3_measureTo 84 = .ok (.ifCond .eq 20, 3) := by decide +kernel
theorem dX3_measureTo_87 : decode cX3_measureTo 87 = .ok (.aload_n 0, 1) := by decide +kernel
theorem dX3_measureTo_88 : decode cX3_measureTo 88 = .ok (.getfield 37, 3) := by decide +kernel
theorem dX3_measureTo_91 : decode cX3_measureTo 91 = .ok (.iload 5, 2) := by decide +kernel
theorem dX3_measureTo_93 : decode cX3_measureTo 93 = .ok (.iload_n 3, 1) := by decide +kernel
theorem dX3_measureTo_94 : decode cX3_measureTo 94 = .ok (.iastore, 1) := by decide +kernel
theorem dX3_measureTo_95 : decode cX3_measureTo 95 = .ok (.iload 4, 2) := by decide +kernel
theorem dX3_measureTo_97 : decode cX3_measureTo 97 = .ok (.iconst 1, 1) := by decide +kernel
theorem dX3_measureTo_98 : decode cX3_measureTo 98 = .ok (.iload 5, 2) := by decide +kernel
theorem dX3_measureTo_100 : decode cX3_measureTo 100 = .ok (.ishl, 1) := by decide +kernel
theorem dX3_measureTo_101 : decode cX3_measureTo 101 = .ok (.ior, 1) := by decide +kernel
theorem dX3_measureTo_102 : decode cX3_measureTo 102 = .ok (.istore 4, 2) := by decide +kernel
theorem dX3_measureTo_104 : decode cX3_measureTo 104 = .ok (.iinc 5 1, 3) := by decide +kernel
theorem dX3_measureTo_107 : decode cX3_measureTo 107 = .ok (.goto (-51), 3) := by decide +kernel
theorem dX3_measureTo_110 : decode cX3_measureTo 110 = .ok (.iload 4, 2) := by decide +kernel
theorem dX3_measureTo_112 : decode cX3_measureTo 112 = .ok (.istore_n 2, 1) := by decide +kernel
theorem dX3_measureTo_113 : decode cX3_measureTo 113 = .ok (.iinc 3 1, 3) := by decide +kernel
theorem dX3_measureTo_116 : decode cX3_measureTo 116 = .ok (.goto (-78), 3) := by decide +kernel
theorem dX3_measureTo_119 : decode cX3_measureTo 119 = .ok (.return_, 1) := by decide +kernel
theorem dX3_nearestAfter_0 : decode cX3_nearestAfter 0 = .ok (.iconst (-1), 1) := by decide +kernel
theorem dX3_nearestAfter_1 : decode cX3_nearestAfter 1 = .ok (.istore_n 2, 1) := by decide +kernel
theorem dX3_nearestAfter_2 : decode cX3_nearestAfter 2 = .ok (.iconst 0, 1) := by decide +kernel
theorem dX3_nearestAfter_3 : decode cX3_nearestAfter 3 = .ok (.istore_n 3, 1) := by decide +kernel
theorem dX3_nearestAfter_4 : decode cX3_nearestAfter 4 = .ok (.iload_n 3, 1) := by decide +kernel
theorem dX3_nearestAfter_5 : decode cX3_nearestAfter 5 = .ok (.aload_n 0, 1) := by decide +kernel
theorem dX3_nearestAfter_6 : decode cX3_nearestAfter 6 = .ok (.getfield 40, 3) := by decide +kernel
theorem dX3_nearestAfter_9 : decode cX3_nearestAfter 9 = .ok (.if_icmp .ge 64, 3) := by decide +kernel
theorem dX3_nearestAfter_12 : decode cX3_nearestAfter 12 = .ok (.aload_n 0, 1) := by decide +kernel
theorem dX3_nearestAfter_13 : decode cX3_nearestAfter 13 = .ok (.getfield 25, 3) := by decide +kernel
theorem dX3_nearestAfter_16 : decode cX3_nearestAfter 16 = .ok (.iload_n 1, 1) := by decide +kernel
theorem dX3_nearestAfter_17 : decode cX3_nearestAfter 17 = .ok (.iaload, 1) := by decide +kernel
theorem dX3_nearestAfter_18 : decode cX3_nearestAfter 18 = .ok (.iload_n 3, 1) := by decide +kernel
theorem dX3_nearestAfter_19 : decode cX3_nearestAfter 19 = .ok (.ishr, 1) := by decide +kernel
theorem dX3_nearestAfter_20 : decode cX3_nearestAfter 20 = .ok (.iconst 1, 1) := by decide +kernel
theorem dX3_nearestAfter_21 : decode cX3_nearestAfter 21 = .ok (.iand, 1) := by decide +kernel
theorem dX3_nearestAfter_22 : decode cX3_nearestAfter 22 = .ok (.ifCond .eq 16, 3) := by decide +kernel
theorem dX3_nearestAfter_25 : decode cX3_nearestAfter 25 = .ok (.aload_n 0, 1) := by decide +kernel
theorem dX3_nearestAfter_26 : decode cX3_nearestAfter 26 = .ok (.getfield 37, 3) := by decide +kernel
theorem dX3_nearestAfter_29 : decode cX3_nearestAfter 29 = .ok (.iload_n 3, 1) := by decide +kernel
theorem dX3_nearestAfter_30 : decode cX3_nearestAfter 30 = .ok (.iaload, 1) := by decide +kernel
theorem dX3_nearestAfter_31 : decode cX3_nearestAfter 31 = .ok (.ifCond .lt 7, 3) := by decide +kernel
theorem dX3_nearestAfter_34 : decode cX3_nearestAfter 34 = .ok (.iconst 1, 1) := by decide +kernel
theorem dX3_nearestAfter_35 : decode cX3_nearestAfter 35 = .ok (.goto 4, 3) := by decide +kernel
theorem dX3_nearestAfter_38 : decode cX3_nearestAfter 38 = .ok (.iconst 0, 1) := by decide +kernel
theorem dX3_nearestAfter_39 : decode cX3_nearestAfter 39 = .ok (.istore 4, 2) := by decide +kernel
theorem dX3_nearestAfter_41 : decode cX3_nearestAfter 41 = .ok (.iload 4, 2) := by decide +kernel
theorem dX3_nearestAfter_43 : decode cX3_nearestAfter 43 = .ok (.ifCond .eq 24, 3) := by decide +kernel
theorem dX3_nearestAfter_46 : decode cX3_nearestAfter 46 = .ok (.iload_n 2, 1) := by decide +kernel
theorem dX3_nearestAfter_47 : decode cX3_nearestAfter 47 = .ok (.ifCond .lt 18, 3) := by decide +kernel
theorem dX3_nearestAfter_50 : decode cX3_nearestAfter 50 = .ok (.aload_n 0, 1) := by decide +kernel
theorem dX3_nearestAfter_51 : decode cX3_nearestAfter 51 = .ok (.getfield 37, 3) := by decide +kernel
theorem dX3_nearestAfter_54 : decode cX3_nearestAfter 54 = .ok (.iload_n 3, 1) := by decide +kernel
theorem dX3_nearestAfter_55 : decode cX3_nearestAfter 55 = .ok (.iaload, 1) := by decide +kernel
theorem dX3_nearestAfter_56 : decode cX3_nearestAfter 56 = .ok (.aload_n 0, 1) := by decide +kernel
theorem dX3_nearestAfter_57 : decode cX3_nearestAfter 57 = .ok (.getfield 37, 3) := by decide +kernel
theorem dX3_nearestAfter_60 : decode cX3_nearestAfter 60 = .ok (.iload_n 2, 1) := by decide +kernel
theorem dX3_nearestAfter_61 : decode cX3_nearestAfter 61 = .ok (.iaload, 1) := by decide +kernel
theorem dX3_nearestAfter_62 : decode cX3_nearestAfter 62 = .ok (.if_icmp .ge 5, 3) := by decide +kernel
theorem dX3_nearestAfter_65 : decode cX3_nearestAfter 65 = .ok (.iload_n 3, 1) := by decide +kernel
theorem dX3_nearestAfter_66 : decode cX3_nearestAfter 66 = .ok (.istore_n 2, 1) := by decide +kernel
theorem dX3_nearestAfter_67 : decode cX3_nearestAfter 67 = .ok (.iinc 3 1, 3) := by decide +kernel
theorem dX3_nearestAfter_70 : decode cX3_nearestAfter 70 = .ok (.goto (-66), 3) := by decide +kernel
theorem dX3_nearestAfter_73 : decode cX3_nearestAfter 73 = .ok (.iload_n 2, 1) := by decide +kernel
theorem dX3_nearestAfter_74 : decode cX3_nearestAfter 74 = .ok (.ireturn, 1) := by decide +kernel
