theorem dX2_init_0 : decode cX2_init 0 = .ok (.aload_n 0, 1) := by decide +kernel
theorem dX2_init_1 : decode cX2_init 1 = .ok (.invokespecial 3, 3) := by decide +kernel
theorem dX2_init_4 : decode cX2_init 4 = .ok (.aload_n 0, 1) := by decide +kernel
theorem dX2_init_5 : decode cX2_init 5 = .ok (.iload_n 1, 1) := by decide +kernel
theorem dX2_init_6 : decode cX2_init 6 = .ok (.putfield 9, 3) := by decide +kernel
theorem dX2_init_9 : decode cX2_init 9 = .ok (.aload_n 0, 1) := by decide +kernel
theorem dX2_init_10 : decode cX2_init 10 = .ok (.iload_n 2, 1) := by decide +kernel
theorem dX2_init_11 : decode cX2_init 11 = .ok (.putfield 15, 3) := by decide +kernel
theorem dX2_init_14 : decode cX2_init 14 = .ok (.aload_n 0, 1) := by decide +kernel
theorem dX2_init_15 : decode cX2_init 15 = .ok (.iload_n 3, 1) := by decide +kernel
theorem dX2_init_16 : decode cX2_init 16 = .ok (.putfield 18, 3) := by decide +kernel
theorem dX2_init_19 : decode cX2_init 19 = .ok (.aload_n 0, 1) := by decide +kernel
theorem dX2_init_20 : decode cX2_init 20 = .ok (.iload 4, 2) := by decide +kernel
theorem dX2_init_22 : decode cX2_init 22 = .ok (.putfield 21, 3) := by decide +kernel
theorem dX2_init_25 : decode cX2_init 25 = .ok (.aload_n 0, 1) := by decide +kernel
theorem dX2_init_26 : decode cX2_init 26 = .ok (.lload 5, 2) := by decide +kernel
theorem dX2_init_28 : decode cX2_init 28 = .ok (.putfield 24, 3) := by decide +kernel
theorem dX2_init_31 : decode cX2_init 31 = .ok (.aload_n 0, 1) := by decide +kernel
theorem dX2_init_32 : decode cX2_init 32 = .ok (.iconst 1, 1) := by decide +kernel
theorem dX2_init_33 : decode cX2_init 33 = .ok (.putfield 28, 3) := by decide +kernel
theorem dX2_init_36 : decode cX2_init 36 = .ok (.aload_n 0, 1) := by decide +kernel
theorem dX2_init_37 : decode cX2_init 37 = .ok (.iconst 1, 1) := by decide +kernel
theorem dX2_init_38 : decode cX2_init 38 = .ok (.putfield 31, 3) := by decide +kernel
theorem dX2_init_41 : decode cX2_init 41 = .ok (.aload_n 0, 1) := by decide +kernel
theorem dX2_init_42 : decode cX2_init 42 = .ok (.new 34, 3) := by decide +kernel
theorem dX2_init_45 : decode cX2_init 45 = .ok (.dup, 1) := by decide +kernel
theorem dX2_init_46 : decode cX2_init 46 = .ok (.invokespecial 36, 3) := by decide +kernel
theorem dX2_init_49 : decode cX2_init 49 = .ok (.putfield 37, 3) := by decide +kernel
theorem dX2_init_52 : decode cX2_init 52 = .ok (.aload_n 0, 1) := by decide +kernel
theorem dX2_init_53 : decode cX2_init 53 = .ok (.getfield 37, 3) := by decide +kernel
theorem dX2_init_56 : decode cX2_init 56 = .ok (.lload 5, 2) := by decide +kernel
theorem dX2_init_58 : decode cX2_init 58 = .ok (.iload 4, 2) := by decide +kernel
theorem dX2_init_60 : decode cX2_init 60 = .ok (.i2l, 1) := by decide +kernel
theorem dX2_init_61 : decode cX2_init 61 = .ok (.lsub, 1) := by decide +kernel
theorem dX2_init_62 : decode cX2_init 62 = .ok (.lload 5, 2) := by decide +kernel
theorem dX2_init_64 : decode cX2_init 64 = .ok (.iload 4, 2) := by decide +kernel
theorem dX2_init_66 : decode cX2_init 66 = .ok (.i2l, 1) := by decide +kernel
theorem dX2_init_67 : decode cX2_init 67 = .ok (.ladd, 1) := by decide +kernel
theorem dX2_init_68 : decode cX2_init 68 = .ok (.lconst 0, 1) := by decide +kernel
theorem dX2_init_69 : decode cX2_init 69 = .ok (.invokevirtual 41, 3) := by decide +kernel
theorem dX2_init_72 : decode cX2_init 72 = .ok (.aload_n 0, 1) := by decide +kernel
theorem dX2_init_73 : decode cX2_init 73 = .ok (.lload 5, 2) := by decide +kernel
theorem dX2_init_75 : decode cX2_init 75 = .ok (.iload 4, 2) := by decide +kernel
theorem dX2_init_77 : decode cX2_init 77 = .ok (.i2l, 1) := by decide +kernel
theorem dX2_init_78 : decode cX2_init 78 = .ok (.lsub, 1) := by decide +kernel
theorem dX2_init_79 : decode cX2_init 79 = .ok (.putfield 45, 3) := by decide +kernel
theorem dX2_init_82 : decode cX2_init 82 = .ok (.aload_n 0, 1) := by decide +kernel
theorem dX2_init_83 : decode cX2_init 83 = .ok (.bipush 10, 2) := by decide +kernel
theorem dX2_init_85 : decode cX2_init 85 = .ok (.anewarray 34, 3) := by decide +kernel
theorem dX2_init_88 : decode cX2_init 88 = .ok (.putfield 48, 3) := by decide +kernel
theorem dX2_init_91 : decode cX2_init 91 = .ok (.return_, 1) := by decide +kernel
theorem dX2_countedAt_0 : decode cX2_countedAt 0 = .ok (.lload_n 1, 1) := by decide +kernel
theorem dX2_countedAt_1 : decode cX2_countedAt 1 = .ok (.aload_n 0, 1) := by decide +kernel
theorem dX2_countedAt_2 : decode cX2_countedAt 2 = .ok (.getfield 24, 3) := by decide +kernel
theorem dX2_countedAt_5 : decode cX2_countedAt 5 = .ok (.lsub, 1) := by decide +kernel
theorem dX2_countedAt_6 : decode cX2_countedAt 6 = .ok (.aload_n 0, 1) := by decide +kernel
theorem dX2_countedAt_7 : decode cX2_countedAt 7 = .ok (.getfield 28, 3) := by decide +kernel
theorem dX2_countedAt_10 : decode cX2_countedAt 10 = .ok (.i2l, 1) := by decide +kernel
theorem dX2_countedAt_11 : decode cX2_countedAt 11 = .ok (.lmul, 1) := by decide +kernel
theorem dX2_countedAt_12 : decode cX2_countedAt 12 = .ok (.aload_n 0, 1) := by decide +kernel
theorem dX2_countedAt_13 : decode cX2_countedAt 13 = .ok (.getfield 31, 3) := by decide +kernel
theorem dX2_countedAt_16 : decode cX2_countedAt 16 = .ok (.i2l, 1) := by decide +kernel
theorem dX2_countedAt_17 : decode cX2_countedAt 17 = .ok (.invokestatic 52, 3) := by decide +kernel
theorem dX2_countedAt_20 : decode cX2_countedAt 20 = .ok (.lreturn, 1) := by decide +kernel
theorem dX2_lowAt_0 : decode cX2_lowAt 0 = .ok (.aload_n 0, 1) := by decide +kernel
theorem dX2_lowAt_1 : decode cX2_lowAt 1 = .ok (.getfield 15, 3) := by decide +kernel
theorem dX2_lowAt_4 : decode cX2_lowAt 4 = .ok (.iconst 3, 1) := by decide +kernel
theorem dX2_lowAt_5 : decode cX2_lowAt 5 = .ok (.if_icmp .ne 13, 3) := by decide +kernel
theorem dX2_lowAt_8 : decode cX2_lowAt 8 = .ok (.lload_n 1, 1) := by decide +kernel
theorem dX2_lowAt_9 : decode cX2_lowAt 9 = .ok (.aload_n 0, 1) := by decide +kernel
theorem dX2_lowAt_10 : decode cX2_lowAt 10 = .ok (.getfield 21, 3) := by decide +kernel
theorem dX2_lowAt_13 : decode cX2_lowAt 13 = .ok (.i2l, 1) := by decide +kernel
theorem dX2_lowAt_14 : decode cX2_lowAt 14 = .ok (.lsub, 1) := by decide +kernel
theorem dX2_lowAt_15 : decode cX2_lowAt 15 = .ok (.goto 19, 3) := by decide +kernel
theorem dX2_lowAt_18 : decode cX2_lowAt 18 = .ok (.aload_n 0, 1) := by decide +kernel
theorem dX2_lowAt_19 : decode cX2_lowAt 19 = .ok (.getfield 37, 3) := by decide +kernel
theorem dX2_lowAt_22 : decode cX2_lowAt 22 = .ok (.aload_n 0, 1) := by decide +kernel
theorem dX2_lowAt_23 : decode cX2_lowAt 23 = .ok (.lload_n 1, 1) := by decide +kernel
theorem dX2_lowAt_24 : decode cX2_lowAt 24 = .ok (.invokevirtual 56, 3) := by decide +kernel
theorem dX2_lowAt_27 : decode cX2_lowAt 27 = .ok (.aload_n 0, 1) := by decide +kernel
theorem dX2_lowAt_28 : decode cX2_lowAt 28 = .ok (.getfield 18, 3) := by decide +kernel
theorem dX2_lowAt_31 : decode cX2_lowAt 31 = .ok (.invokevirtual 60, 3) := by decide +kernel
theorem dX2_lowAt_34 : decode cX2_lowAt 34 = .ok (.lreturn, 1) := by decide +kernel
theorem dX2_highAt_0 : decode cX2_highAt 0 = .ok (.aload_n 0, 1) := by decide +kernel
theorem dX2_highAt_1 : decode cX2_highAt 1 = .ok (.getfield 15, 3) := by decide +kernel
theorem dX2_highAt_4 : decode cX2_highAt 4 = .ok (.iconst 3, 1) := by decide +kernel
theorem dX2_highAt_5 : decode cX2_highAt 5 = .ok (.if_icmp .ne 13, 3) := by decide +kernel
theorem dX2_highAt_8 : decode cX2_highAt 8 = .ok (.lload_n 1, 1) := by decide +kernel
theorem dX2_highAt_9 : decode cX2_highAt 9 = .ok (.aload_n 0, 1) := by decide +kernel
theorem dX2_highAt_10 : decode cX2_highAt 10 = .ok (.getfield 21, 3) := by decide +kernel
theorem dX2_highAt_13 : decode cX2_highAt 13 = .ok (.i2l, 1) := by decide +kernel
theorem dX2_highAt_14 : decode cX2_highAt 14 = .ok (.ladd, 1) := by decide +kernel
theorem dX2_highAt_15 : decode cX2_highAt 15 = .ok (.goto 19, 3) := by decide +kernel
theorem dX2_highAt_18 : decode cX2_highAt 18 = .ok (.aload_n 0, 1) := by decide +kernel
theorem dX2_highAt_19 : decode cX2_highAt 19 = .ok (.getfield 37, 3) := by decide +kernel
theorem dX2_highAt_22 : decode cX2_highAt 22 = .ok (.aload_n 0, 1) := by decide +kernel
theorem dX2_highAt_23 : decode cX2_highAt 23 = .ok (.lload_n 1, 1) := by decide +kernel
theorem dX2_highAt_24 : decode cX2_highAt 24 = .ok (.invokevirtual 56, 3) := by decide +kernel
theorem dX2_highAt_27 : decode cX2_highAt 27 = .ok (.aload_n 0, 1) := by decide +kernel
theorem dX2_highAt_28 : decode cX2_highAt 28 = .ok (.getfield 18, 3) := by decide +kernel
theorem dX2_highAt_31 : decode cX2_highAt 31 = .ok (.invokevirtual 64, 3) := by decide +kernel
theorem dX2_highAt_34 : decode cX2_highAt 34 = .ok (.lreturn, 1) := by decide +kernel
theorem dX2_holds_0 : decode cX2_holds 0 = .ok (.aload_n 0, 1) := by decide +kernel
theorem dX2_holds_1 : decode cX2_holds 1 = .ok (.lload_n 1, 1) := by decide +kernel
theorem dX2_holds_2 : decode cX2_holds 2 = .ok (.invokevirtual 67, 3) := by decide +kernel
theorem dX2_holds_5 : decode cX2_holds 5 = .ok (.lload_n 1, 1) := by decide +kernel
theorem dX2_holds_6 : decode cX2_holds 6 = .ok (.lcmp, 1) := by decide +kernel
theorem dX2_holds_7 : decode cX2_holds 7 = .ok (.ifCond .gt 17, 3) := by decide +kernel
theorem dX2_holds_10 : decode cX2_holds 10 = .ok (.lload_n 1, 1) := by decide +kernel
theorem dX2_holds_11 : decode cX2_holds 11 = .ok (.aload_n 0, 1) := by decide +kernel
theorem dX2_holds_12 : decode cX2_holds 12 = .ok (.lload_n 1, 1) := by decide +kernel
theorem dX2_holds_13 : decode cX2_holds 13 = .ok (.invokevirtual 70, 3) := by decide +kernel
theorem dX2_holds_16 : decode cX2_holds 16 = .ok (.lcmp, 1) := by decide +kernel
theorem dX2_holds_17 : decode cX2_holds 17 = .ok (.ifCond .gt 7, 3) := by decide +kernel
theorem dX2_holds_20 : decode cX2_holds 20 = .ok (.iconst 1, 1) := by decide +kernel
theorem dX2_holds_21 : decode cX2_holds 21 = .ok (.goto 4, 3) := by decide +kernel
theorem dX2_holds_24 : decode cX2_holds 24 = .ok (.iconst 0, 1) := by decide +kernel
theorem dX2_holds_25 : decode cX2_holds 25 = .ok (.ireturn, 1) := by decide +kernel
theorem dX2_spanOf_0 : decode cX2_spanOf 0 = .ok (.iload_n 1, 1) := by decide +kernel
theorem dX2_spanOf_1 : decode cX2_spanOf 1 = .ok (.ifCond .lt 12, 3) := by decide +kernel
theorem dX2_spanOf_4 : decode cX2_spanOf 4 = .ok (.iload_n 1, 1) := by decide +kernel
theorem dX2_spanOf_5 : decode cX2_spanOf 5 = .ok (.aload_n 0, 1) := by decide +kernel
theorem dX2_spanOf_6 : decode cX2_spanOf 6 = .ok (.getfield 48, 3) := by decide +kernel
theorem dX2_spanOf_9 : decode cX2_spanOf 9 = .ok (.arraylength, 1) := by decide +kernel
theorem dX2_spanOf_10 : decode cX2_spanOf 10 = .ok (.if_icmp .lt 5, 3) := by decide +kernel
theorem dX2_spanOf_13 : decode cX2_spanOf 13 = .ok (.aconst_null, 1) := by decide +kernel
theorem dX2_spanOf_14 : decode cX2_spanOf 14 = .ok (.areturn, 1) := by decide +kernel
theorem dX2_spanOf_15 : decode cX2_spanOf 15 = .ok (.aload_n 0, 1) := by decide +kernel
theorem dX2_spanOf_16 : decode cX2_spanOf 16 = .ok (.getfield 48, 3) := by decide +kernel
theorem dX2_spanOf_19 : decode cX2_spanOf 19 = .ok (.iload_n 1, 1) := by decide +kernel
theorem dX2_spanOf_20 : decode cX2_spanOf 20 = .ok (.aaload, 1) := by decide +kernel
theorem dX2_spanOf_21 : decode cX2_spanOf 21 = .ok (.astore_n 2, 1) := by decide +kernel
theorem dX2_spanOf_22 : decode cX2_spanOf 22 = .ok (.aload_n 2, 1) := by decide +kernel
theorem dX2_spanOf_23 : decode cX2_spanOf 23 = .ok (.ifnull 10, 3) := by decide +kernel
theorem dX2_spanOf_26 : decode cX2_spanOf 26 = .ok (.aload_n 2, 1) := by decide +kernel
theorem dX2_spanOf_27 : decode cX2_spanOf 27 = .ok (.getfield 73, 3) := by decide +kernel
theorem dX2_spanOf_30 : decode cX2_spanOf 30 = .ok (.ifCond .ne 7, 3) := by decide +kernel
theorem dX2_spanOf_33 : decode cX2_spanOf 33 = .ok (.aconst_null, 1) := by decide +kernel
theorem dX2_spanOf_34 : decode cX2_spanOf 34 = .ok (.goto 4, 3) := by decide +kernel
theorem dX2_spanOf_37 : decode cX2_spanOf 37 = .ok (.aload_n 2, 1) := by decide +kernel
theorem dX2_spanOf_38 : decode cX2_spanOf 38 = .ok (.areturn, 1) := by decide +kernel
theorem dX2_hasHeardOf_0 : decode cX2_hasHeardOf 0 = .ok (.aload_n 0, 1) := by decide +kernel
theorem dX2_hasHeardOf_1 : decode cX2_hasHeardOf 1 = .ok (.iload_n 1, 1) := by decide +kernel
theorem dX2_hasHeardOf_2 : decode cX2_hasHeardOf 2 = .ok (.invokevirtual 77, 3) := by decide +kernel
theorem dX2_hasHeardOf_5 : decode cX2_hasHeardOf 5 = .ok (.ifnull 7, 3) := by decide +kernel
theorem dX2_hasHeardOf_8 : decode cX2_hasHeardOf 8 = .ok (.iconst 1, 1) := by decide +kernel
theorem dX2_hasHeardOf_9 : decode cX2_hasHeardOf 9 = .ok (.goto 4, 3) := by decide +kernel
theorem dX2_hasHeardOf_12 : decode cX2_hasHeardOf 12 = .ok (.iconst 0, 1) := by decide +kernel
theorem dX2_hasHeardOf_13 : decode cX2_hasHeardOf 13 = .ok (.ireturn, 1) := by decide +kernel
theorem dX2_heardLowAt_0 : decode cX2_heardLowAt 0 = .ok (.aload_n 0, 1) := by decide +kernel
theorem dX2_heardLowAt_1 : decode cX2_heardLowAt 1 = .ok (.iload_n 1, 1) := by decide +kernel
theorem dX2_heardLowAt_2 : decode cX2_heardLowAt 2 = .ok (.invokevirtual 77, 3) := by decide +kernel
theorem dX2_heardLowAt_5 : decode cX2_heardLowAt 5 = .ok (.astore 4, 2) := by decide +kernel
theorem dX2_heardLowAt_7 : decode cX2_heardLowAt 7 = .ok (.aload 4, 2) := by decide +kernel
theorem dX2_heardLowAt_9 : decode cX2_heardLowAt 9 = .ok (.ifnonnull 9, 3) := by decide +kernel
theorem dX2_heardLowAt_12 : decode cX2_heardLowAt 12 = .ok (.ldc2_w 81, 3) := by decide +kernel
theorem dX2_heardLowAt_15 : decode cX2_heardLowAt 15 = .ok (.goto 17, 3) := by decide +kernel
theorem dX2_heardLowAt_18 : decode cX2_heardLowAt 18 = .ok (.aload 4, 2) := by decide +kernel
theorem dX2_heardLowAt_20 : decode cX2_heardLowAt 20 = .ok (.aload_n 0, 1) := by decide +kernel
theorem dX2_heardLowAt_21 : decode cX2_heardLowAt 21 = .ok (.lload_n 2, 1) := by decide +kernel
theorem dX2_heardLowAt_22 : decode cX2_heardLowAt 22 = .ok (.invokevirtual 56, 3) := by decide +kernel
theorem dX2_heardLowAt_25 : decode cX2_heardLowAt 25 = .ok (.aload_n 0, 1) := by decide +kernel
theorem dX2_heardLowAt_26 : decode cX2_heardLowAt 26 = .ok (.getfield 18, 3) := by decide +kernel
theorem dX2_heardLowAt_29 : decode cX2_heardLowAt 29 = .ok (.invokevirtual 60, 3) := by decide +kernel
theorem dX2_heardLowAt_32 : decode cX2_heardLowAt 32 = .ok (.lreturn, 1) := by decide +kernel
theorem dX2_heardHighAt_0 : decode cX2_heardHighAt 0 = .ok (.aload_n 0, 1) := by decide +kernel
theorem dX2_heardHighAt_1 : decode cX2_heardHighAt 1 = .ok (.iload_n 1, 1) := by decide +kernel
theorem dX2_heardHighAt_2 : decode cX2_heardHighAt 2 = .ok (.invokevirtual 77, 3) := by decide +kernel
theorem dX2_heardHighAt_5 : decode cX2_heardHighAt 5 = .ok (.astore 4, 2) := by decide +kernel
theorem dX2_heardHighAt_7 : decode cX2_heardHighAt 7 = .ok (.aload 4, 2) := by decide +kernel
theorem dX2_heardHighAt_9 : decode cX2_heardHighAt 9 = .ok (.ifnonnull 9, 3) := by decide +kernel
theorem dX2_heardHighAt_12 : decode cX2_heardHighAt 12 = .ok (.ldc2_w 81, 3) := by decide +kernel
theorem dX2_heardHighAt_15 : decode cX2_heardHighAt 15 = .ok (.goto 17, 3) := by decide +kernel
theorem dX2_heardHighAt_18 : decode cX2_heardHighAt 18 = .ok (.aload 4, 2) := by decide +kernel
theorem dX2_heardHighAt_20 : decode cX2_heardHighAt 20 = .ok (.aload_n 0, 1) := by decide +kernel
theorem dX2_heardHighAt_21 : decode cX2_heardHighAt 21 = .ok (.lload_n 2, 1) := by decide +kernel
theorem dX2_heardHighAt_22 : decode cX2_heardHighAt 22 = .ok (.invokevirtual 56, 3) := by decide +kernel
theorem dX2_heardHighAt_25 : decode cX2_heardHighAt 25 = .ok (.aload_n 0, 1) := by decide +kernel
theorem dX2_heardHighAt_26 : decode cX2_heardHighAt 26 = .ok (.getfield 18, 3) := by decide +kernel
theorem dX2_heardHighAt_29 : decode cX2_heardHighAt 29 = .ok (.invokevirtual 64, 3) := by decide +kernel
theorem dX2_heardHighAt_32 : decode cX2_heardHighAt 32 = .ok (.lreturn, 1) := by decide +kernel
theorem dX2_hear_0 : decode cX2_hear 0 = .ok (.iload_n 1, 1) := by decide +kernel
theorem dX2_hear_1 : decode cX2_hear 1 = .ok (.ifCond .lt 12, 3) := by decide +kernel
theorem dX2_hear_4 : decode cX2_hear 4 = .ok (.iload_n 1, 1) := by decide +kernel
theorem dX2_hear_5 : decode cX2_hear 5 = .ok (.aload_n 0, 1) := by decide +kernel
theorem dX2_hear_6 : decode cX2_hear 6 = .ok (.getfield 48, 3) := by decide +kernel
theorem dX2_hear_9 : decode cX2_hear 9 = .ok (.arraylength, 1) := by decide +kernel
theorem dX2_hear_10 : decode cX2_hear 10 = .ok (.if_icmp .lt 4, 3) := by decide +kernel
theorem dX2_hear_13 : decode cX2_hear 13 = .ok (.return_, 1) := by decide +kernel
theorem dX2_hear_14 : decode cX2_hear 14 = .ok (.aload_n 0, 1) := by decide +kernel
theorem dX2_hear_15 : decode cX2_hear 15 = .ok (.getfield 48, 3) := by decide +kernel
theorem dX2_hear_18 : decode cX2_hear 18 = .ok (.iload_n 1, 1) := by decide +kernel
theorem dX2_hear_19 : decode cX2_hear 19 = .ok (.aaload, 1) := by decide +kernel
theorem dX2_hear_20 : decode cX2_hear 20 = .ok (.ifnonnull 16, 3) := by decide +kernel
theorem dX2_hear_23 : decode cX2_hear 23 = .ok (.aload_n 0, 1) := by decide +kernel
theorem dX2_hear_24 : decode cX2_hear 24 = .ok (.getfield 48, 3) := by decide +kernel
theorem dX2_hear_27 : decode cX2_hear 27 = .ok (.iload_n 1, 1) := by decide +kernel
theorem dX2_hear_28 : decode cX2_hear 28 = .ok (.new 34, 3) := by decide +kernel
theorem dX2_hear_31 : decode cX2_hear 31 = .ok (.dup, 1) := by decide +kernel
theorem dX2_hear_32 : decode cX2_hear 32 = .ok (.invokespecial 36, 3) := by decide +kernel
theorem dX2_hear_35 : decode cX2_hear 35 = .ok (.aastore, 1) := by decide +kernel
theorem dX2_hear_36 : decode cX2_hear 36 = .ok (.aload_n 0, 1) := by decide +kernel
theorem dX2_hear_37 : decode cX2_hear 37 = .ok (.getfield 48, 3) := by decide +kernel
theorem dX2_hear_40 : decode cX2_hear 40 = .ok (.iload_n 1, 1) := by decide +kernel
theorem dX2_hear_41 : decode cX2_hear 41 = .ok (.aaload, 1) := by decide +kernel
theorem dX2_hear_42 : decode cX2_hear 42 = .ok (.lload_n 2, 1) := by decide +kernel
theorem dX2_hear_43 : decode cX2_hear 43 = .ok (.lload 4, 2) := by decide +kernel
theorem dX2_hear_45 : decode cX2_hear 45 = .ok (.lload 6, 2) := by decide +kernel
theorem dX2_hear_47 : decode cX2_hear 47 = .ok (.invokevirtual 41, 3) := by decide +kernel
theorem dX2_hear_50 : decode cX2_hear 50 = .ok (.return_, 1) := by decide +kernel
theorem dX2_howManyHeard_0 : decode cX2_howManyHeard 0 = .ok (.iconst 0, 1) := by decide +kernel
theorem dX2_howManyHeard_1 : decode cX2_howManyHeard 1 = .ok (.istore_n 1, 1) := by decide +kernel
theorem dX2_howManyHeard_2 : decode cX2_howManyHeard 2 = .ok (.iconst 0, 1) := by decide +kernel
theorem dX2_howManyHeard_3 : decode cX2_howManyHeard 3 = .ok (.istore_n 2, 1) := by decide +kernel
theorem dX2_howManyHeard_4 : decode cX2_howManyHeard 4 = .ok (.iload_n 2, 1) := by decide +kernel
theorem dX2_howManyHeard_5 : decode cX2_howManyHeard 5 = .ok (.aload_n 0, 1) := by decide +kernel
theorem dX2_howManyHeard_6 : decode cX2_howManyHeard 6 = .ok (.getfield 48, 3) := by decide +kernel
theorem dX2_howManyHeard_9 : decode cX2_howManyHeard 9 = .ok (.arraylength, 1) := by decide +kernel
theorem dX2_howManyHeard_10 : decode cX2_howManyHeard 10 = .ok (.if_icmp .ge 20, 3) := by decide +kernel
theorem dX2_howManyHeard_13 : decode cX2_howManyHeard 13 = .ok (.aload_n 0, 1) := by decide +kernel
theorem dX2_howManyHeard_14 : decode cX2_howManyHeard 14 = .ok (.iload_n 2, 1) := by decide +kernel
theorem dX2_howManyHeard_15 : decode cX2_howManyHeard 15 = .ok (.invokevirtual 83, 3) := by decide +kernel
theorem dX2_howManyHeard_18 : decode cX2_howManyHeard 18 = .ok (.ifCond .eq 6, 3) := by decide +kernel
theorem dX2_howManyHeard_21 : decode cX2_howManyHeard 21 = .ok (.iinc 1 1, 3) := by decide +kernel
theorem dX2_howManyHeard_24 : decode cX2_howManyHeard 24 = .ok (.iinc 2 1, 3) := by decide +kernel
theorem dX2_howManyHeard_27 : decode cX2_howManyHeard 27 = .ok (.goto (-23), 3) := by decide +kernel
theorem dX2_howManyHeard_30 : decode cX2_howManyHeard 30 = .ok (.iload_n 1, 1) := by decide +kernel
theorem dX2_howManyHeard_31 : decode cX2_howManyHeard 31 = .ok (.ireturn, 1) := by decide +kernel
theorem dX2_forgetHeard_0 : decode cX2_forgetHeard 0 = .ok (.iconst 0, 1) := by decide +kernel
theorem dX2_forgetHeard_1 : decode cX2_forgetHeard 1 = .ok (.istore_n 1, 1) := by decide +kernel
theorem dX2_forgetHeard_2 : decode cX2_forgetHeard 2 = .ok (.iload_n 1, 1) := by decide +kernel
theorem dX2_forgetHeard_3 : decode cX2_forgetHeard 3 = .ok (.aload_n 0, 1) := by decide +kernel
theorem dX2_forgetHeard_4 : decode cX2_forgetHeard 4 = .ok (.getfield 48, 3) := by decide +kernel
theorem dX2_forgetHeard_7 : decode cX2_forgetHeard 7 = .ok (.arraylength, 1) := by decide +kernel
theorem dX2_forgetHeard_8 : decode cX2_forgetHeard 8 = .ok (.if_icmp .ge 28, 3) := by decide +kernel
theorem dX2_forgetHeard_11 : decode cX2_forgetHeard 11 = .ok (.aload_n 0, 1) := by decide +kernel
theorem dX2_forgetHeard_12 : decode cX2_forgetHeard 12 = .ok (.getfield 48, 3) := by decide +kernel
theorem dX2_forgetHeard_15 : decode cX2_forgetHeard 15 = .ok (.iload_n 1, 1) := by decide +kernel
theorem dX2_forgetHeard_16 : decode cX2_forgetHeard 16 = .ok (.aaload, 1) := by decide +kernel
theorem dX2_forgetHeard_17 : decode cX2_forgetHeard 17 = .ok (.ifnull 13, 3) := by decide +kernel
theorem dX2_forgetHeard_20 : decode cX2_forgetHeard 20 = .ok (.aload_n 0, 1) := by decide +kernel
theorem dX2_forgetHeard_21 : decode cX2_forgetHeard 21 = .ok (.getfield 48, 3) := by decide +kernel
theorem dX2_forgetHeard_24 : decode cX2_forgetHeard 24 = .ok (.iload_n 1, 1) := by decide +kernel
theorem dX2_forgetHeard_25 : decode cX2_forgetHeard 25 = .ok (.aaload, 1) := by decide +kernel
theorem dX2_forgetHeard_26 : decode cX2_forgetHeard 26 = .ok (.iconst 0, 1) := by decide +kernel
theorem dX2_forgetHeard_27 : decode cX2_forgetHeard 27 = .ok (.putfield 73, 3) := by decide +kernel
theorem dX2_forgetHeard_30 : decode cX2_forgetHeard 30 = .ok (.iinc 1 1, 3) := by decide +kernel
theorem dX2_forgetHeard_33 : decode cX2_forgetHeard 33 = .ok (.goto (-31), 3) := by decide +kernel
theorem dX2_forgetHeard_36 : decode cX2_forgetHeard 36 = .ok (.return_, 1) := by decide +kernel
