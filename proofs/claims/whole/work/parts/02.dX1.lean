theorem dX1_init_0 : decode cX1_init 0 = .ok (.aload_n 0, 1) := by decide +kernel
theorem dX1_init_1 : decode cX1_init 1 = .ok (.invokespecial 3, 3) := by decide +kernel
theorem dX1_init_4 : decode cX1_init 4 = .ok (.aload_n 0, 1) := by decide +kernel
theorem dX1_init_5 : decode cX1_init 5 = .ok (.aload_n 1, 1) := by decide +kernel
theorem dX1_init_6 : decode cX1_init 6 = .ok (.putfield 9, 3) := by decide +kernel
theorem dX1_init_9 : decode cX1_init 9 = .ok (.aload_n 0, 1) := by decide +kernel
theorem dX1_init_10 : decode cX1_init 10 = .ok (.aload_n 2, 1) := by decide +kernel
theorem dX1_init_11 : decode cX1_init 11 = .ok (.putfield 15, 3) := by decide +kernel
theorem dX1_init_14 : decode cX1_init 14 = .ok (.aload_n 0, 1) := by decide +kernel
theorem dX1_init_15 : decode cX1_init 15 = .ok (.lload_n 3, 1) := by decide +kernel
theorem dX1_init_16 : decode cX1_init 16 = .ok (.putfield 18, 3) := by decide +kernel
theorem dX1_init_19 : decode cX1_init 19 = .ok (.aload_n 0, 1) := by decide +kernel
theorem dX1_init_20 : decode cX1_init 20 = .ok (.iconst 0, 1) := by decide +kernel
theorem dX1_init_21 : decode cX1_init 21 = .ok (.putfield 22, 3) := by decide +kernel
theorem dX1_init_24 : decode cX1_init 24 = .ok (.return_, 1) := by decide +kernel
theorem dX1_isUnderWay_0 : decode cX1_isUnderWay 0 = .ok (.aload_n 0, 1) := by decide +kernel
theorem dX1_isUnderWay_1 : decode cX1_isUnderWay 1 = .ok (.getfield 22, 3) := by decide +kernel
theorem dX1_isUnderWay_4 : decode cX1_isUnderWay 4 = .ok (.ifCond .eq 11, 3) := by decide +kernel
theorem dX1_isUnderWay_7 : decode cX1_isUnderWay 7 = .ok (.aload_n 0, 1) := by decide +kernel
theorem dX1_isUnderWay_8 : decode cX1_isUnderWay 8 = .ok (.getfield 22, 3) := by decide +kernel
theorem dX1_isUnderWay_11 : decode cX1_isUnderWay 11 = .ok (.iconst 1, 1) := by decide +kernel
theorem dX1_isUnderWay_12 : decode cX1_isUnderWay 12 = .ok (.if_icmp .ne 7, 3) := by decide +kernel
theorem dX1_isUnderWay_15 : decode cX1_isUnderWay 15 = .ok (.iconst 1, 1) := by decide +kernel
theorem dX1_isUnderWay_16 : decode cX1_isUnderWay 16 = .ok (.goto 4, 3) := by decide +kernel
theorem dX1_isUnderWay_19 : decode cX1_isUnderWay 19 = .ok (.iconst 0, 1) := by decide +kernel
theorem dX1_isUnderWay_20 : decode cX1_isUnderWay 20 = .ok (.ireturn, 1) := by decide +kernel
theorem dX1_takeAnswer_0 : decode cX1_takeAnswer 0 = .ok (.aload_n 0, 1) := by decide +kernel
theorem dX1_takeAnswer_1 : decode cX1_takeAnswer 1 = .ok (.getfield 15, 3) := by decide +kernel
theorem dX1_takeAnswer_4 : decode cX1_takeAnswer 4 = .ok (.getfield 26, 3) := by decide +kernel
theorem dX1_takeAnswer_7 : decode cX1_takeAnswer 7 = .ok (.iconst 4, 1) := by decide +kernel
theorem dX1_takeAnswer_8 : decode cX1_takeAnswer 8 = .ok (.if_icmp .ne 7, 3) := by decide +kernel
theorem dX1_takeAnswer_11 : decode cX1_takeAnswer 11 = .ok (.iconst 1, 1) := by decide +kernel
theorem dX1_takeAnswer_12 : decode cX1_takeAnswer 12 = .ok (.goto 4, 3) := by decide +kernel
theorem dX1_takeAnswer_15 : decode cX1_takeAnswer 15 = .ok (.iconst 0, 1) := by decide +kernel
theorem dX1_takeAnswer_16 : decode cX1_takeAnswer 16 = .ok (.istore_n 3, 1) := by decide +kernel
theorem dX1_takeAnswer_17 : decode cX1_takeAnswer 17 = .ok (.aload_n 0, 1) := by decide +kernel
theorem dX1_takeAnswer_18 : decode cX1_takeAnswer 18 = .ok (.iload_n 3, 1) := by decide +kernel
theorem dX1_takeAnswer_19 : decode cX1_takeAnswer 19 = .ok (.ifCond .eq 13, 3) := by decide +kernel
theorem dX1_takeAnswer_22 : decode cX1_takeAnswer 22 = .ok (.aload_n 0, 1) := by decide +kernel
theorem dX1_takeAnswer_23 : decode cX1_takeAnswer 23 = .ok (.getfield 15, 3) := by decide +kernel
theorem dX1_takeAnswer_26 : decode cX1_takeAnswer 26 = .ok (.getfield 31, 3) := by decide +kernel
theorem dX1_takeAnswer_29 : decode cX1_takeAnswer 29 = .ok (.goto 11, 3) := by decide +kernel
theorem dX1_takeAnswer_32 : decode cX1_takeAnswer 32 = .ok (.aload_n 0, 1) := by decide +kernel
theorem dX1_takeAnswer_33 : decode cX1_takeAnswer 33 = .ok (.getfield 15, 3) := by decide +kernel
theorem dX1_takeAnswer_36 : decode cX1_takeAnswer 36 = .ok (.lload_n 1, 1) := by decide +kernel
theorem dX1_takeAnswer_37 : decode cX1_takeAnswer 37 = .ok (.invokevirtual 34, 3) := by decide +kernel
theorem dX1_takeAnswer_40 : decode cX1_takeAnswer 40 = .ok (.putfield 38, 3) := by decide +kernel
theorem dX1_takeAnswer_43 : decode cX1_takeAnswer 43 = .ok (.aload_n 0, 1) := by decide +kernel
theorem dX1_takeAnswer_44 : decode cX1_takeAnswer 44 = .ok (.iload_n 3, 1) := by decide +kernel
theorem dX1_takeAnswer_45 : decode cX1_takeAnswer 45 = .ok (.ifCond .eq 13, 3) := by decide +kernel
theorem dX1_takeAnswer_48 : decode cX1_takeAnswer 48 = .ok (.aload_n 0, 1) := by decide +kernel
theorem dX1_takeAnswer_49 : decode cX1_takeAnswer 49 = .ok (.getfield 15, 3) := by decide +kernel
theorem dX1_takeAnswer_52 : decode cX1_takeAnswer 52 = .ok (.getfield 41, 3) := by decide +kernel
theorem dX1_takeAnswer_55 : decode cX1_takeAnswer 55 = .ok (.goto 11, 3) := by decide +kernel
theorem dX1_takeAnswer_58 : decode cX1_takeAnswer 58 = .ok (.aload_n 0, 1) := by decide +kernel
theorem dX1_takeAnswer_59 : decode cX1_takeAnswer 59 = .ok (.getfield 15, 3) := by decide +kernel
theorem dX1_takeAnswer_62 : decode cX1_takeAnswer 62 = .ok (.lload_n 1, 1) := by decide +kernel
theorem dX1_takeAnswer_63 : decode cX1_takeAnswer 63 = .ok (.invokevirtual 44, 3) := by decide +kernel
theorem dX1_takeAnswer_66 : decode cX1_takeAnswer 66 = .ok (.putfield 47, 3) := by decide +kernel
theorem dX1_takeAnswer_69 : decode cX1_takeAnswer 69 = .ok (.aload_n 0, 1) := by decide +kernel
theorem dX1_takeAnswer_70 : decode cX1_takeAnswer 70 = .ok (.iconst 1, 1) := by decide +kernel
theorem dX1_takeAnswer_71 : decode cX1_takeAnswer 71 = .ok (.putfield 50, 3) := by decide +kernel
theorem dX1_takeAnswer_74 : decode cX1_takeAnswer 74 = .ok (.aload_n 0, 1) := by decide +kernel
theorem dX1_takeAnswer_75 : decode cX1_takeAnswer 75 = .ok (.iconst 1, 1) := by decide +kernel
theorem dX1_takeAnswer_76 : decode cX1_takeAnswer 76 = .ok (.putfield 22, 3) := by decide +kernel
theorem dX1_takeAnswer_79 : decode cX1_takeAnswer 79 = .ok (.return_, 1) := by decide +kernel
theorem dX1_bringBack_0 : decode cX1_bringBack 0 = .ok (.aload_n 0, 1) := by decide +kernel
theorem dX1_bringBack_1 : decode cX1_bringBack 1 = .ok (.getfield 9, 3) := by decide +kernel
theorem dX1_bringBack_4 : decode cX1_bringBack 4 = .ok (.lload_n 1, 1) := by decide +kernel
theorem dX1_bringBack_5 : decode cX1_bringBack 5 = .ok (.invokevirtual 54, 3) := by decide +kernel
theorem dX1_bringBack_8 : decode cX1_bringBack 8 = .ok (.lstore_n 3, 1) := by decide +kernel
theorem dX1_bringBack_9 : decode cX1_bringBack 9 = .ok (.aload_n 0, 1) := by decide +kernel
theorem dX1_bringBack_10 : decode cX1_bringBack 10 = .ok (.getfield 9, 3) := by decide +kernel
theorem dX1_bringBack_13 : decode cX1_bringBack 13 = .ok (.aload_n 0, 1) := by decide +kernel
theorem dX1_bringBack_14 : decode cX1_bringBack 14 = .ok (.getfield 15, 3) := by decide +kernel
theorem dX1_bringBack_17 : decode cX1_bringBack 17 = .ok (.getfield 57, 3) := by decide +kernel
theorem dX1_bringBack_20 : decode cX1_bringBack 20 = .ok (.aload_n 0, 1) := by decide +kernel
theorem dX1_bringBack_21 : decode cX1_bringBack 21 = .ok (.getfield 38, 3) := by decide +kernel
theorem dX1_bringBack_24 : decode cX1_bringBack 24 = .ok (.aload_n 0, 1) := by decide +kernel
theorem dX1_bringBack_25 : decode cX1_bringBack 25 = .ok (.getfield 47, 3) := by decide +kernel
theorem dX1_bringBack_28 : decode cX1_bringBack 28 = .ok (.lload_n 3, 1) := by decide +kernel
theorem dX1_bringBack_29 : decode cX1_bringBack 29 = .ok (.aload_n 0, 1) := by decide +kernel
theorem dX1_bringBack_30 : decode cX1_bringBack 30 = .ok (.getfield 18, 3) := by decide +kernel
theorem dX1_bringBack_33 : decode cX1_bringBack 33 = .ok (.lsub, 1) := by decide +kernel
theorem dX1_bringBack_34 : decode cX1_bringBack 34 = .ok (.aload_n 0, 1) := by decide +kernel
theorem dX1_bringBack_35 : decode cX1_bringBack 35 = .ok (.getfield 9, 3) := by decide +kernel
theorem dX1_bringBack_38 : decode cX1_bringBack 38 = .ok (.getfield 60, 3) := by decide +kernel
theorem dX1_bringBack_41 : decode cX1_bringBack 41 = .ok (.invokestatic 63, 3) := by decide +kernel
theorem dX1_bringBack_44 : decode cX1_bringBack 44 = .ok (.ladd, 1) := by decide +kernel
theorem dX1_bringBack_45 : decode cX1_bringBack 45 = .ok (.lload_n 3, 1) := by decide +kernel
theorem dX1_bringBack_46 : decode cX1_bringBack 46 = .ok (.invokevirtual 67, 3) := by decide +kernel
theorem dX1_bringBack_49 : decode cX1_bringBack 49 = .ok (.aload_n 0, 1) := by decide +kernel
theorem dX1_bringBack_50 : decode cX1_bringBack 50 = .ok (.iconst 2, 1) := by decide +kernel
theorem dX1_bringBack_51 : decode cX1_bringBack 51 = .ok (.putfield 22, 3) := by decide +kernel
theorem dX1_bringBack_54 : decode cX1_bringBack 54 = .ok (.return_, 1) := by decide +kernel
