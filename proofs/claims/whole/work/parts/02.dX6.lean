theorem dX6_init_0 : decode cX6_init 0 = .ok (.aload_n 0, 1) := by decide +kernel
theorem dX6_init_1 : decode cX6_init 1 = .ok (.invokespecial 1, 3) := by decide +kernel
theorem dX6_init_4 : decode cX6_init 4 = .ok (.aload_n 0, 1) := by decide +kernel
theorem dX6_init_5 : decode cX6_init 5 = .ok (.lconst 0, 1) := by decide +kernel
theorem dX6_init_6 : decode cX6_init 6 = .ok (.putfield 7, 3) := by decide +kernel
theorem dX6_init_9 : decode cX6_init 9 = .ok (.aload_n 0, 1) := by decide +kernel
theorem dX6_init_10 : decode cX6_init 10 = .ok (.bipush 10, 2) := by decide +kernel
theorem dX6_init_12 : decode cX6_init 12 = .ok (.anewarray 13, 3) := by decide +kernel
theorem dX6_init_15 : decode cX6_init 15 = .ok (.putfield 15, 3) := by decide +kernel
theorem dX6_init_18 : decode cX6_init 18 = .ok (.aload_n 0, 1) := by decide +kernel
theorem dX6_init_19 : decode cX6_init 19 = .ok (.iconst 0, 1) := by decide +kernel
theorem dX6_init_20 : decode cX6_init 20 = .ok (.putfield 19, 3) := by decide +kernel
theorem dX6_init_23 : decode cX6_init 23 = .ok (.aload_n 0, 1) := by decide +kernel
theorem dX6_init_24 : decode cX6_init 24 = .ok (.sipush 200, 3) := by decide +kernel
theorem dX6_init_27 : decode cX6_init 27 = .ok (.anewarray 23, 3) := by decide +kernel
theorem dX6_init_30 : decode cX6_init 30 = .ok (.putfield 25, 3) := by decide +kernel
theorem dX6_init_33 : decode cX6_init 33 = .ok (.aload_n 0, 1) := by decide +kernel
theorem dX6_init_34 : decode cX6_init 34 = .ok (.iconst 0, 1) := by decide +kernel
theorem dX6_init_35 : decode cX6_init 35 = .ok (.putfield 29, 3) := by decide +kernel
theorem dX6_init_38 : decode cX6_init 38 = .ok (.aload_n 0, 1) := by decide +kernel
theorem dX6_init_39 : decode cX6_init 39 = .ok (.bipush 100, 2) := by decide +kernel
theorem dX6_init_41 : decode cX6_init 41 = .ok (.anewarray 32, 3) := by decide +kernel
theorem dX6_init_44 : decode cX6_init 44 = .ok (.putfield 34, 3) := by decide +kernel
theorem dX6_init_47 : decode cX6_init 47 = .ok (.aload_n 0, 1) := by decide +kernel
theorem dX6_init_48 : decode cX6_init 48 = .ok (.iconst 0, 1) := by decide +kernel
theorem dX6_init_49 : decode cX6_init 49 = .ok (.putfield 38, 3) := by decide +kernel
theorem dX6_init_52 : decode cX6_init 52 = .ok (.aload_n 0, 1) := by decide +kernel
theorem dX6_init_53 : decode cX6_init 53 = .ok (.new 41, 3) := by decide +kernel
theorem dX6_init_56 : decode cX6_init 56 = .ok (.dup, 1) := by decide +kernel
theorem dX6_init_57 : decode cX6_init 57 = .ok (.invokespecial 43, 3) := by decide +kernel
theorem dX6_init_60 : decode cX6_init 60 = .ok (.putfield 44, 3) := by decide +kernel
theorem dX6_init_63 : decode cX6_init 63 = .ok (.aload_n 0, 1) := by decide +kernel
theorem dX6_init_64 : decode cX6_init 64 = .ok (.new 48, 3) := by decide +kernel
theorem dX6_init_67 : decode cX6_init 67 = .ok (.dup, 1) := by decide +kernel
theorem dX6_init_68 : decode cX6_init 68 = .ok (.invokespecial 50, 3) := by decide +kernel
theorem dX6_init_71 : decode cX6_init 71 = .ok (.putfield 51, 3) := by decide +kernel
theorem dX6_init_74 : decode cX6_init 74 = .ok (.return_, 1) := by decide +kernel
theorem dX6_go_0 : decode cX6_go 0 = .ok (.iload_n 1, 1) := by decide +kernel
theorem dX6_go_1 : decode cX6_go 1 = .ok (.iconst 1, 1) := by decide +kernel
theorem dX6_go_2 : decode cX6_go 2 = .ok (.if_icmp .lt 23, 3) := by decide +kernel
theorem dX6_go_5 : decode cX6_go 5 = .ok (.iload_n 1, 1) := by decide +kernel
theorem dX6_go_6 : decode cX6_go 6 = .ok (.ldc 55, 2) := by decide +kernel
theorem dX6_go_8 : decode cX6_go 8 = .ok (.if_icmp .gt 17, 3) := by decide +kernel
theorem dX6_go_11 : decode cX6_go 11 = .ok (.aload_n 0, 1) := by decide +kernel
theorem dX6_go_12 : decode cX6_go 12 = .ok (.getfield 7, 3) := by decide +kernel
theorem dX6_go_15 : decode cX6_go 15 = .ok (.iload_n 1, 1) := by decide +kernel
theorem dX6_go_16 : decode cX6_go 16 = .ok (.i2l, 1) := by decide +kernel
theorem dX6_go_17 : decode cX6_go 17 = .ok (.ladd, 1) := by decide +kernel
theorem dX6_go_18 : decode cX6_go 18 = .ok (.ldc2_w 56, 3) := by decide +kernel
theorem dX6_go_21 : decode cX6_go 21 = .ok (.lcmp, 1) := by decide +kernel
theorem dX6_go_22 : decode cX6_go 22 = .ok (.ifCond .le 7, 3) := by decide +kernel
theorem dX6_go_25 : decode cX6_go 25 = .ok (.ldc2_w 58, 3) := by decide +kernel
theorem dX6_go_28 : decode cX6_go 28 = .ok (.lreturn, 1) := by decide +kernel
theorem dX6_go_29 : decode cX6_go 29 = .ok (.aload_n 0, 1) := by decide +kernel
theorem dX6_go_30 : decode cX6_go 30 = .ok (.dup, 1) := by decide +kernel
theorem dX6_go_31 : decode cX6_go 31 = .ok (.getfield 7, 3) := by decide +kernel
theorem dX6_go_34 : decode cX6_go 34 = .ok (.iload_n 1, 1) := by decide +kernel
theorem dX6_go_35 : decode cX6_go 35 = .ok (.i2l, 1) := by decide +kernel
theorem dX6_go_36 : decode cX6_go 36 = .ok (.ladd, 1) := by decide +kernel
theorem dX6_go_37 : decode cX6_go 37 = .ok (.putfield 7, 3) := by decide +kernel
theorem dX6_go_40 : decode cX6_go 40 = .ok (.aload_n 0, 1) := by decide +kernel
theorem dX6_go_41 : decode cX6_go 41 = .ok (.getfield 7, 3) := by decide +kernel
theorem dX6_go_44 : decode cX6_go 44 = .ok (.lreturn, 1) := by decide +kernel
theorem dX6_member_0 : decode cX6_member 0 = .ok (.iload_n 1, 1) := by decide +kernel
theorem dX6_member_1 : decode cX6_member 1 = .ok (.ifCond .lt 29, 3) := by decide +kernel
theorem dX6_member_4 : decode cX6_member 4 = .ok (.iload_n 1, 1) := by decide +kernel
theorem dX6_member_5 : decode cX6_member 5 = .ok (.iconst 4, 1) := by decide +kernel
theorem dX6_member_6 : decode cX6_member 6 = .ok (.if_icmp .gt 24, 3) := by decide +kernel
theorem dX6_member_9 : decode cX6_member 9 = .ok (.iload_n 2, 1) := by decide +kernel
theorem dX6_member_10 : decode cX6_member 10 = .ok (.ifCond .lt 20, 3) := by decide +kernel
theorem dX6_member_13 : decode cX6_member 13 = .ok (.iload_n 2, 1) := by decide +kernel
theorem dX6_member_14 : decode cX6_member 14 = .ok (.sipush 200, 3) := by decide +kernel
theorem dX6_member_17 : decode cX6_member 17 = .ok (.if_icmp .gt 13, 3) := by decide +kernel
theorem dX6_member_20 : decode cX6_member 20 = .ok (.iload_n 3, 1) := by decide +kernel
theorem dX6_member_21 : decode cX6_member 21 = .ok (.ifCond .lt 9, 3) := by decide +kernel
theorem dX6_member_24 : decode cX6_member 24 = .ok (.iload_n 3, 1) := by decide +kernel
theorem dX6_member_25 : decode cX6_member 25 = .ok (.ldc 60, 2) := by decide +kernel
theorem dX6_member_27 : decode cX6_member 27 = .ok (.if_icmp .le 7, 3) := by decide +kernel
theorem dX6_member_30 : decode cX6_member 30 = .ok (.ldc2_w 58, 3) := by decide +kernel
theorem dX6_member_33 : decode cX6_member 33 = .ok (.lreturn, 1) := by decide +kernel
theorem dX6_member_34 : decode cX6_member 34 = .ok (.aload_n 0, 1) := by decide +kernel
theorem dX6_member_35 : decode cX6_member 35 = .ok (.getfield 19, 3) := by decide +kernel
theorem dX6_member_38 : decode cX6_member 38 = .ok (.bipush 10, 2) := by decide +kernel
theorem dX6_member_40 : decode cX6_member 40 = .ok (.if_icmp .lt 7, 3) := by decide +kernel
theorem dX6_member_43 : decode cX6_member 43 = .ok (.ldc2_w 58, 3) := by decide +kernel
theorem dX6_member_46 : decode cX6_member 46 = .ok (.lreturn, 1) := by decide +kernel
theorem dX6_member_47 : decode cX6_member 47 = .ok (.aload_n 0, 1) := by decide +kernel
theorem dX6_member_48 : decode cX6_member 48 = .ok (.getfield 15, 3) := by decide +kernel
theorem dX6_member_51 : decode cX6_member 51 = .ok (.aload_n 0, 1) := by decide +kernel
theorem dX6_member_52 : decode cX6_member 52 = .ok (.getfield 19, 3) := by decide +kernel
theorem dX6_member_55 : decode cX6_member 55 = .ok (.new 13, 3) := by decide +kernel
theorem dX6_member_58 : decode cX6_member 58 = .ok (.dup, 1) := by decide +kernel
theorem dX6_member_59 : decode cX6_member 59 = .ok (.aload_n 0, 1) := by decide +kernel
theorem dX6_member_60 : decode cX6_member 60 = .ok (.getfield 19, 3) := by decide +kernel
theorem dX6_member_63 : decode cX6_member 63 = .ok (.iload_n 1, 1) := by decide +kernel
theorem dX6_member_64 : decode cX6_member 64 = .ok (.iload_n 2, 1) := by decide +kernel
theorem dX6_member_65 : decode cX6_member 65 = .ok (.iload_n 3, 1) := by decide +kernel
theorem dX6_member_66 : decode cX6_member 66 = .ok (.aload_n 0, 1) := by decide +kernel
theorem dX6_member_67 : decode cX6_member 67 = .ok (.getfield 7, 3) := by decide +kernel
theorem dX6_member_70 : decode cX6_member 70 = .ok (.invokespecial 61, 3) := by decide +kernel
theorem dX6_member_73 : decode cX6_member 73 = .ok (.aastore, 1) := by decide +kernel
theorem dX6_member_74 : decode cX6_member 74 = .ok (.aload_n 0, 1) := by decide +kernel
theorem dX6_member_75 : decode cX6_member 75 = .ok (.dup, 1) := by decide +kernel
theorem dX6_member_76 : decode cX6_member 76 = .ok (.getfield 19, 3) := by decide +kernel
theorem dX6_member_79 : decode cX6_member 79 = .ok (.iconst 1, 1) := by decide +kernel
theorem dX6_member_80 : decode cX6_member 80 = .ok (.iadd, 1) := by decide +kernel
theorem dX6_member_81 : decode cX6_member 81 = .ok (.putfield 19, 3) := by decide +kernel
theorem dX6_member_84 : decode cX6_member 84 = .ok (.aload_n 0, 1) := by decide +kernel
theorem dX6_member_85 : decode cX6_member 85 = .ok (.getfield 19, 3) := by decide +kernel
theorem dX6_member_88 : decode cX6_member 88 = .ok (.iconst 1, 1) := by decide +kernel
theorem dX6_member_89 : decode cX6_member 89 = .ok (.isub, 1) := by decide +kernel
theorem dX6_member_90 : decode cX6_member 90 = .ok (.i2l, 1) := by decide +kernel
theorem dX6_member_91 : decode cX6_member 91 = .ok (.lreturn, 1) := by decide +kernel
theorem dX6_rate_0 : decode cX6_rate 0 = .ok (.aload_n 0, 1) := by decide +kernel
theorem dX6_rate_1 : decode cX6_rate 1 = .ok (.iload_n 1, 1) := by decide +kernel
theorem dX6_rate_2 : decode cX6_rate 2 = .ok (.invokevirtual 64, 3) := by decide +kernel
theorem dX6_rate_5 : decode cX6_rate 5 = .ok (.astore 4, 2) := by decide +kernel
theorem dX6_rate_7 : decode cX6_rate 7 = .ok (.aload 4, 2) := by decide +kernel
theorem dX6_rate_9 : decode cX6_rate 9 = .ok (.ifnull 25, 3) := by decide +kernel
theorem dX6_rate_12 : decode cX6_rate 12 = .ok (.iload_n 2, 1) := by decide +kernel
theorem dX6_rate_13 : decode cX6_rate 13 = .ok (.iconst 1, 1) := by decide +kernel
theorem dX6_rate_14 : decode cX6_rate 14 = .ok (.if_icmp .lt 20, 3) := by decide +kernel
theorem dX6_rate_17 : decode cX6_rate 17 = .ok (.iload_n 2, 1) := by decide +kernel
theorem dX6_rate_18 : decode cX6_rate 18 = .ok (.ldc 60, 2) := by decide +kernel
theorem dX6_rate_20 : decode cX6_rate 20 = .ok (.if_icmp .gt 14, 3) := by decide +kernel
theorem dX6_rate_23 : decode cX6_rate 23 = .ok (.iload_n 3, 1) := by decide +kernel
theorem dX6_rate_24 : decode cX6_rate 24 = .ok (.iconst 1, 1) := by decide +kernel
theorem dX6_rate_25 : decode cX6_rate 25 = .ok (.if_icmp .lt 9, 3) := by decide +kernel
theorem dX6_rate_28 : decode cX6_rate 28 = .ok (.iload_n 3, 1) := by decide +kernel
theorem dX6_rate_29 : decode cX6_rate 29 = .ok (.ldc 60, 2) := by decide +kernel
theorem dX6_rate_31 : decode cX6_rate 31 = .ok (.if_icmp .le 7, 3) := by decide +kernel
theorem dX6_rate_34 : decode cX6_rate 34 = .ok (.ldc2_w 58, 3) := by decide +kernel
theorem dX6_rate_37 : decode cX6_rate 37 = .ok (.lreturn, 1) := by decide +kernel
theorem dX6_rate_38 : decode cX6_rate 38 = .ok (.aload 4, 2) := by decide +kernel
theorem dX6_rate_40 : decode cX6_rate 40 = .ok (.getfield 68, 3) := by decide +kernel
theorem dX6_rate_43 : decode cX6_rate 43 = .ok (.aload_n 0, 1) := by decide +kernel
theorem dX6_rate_44 : decode cX6_rate 44 = .ok (.getfield 7, 3) := by decide +kernel
theorem dX6_rate_47 : decode cX6_rate 47 = .ok (.lcmp, 1) := by decide +kernel
theorem dX6_rate_48 : decode cX6_rate 48 = .ok (.ifCond .eq 7, 3) := by decide +kernel
theorem dX6_rate_51 : decode cX6_rate 51 = .ok (.ldc2_w 58, 3) := by decide +kernel
theorem dX6_rate_54 : decode cX6_rate 54 = .ok (.lreturn, 1) := by decide +kernel
theorem dX6_rate_55 : decode cX6_rate 55 = .ok (.aload 4, 2) := by decide +kernel
theorem dX6_rate_57 : decode cX6_rate 57 = .ok (.iload_n 2, 1) := by decide +kernel
theorem dX6_rate_58 : decode cX6_rate 58 = .ok (.putfield 71, 3) := by decide +kernel
theorem dX6_rate_61 : decode cX6_rate 61 = .ok (.aload 4, 2) := by decide +kernel
theorem dX6_rate_63 : decode cX6_rate 63 = .ok (.iload_n 3, 1) := by decide +kernel
theorem dX6_rate_64 : decode cX6_rate 64 = .ok (.putfield 74, 3) := by decide +kernel
theorem dX6_rate_67 : decode cX6_rate 67 = .ok (.iload_n 2, 1) := by decide +kernel
theorem dX6_rate_68 : decode cX6_rate 68 = .ok (.i2l, 1) := by decide +kernel
theorem dX6_rate_69 : decode cX6_rate 69 = .ok (.iload_n 3, 1) := by decide +kernel
theorem dX6_rate_70 : decode cX6_rate 70 = .ok (.i2l, 1) := by decide +kernel
theorem dX6_rate_71 : decode cX6_rate 71 = .ok (.lsub, 1) := by decide +kernel
theorem dX6_rate_72 : decode cX6_rate 72 = .ok (.invokestatic 77, 3) := by decide +kernel
theorem dX6_rate_75 : decode cX6_rate 75 = .ok (.lstore 5, 2) := by decide +kernel
theorem dX6_rate_77 : decode cX6_rate 77 = .ok (.lload 5, 2) := by decide +kernel
theorem dX6_rate_79 : decode cX6_rate 79 = .ok (.ldc2_w 83, 3) := by decide +kernel
theorem dX6_rate_82 : decode cX6_rate 82 = .ok (.lmul, 1) := by decide +kernel
theorem dX6_rate_83 : decode cX6_rate 83 = .ok (.aload 4, 2) := by decide +kernel
theorem dX6_rate_85 : decode cX6_rate 85 = .ok (.getfield 85, 3) := by decide +kernel
theorem dX6_rate_88 : decode cX6_rate 88 = .ok (.i2l, 1) := by decide +kernel
theorem dX6_rate_89 : decode cX6_rate 89 = .ok (.iload_n 3, 1) := by decide +kernel
theorem dX6_rate_90 : decode cX6_rate 90 = .ok (.i2l, 1) := by decide +kernel
theorem dX6_rate_91 : decode cX6_rate 91 = .ok (.lmul, 1) := by decide +kernel
theorem dX6_rate_92 : decode cX6_rate 92 = .ok (.lcmp, 1) := by decide +kernel
theorem dX6_rate_93 : decode cX6_rate 93 = .ok (.ifCond .gt 7, 3) := by decide +kernel
theorem dX6_rate_96 : decode cX6_rate 96 = .ok (.iconst 1, 1) := by decide +kernel
theorem dX6_rate_97 : decode cX6_rate 97 = .ok (.goto 4, 3) := by decide +kernel
theorem dX6_rate_100 : decode cX6_rate 100 = .ok (.iconst 0, 1) := by decide +kernel
theorem dX6_rate_101 : decode cX6_rate 101 = .ok (.invokestatic 88, 3) := by decide +kernel
theorem dX6_rate_104 : decode cX6_rate 104 = .ok (.lreturn, 1) := by decide +kernel
theorem dX6_lie_0 : decode cX6_lie 0 = .ok (.aload_n 0, 1) := by decide +kernel
theorem dX6_lie_1 : decode cX6_lie 1 = .ok (.iload_n 1, 1) := by decide +kernel
theorem dX6_lie_2 : decode cX6_lie 2 = .ok (.invokevirtual 64, 3) := by decide +kernel
theorem dX6_lie_5 : decode cX6_lie 5 = .ok (.astore 6, 2) := by decide +kernel
theorem dX6_lie_7 : decode cX6_lie 7 = .ok (.aload 6, 2) := by decide +kernel
theorem dX6_lie_9 : decode cX6_lie 9 = .ok (.ifnull 19, 3) := by decide +kernel
theorem dX6_lie_12 : decode cX6_lie 12 = .ok (.aload 6, 2) := by decide +kernel
theorem dX6_lie_14 : decode cX6_lie 14 = .ok (.getfield 92, 3) := by decide +kernel
theorem dX6_lie_17 : decode cX6_lie 17 = .ok (.iconst 4, 1) := by decide +kernel
theorem dX6_lie_18 : decode cX6_lie 18 = .ok (.if_icmp .ne 10, 3) := by decide +kernel
theorem dX6_lie_21 : decode cX6_lie 21 = .ok (.lload 4, 2) := by decide +kernel
theorem dX6_lie_23 : decode cX6_lie 23 = .ok (.lload_n 2, 1) := by decide +kernel
theorem dX6_lie_24 : decode cX6_lie 24 = .ok (.lcmp, 1) := by decide +kernel
theorem dX6_lie_25 : decode cX6_lie 25 = .ok (.ifCond .ge 7, 3) := by decide +kernel
theorem dX6_lie_28 : decode cX6_lie 28 = .ok (.ldc2_w 58, 3) := by decide +kernel
theorem dX6_lie_31 : decode cX6_lie 31 = .ok (.lreturn, 1) := by decide +kernel
theorem dX6_lie_32 : decode cX6_lie 32 = .ok (.lload_n 2, 1) := by decide +kernel
theorem dX6_lie_33 : decode cX6_lie 33 = .ok (.ldc2_w 95, 3) := by decide +kernel
theorem dX6_lie_36 : decode cX6_lie 36 = .ok (.lcmp, 1) := by decide +kernel
theorem dX6_lie_37 : decode cX6_lie 37 = .ok (.ifCond .lt 12, 3) := by decide +kernel
theorem dX6_lie_40 : decode cX6_lie 40 = .ok (.lload 4, 2) := by decide +kernel
theorem dX6_lie_42 : decode cX6_lie 42 = .ok (.ldc2_w 97, 3) := by decide +kernel
theorem dX6_lie_45 : decode cX6_lie 45 = .ok (.lcmp, 1) := by decide +kernel
theorem dX6_lie_46 : decode cX6_lie 46 = .ok (.ifCond .le 7, 3) := by decide +kernel
theorem dX6_lie_49 : decode cX6_lie 49 = .ok (.ldc2_w 58, 3) := by decide +kernel
theorem dX6_lie_52 : decode cX6_lie 52 = .ok (.lreturn, 1) := by decide +kernel
theorem dX6_lie_53 : decode cX6_lie 53 = .ok (.aload 6, 2) := by decide +kernel
theorem dX6_lie_55 : decode cX6_lie 55 = .ok (.lload_n 2, 1) := by decide +kernel
theorem dX6_lie_56 : decode cX6_lie 56 = .ok (.putfield 99, 3) := by decide +kernel
theorem dX6_lie_59 : decode cX6_lie 59 = .ok (.aload 6, 2) := by decide +kernel
theorem dX6_lie_61 : decode cX6_lie 61 = .ok (.lload 4, 2) := by decide +kernel
theorem dX6_lie_63 : decode cX6_lie 63 = .ok (.putfield 102, 3) := by decide +kernel
theorem dX6_lie_66 : decode cX6_lie 66 = .ok (.lconst 1, 1) := by decide +kernel
theorem dX6_lie_67 : decode cX6_lie 67 = .ok (.lreturn, 1) := by decide +kernel
theorem dX6_rest_0 : decode cX6_rest 0 = .ok (.aload_n 0, 1) := by decide +kernel
theorem dX6_rest_1 : decode cX6_rest 1 = .ok (.iload_n 1, 1) := by decide +kernel
theorem dX6_rest_2 : decode cX6_rest 2 = .ok (.invokevirtual 64, 3) := by decide +kernel
theorem dX6_rest_5 : decode cX6_rest 5 = .ok (.astore_n 3, 1) := by decide +kernel
theorem dX6_rest_6 : decode cX6_rest 6 = .ok (.aload_n 3, 1) := by decide +kernel
theorem dX6_rest_7 : decode cX6_rest 7 = .ok (.ifnull 10, 3) := by decide +kernel
theorem dX6_rest_10 : decode cX6_rest 10 = .ok (.aload_n 3, 1) := by decide +kernel
theorem dX6_rest_11 : decode cX6_rest 11 = .ok (.getfield 92, 3) := by decide +kernel
theorem dX6_rest_14 : decode cX6_rest 14 = .ok (.ifCond .ne 7, 3) := by decide +kernel
theorem dX6_rest_17 : decode cX6_rest 17 = .ok (.ldc2_w 58, 3) := by decide +kernel
theorem dX6_rest_20 : decode cX6_rest 20 = .ok (.lreturn, 1) := by decide +kernel
theorem dX6_rest_21 : decode cX6_rest 21 = .ok (.aload_n 3, 1) := by decide +kernel
theorem dX6_rest_22 : decode cX6_rest 22 = .ok (.getfield 105, 3) := by decide +kernel
theorem dX6_rest_25 : decode cX6_rest 25 = .ok (.istore 4, 2) := by decide +kernel
theorem dX6_rest_27 : decode cX6_rest 27 = .ok (.aload_n 3, 1) := by decide +kernel
theorem dX6_rest_28 : decode cX6_rest 28 = .ok (.iload_n 2, 1) := by decide +kernel
theorem dX6_rest_29 : decode cX6_rest 29 = .ok (.putfield 105, 3) := by decide +kernel
theorem dX6_rest_32 : decode cX6_rest 32 = .ok (.iload 4, 2) := by decide +kernel
theorem dX6_rest_34 : decode cX6_rest 34 = .ok (.invokestatic 88, 3) := by decide +kernel
theorem dX6_rest_37 : decode cX6_rest 37 = .ok (.lreturn, 1) := by decide +kernel
theorem dX6_counter_0 : decode cX6_counter 0 = .ok (.aload_n 0, 1) := by decide +kernel
theorem dX6_counter_1 : decode cX6_counter 1 = .ok (.iload_n 1, 1) := by decide +kernel
theorem dX6_counter_2 : decode cX6_counter 2 = .ok (.invokevirtual 64, 3) := by decide +kernel
theorem dX6_counter_5 : decode cX6_counter 5 = .ok (.astore_n 2, 1) := by decide +kernel
theorem dX6_counter_6 : decode cX6_counter 6 = .ok (.aload_n 2, 1) := by decide +kernel
theorem dX6_counter_7 : decode cX6_counter 7 = .ok (.ifnonnull 9, 3) := by decide +kernel
theorem dX6_counter_10 : decode cX6_counter 10 = .ok (.ldc2_w 58, 3) := by decide +kernel
theorem dX6_counter_13 : decode cX6_counter 13 = .ok (.goto 11, 3) := by decide +kernel
theorem dX6_counter_16 : decode cX6_counter 16 = .ok (.aload_n 2, 1) := by decide +kernel
theorem dX6_counter_17 : decode cX6_counter 17 = .ok (.aload_n 0, 1) := by decide +kernel
theorem dX6_counter_18 : decode cX6_counter 18 = .ok (.getfield 7, 3) := by decide +kernel
theorem dX6_counter_21 : decode cX6_counter 21 = .ok (.invokevirtual 109, 3) := by decide +kernel
theorem dX6_counter_24 : decode cX6_counter 24 = .ok (.lreturn, 1) := by decide +kernel
theorem dX6_of_0 : decode cX6_of 0 = .ok (.aload_n 0, 1) := by decide +kernel
theorem dX6_of_1 : decode cX6_of 1 = .ok (.iload_n 1, 1) := by decide +kernel
theorem dX6_of_2 : decode cX6_of 2 = .ok (.invokevirtual 64, 3) := by decide +kernel
theorem dX6_of_5 : decode cX6_of 5 = .ok (.astore_n 3, 1) := by decide +kernel
theorem dX6_of_6 : decode cX6_of 6 = .ok (.aload_n 3, 1) := by decide +kernel
theorem dX6_of_7 : decode cX6_of 7 = .ok (.ifnonnull 7, 3) := by decide +kernel
theorem dX6_of_10 : decode cX6_of 10 = .ok (.ldc2_w 58, 3) := by decide +kernel
theorem dX6_of_13 : decode cX6_of 13 = .ok (.lreturn, 1) := by decide +kernel
theorem dX6_of_14 : decode cX6_of 14 = .ok (.iload_n 2, 1) := by decide +kernel
theorem dX6_of_15 : decode cX6_of 15 = .ok (.tableswitch 116 0 8 #[49, 58, 67, 73, 81, 86, 98, 104, 110], 49) := by decide +kernel
theorem dX6_of_64 : decode cX6_of 64 = .ok (.aload_n 3, 1) := by decide +kernel
theorem dX6_of_65 : decode cX6_of 65 = .ok (.aload_n 0, 1) := by decide +kernel
theorem dX6_of_66 : decode cX6_of 66 = .ok (.getfield 7, 3) := by decide +kernel
theorem dX6_of_69 : decode cX6_of 69 = .ok (.invokevirtual 112, 3) := by decide +kernel
theorem dX6_of_72 : decode cX6_of 72 = .ok (.lreturn, 1) := by decide +kernel
theorem dX6_of_73 : decode cX6_of 73 = .ok (.aload_n 3, 1) := by decide +kernel
theorem dX6_of_74 : decode cX6_of 74 = .ok (.aload_n 0, 1) := by decide +kernel
theorem dX6_of_75 : decode cX6_of 75 = .ok (.getfield 7, 3) := by decide +kernel
theorem dX6_of_78 : decode cX6_of 78 = .ok (.invokevirtual 115, 3) := by decide +kernel
theorem dX6_of_81 : decode cX6_of 81 = .ok (.lreturn, 1) := by decide +kernel
theorem dX6_of_82 : decode cX6_of 82 = .ok (.aload_n 3, 1) := by decide +kernel
theorem dX6_of_83 : decode cX6_of 83 = .ok (.getfield 92, 3) := by decide +kernel
theorem dX6_of_86 : decode cX6_of 86 = .ok (.i2l, 1) := by decide +kernel
theorem dX6_of_87 : decode cX6_of 87 = .ok (.lreturn, 1) := by decide +kernel
theorem dX6_of_88 : decode cX6_of 88 = .ok (.aload_n 3, 1) := by decide +kernel
theorem dX6_of_89 : decode cX6_of 89 = .ok (.getfield 105, 3) := by decide +kernel
theorem dX6_of_92 : decode cX6_of 92 = .ok (.invokestatic 88, 3) := by decide +kernel
theorem dX6_of_95 : decode cX6_of 95 = .ok (.lreturn, 1) := by decide +kernel
theorem dX6_of_96 : decode cX6_of 96 = .ok (.aload_n 3, 1) := by decide +kernel
theorem dX6_of_97 : decode cX6_of 97 = .ok (.getfield 118, 3) := by decide +kernel
theorem dX6_of_100 : decode cX6_of 100 = .ok (.lreturn, 1) := by decide +kernel
theorem dX6_of_101 : decode cX6_of 101 = .ok (.aload_n 3, 1) := by decide +kernel
theorem dX6_of_102 : decode cX6_of 102 = .ok (.aload_n 0, 1) := by decide +kernel
theorem dX6_of_103 : decode cX6_of 103 = .ok (.getfield 7, 3) := by decide +kernel
theorem dX6_of_106 : decode cX6_of 106 = .ok (.invokevirtual 121, 3) := by decide +kernel
theorem dX6_of_109 : decode cX6_of 109 = .ok (.invokestatic 88, 3) := by decide +kernel
theorem dX6_of_112 : decode cX6_of 112 = .ok (.lreturn, 1) := by decide +kernel
theorem dX6_of_113 : decode cX6_of 113 = .ok (.aload_n 3, 1) := by decide +kernel
theorem dX6_of_114 : decode cX6_of 114 = .ok (.getfield 125, 3) := by decide +kernel
theorem dX6_of_117 : decode cX6_of 117 = .ok (.i2l, 1) := by decide +kernel
theorem dX6_of_118 : decode cX6_of 118 = .ok (.lreturn, 1) := by decide +kernel
theorem dX6_of_119 : decode cX6_of 119 = .ok (.aload_n 3, 1) := by decide +kernel
theorem dX6_of_120 : decode cX6_of 120 = .ok (.getfield 128, 3) := by decide +kernel
theorem dX6_of_123 : decode cX6_of 123 = .ok (.i2l, 1) := by decide +kernel
theorem dX6_of_124 : decode cX6_of 124 = .ok (.lreturn, 1) := by decide +kernel
theorem dX6_of_125 : decode cX6_of 125 = .ok (.aload_n 3, 1) := by decide +kernel
theorem dX6_of_126 : decode cX6_of 126 = .ok (.invokevirtual 131, 3) := by decide +kernel
theorem dX6_of_129 : decode cX6_of 129 = .ok (.i2l, 1) := by decide +kernel
theorem dX6_of_130 : decode cX6_of 130 = .ok (.lreturn, 1) := by decide +kernel
theorem dX6_of_131 : decode cX6_of 131 = .ok (.ldc2_w 58, 3) := by decide +kernel
theorem dX6_of_134 : decode cX6_of 134 = .ok (.lreturn, 1) := by decide +kernel
theorem dX6_ask_0 : decode cX6_ask 0 = .ok (.aload_n 0, 1) := by decide +kernel
theorem dX6_ask_1 : decode cX6_ask 1 = .ok (.iload_n 1, 1) := by decide +kernel
theorem dX6_ask_2 : decode cX6_ask 2 = .ok (.invokevirtual 64, 3) := by decide +kernel
theorem dX6_ask_5 : decode cX6_ask 5 = .ok (.astore_n 3, 1) := by decide +kernel
theorem dX6_ask_6 : decode cX6_ask 6 = .ok (.aload_n 0, 1) := by decide +kernel
theorem dX6_ask_7 : decode cX6_ask 7 = .ok (.iload_n 2, 1) := by decide +kernel
theorem dX6_ask_8 : decode cX6_ask 8 = .ok (.invokevirtual 64, 3) := by decide +kernel
theorem dX6_ask_11 : decode cX6_ask 11 = .ok (.astore 4, 2) := by decide +kernel
theorem dX6_ask_13 : decode cX6_ask 13 = .ok (.aload_n 3, 1) := by decide +kernel
theorem dX6_ask_14 : decode cX6_ask 14 = .ok (.ifnull 13, 3) := by decide +kernel
theorem dX6_ask_17 : decode cX6_ask 17 = .ok (.aload 4, 2) := by decide +kernel
theorem dX6_ask_19 : decode cX6_ask 19 = .ok (.ifnull 8, 3) := by decide +kernel
theorem dX6_ask_22 : decode cX6_ask 22 = .ok (.iload_n 1, 1) := by decide +kernel
theorem dX6_ask_23 : decode cX6_ask 23 = .ok (.iload_n 2, 1) := by decide +kernel
theorem dX6_ask_24 : decode cX6_ask 24 = .ok (.if_icmp .ne 7, 3) := by decide +kernel
theorem dX6_ask_27 : decode cX6_ask 27 = .ok (.ldc2_w 58, 3) := by decide +kernel
theorem dX6_ask_30 : decode cX6_ask 30 = .ok (.lreturn, 1) := by decide +kernel
theorem dX6_ask_31 : decode cX6_ask 31 = .ok (.aload_n 3, 1) := by decide +kernel
theorem dX6_ask_32 : decode cX6_ask 32 = .ok (.getfield 92, 3) := by decide +kernel
theorem dX6_ask_35 : decode cX6_ask 35 = .ok (.ifCond .eq 20, 3) := by decide +kernel
theorem dX6_ask_38 : decode cX6_ask 38 = .ok (.aload_n 3, 1) := by decide +kernel
theorem dX6_ask_39 : decode cX6_ask 39 = .ok (.getfield 105, 3) := by decide +kernel
theorem dX6_ask_42 : decode cX6_ask 42 = .ok (.ifCond .ne 13, 3) := by decide +kernel
theorem dX6_ask_45 : decode cX6_ask 45 = .ok (.aload_n 0, 1) := by decide +kernel
theorem dX6_ask_46 : decode cX6_ask 46 = .ok (.getfield 29, 3) := by decide +kernel
theorem dX6_ask_49 : decode cX6_ask 49 = .ok (.sipush 200, 3) := by decide +kernel
theorem dX6_ask_52 : decode cX6_ask 52 = .ok (.if_icmp .lt 7, 3) := by decide +kernel
theorem dX6_ask_55 : decode cX6_ask 55 = .ok (.ldc2_w 58, 3) := by decide +kernel
theorem dX6_ask_58 : decode cX6_ask 58 = .ok (.lreturn, 1) := by decide +kernel
theorem dX6_ask_59 : decode cX6_ask 59 = .ok (.aload_n 0, 1) := by decide +kernel
theorem dX6_ask_60 : decode cX6_ask 60 = .ok (.new 23, 3) := by decide +kernel
theorem dX6_ask_63 : decode cX6_ask 63 = .ok (.dup, 1) := by decide +kernel
theorem dX6_ask_64 : decode cX6_ask 64 = .ok (.aload_n 3, 1) := by decide +kernel
theorem dX6_ask_65 : decode cX6_ask 65 = .ok (.aload 4, 2) := by decide +kernel
theorem dX6_ask_67 : decode cX6_ask 67 = .ok (.aload_n 3, 1) := by decide +kernel
theorem dX6_ask_68 : decode cX6_ask 68 = .ok (.aload_n 0, 1) := by decide +kernel
theorem dX6_ask_69 : decode cX6_ask 69 = .ok (.getfield 7, 3) := by decide +kernel
theorem dX6_ask_72 : decode cX6_ask 72 = .ok (.invokevirtual 109, 3) := by decide +kernel
theorem dX6_ask_75 : decode cX6_ask 75 = .ok (.invokespecial 135, 3) := by decide +kernel
theorem dX6_ask_78 : decode cX6_ask 78 = .ok (.invokevirtual 138, 3) := by decide +kernel
theorem dX6_ask_81 : decode cX6_ask 81 = .ok (.lreturn, 1) := by decide +kernel
theorem dX6_deliver_0 : decode cX6_deliver 0 = .ok (.aload_n 0, 1) := by decide +kernel
theorem dX6_deliver_1 : decode cX6_deliver 1 = .ok (.iload_n 1, 1) := by decide +kernel
theorem dX6_deliver_2 : decode cX6_deliver 2 = .ok (.invokevirtual 142, 3) := by decide +kernel
theorem dX6_deliver_5 : decode cX6_deliver 5 = .ok (.astore_n 2, 1) := by decide +kernel
theorem dX6_deliver_6 : decode cX6_deliver 6 = .ok (.aload_n 2, 1) := by decide +kernel
theorem dX6_deliver_7 : decode cX6_deliver 7 = .ok (.ifnonnull 7, 3) := by decide +kernel
theorem dX6_deliver_10 : decode cX6_deliver 10 = .ok (.ldc2_w 58, 3) := by decide +kernel
theorem dX6_deliver_13 : decode cX6_deliver 13 = .ok (.lreturn, 1) := by decide +kernel
theorem dX6_deliver_14 : decode cX6_deliver 14 = .ok (.aload_n 2, 1) := by decide +kernel
theorem dX6_deliver_15 : decode cX6_deliver 15 = .ok (.getfield 146, 3) := by decide +kernel
theorem dX6_deliver_18 : decode cX6_deliver 18 = .ok (.ifCond .ne 10, 3) := by decide +kernel
theorem dX6_deliver_21 : decode cX6_deliver 21 = .ok (.aload_n 2, 1) := by decide +kernel
theorem dX6_deliver_22 : decode cX6_deliver 22 = .ok (.getfield 149, 3) := by decide +kernel
theorem dX6_deliver_25 : decode cX6_deliver 25 = .ok (.goto 7, 3) := by decide +kernel
theorem dX6_deliver_28 : decode cX6_deliver 28 = .ok (.aload_n 2, 1) := by decide +kernel
theorem dX6_deliver_29 : decode cX6_deliver 29 = .ok (.getfield 153, 3) := by decide +kernel
theorem dX6_deliver_32 : decode cX6_deliver 32 = .ok (.astore_n 3, 1) := by decide +kernel
theorem dX6_deliver_33 : decode cX6_deliver 33 = .ok (.aload_n 3, 1) := by decide +kernel
theorem dX6_deliver_34 : decode cX6_deliver 34 = .ok (.getfield 105, 3) := by decide +kernel
theorem dX6_deliver_37 : decode cX6_deliver 37 = .ok (.ifCond .eq 10, 3) := by decide +kernel
theorem dX6_deliver_40 : decode cX6_deliver 40 = .ok (.aload_n 2, 1) := by decide +kernel
theorem dX6_deliver_41 : decode cX6_deliver 41 = .ok (.iconst 3, 1) := by decide +kernel
theorem dX6_deliver_42 : decode cX6_deliver 42 = .ok (.putfield 146, 3) := by decide +kernel
theorem dX6_deliver_45 : decode cX6_deliver 45 = .ok (.lconst 0, 1) := by decide +kernel
theorem dX6_deliver_46 : decode cX6_deliver 46 = .ok (.lreturn, 1) := by decide +kernel
theorem dX6_deliver_47 : decode cX6_deliver 47 = .ok (.aload_n 2, 1) := by decide +kernel
theorem dX6_deliver_48 : decode cX6_deliver 48 = .ok (.getfield 146, 3) := by decide +kernel
theorem dX6_deliver_51 : decode cX6_deliver 51 = .ok (.ifCond .ne 13, 3) := by decide +kernel
theorem dX6_deliver_54 : decode cX6_deliver 54 = .ok (.aload_n 2, 1) := by decide +kernel
theorem dX6_deliver_55 : decode cX6_deliver 55 = .ok (.aload_n 0, 1) := by decide +kernel
theorem dX6_deliver_56 : decode cX6_deliver 56 = .ok (.getfield 7, 3) := by decide +kernel
theorem dX6_deliver_59 : decode cX6_deliver 59 = .ok (.invokevirtual 156, 3) := by decide +kernel
theorem dX6_deliver_62 : decode cX6_deliver 62 = .ok (.lconst 1, 1) := by decide +kernel
theorem dX6_deliver_63 : decode cX6_deliver 63 = .ok (.lreturn, 1) := by decide +kernel
theorem dX6_deliver_64 : decode cX6_deliver 64 = .ok (.aload_n 2, 1) := by decide +kernel
theorem dX6_deliver_65 : decode cX6_deliver 65 = .ok (.aload_n 0, 1) := by decide +kernel
theorem dX6_deliver_66 : decode cX6_deliver 66 = .ok (.getfield 7, 3) := by decide +kernel
theorem dX6_deliver_69 : decode cX6_deliver 69 = .ok (.invokevirtual 160, 3) := by decide +kernel
theorem dX6_deliver_72 : decode cX6_deliver 72 = .ok (.ldc2_w 163, 3) := by decide +kernel
theorem dX6_deliver_75 : decode cX6_deliver 75 = .ok (.lreturn, 1) := by decide +kernel
theorem dX6_lose_0 : decode cX6_lose 0 = .ok (.aload_n 0, 1) := by decide +kernel
theorem dX6_lose_1 : decode cX6_lose 1 = .ok (.iload_n 1, 1) := by decide +kernel
theorem dX6_lose_2 : decode cX6_lose 2 = .ok (.invokevirtual 142, 3) := by decide +kernel
theorem dX6_lose_5 : decode cX6_lose 5 = .ok (.astore_n 2, 1) := by decide +kernel
theorem dX6_lose_6 : decode cX6_lose 6 = .ok (.aload_n 2, 1) := by decide +kernel
theorem dX6_lose_7 : decode cX6_lose 7 = .ok (.ifnonnull 7, 3) := by decide +kernel
theorem dX6_lose_10 : decode cX6_lose 10 = .ok (.ldc2_w 58, 3) := by decide +kernel
theorem dX6_lose_13 : decode cX6_lose 13 = .ok (.lreturn, 1) := by decide +kernel
theorem dX6_lose_14 : decode cX6_lose 14 = .ok (.aload_n 2, 1) := by decide +kernel
theorem dX6_lose_15 : decode cX6_lose 15 = .ok (.iconst 3, 1) := by decide +kernel
theorem dX6_lose_16 : decode cX6_lose 16 = .ok (.putfield 146, 3) := by decide +kernel
theorem dX6_lose_19 : decode cX6_lose 19 = .ok (.lconst 1, 1) := by decide +kernel
theorem dX6_lose_20 : decode cX6_lose 20 = .ok (.lreturn, 1) := by decide +kernel
theorem dX6_twice_0 : decode cX6_twice 0 = .ok (.aload_n 0, 1) := by decide +kernel
theorem dX6_twice_1 : decode cX6_twice 1 = .ok (.iload_n 1, 1) := by decide +kernel
theorem dX6_twice_2 : decode cX6_twice 2 = .ok (.invokevirtual 142, 3) := by decide +kernel
theorem dX6_twice_5 : decode cX6_twice 5 = .ok (.astore_n 2, 1) := by decide +kernel
theorem dX6_twice_6 : decode cX6_twice 6 = .ok (.aload_n 2, 1) := by decide +kernel
theorem dX6_twice_7 : decode cX6_twice 7 = .ok (.ifnull 13, 3) := by decide +kernel
theorem dX6_twice_10 : decode cX6_twice 10 = .ok (.aload_n 0, 1) := by decide +kernel
theorem dX6_twice_11 : decode cX6_twice 11 = .ok (.getfield 29, 3) := by decide +kernel
theorem dX6_twice_14 : decode cX6_twice 14 = .ok (.sipush 200, 3) := by decide +kernel
theorem dX6_twice_17 : decode cX6_twice 17 = .ok (.if_icmp .lt 7, 3) := by decide +kernel
theorem dX6_twice_20 : decode cX6_twice 20 = .ok (.ldc2_w 58, 3) := by decide +kernel
theorem dX6_twice_23 : decode cX6_twice 23 = .ok (.lreturn, 1) := by decide +kernel
theorem dX6_twice_24 : decode cX6_twice 24 = .ok (.new 23, 3) := by decide +kernel
theorem dX6_twice_27 : decode cX6_twice 27 = .ok (.dup, 1) := by decide +kernel
theorem dX6_twice_28 : decode cX6_twice 28 = .ok (.aload_n 2, 1) := by decide +kernel
theorem dX6_twice_29 : decode cX6_twice 29 = .ok (.getfield 153, 3) := by decide +kernel
theorem dX6_twice_32 : decode cX6_twice 32 = .ok (.aload_n 2, 1) := by decide +kernel
theorem dX6_twice_33 : decode cX6_twice 33 = .ok (.getfield 149, 3) := by decide +kernel
theorem dX6_twice_36 : decode cX6_twice 36 = .ok (.aload_n 2, 1) := by decide +kernel
theorem dX6_twice_37 : decode cX6_twice 37 = .ok (.getfield 165, 3) := by decide +kernel
theorem dX6_twice_40 : decode cX6_twice 40 = .ok (.invokespecial 135, 3) := by decide +kernel
theorem dX6_twice_43 : decode cX6_twice 43 = .ok (.astore_n 3, 1) := by decide +kernel
theorem dX6_twice_44 : decode cX6_twice 44 = .ok (.aload_n 3, 1) := by decide +kernel
theorem dX6_twice_45 : decode cX6_twice 45 = .ok (.aload_n 2, 1) := by decide +kernel
theorem dX6_twice_46 : decode cX6_twice 46 = .ok (.getfield 146, 3) := by decide +kernel
theorem dX6_twice_49 : decode cX6_twice 49 = .ok (.putfield 146, 3) := by decide +kernel
theorem dX6_twice_52 : decode cX6_twice 52 = .ok (.aload_n 3, 1) := by decide +kernel
theorem dX6_twice_53 : decode cX6_twice 53 = .ok (.aload_n 2, 1) := by decide +kernel
theorem dX6_twice_54 : decode cX6_twice 54 = .ok (.getfield 168, 3) := by decide +kernel
theorem dX6_twice_57 : decode cX6_twice 57 = .ok (.putfield 168, 3) := by decide +kernel
theorem dX6_twice_60 : decode cX6_twice 60 = .ok (.aload_n 3, 1) := by decide +kernel
theorem dX6_twice_61 : decode cX6_twice 61 = .ok (.aload_n 2, 1) := by decide +kernel
theorem dX6_twice_62 : decode cX6_twice 62 = .ok (.getfield 171, 3) := by decide +kernel
theorem dX6_twice_65 : decode cX6_twice 65 = .ok (.putfield 171, 3) := by decide +kernel
theorem dX6_twice_68 : decode cX6_twice 68 = .ok (.aload_n 3, 1) := by decide +kernel
theorem dX6_twice_69 : decode cX6_twice 69 = .ok (.aload_n 2, 1) := by decide +kernel
theorem dX6_twice_70 : decode cX6_twice 70 = .ok (.getfield 174, 3) := by decide +kernel
theorem dX6_twice_73 : decode cX6_twice 73 = .ok (.putfield 174, 3) := by decide +kernel
theorem dX6_twice_76 : decode cX6_twice 76 = .ok (.aload_n 0, 1) := by decide +kernel
theorem dX6_twice_77 : decode cX6_twice 77 = .ok (.aload_n 3, 1) := by decide +kernel
theorem dX6_twice_78 : decode cX6_twice 78 = .ok (.invokevirtual 138, 3) := by decide +kernel
theorem dX6_twice_81 : decode cX6_twice 81 = .ok (.lreturn, 1) := by decide +kernel
theorem dX6_letter_0 : decode cX6_letter 0 = .ok (.aload_n 0, 1) := by decide +kernel
theorem dX6_letter_1 : decode cX6_letter 1 = .ok (.iload_n 1, 1) := by decide +kernel
theorem dX6_letter_2 : decode cX6_letter 2 = .ok (.invokevirtual 177, 3) := by decide +kernel
theorem dX6_letter_5 : decode cX6_letter 5 = .ok (.astore_n 3, 1) := by decide +kernel
theorem dX6_letter_6 : decode cX6_letter 6 = .ok (.aload_n 3, 1) := by decide +kernel
theorem dX6_letter_7 : decode cX6_letter 7 = .ok (.ifnonnull 7, 3) := by decide +kernel
theorem dX6_letter_10 : decode cX6_letter 10 = .ok (.ldc2_w 58, 3) := by decide +kernel
theorem dX6_letter_13 : decode cX6_letter 13 = .ok (.lreturn, 1) := by decide +kernel
theorem dX6_letter_14 : decode cX6_letter 14 = .ok (.iload_n 2, 1) := by decide +kernel
theorem dX6_letter_15 : decode cX6_letter 15 = .ok (.tableswitch 93 0 4 #[33, 42, 51, 57, 75], 33) := by decide +kernel
theorem dX6_letter_48 : decode cX6_letter 48 = .ok (.aload_n 3, 1) := by decide +kernel
theorem dX6_letter_49 : decode cX6_letter 49 = .ok (.getfield 153, 3) := by decide +kernel
theorem dX6_letter_52 : decode cX6_letter 52 = .ok (.getfield 180, 3) := by decide +kernel
theorem dX6_letter_55 : decode cX6_letter 55 = .ok (.i2l, 1) := by decide +kernel
theorem dX6_letter_56 : decode cX6_letter 56 = .ok (.lreturn, 1) := by decide +kernel
theorem dX6_letter_57 : decode cX6_letter 57 = .ok (.aload_n 3, 1) := by decide +kernel
theorem dX6_letter_58 : decode cX6_letter 58 = .ok (.getfield 149, 3) := by decide +kernel
theorem dX6_letter_61 : decode cX6_letter 61 = .ok (.getfield 180, 3) := by decide +kernel
theorem dX6_letter_64 : decode cX6_letter 64 = .ok (.i2l, 1) := by decide +kernel
theorem dX6_letter_65 : decode cX6_letter 65 = .ok (.lreturn, 1) := by decide +kernel
theorem dX6_letter_66 : decode cX6_letter 66 = .ok (.aload_n 3, 1) := by decide +kernel
theorem dX6_letter_67 : decode cX6_letter 67 = .ok (.getfield 146, 3) := by decide +kernel
theorem dX6_letter_70 : decode cX6_letter 70 = .ok (.i2l, 1) := by decide +kernel
theorem dX6_letter_71 : decode cX6_letter 71 = .ok (.lreturn, 1) := by decide +kernel
theorem dX6_letter_72 : decode cX6_letter 72 = .ok (.aload_n 3, 1) := by decide +kernel
theorem dX6_letter_73 : decode cX6_letter 73 = .ok (.getfield 168, 3) := by decide +kernel
theorem dX6_letter_76 : decode cX6_letter 76 = .ok (.ifCond .eq 10, 3) := by decide +kernel
theorem dX6_letter_79 : decode cX6_letter 79 = .ok (.aload_n 3, 1) := by decide +kernel
theorem dX6_letter_80 : decode cX6_letter 80 = .ok (.getfield 171, 3) := by decide +kernel
theorem dX6_letter_83 : decode cX6_letter 83 = .ok (.goto 6, 3) := by decide +kernel
theorem dX6_letter_86 : decode cX6_letter 86 = .ok (.ldc2_w 58, 3) := by decide +kernel
theorem dX6_letter_89 : decode cX6_letter 89 = .ok (.lreturn, 1) := by decide +kernel
theorem dX6_letter_90 : decode cX6_letter 90 = .ok (.aload_n 3, 1) := by decide +kernel
theorem dX6_letter_91 : decode cX6_letter 91 = .ok (.getfield 168, 3) := by decide +kernel
theorem dX6_letter_94 : decode cX6_letter 94 = .ok (.ifCond .eq 10, 3) := by decide +kernel
theorem dX6_letter_97 : decode cX6_letter 97 = .ok (.aload_n 3, 1) := by decide +kernel
theorem dX6_letter_98 : decode cX6_letter 98 = .ok (.getfield 174, 3) := by decide +kernel
theorem dX6_letter_101 : decode cX6_letter 101 = .ok (.goto 6, 3) := by decide +kernel
theorem dX6_letter_104 : decode cX6_letter 104 = .ok (.ldc2_w 58, 3) := by decide +kernel
theorem dX6_letter_107 : decode cX6_letter 107 = .ok (.lreturn, 1) := by decide +kernel
theorem dX6_letter_108 : decode cX6_letter 108 = .ok (.ldc2_w 58, 3) := by decide +kernel
theorem dX6_letter_111 : decode cX6_letter 111 = .ok (.lreturn, 1) := by decide +kernel
theorem dX6_heard_0 : decode cX6_heard 0 = .ok (.aload_n 0, 1) := by decide +kernel
theorem dX6_heard_1 : decode cX6_heard 1 = .ok (.iload_n 1, 1) := by decide +kernel
theorem dX6_heard_2 : decode cX6_heard 2 = .ok (.invokevirtual 64, 3) := by decide +kernel
theorem dX6_heard_5 : decode cX6_heard 5 = .ok (.astore 4, 2) := by decide +kernel
theorem dX6_heard_7 : decode cX6_heard 7 = .ok (.aload 4, 2) := by decide +kernel
theorem dX6_heard_9 : decode cX6_heard 9 = .ok (.ifnull 20, 3) := by decide +kernel
theorem dX6_heard_12 : decode cX6_heard 12 = .ok (.aload_n 0, 1) := by decide +kernel
theorem dX6_heard_13 : decode cX6_heard 13 = .ok (.iload_n 2, 1) := by decide +kernel
theorem dX6_heard_14 : decode cX6_heard 14 = .ok (.invokevirtual 64, 3) := by decide +kernel
theorem dX6_heard_17 : decode cX6_heard 17 = .ok (.ifnull 12, 3) := by decide +kernel
theorem dX6_heard_20 : decode cX6_heard 20 = .ok (.aload 4, 2) := by decide +kernel
theorem dX6_heard_22 : decode cX6_heard 22 = .ok (.iload_n 2, 1) := by decide +kernel
theorem dX6_heard_23 : decode cX6_heard 23 = .ok (.invokevirtual 183, 3) := by decide +kernel
theorem dX6_heard_26 : decode cX6_heard 26 = .ok (.ifCond .ne 7, 3) := by decide +kernel
theorem dX6_heard_29 : decode cX6_heard 29 = .ok (.ldc2_w 58, 3) := by decide +kernel
theorem dX6_heard_32 : decode cX6_heard 32 = .ok (.lreturn, 1) := by decide +kernel
theorem dX6_heard_33 : decode cX6_heard 33 = .ok (.iload_n 3, 1) := by decide +kernel
theorem dX6_heard_34 : decode cX6_heard 34 = .ok (.lookupswitch 48 #[(0, 26), (1, 37)], 26) := by decide +kernel
theorem dX6_heard_60 : decode cX6_heard 60 = .ok (.aload 4, 2) := by decide +kernel
theorem dX6_heard_62 : decode cX6_heard 62 = .ok (.iload_n 2, 1) := by decide +kernel
theorem dX6_heard_63 : decode cX6_heard 63 = .ok (.aload_n 0, 1) := by decide +kernel
theorem dX6_heard_64 : decode cX6_heard 64 = .ok (.getfield 7, 3) := by decide +kernel
theorem dX6_heard_67 : decode cX6_heard 67 = .ok (.invokevirtual 187, 3) := by decide +kernel
theorem dX6_heard_70 : decode cX6_heard 70 = .ok (.lreturn, 1) := by decide +kernel
theorem dX6_heard_71 : decode cX6_heard 71 = .ok (.aload 4, 2) := by decide +kernel
theorem dX6_heard_73 : decode cX6_heard 73 = .ok (.iload_n 2, 1) := by decide +kernel
theorem dX6_heard_74 : decode cX6_heard 74 = .ok (.aload_n 0, 1) := by decide +kernel
theorem dX6_heard_75 : decode cX6_heard 75 = .ok (.getfield 7, 3) := by decide +kernel
theorem dX6_heard_78 : decode cX6_heard 78 = .ok (.invokevirtual 191, 3) := by decide +kernel
theorem dX6_heard_81 : decode cX6_heard 81 = .ok (.lreturn, 1) := by decide +kernel
theorem dX6_heard_82 : decode cX6_heard 82 = .ok (.ldc2_w 58, 3) := by decide +kernel
theorem dX6_heard_85 : decode cX6_heard 85 = .ok (.lreturn, 1) := by decide +kernel
theorem dX6_votes_0 : decode cX6_votes 0 = .ok (.aload_n 0, 1) := by decide +kernel
theorem dX6_votes_1 : decode cX6_votes 1 = .ok (.iload_n 1, 1) := by decide +kernel
theorem dX6_votes_2 : decode cX6_votes 2 = .ok (.invokevirtual 64, 3) := by decide +kernel
theorem dX6_votes_5 : decode cX6_votes 5 = .ok (.astore 4, 2) := by decide +kernel
theorem dX6_votes_7 : decode cX6_votes 7 = .ok (.aload 4, 2) := by decide +kernel
theorem dX6_votes_9 : decode cX6_votes 9 = .ok (.ifnonnull 7, 3) := by decide +kernel
theorem dX6_votes_12 : decode cX6_votes 12 = .ok (.ldc2_w 58, 3) := by decide +kernel
theorem dX6_votes_15 : decode cX6_votes 15 = .ok (.lreturn, 1) := by decide +kernel
theorem dX6_votes_16 : decode cX6_votes 16 = .ok (.aload_n 0, 1) := by decide +kernel
theorem dX6_votes_17 : decode cX6_votes 17 = .ok (.aload 4, 2) := by decide +kernel
theorem dX6_votes_19 : decode cX6_votes 19 = .ok (.invokevirtual 194, 3) := by decide +kernel
theorem dX6_votes_22 : decode cX6_votes 22 = .ok (.aload_n 0, 1) := by decide +kernel
theorem dX6_votes_23 : decode cX6_votes 23 = .ok (.getfield 44, 3) := by decide +kernel
theorem dX6_votes_26 : decode cX6_votes 26 = .ok (.lload_n 2, 1) := by decide +kernel
theorem dX6_votes_27 : decode cX6_votes 27 = .ok (.invokevirtual 198, 3) := by decide +kernel
theorem dX6_votes_30 : decode cX6_votes 30 = .ok (.i2l, 1) := by decide +kernel
theorem dX6_votes_31 : decode cX6_votes 31 = .ok (.lreturn, 1) := by decide +kernel
theorem dX6_council_0 : decode cX6_council 0 = .ok (.aload_n 0, 1) := by decide +kernel
theorem dX6_council_1 : decode cX6_council 1 = .ok (.iload_n 1, 1) := by decide +kernel
theorem dX6_council_2 : decode cX6_council 2 = .ok (.invokevirtual 64, 3) := by decide +kernel
theorem dX6_council_5 : decode cX6_council 5 = .ok (.astore 4, 2) := by decide +kernel
theorem dX6_council_7 : decode cX6_council 7 = .ok (.aload 4, 2) := by decide +kernel
theorem dX6_council_9 : decode cX6_council 9 = .ok (.ifnull 12, 3) := by decide +kernel
theorem dX6_council_12 : decode cX6_council 12 = .ok (.iload_n 3, 1) := by decide +kernel
theorem dX6_council_13 : decode cX6_council 13 = .ok (.ifCond .lt 8, 3) := by decide +kernel
theorem dX6_council_16 : decode cX6_council 16 = .ok (.iload_n 3, 1) := by decide +kernel
theorem dX6_council_17 : decode cX6_council 17 = .ok (.iconst 4, 1) := by decide +kernel
theorem dX6_council_18 : decode cX6_council 18 = .ok (.if_icmp .le 7, 3) := by decide +kernel
theorem dX6_council_21 : decode cX6_council 21 = .ok (.ldc2_w 58, 3) := by decide +kernel
theorem dX6_council_24 : decode cX6_council 24 = .ok (.lreturn, 1) := by decide +kernel
theorem dX6_council_25 : decode cX6_council 25 = .ok (.aload_n 0, 1) := by decide +kernel
theorem dX6_council_26 : decode cX6_council 26 = .ok (.aload 4, 2) := by decide +kernel
theorem dX6_council_28 : decode cX6_council 28 = .ok (.invokevirtual 194, 3) := by decide +kernel
theorem dX6_council_31 : decode cX6_council 31 = .ok (.iload_n 2, 1) := by decide +kernel
theorem dX6_council_32 : decode cX6_council 32 = .ok (.ifCond .lt 14, 3) := by decide +kernel
theorem dX6_council_35 : decode cX6_council 35 = .ok (.iload_n 2, 1) := by decide +kernel
theorem dX6_council_36 : decode cX6_council 36 = .ok (.aload_n 0, 1) := by decide +kernel
theorem dX6_council_37 : decode cX6_council 37 = .ok (.getfield 44, 3) := by decide +kernel
theorem dX6_council_40 : decode cX6_council 40 = .ok (.getfield 202, 3) := by decide +kernel
theorem dX6_council_43 : decode cX6_council 43 = .ok (.if_icmp .lt 7, 3) := by decide +kernel
theorem dX6_council_46 : decode cX6_council 46 = .ok (.ldc2_w 58, 3) := by decide +kernel
theorem dX6_council_49 : decode cX6_council 49 = .ok (.lreturn, 1) := by decide +kernel
theorem dX6_council_50 : decode cX6_council 50 = .ok (.aload_n 0, 1) := by decide +kernel
theorem dX6_council_51 : decode cX6_council 51 = .ok (.getfield 44, 3) := by decide +kernel
theorem dX6_council_54 : decode cX6_council 54 = .ok (.getfield 202, 3) := by decide +kernel
theorem dX6_council_57 : decode cX6_council 57 = .ok (.iload_n 2, 1) := by decide +kernel
theorem dX6_council_58 : decode cX6_council 58 = .ok (.isub, 1) := by decide +kernel
theorem dX6_council_59 : decode cX6_council 59 = .ok (.istore 5, 2) := by decide +kernel
theorem dX6_council_61 : decode cX6_council 61 = .ok (.iload_n 3, 1) := by decide +kernel
theorem dX6_council_62 : decode cX6_council 62 = .ok (.ifCond .ne 12, 3) := by decide +kernel
theorem dX6_council_65 : decode cX6_council 65 = .ok (.aload_n 0, 1) := by decide +kernel
theorem dX6_council_66 : decode cX6_council 66 = .ok (.getfield 44, 3) := by decide +kernel
theorem dX6_council_69 : decode cX6_council 69 = .ok (.getfield 202, 3) := by decide +kernel
theorem dX6_council_72 : decode cX6_council 72 = .ok (.i2l, 1) := by decide +kernel
theorem dX6_council_73 : decode cX6_council 73 = .ok (.lreturn, 1) := by decide +kernel
theorem dX6_council_74 : decode cX6_council 74 = .ok (.iload_n 3, 1) := by decide +kernel
theorem dX6_council_75 : decode cX6_council 75 = .ok (.iconst 1, 1) := by decide +kernel
theorem dX6_council_76 : decode cX6_council 76 = .ok (.if_icmp .ne 14, 3) := by decide +kernel
theorem dX6_council_79 : decode cX6_council 79 = .ok (.aload_n 0, 1) := by decide +kernel
theorem dX6_council_80 : decode cX6_council 80 = .ok (.getfield 44, 3) := by decide +kernel
theorem dX6_council_83 : decode cX6_council 83 = .ok (.iload 5, 2) := by decide +kernel
theorem dX6_council_85 : decode cX6_council 85 = .ok (.invokevirtual 205, 3) := by decide +kernel
theorem dX6_council_88 : decode cX6_council 88 = .ok (.i2l, 1) := by decide +kernel
theorem dX6_council_89 : decode cX6_council 89 = .ok (.lreturn, 1) := by decide +kernel
theorem dX6_council_90 : decode cX6_council 90 = .ok (.aload_n 0, 1) := by decide +kernel
theorem dX6_council_91 : decode cX6_council 91 = .ok (.getfield 44, 3) := by decide +kernel
theorem dX6_council_94 : decode cX6_council 94 = .ok (.iload 5, 2) := by decide +kernel
theorem dX6_council_96 : decode cX6_council 96 = .ok (.invokevirtual 209, 3) := by decide +kernel
theorem dX6_council_99 : decode cX6_council 99 = .ok (.lstore 6, 2) := by decide +kernel
theorem dX6_council_101 : decode cX6_council 101 = .ok (.aload_n 0, 1) := by decide +kernel
theorem dX6_council_102 : decode cX6_council 102 = .ok (.getfield 44, 3) := by decide +kernel
theorem dX6_council_105 : decode cX6_council 105 = .ok (.iload 5, 2) := by decide +kernel
theorem dX6_council_107 : decode cX6_council 107 = .ok (.invokevirtual 213, 3) := by decide +kernel
theorem dX6_council_110 : decode cX6_council 110 = .ok (.lstore 8, 2) := by decide +kernel
theorem dX6_council_112 : decode cX6_council 112 = .ok (.lload 6, 2) := by decide +kernel
theorem dX6_council_114 : decode cX6_council 114 = .ok (.ldc2_w 58, 3) := by decide +kernel
theorem dX6_council_117 : decode cX6_council 117 = .ok (.lcmp, 1) := by decide +kernel
theorem dX6_council_118 : decode cX6_council 118 = .ok (.ifCond .eq 12, 3) := by decide +kernel
theorem dX6_council_121 : decode cX6_council 121 = .ok (.lload 8, 2) := by decide +kernel
theorem dX6_council_123 : decode cX6_council 123 = .ok (.ldc2_w 58, 3) := by decide +kernel
theorem dX6_council_126 : decode cX6_council 126 = .ok (.lcmp, 1) := by decide +kernel
theorem dX6_council_127 : decode cX6_council 127 = .ok (.ifCond .ne 7, 3) := by decide +kernel
theorem dX6_council_130 : decode cX6_council 130 = .ok (.ldc2_w 58, 3) := by decide +kernel
theorem dX6_council_133 : decode cX6_council 133 = .ok (.lreturn, 1) := by decide +kernel
theorem dX6_council_134 : decode cX6_council 134 = .ok (.iload_n 3, 1) := by decide +kernel
theorem dX6_council_135 : decode cX6_council 135 = .ok (.iconst 2, 1) := by decide +kernel
theorem dX6_council_136 : decode cX6_council 136 = .ok (.if_icmp .ne 6, 3) := by decide +kernel
theorem dX6_council_139 : decode cX6_council 139 = .ok (.lload 6, 2) := by decide +kernel
theorem dX6_council_141 : decode cX6_council 141 = .ok (.lreturn, 1) := by decide +kernel
theorem dX6_council_142 : decode cX6_council 142 = .ok (.iload_n 3, 1) := by decide +kernel
theorem dX6_council_143 : decode cX6_council 143 = .ok (.iconst 3, 1) := by decide +kernel
theorem dX6_council_144 : decode cX6_council 144 = .ok (.if_icmp .ne 8, 3) := by decide +kernel
theorem dX6_council_147 : decode cX6_council 147 = .ok (.lload 8, 2) := by decide +kernel
theorem dX6_council_149 : decode cX6_council 149 = .ok (.goto 15, 3) := by decide +kernel
theorem dX6_council_152 : decode cX6_council 152 = .ok (.aload_n 0, 1) := by decide +kernel
theorem dX6_council_153 : decode cX6_council 153 = .ok (.getfield 44, 3) := by decide +kernel
theorem dX6_council_156 : decode cX6_council 156 = .ok (.lload 6, 2) := by decide +kernel
theorem dX6_council_158 : decode cX6_council 158 = .ok (.lload 8, 2) := by decide +kernel
theorem dX6_council_160 : decode cX6_council 160 = .ok (.invokevirtual 216, 3) := by decide +kernel
theorem dX6_council_163 : decode cX6_council 163 = .ok (.i2l, 1) := by decide +kernel
theorem dX6_council_164 : decode cX6_council 164 = .ok (.lreturn, 1) := by decide +kernel
theorem dX6_meet_0 : decode cX6_meet 0 = .ok (.aload_n 0, 1) := by decide +kernel
theorem dX6_meet_1 : decode cX6_meet 1 = .ok (.iload_n 1, 1) := by decide +kernel
theorem dX6_meet_2 : decode cX6_meet 2 = .ok (.invokevirtual 64, 3) := by decide +kernel
theorem dX6_meet_5 : decode cX6_meet 5 = .ok (.astore_n 3, 1) := by decide +kernel
theorem dX6_meet_6 : decode cX6_meet 6 = .ok (.aload_n 3, 1) := by decide +kernel
theorem dX6_meet_7 : decode cX6_meet 7 = .ok (.ifnull 25, 3) := by decide +kernel
theorem dX6_meet_10 : decode cX6_meet 10 = .ok (.aload_n 3, 1) := by decide +kernel
theorem dX6_meet_11 : decode cX6_meet 11 = .ok (.getfield 92, 3) := by decide +kernel
theorem dX6_meet_14 : decode cX6_meet 14 = .ok (.ifCond .eq 18, 3) := by decide +kernel
theorem dX6_meet_17 : decode cX6_meet 17 = .ok (.aload_n 3, 1) := by decide +kernel
theorem dX6_meet_18 : decode cX6_meet 18 = .ok (.getfield 92, 3) := by decide +kernel
theorem dX6_meet_21 : decode cX6_meet 21 = .ok (.iconst 1, 1) := by decide +kernel
theorem dX6_meet_22 : decode cX6_meet 22 = .ok (.if_icmp .eq 10, 3) := by decide +kernel
theorem dX6_meet_25 : decode cX6_meet 25 = .ok (.aload_n 3, 1) := by decide +kernel
theorem dX6_meet_26 : decode cX6_meet 26 = .ok (.getfield 105, 3) := by decide +kernel
theorem dX6_meet_29 : decode cX6_meet 29 = .ok (.ifCond .eq 7, 3) := by decide +kernel
theorem dX6_meet_32 : decode cX6_meet 32 = .ok (.ldc2_w 58, 3) := by decide +kernel
theorem dX6_meet_35 : decode cX6_meet 35 = .ok (.lreturn, 1) := by decide +kernel
theorem dX6_meet_36 : decode cX6_meet 36 = .ok (.aload_n 0, 1) := by decide +kernel
theorem dX6_meet_37 : decode cX6_meet 37 = .ok (.aload_n 3, 1) := by decide +kernel
theorem dX6_meet_38 : decode cX6_meet 38 = .ok (.invokevirtual 194, 3) := by decide +kernel
theorem dX6_meet_41 : decode cX6_meet 41 = .ok (.iload_n 2, 1) := by decide +kernel
theorem dX6_meet_42 : decode cX6_meet 42 = .ok (.ifCond .lt 14, 3) := by decide +kernel
theorem dX6_meet_45 : decode cX6_meet 45 = .ok (.iload_n 2, 1) := by decide +kernel
theorem dX6_meet_46 : decode cX6_meet 46 = .ok (.aload_n 0, 1) := by decide +kernel
theorem dX6_meet_47 : decode cX6_meet 47 = .ok (.getfield 44, 3) := by decide +kernel
theorem dX6_meet_50 : decode cX6_meet 50 = .ok (.getfield 202, 3) := by decide +kernel
theorem dX6_meet_53 : decode cX6_meet 53 = .ok (.if_icmp .lt 7, 3) := by decide +kernel
theorem dX6_meet_56 : decode cX6_meet 56 = .ok (.ldc2_w 58, 3) := by decide +kernel
theorem dX6_meet_59 : decode cX6_meet 59 = .ok (.lreturn, 1) := by decide +kernel
theorem dX6_meet_60 : decode cX6_meet 60 = .ok (.aload_n 0, 1) := by decide +kernel
theorem dX6_meet_61 : decode cX6_meet 61 = .ok (.getfield 44, 3) := by decide +kernel
theorem dX6_meet_64 : decode cX6_meet 64 = .ok (.aload_n 0, 1) := by decide +kernel
theorem dX6_meet_65 : decode cX6_meet 65 = .ok (.getfield 44, 3) := by decide +kernel
theorem dX6_meet_68 : decode cX6_meet 68 = .ok (.getfield 202, 3) := by decide +kernel
theorem dX6_meet_71 : decode cX6_meet 71 = .ok (.iload_n 2, 1) := by decide +kernel
theorem dX6_meet_72 : decode cX6_meet 72 = .ok (.isub, 1) := by decide +kernel
theorem dX6_meet_73 : decode cX6_meet 73 = .ok (.invokevirtual 209, 3) := by decide +kernel
theorem dX6_meet_76 : decode cX6_meet 76 = .ok (.lstore 4, 2) := by decide +kernel
theorem dX6_meet_78 : decode cX6_meet 78 = .ok (.aload_n 0, 1) := by decide +kernel
theorem dX6_meet_79 : decode cX6_meet 79 = .ok (.getfield 44, 3) := by decide +kernel
theorem dX6_meet_82 : decode cX6_meet 82 = .ok (.aload_n 0, 1) := by decide +kernel
theorem dX6_meet_83 : decode cX6_meet 83 = .ok (.getfield 44, 3) := by decide +kernel
theorem dX6_meet_86 : decode cX6_meet 86 = .ok (.getfield 202, 3) := by decide +kernel
theorem dX6_meet_89 : decode cX6_meet 89 = .ok (.iload_n 2, 1) := by decide +kernel
theorem dX6_meet_90 : decode cX6_meet 90 = .ok (.isub, 1) := by decide +kernel
theorem dX6_meet_91 : decode cX6_meet 91 = .ok (.invokevirtual 213, 3) := by decide +kernel
theorem dX6_meet_94 : decode cX6_meet 94 = .ok (.lstore 6, 2) := by decide +kernel
theorem dX6_meet_96 : decode cX6_meet 96 = .ok (.lload 4, 2) := by decide +kernel
theorem dX6_meet_98 : decode cX6_meet 98 = .ok (.ldc2_w 58, 3) := by decide +kernel
theorem dX6_meet_101 : decode cX6_meet 101 = .ok (.lcmp, 1) := by decide +kernel
theorem dX6_meet_102 : decode cX6_meet 102 = .ok (.ifCond .eq 12, 3) := by decide +kernel
theorem dX6_meet_105 : decode cX6_meet 105 = .ok (.lload 6, 2) := by decide +kernel
theorem dX6_meet_107 : decode cX6_meet 107 = .ok (.ldc2_w 58, 3) := by decide +kernel
theorem dX6_meet_110 : decode cX6_meet 110 = .ok (.lcmp, 1) := by decide +kernel
theorem dX6_meet_111 : decode cX6_meet 111 = .ok (.ifCond .ne 7, 3) := by decide +kernel
theorem dX6_meet_114 : decode cX6_meet 114 = .ok (.ldc2_w 58, 3) := by decide +kernel
theorem dX6_meet_117 : decode cX6_meet 117 = .ok (.lreturn, 1) := by decide +kernel
theorem dX6_meet_118 : decode cX6_meet 118 = .ok (.aload_n 0, 1) := by decide +kernel
theorem dX6_meet_119 : decode cX6_meet 119 = .ok (.getfield 44, 3) := by decide +kernel
theorem dX6_meet_122 : decode cX6_meet 122 = .ok (.lload 4, 2) := by decide +kernel
theorem dX6_meet_124 : decode cX6_meet 124 = .ok (.lload 6, 2) := by decide +kernel
theorem dX6_meet_126 : decode cX6_meet 126 = .ok (.invokevirtual 216, 3) := by decide +kernel
theorem dX6_meet_129 : decode cX6_meet 129 = .ok (.istore 8, 2) := by decide +kernel
theorem dX6_meet_131 : decode cX6_meet 131 = .ok (.aload_n 0, 1) := by decide +kernel
theorem dX6_meet_132 : decode cX6_meet 132 = .ok (.iload 8, 2) := by decide +kernel
theorem dX6_meet_134 : decode cX6_meet 134 = .ok (.invokevirtual 220, 3) := by decide +kernel
theorem dX6_meet_137 : decode cX6_meet 137 = .ok (.aload_n 3, 1) := by decide +kernel
theorem dX6_meet_138 : decode cX6_meet 138 = .ok (.invokevirtual 224, 3) := by decide +kernel
theorem dX6_meet_141 : decode cX6_meet 141 = .ok (.aload_n 3, 1) := by decide +kernel
theorem dX6_meet_142 : decode cX6_meet 142 = .ok (.getfield 92, 3) := by decide +kernel
theorem dX6_meet_145 : decode cX6_meet 145 = .ok (.iconst 3, 1) := by decide +kernel
theorem dX6_meet_146 : decode cX6_meet 146 = .ok (.if_icmp .eq 22, 3) := by decide +kernel
theorem dX6_meet_149 : decode cX6_meet 149 = .ok (.aload_n 3, 1) := by decide +kernel
theorem dX6_meet_150 : decode cX6_meet 150 = .ok (.getfield 227, 3) := by decide +kernel
theorem dX6_meet_153 : decode cX6_meet 153 = .ok (.lload 4, 2) := by decide +kernel
theorem dX6_meet_155 : decode cX6_meet 155 = .ok (.lload 6, 2) := by decide +kernel
theorem dX6_meet_157 : decode cX6_meet 157 = .ok (.aload_n 3, 1) := by decide +kernel
theorem dX6_meet_158 : decode cX6_meet 158 = .ok (.aload_n 0, 1) := by decide +kernel
theorem dX6_meet_159 : decode cX6_meet 159 = .ok (.getfield 7, 3) := by decide +kernel
theorem dX6_meet_162 : decode cX6_meet 162 = .ok (.invokevirtual 109, 3) := by decide +kernel
theorem dX6_meet_165 : decode cX6_meet 165 = .ok (.invokevirtual 231, 3) := by decide +kernel
theorem dX6_meet_168 : decode cX6_meet 168 = .ok (.iload 8, 2) := by decide +kernel
theorem dX6_meet_170 : decode cX6_meet 170 = .ok (.i2l, 1) := by decide +kernel
theorem dX6_meet_171 : decode cX6_meet 171 = .ok (.lreturn, 1) := by decide +kernel
theorem dX6_lead_0 : decode cX6_lead 0 = .ok (.aload_n 0, 1) := by decide +kernel
theorem dX6_lead_1 : decode cX6_lead 1 = .ok (.iload_n 1, 1) := by decide +kernel
theorem dX6_lead_2 : decode cX6_lead 2 = .ok (.invokevirtual 64, 3) := by decide +kernel
theorem dX6_lead_5 : decode cX6_lead 5 = .ok (.astore_n 3, 1) := by decide +kernel
theorem dX6_lead_6 : decode cX6_lead 6 = .ok (.aload_n 3, 1) := by decide +kernel
theorem dX6_lead_7 : decode cX6_lead 7 = .ok (.ifnull 21, 3) := by decide +kernel
theorem dX6_lead_10 : decode cX6_lead 10 = .ok (.iload_n 2, 1) := by decide +kernel
theorem dX6_lead_11 : decode cX6_lead 11 = .ok (.ifCond .lt 17, 3) := by decide +kernel
theorem dX6_lead_14 : decode cX6_lead 14 = .ok (.iload_n 2, 1) := by decide +kernel
theorem dX6_lead_15 : decode cX6_lead 15 = .ok (.sipush 1000, 3) := by decide +kernel
theorem dX6_lead_18 : decode cX6_lead 18 = .ok (.if_icmp .gt 10, 3) := by decide +kernel
theorem dX6_lead_21 : decode cX6_lead 21 = .ok (.aload_n 3, 1) := by decide +kernel
theorem dX6_lead_22 : decode cX6_lead 22 = .ok (.getfield 105, 3) := by decide +kernel
theorem dX6_lead_25 : decode cX6_lead 25 = .ok (.ifCond .eq 7, 3) := by decide +kernel
theorem dX6_lead_28 : decode cX6_lead 28 = .ok (.ldc2_w 58, 3) := by decide +kernel
theorem dX6_lead_31 : decode cX6_lead 31 = .ok (.lreturn, 1) := by decide +kernel
theorem dX6_lead_32 : decode cX6_lead 32 = .ok (.aload_n 3, 1) := by decide +kernel
theorem dX6_lead_33 : decode cX6_lead 33 = .ok (.aload_n 0, 1) := by decide +kernel
theorem dX6_lead_34 : decode cX6_lead 34 = .ok (.getfield 7, 3) := by decide +kernel
theorem dX6_lead_37 : decode cX6_lead 37 = .ok (.invokevirtual 109, 3) := by decide +kernel
theorem dX6_lead_40 : decode cX6_lead 40 = .ok (.lstore 4, 2) := by decide +kernel
theorem dX6_lead_42 : decode cX6_lead 42 = .ok (.lload 4, 2) := by decide +kernel
theorem dX6_lead_44 : decode cX6_lead 44 = .ok (.aload_n 3, 1) := by decide +kernel
theorem dX6_lead_45 : decode cX6_lead 45 = .ok (.getfield 237, 3) := by decide +kernel
theorem dX6_lead_48 : decode cX6_lead 48 = .ok (.lsub, 1) := by decide +kernel
theorem dX6_lead_49 : decode cX6_lead 49 = .ok (.lstore 6, 2) := by decide +kernel
theorem dX6_lead_51 : decode cX6_lead 51 = .ok (.lload 6, 2) := by decide +kernel
theorem dX6_lead_53 : decode cX6_lead 53 = .ok (.iload_n 2, 1) := by decide +kernel
theorem dX6_lead_54 : decode cX6_lead 54 = .ok (.i2l, 1) := by decide +kernel
theorem dX6_lead_55 : decode cX6_lead 55 = .ok (.lmul, 1) := by decide +kernel
theorem dX6_lead_56 : decode cX6_lead 56 = .ok (.ldc2_w 83, 3) := by decide +kernel
theorem dX6_lead_59 : decode cX6_lead 59 = .ok (.invokestatic 240, 3) := by decide +kernel
theorem dX6_lead_62 : decode cX6_lead 62 = .ok (.lstore 8, 2) := by decide +kernel
theorem dX6_lead_64 : decode cX6_lead 64 = .ok (.aload_n 3, 1) := by decide +kernel
theorem dX6_lead_65 : decode cX6_lead 65 = .ok (.aload_n 0, 1) := by decide +kernel
theorem dX6_lead_66 : decode cX6_lead 66 = .ok (.getfield 7, 3) := by decide +kernel
theorem dX6_lead_69 : decode cX6_lead 69 = .ok (.invokevirtual 112, 3) := by decide +kernel
theorem dX6_lead_72 : decode cX6_lead 72 = .ok (.aload_n 3, 1) := by decide +kernel
theorem dX6_lead_73 : decode cX6_lead 73 = .ok (.aload_n 0, 1) := by decide +kernel
theorem dX6_lead_74 : decode cX6_lead 74 = .ok (.getfield 7, 3) := by decide +kernel
theorem dX6_lead_77 : decode cX6_lead 77 = .ok (.invokevirtual 115, 3) := by decide +kernel
theorem dX6_lead_80 : decode cX6_lead 80 = .ok (.ladd, 1) := by decide +kernel
theorem dX6_lead_81 : decode cX6_lead 81 = .ok (.ldc2_w 163, 3) := by decide +kernel
theorem dX6_lead_84 : decode cX6_lead 84 = .ok (.invokestatic 240, 3) := by decide +kernel
theorem dX6_lead_87 : decode cX6_lead 87 = .ok (.lstore 10, 2) := by decide +kernel
theorem dX6_lead_89 : decode cX6_lead 89 = .ok (.lload 10, 2) := by decide +kernel
theorem dX6_lead_91 : decode cX6_lead 91 = .ok (.aload_n 3, 1) := by decide +kernel
theorem dX6_lead_92 : decode cX6_lead 92 = .ok (.getfield 118, 3) := by decide +kernel
theorem dX6_lead_95 : decode cX6_lead 95 = .ok (.lsub, 1) := by decide +kernel
theorem dX6_lead_96 : decode cX6_lead 96 = .ok (.lload 6, 2) := by decide +kernel
theorem dX6_lead_98 : decode cX6_lead 98 = .ok (.lload 8, 2) := by decide +kernel
theorem dX6_lead_100 : decode cX6_lead 100 = .ok (.lsub, 1) := by decide +kernel
theorem dX6_lead_101 : decode cX6_lead 101 = .ok (.invokestatic 244, 3) := by decide +kernel
theorem dX6_lead_104 : decode cX6_lead 104 = .ok (.lload 6, 2) := by decide +kernel
theorem dX6_lead_106 : decode cX6_lead 106 = .ok (.lload 8, 2) := by decide +kernel
theorem dX6_lead_108 : decode cX6_lead 108 = .ok (.ladd, 1) := by decide +kernel
theorem dX6_lead_109 : decode cX6_lead 109 = .ok (.invokestatic 247, 3) := by decide +kernel
theorem dX6_lead_112 : decode cX6_lead 112 = .ok (.lstore 12, 2) := by decide +kernel
theorem dX6_lead_114 : decode cX6_lead 114 = .ok (.aload_n 3, 1) := by decide +kernel
theorem dX6_lead_115 : decode cX6_lead 115 = .ok (.dup, 1) := by decide +kernel
theorem dX6_lead_116 : decode cX6_lead 116 = .ok (.getfield 118, 3) := by decide +kernel
theorem dX6_lead_119 : decode cX6_lead 119 = .ok (.lload 12, 2) := by decide +kernel
theorem dX6_lead_121 : decode cX6_lead 121 = .ok (.ladd, 1) := by decide +kernel
theorem dX6_lead_122 : decode cX6_lead 122 = .ok (.putfield 118, 3) := by decide +kernel
theorem dX6_lead_125 : decode cX6_lead 125 = .ok (.aload_n 3, 1) := by decide +kernel
theorem dX6_lead_126 : decode cX6_lead 126 = .ok (.lload 4, 2) := by decide +kernel
theorem dX6_lead_128 : decode cX6_lead 128 = .ok (.putfield 237, 3) := by decide +kernel
theorem dX6_lead_131 : decode cX6_lead 131 = .ok (.aload_n 3, 1) := by decide +kernel
theorem dX6_lead_132 : decode cX6_lead 132 = .ok (.getfield 118, 3) := by decide +kernel
theorem dX6_lead_135 : decode cX6_lead 135 = .ok (.lreturn, 1) := by decide +kernel
theorem dX6_stamp_0 : decode cX6_stamp 0 = .ok (.aload_n 0, 1) := by decide +kernel
theorem dX6_stamp_1 : decode cX6_stamp 1 = .ok (.iload_n 1, 1) := by decide +kernel
theorem dX6_stamp_2 : decode cX6_stamp 2 = .ok (.invokevirtual 64, 3) := by decide +kernel
theorem dX6_stamp_5 : decode cX6_stamp 5 = .ok (.astore_n 2, 1) := by decide +kernel
theorem dX6_stamp_6 : decode cX6_stamp 6 = .ok (.aload_n 2, 1) := by decide +kernel
theorem dX6_stamp_7 : decode cX6_stamp 7 = .ok (.ifnull 12, 3) := by decide +kernel
theorem dX6_stamp_10 : decode cX6_stamp 10 = .ok (.aload_n 0, 1) := by decide +kernel
theorem dX6_stamp_11 : decode cX6_stamp 11 = .ok (.getfield 38, 3) := by decide +kernel
theorem dX6_stamp_14 : decode cX6_stamp 14 = .ok (.bipush 100, 2) := by decide +kernel
theorem dX6_stamp_16 : decode cX6_stamp 16 = .ok (.if_icmp .lt 7, 3) := by decide +kernel
theorem dX6_stamp_19 : decode cX6_stamp 19 = .ok (.ldc2_w 58, 3) := by decide +kernel
theorem dX6_stamp_22 : decode cX6_stamp 22 = .ok (.lreturn, 1) := by decide +kernel
theorem dX6_stamp_23 : decode cX6_stamp 23 = .ok (.aload_n 0, 1) := by decide +kernel
theorem dX6_stamp_24 : decode cX6_stamp 24 = .ok (.getfield 34, 3) := by decide +kernel
theorem dX6_stamp_27 : decode cX6_stamp 27 = .ok (.aload_n 0, 1) := by decide +kernel
theorem dX6_stamp_28 : decode cX6_stamp 28 = .ok (.getfield 38, 3) := by decide +kernel
theorem dX6_stamp_31 : decode cX6_stamp 31 = .ok (.new 32, 3) := by decide +kernel
theorem dX6_stamp_34 : decode cX6_stamp 34 = .ok (.dup, 1) := by decide +kernel
theorem dX6_stamp_35 : decode cX6_stamp 35 = .ok (.aload_n 2, 1) := by decide +kernel
theorem dX6_stamp_36 : decode cX6_stamp 36 = .ok (.aload_n 0, 1) := by decide +kernel
theorem dX6_stamp_37 : decode cX6_stamp 37 = .ok (.getfield 7, 3) := by decide +kernel
theorem dX6_stamp_40 : decode cX6_stamp 40 = .ok (.invokevirtual 112, 3) := by decide +kernel
theorem dX6_stamp_43 : decode cX6_stamp 43 = .ok (.aload_n 2, 1) := by decide +kernel
theorem dX6_stamp_44 : decode cX6_stamp 44 = .ok (.aload_n 0, 1) := by decide +kernel
theorem dX6_stamp_45 : decode cX6_stamp 45 = .ok (.getfield 7, 3) := by decide +kernel
theorem dX6_stamp_48 : decode cX6_stamp 48 = .ok (.invokevirtual 115, 3) := by decide +kernel
theorem dX6_stamp_51 : decode cX6_stamp 51 = .ok (.iload_n 1, 1) := by decide +kernel
theorem dX6_stamp_52 : decode cX6_stamp 52 = .ok (.aload_n 2, 1) := by decide +kernel
theorem dX6_stamp_53 : decode cX6_stamp 53 = .ok (.aload_n 0, 1) := by decide +kernel
theorem dX6_stamp_54 : decode cX6_stamp 54 = .ok (.getfield 7, 3) := by decide +kernel
theorem dX6_stamp_57 : decode cX6_stamp 57 = .ok (.invokevirtual 121, 3) := by decide +kernel
theorem dX6_stamp_60 : decode cX6_stamp 60 = .ok (.invokespecial 250, 3) := by decide +kernel
theorem dX6_stamp_63 : decode cX6_stamp 63 = .ok (.aastore, 1) := by decide +kernel
theorem dX6_stamp_64 : decode cX6_stamp 64 = .ok (.aload_n 0, 1) := by decide +kernel
theorem dX6_stamp_65 : decode cX6_stamp 65 = .ok (.dup, 1) := by decide +kernel
theorem dX6_stamp_66 : decode cX6_stamp 66 = .ok (.getfield 38, 3) := by decide +kernel
theorem dX6_stamp_69 : decode cX6_stamp 69 = .ok (.iconst 1, 1) := by decide +kernel
theorem dX6_stamp_70 : decode cX6_stamp 70 = .ok (.iadd, 1) := by decide +kernel
theorem dX6_stamp_71 : decode cX6_stamp 71 = .ok (.putfield 38, 3) := by decide +kernel
theorem dX6_stamp_74 : decode cX6_stamp 74 = .ok (.aload_n 0, 1) := by decide +kernel
theorem dX6_stamp_75 : decode cX6_stamp 75 = .ok (.getfield 38, 3) := by decide +kernel
theorem dX6_stamp_78 : decode cX6_stamp 78 = .ok (.iconst 1, 1) := by decide +kernel
theorem dX6_stamp_79 : decode cX6_stamp 79 = .ok (.isub, 1) := by decide +kernel
theorem dX6_stamp_80 : decode cX6_stamp 80 = .ok (.i2l, 1) := by decide +kernel
theorem dX6_stamp_81 : decode cX6_stamp 81 = .ok (.lreturn, 1) := by decide +kernel
theorem dX6_given_0 : decode cX6_given 0 = .ok (.aload_n 0, 1) := by decide +kernel
theorem dX6_given_1 : decode cX6_given 1 = .ok (.iload_n 1, 1) := by decide +kernel
theorem dX6_given_2 : decode cX6_given 2 = .ok (.invokevirtual 253, 3) := by decide +kernel
theorem dX6_given_5 : decode cX6_given 5 = .ok (.astore_n 3, 1) := by decide +kernel
theorem dX6_given_6 : decode cX6_given 6 = .ok (.aload_n 3, 1) := by decide +kernel
theorem dX6_given_7 : decode cX6_given 7 = .ok (.ifnonnull 7, 3) := by decide +kernel
theorem dX6_given_10 : decode cX6_given 10 = .ok (.ldc2_w 58, 3) := by decide +kernel
theorem dX6_given_13 : decode cX6_given 13 = .ok (.lreturn, 1) := by decide +kernel
theorem dX6_given_14 : decode cX6_given 14 = .ok (.iload_n 2, 1) := by decide +kernel
theorem dX6_given_15 : decode cX6_given 15 = .ok (.tableswitch 53 0 3 #[29, 34, 39, 45], 29) := by decide +kernel
theorem dX6_given_44 : decode cX6_given 44 = .ok (.aload_n 3, 1) := by decide +kernel
theorem dX6_given_45 : decode cX6_given 45 = .ok (.getfield 257, 3) := by decide +kernel
theorem dX6_given_48 : decode cX6_given 48 = .ok (.lreturn, 1) := by decide +kernel
theorem dX6_given_49 : decode cX6_given 49 = .ok (.aload_n 3, 1) := by decide +kernel
theorem dX6_given_50 : decode cX6_given 50 = .ok (.getfield 258, 3) := by decide +kernel
theorem dX6_given_53 : decode cX6_given 53 = .ok (.lreturn, 1) := by decide +kernel
theorem dX6_given_54 : decode cX6_given 54 = .ok (.aload_n 3, 1) := by decide +kernel
theorem dX6_given_55 : decode cX6_given 55 = .ok (.getfield 259, 3) := by decide +kernel
theorem dX6_given_58 : decode cX6_given 58 = .ok (.i2l, 1) := by decide +kernel
theorem dX6_given_59 : decode cX6_given 59 = .ok (.lreturn, 1) := by decide +kernel
theorem dX6_given_60 : decode cX6_given 60 = .ok (.aload_n 3, 1) := by decide +kernel
theorem dX6_given_61 : decode cX6_given 61 = .ok (.getfield 262, 3) := by decide +kernel
theorem dX6_given_64 : decode cX6_given 64 = .ok (.invokestatic 88, 3) := by decide +kernel
theorem dX6_given_67 : decode cX6_given 67 = .ok (.lreturn, 1) := by decide +kernel
theorem dX6_given_68 : decode cX6_given 68 = .ok (.ldc2_w 58, 3) := by decide +kernel
theorem dX6_given_71 : decode cX6_given 71 = .ok (.lreturn, 1) := by decide +kernel
theorem dX6_ahead_0 : decode cX6_ahead 0 = .ok (.aload_n 0, 1) := by decide +kernel
theorem dX6_ahead_1 : decode cX6_ahead 1 = .ok (.iload_n 1, 1) := by decide +kernel
theorem dX6_ahead_2 : decode cX6_ahead 2 = .ok (.invokevirtual 253, 3) := by decide +kernel
theorem dX6_ahead_5 : decode cX6_ahead 5 = .ok (.astore_n 3, 1) := by decide +kernel
theorem dX6_ahead_6 : decode cX6_ahead 6 = .ok (.aload_n 0, 1) := by decide +kernel
theorem dX6_ahead_7 : decode cX6_ahead 7 = .ok (.iload_n 2, 1) := by decide +kernel
theorem dX6_ahead_8 : decode cX6_ahead 8 = .ok (.invokevirtual 253, 3) := by decide +kernel
theorem dX6_ahead_11 : decode cX6_ahead 11 = .ok (.astore 4, 2) := by decide +kernel
theorem dX6_ahead_13 : decode cX6_ahead 13 = .ok (.aload_n 3, 1) := by decide +kernel
theorem dX6_ahead_14 : decode cX6_ahead 14 = .ok (.ifnull 8, 3) := by decide +kernel
theorem dX6_ahead_17 : decode cX6_ahead 17 = .ok (.aload 4, 2) := by decide +kernel
theorem dX6_ahead_19 : decode cX6_ahead 19 = .ok (.ifnonnull 7, 3) := by decide +kernel
theorem dX6_ahead_22 : decode cX6_ahead 22 = .ok (.ldc2_w 58, 3) := by decide +kernel
theorem dX6_ahead_25 : decode cX6_ahead 25 = .ok (.lreturn, 1) := by decide +kernel
theorem dX6_ahead_26 : decode cX6_ahead 26 = .ok (.aload_n 3, 1) := by decide +kernel
theorem dX6_ahead_27 : decode cX6_ahead 27 = .ok (.getfield 258, 3) := by decide +kernel
theorem dX6_ahead_30 : decode cX6_ahead 30 = .ok (.aload 4, 2) := by decide +kernel
theorem dX6_ahead_32 : decode cX6_ahead 32 = .ok (.getfield 257, 3) := by decide +kernel
theorem dX6_ahead_35 : decode cX6_ahead 35 = .ok (.lcmp, 1) := by decide +kernel
theorem dX6_ahead_36 : decode cX6_ahead 36 = .ok (.ifCond .ge 5, 3) := by decide +kernel
theorem dX6_ahead_39 : decode cX6_ahead 39 = .ok (.lconst 1, 1) := by decide +kernel
theorem dX6_ahead_40 : decode cX6_ahead 40 = .ok (.lreturn, 1) := by decide +kernel
theorem dX6_ahead_41 : decode cX6_ahead 41 = .ok (.aload 4, 2) := by decide +kernel
theorem dX6_ahead_43 : decode cX6_ahead 43 = .ok (.getfield 258, 3) := by decide +kernel
theorem dX6_ahead_46 : decode cX6_ahead 46 = .ok (.aload_n 3, 1) := by decide +kernel
theorem dX6_ahead_47 : decode cX6_ahead 47 = .ok (.getfield 257, 3) := by decide +kernel
theorem dX6_ahead_50 : decode cX6_ahead 50 = .ok (.lcmp, 1) := by decide +kernel
theorem dX6_ahead_51 : decode cX6_ahead 51 = .ok (.ifCond .ge 9, 3) := by decide +kernel
theorem dX6_ahead_54 : decode cX6_ahead 54 = .ok (.ldc2_w 265, 3) := by decide +kernel
theorem dX6_ahead_57 : decode cX6_ahead 57 = .ok (.goto 4, 3) := by decide +kernel
theorem dX6_ahead_60 : decode cX6_ahead 60 = .ok (.lconst 0, 1) := by decide +kernel
theorem dX6_ahead_61 : decode cX6_ahead 61 = .ok (.lreturn, 1) := by decide +kernel
theorem dX6_wait_0 : decode cX6_wait 0 = .ok (.aload_n 0, 1) := by decide +kernel
theorem dX6_wait_1 : decode cX6_wait 1 = .ok (.iload_n 1, 1) := by decide +kernel
theorem dX6_wait_2 : decode cX6_wait 2 = .ok (.invokevirtual 64, 3) := by decide +kernel
theorem dX6_wait_5 : decode cX6_wait 5 = .ok (.astore_n 2, 1) := by decide +kernel
theorem dX6_wait_6 : decode cX6_wait 6 = .ok (.aload_n 2, 1) := by decide +kernel
theorem dX6_wait_7 : decode cX6_wait 7 = .ok (.ifnull 11, 3) := by decide +kernel
theorem dX6_wait_10 : decode cX6_wait 10 = .ok (.aload_n 2, 1) := by decide +kernel
theorem dX6_wait_11 : decode cX6_wait 11 = .ok (.getfield 92, 3) := by decide +kernel
theorem dX6_wait_14 : decode cX6_wait 14 = .ok (.iconst 3, 1) := by decide +kernel
theorem dX6_wait_15 : decode cX6_wait 15 = .ok (.if_icmp .ne 7, 3) := by decide +kernel
theorem dX6_wait_18 : decode cX6_wait 18 = .ok (.ldc2_w 58, 3) := by decide +kernel
theorem dX6_wait_21 : decode cX6_wait 21 = .ok (.lreturn, 1) := by decide +kernel
theorem dX6_wait_22 : decode cX6_wait 22 = .ok (.aload_n 0, 1) := by decide +kernel
theorem dX6_wait_23 : decode cX6_wait 23 = .ok (.getfield 38, 3) := by decide +kernel
theorem dX6_wait_26 : decode cX6_wait 26 = .ok (.ifCond .ne 5, 3) := by decide +kernel
theorem dX6_wait_29 : decode cX6_wait 29 = .ok (.lconst 0, 1) := by decide +kernel
theorem dX6_wait_30 : decode cX6_wait 30 = .ok (.lreturn, 1) := by decide +kernel
theorem dX6_wait_31 : decode cX6_wait 31 = .ok (.aload_n 0, 1) := by decide +kernel
theorem dX6_wait_32 : decode cX6_wait 32 = .ok (.invokevirtual 267, 3) := by decide +kernel
theorem dX6_wait_35 : decode cX6_wait 35 = .ok (.lconst 1, 1) := by decide +kernel
theorem dX6_wait_36 : decode cX6_wait 36 = .ok (.ladd, 1) := by decide +kernel
theorem dX6_wait_37 : decode cX6_wait 37 = .ok (.lstore_n 3, 1) := by decide +kernel
theorem dX6_wait_38 : decode cX6_wait 38 = .ok (.aload_n 2, 1) := by decide +kernel
theorem dX6_wait_39 : decode cX6_wait 39 = .ok (.aload_n 0, 1) := by decide +kernel
theorem dX6_wait_40 : decode cX6_wait 40 = .ok (.getfield 7, 3) := by decide +kernel
theorem dX6_wait_43 : decode cX6_wait 43 = .ok (.invokevirtual 112, 3) := by decide +kernel
theorem dX6_wait_46 : decode cX6_wait 46 = .ok (.lload_n 3, 1) := by decide +kernel
theorem dX6_wait_47 : decode cX6_wait 47 = .ok (.lcmp, 1) := by decide +kernel
theorem dX6_wait_48 : decode cX6_wait 48 = .ok (.ifCond .lt 5, 3) := by decide +kernel
theorem dX6_wait_51 : decode cX6_wait 51 = .ok (.lconst 0, 1) := by decide +kernel
theorem dX6_wait_52 : decode cX6_wait 52 = .ok (.lreturn, 1) := by decide +kernel
theorem dX6_wait_53 : decode cX6_wait 53 = .ok (.aload_n 2, 1) := by decide +kernel
theorem dX6_wait_54 : decode cX6_wait 54 = .ok (.aload_n 0, 1) := by decide +kernel
theorem dX6_wait_55 : decode cX6_wait 55 = .ok (.getfield 7, 3) := by decide +kernel
theorem dX6_wait_58 : decode cX6_wait 58 = .ok (.invokevirtual 109, 3) := by decide +kernel
theorem dX6_wait_61 : decode cX6_wait 61 = .ok (.aload_n 2, 1) := by decide +kernel
theorem dX6_wait_62 : decode cX6_wait 62 = .ok (.getfield 227, 3) := by decide +kernel
theorem dX6_wait_65 : decode cX6_wait 65 = .ok (.getfield 271, 3) := by decide +kernel
theorem dX6_wait_68 : decode cX6_wait 68 = .ok (.lsub, 1) := by decide +kernel
theorem dX6_wait_69 : decode cX6_wait 69 = .ok (.lstore 5, 2) := by decide +kernel
theorem dX6_wait_71 : decode cX6_wait 71 = .ok (.lload_n 3, 1) := by decide +kernel
theorem dX6_wait_72 : decode cX6_wait 72 = .ok (.aload_n 2, 1) := by decide +kernel
theorem dX6_wait_73 : decode cX6_wait 73 = .ok (.getfield 227, 3) := by decide +kernel
theorem dX6_wait_76 : decode cX6_wait 76 = .ok (.getfield 274, 3) := by decide +kernel
theorem dX6_wait_79 : decode cX6_wait 79 = .ok (.lsub, 1) := by decide +kernel
theorem dX6_wait_80 : decode cX6_wait 80 = .ok (.aload_n 2, 1) := by decide +kernel
theorem dX6_wait_81 : decode cX6_wait 81 = .ok (.getfield 85, 3) := by decide +kernel
theorem dX6_wait_84 : decode cX6_wait 84 = .ok (.invokestatic 275, 3) := by decide +kernel
theorem dX6_wait_87 : decode cX6_wait 87 = .ok (.lload 5, 2) := by decide +kernel
theorem dX6_wait_89 : decode cX6_wait 89 = .ok (.lsub, 1) := by decide +kernel
theorem dX6_wait_90 : decode cX6_wait 90 = .ok (.lreturn, 1) := by decide +kernel
theorem dX6_event_0 : decode cX6_event 0 = .ok (.aload_n 0, 1) := by decide +kernel
theorem dX6_event_1 : decode cX6_event 1 = .ok (.iload_n 1, 1) := by decide +kernel
theorem dX6_event_2 : decode cX6_event 2 = .ok (.invokevirtual 253, 3) := by decide +kernel
theorem dX6_event_5 : decode cX6_event 5 = .ok (.astore_n 2, 1) := by decide +kernel
theorem dX6_event_6 : decode cX6_event 6 = .ok (.aload_n 2, 1) := by decide +kernel
theorem dX6_event_7 : decode cX6_event 7 = .ok (.ifnull 15, 3) := by decide +kernel
theorem dX6_event_10 : decode cX6_event 10 = .ok (.aload_n 0, 1) := by decide +kernel
theorem dX6_event_11 : decode cX6_event 11 = .ok (.getfield 51, 3) := by decide +kernel
theorem dX6_event_14 : decode cX6_event 14 = .ok (.getfield 279, 3) := by decide +kernel
theorem dX6_event_17 : decode cX6_event 17 = .ok (.bipush 30, 2) := by decide +kernel
theorem dX6_event_19 : decode cX6_event 19 = .ok (.if_icmp .lt 7, 3) := by decide +kernel
theorem dX6_event_22 : decode cX6_event 22 = .ok (.ldc2_w 58, 3) := by decide +kernel
theorem dX6_event_25 : decode cX6_event 25 = .ok (.lreturn, 1) := by decide +kernel
theorem dX6_event_26 : decode cX6_event 26 = .ok (.aload_n 0, 1) := by decide +kernel
theorem dX6_event_27 : decode cX6_event 27 = .ok (.getfield 51, 3) := by decide +kernel
theorem dX6_event_30 : decode cX6_event 30 = .ok (.aload_n 2, 1) := by decide +kernel
theorem dX6_event_31 : decode cX6_event 31 = .ok (.getfield 257, 3) := by decide +kernel
theorem dX6_event_34 : decode cX6_event 34 = .ok (.aload_n 2, 1) := by decide +kernel
theorem dX6_event_35 : decode cX6_event 35 = .ok (.getfield 258, 3) := by decide +kernel
theorem dX6_event_38 : decode cX6_event 38 = .ok (.invokevirtual 282, 3) := by decide +kernel
theorem dX6_event_41 : decode cX6_event 41 = .ok (.lreturn, 1) := by decide +kernel
theorem dX6_link_0 : decode cX6_link 0 = .ok (.aload_n 0, 1) := by decide +kernel
theorem dX6_link_1 : decode cX6_link 1 = .ok (.getfield 51, 3) := by decide +kernel
theorem dX6_link_4 : decode cX6_link 4 = .ok (.iload_n 1, 1) := by decide +kernel
theorem dX6_link_5 : decode cX6_link 5 = .ok (.invokevirtual 285, 3) := by decide +kernel
theorem dX6_link_8 : decode cX6_link 8 = .ok (.ifCond .eq 31, 3) := by decide +kernel
theorem dX6_link_11 : decode cX6_link 11 = .ok (.aload_n 0, 1) := by decide +kernel
theorem dX6_link_12 : decode cX6_link 12 = .ok (.getfield 51, 3) := by decide +kernel
theorem dX6_link_15 : decode cX6_link 15 = .ok (.iload_n 2, 1) := by decide +kernel
theorem dX6_link_16 : decode cX6_link 16 = .ok (.invokevirtual 285, 3) := by decide +kernel
theorem dX6_link_19 : decode cX6_link 19 = .ok (.ifCond .eq 20, 3) := by decide +kernel
theorem dX6_link_22 : decode cX6_link 22 = .ok (.iload_n 1, 1) := by decide +kernel
theorem dX6_link_23 : decode cX6_link 23 = .ok (.iload_n 2, 1) := by decide +kernel
theorem dX6_link_24 : decode cX6_link 24 = .ok (.if_icmp .eq 15, 3) := by decide +kernel
theorem dX6_link_27 : decode cX6_link 27 = .ok (.aload_n 0, 1) := by decide +kernel
theorem dX6_link_28 : decode cX6_link 28 = .ok (.getfield 51, 3) := by decide +kernel
theorem dX6_link_31 : decode cX6_link 31 = .ok (.getfield 288, 3) := by decide +kernel
theorem dX6_link_34 : decode cX6_link 34 = .ok (.bipush 60, 2) := by decide +kernel
theorem dX6_link_36 : decode cX6_link 36 = .ok (.if_icmp .lt 7, 3) := by decide +kernel
theorem dX6_link_39 : decode cX6_link 39 = .ok (.ldc2_w 58, 3) := by decide +kernel
theorem dX6_link_42 : decode cX6_link 42 = .ok (.lreturn, 1) := by decide +kernel
theorem dX6_link_43 : decode cX6_link 43 = .ok (.aload_n 0, 1) := by decide +kernel
theorem dX6_link_44 : decode cX6_link 44 = .ok (.getfield 51, 3) := by decide +kernel
theorem dX6_link_47 : decode cX6_link 47 = .ok (.iload_n 1, 1) := by decide +kernel
theorem dX6_link_48 : decode cX6_link 48 = .ok (.iload_n 2, 1) := by decide +kernel
theorem dX6_link_49 : decode cX6_link 49 = .ok (.invokevirtual 291, 3) := by decide +kernel
theorem dX6_link_52 : decode cX6_link 52 = .ok (.lreturn, 1) := by decide +kernel
theorem dX6_mend_0 : decode cX6_mend 0 = .ok (.aload_n 0, 1) := by decide +kernel
theorem dX6_mend_1 : decode cX6_mend 1 = .ok (.getfield 51, 3) := by decide +kernel
theorem dX6_mend_4 : decode cX6_mend 4 = .ok (.invokevirtual 295, 3) := by decide +kernel
theorem dX6_mend_7 : decode cX6_mend 7 = .ok (.aload_n 0, 1) := by decide +kernel
theorem dX6_mend_8 : decode cX6_mend 8 = .ok (.getfield 51, 3) := by decide +kernel
theorem dX6_mend_11 : decode cX6_mend 11 = .ok (.getfield 298, 3) := by decide +kernel
theorem dX6_mend_14 : decode cX6_mend 14 = .ok (.lreturn, 1) := by decide +kernel
theorem dX6_order_0 : decode cX6_order 0 = .ok (.aload_n 0, 1) := by decide +kernel
theorem dX6_order_1 : decode cX6_order 1 = .ok (.getfield 51, 3) := by decide +kernel
theorem dX6_order_4 : decode cX6_order 4 = .ok (.invokevirtual 295, 3) := by decide +kernel
theorem dX6_order_7 : decode cX6_order 7 = .ok (.aload_n 0, 1) := by decide +kernel
theorem dX6_order_8 : decode cX6_order 8 = .ok (.getfield 51, 3) := by decide +kernel
theorem dX6_order_11 : decode cX6_order 11 = .ok (.getfield 298, 3) := by decide +kernel
theorem dX6_order_14 : decode cX6_order 14 = .ok (.lconst 0, 1) := by decide +kernel
theorem dX6_order_15 : decode cX6_order 15 = .ok (.lcmp, 1) := by decide +kernel
theorem dX6_order_16 : decode cX6_order 16 = .ok (.ifCond .lt 14, 3) := by decide +kernel
theorem dX6_order_19 : decode cX6_order 19 = .ok (.aload_n 0, 1) := by decide +kernel
theorem dX6_order_20 : decode cX6_order 20 = .ok (.getfield 51, 3) := by decide +kernel
theorem dX6_order_23 : decode cX6_order 23 = .ok (.iload_n 1, 1) := by decide +kernel
theorem dX6_order_24 : decode cX6_order 24 = .ok (.invokevirtual 285, 3) := by decide +kernel
theorem dX6_order_27 : decode cX6_order 27 = .ok (.ifCond .ne 9, 3) := by decide +kernel
theorem dX6_order_30 : decode cX6_order 30 = .ok (.ldc2_w 58, 3) := by decide +kernel
theorem dX6_order_33 : decode cX6_order 33 = .ok (.goto 13, 3) := by decide +kernel
theorem dX6_order_36 : decode cX6_order 36 = .ok (.aload_n 0, 1) := by decide +kernel
theorem dX6_order_37 : decode cX6_order 37 = .ok (.getfield 51, 3) := by decide +kernel
theorem dX6_order_40 : decode cX6_order 40 = .ok (.getfield 301, 3) := by decide +kernel
theorem dX6_order_43 : decode cX6_order 43 = .ok (.iload_n 1, 1) := by decide +kernel
theorem dX6_order_44 : decode cX6_order 44 = .ok (.iaload, 1) := by decide +kernel
theorem dX6_order_45 : decode cX6_order 45 = .ok (.i2l, 1) := by decide +kernel
theorem dX6_order_46 : decode cX6_order 46 = .ok (.lreturn, 1) := by decide +kernel
theorem dX6_time_0 : decode cX6_time 0 = .ok (.aload_n 0, 1) := by decide +kernel
theorem dX6_time_1 : decode cX6_time 1 = .ok (.getfield 51, 3) := by decide +kernel
theorem dX6_time_4 : decode cX6_time 4 = .ok (.invokevirtual 295, 3) := by decide +kernel
theorem dX6_time_7 : decode cX6_time 7 = .ok (.aload_n 0, 1) := by decide +kernel
theorem dX6_time_8 : decode cX6_time 8 = .ok (.getfield 51, 3) := by decide +kernel
theorem dX6_time_11 : decode cX6_time 11 = .ok (.getfield 298, 3) := by decide +kernel
theorem dX6_time_14 : decode cX6_time 14 = .ok (.lconst 0, 1) := by decide +kernel
theorem dX6_time_15 : decode cX6_time 15 = .ok (.lcmp, 1) := by decide +kernel
theorem dX6_time_16 : decode cX6_time 16 = .ok (.ifCond .lt 14, 3) := by decide +kernel
theorem dX6_time_19 : decode cX6_time 19 = .ok (.aload_n 0, 1) := by decide +kernel
theorem dX6_time_20 : decode cX6_time 20 = .ok (.getfield 51, 3) := by decide +kernel
theorem dX6_time_23 : decode cX6_time 23 = .ok (.iload_n 1, 1) := by decide +kernel
theorem dX6_time_24 : decode cX6_time 24 = .ok (.invokevirtual 285, 3) := by decide +kernel
theorem dX6_time_27 : decode cX6_time 27 = .ok (.ifCond .ne 9, 3) := by decide +kernel
theorem dX6_time_30 : decode cX6_time 30 = .ok (.ldc2_w 58, 3) := by decide +kernel
theorem dX6_time_33 : decode cX6_time 33 = .ok (.goto 20, 3) := by decide +kernel
theorem dX6_time_36 : decode cX6_time 36 = .ok (.aload_n 0, 1) := by decide +kernel
theorem dX6_time_37 : decode cX6_time 37 = .ok (.getfield 51, 3) := by decide +kernel
theorem dX6_time_40 : decode cX6_time 40 = .ok (.getfield 305, 3) := by decide +kernel
theorem dX6_time_43 : decode cX6_time 43 = .ok (.iload_n 1, 1) := by decide +kernel
theorem dX6_time_44 : decode cX6_time 44 = .ok (.laload, 1) := by decide +kernel
theorem dX6_time_45 : decode cX6_time 45 = .ok (.aload_n 0, 1) := by decide +kernel
theorem dX6_time_46 : decode cX6_time 46 = .ok (.getfield 51, 3) := by decide +kernel
theorem dX6_time_49 : decode cX6_time 49 = .ok (.getfield 298, 3) := by decide +kernel
theorem dX6_time_52 : decode cX6_time 52 = .ok (.lsub, 1) := by decide +kernel
theorem dX6_time_53 : decode cX6_time 53 = .ok (.lreturn, 1) := by decide +kernel
theorem dX6_ring_0 : decode cX6_ring 0 = .ok (.aload_n 0, 1) := by decide +kernel
theorem dX6_ring_1 : decode cX6_ring 1 = .ok (.getfield 51, 3) := by decide +kernel
theorem dX6_ring_4 : decode cX6_ring 4 = .ok (.invokevirtual 295, 3) := by decide +kernel
theorem dX6_ring_7 : decode cX6_ring 7 = .ok (.aload_n 0, 1) := by decide +kernel
theorem dX6_ring_8 : decode cX6_ring 8 = .ok (.getfield 51, 3) := by decide +kernel
theorem dX6_ring_11 : decode cX6_ring 11 = .ok (.getfield 309, 3) := by decide +kernel
theorem dX6_ring_14 : decode cX6_ring 14 = .ok (.ifCond .eq 7, 3) := by decide +kernel
theorem dX6_ring_17 : decode cX6_ring 17 = .ok (.iload_n 1, 1) := by decide +kernel
theorem dX6_ring_18 : decode cX6_ring 18 = .ok (.ifCond .ge 7, 3) := by decide +kernel
theorem dX6_ring_21 : decode cX6_ring 21 = .ok (.ldc2_w 58, 3) := by decide +kernel
theorem dX6_ring_24 : decode cX6_ring 24 = .ok (.lreturn, 1) := by decide +kernel
theorem dX6_ring_25 : decode cX6_ring 25 = .ok (.iload_n 1, 1) := by decide +kernel
theorem dX6_ring_26 : decode cX6_ring 26 = .ok (.aload_n 0, 1) := by decide +kernel
theorem dX6_ring_27 : decode cX6_ring 27 = .ok (.getfield 51, 3) := by decide +kernel
theorem dX6_ring_30 : decode cX6_ring 30 = .ok (.getfield 309, 3) := by decide +kernel
theorem dX6_ring_33 : decode cX6_ring 33 = .ok (.if_icmp .ge 16, 3) := by decide +kernel
theorem dX6_ring_36 : decode cX6_ring 36 = .ok (.aload_n 0, 1) := by decide +kernel
theorem dX6_ring_37 : decode cX6_ring 37 = .ok (.getfield 51, 3) := by decide +kernel
theorem dX6_ring_40 : decode cX6_ring 40 = .ok (.getfield 312, 3) := by decide +kernel
theorem dX6_ring_43 : decode cX6_ring 43 = .ok (.iload_n 1, 1) := by decide +kernel
theorem dX6_ring_44 : decode cX6_ring 44 = .ok (.iaload, 1) := by decide +kernel
theorem dX6_ring_45 : decode cX6_ring 45 = .ok (.i2l, 1) := by decide +kernel
theorem dX6_ring_46 : decode cX6_ring 46 = .ok (.goto 6, 3) := by decide +kernel
theorem dX6_ring_49 : decode cX6_ring 49 = .ok (.ldc2_w 265, 3) := by decide +kernel
theorem dX6_ring_52 : decode cX6_ring 52 = .ok (.lreturn, 1) := by decide +kernel
theorem dX6_count_0 : decode cX6_count 0 = .ok (.iload_n 1, 1) := by decide +kernel
theorem dX6_count_1 : decode cX6_count 1 = .ok (.tableswitch 90 0 6 #[43, 49, 55, 61, 67, 76, 85], 43) := by decide +kernel
theorem dX6_count_44 : decode cX6_count 44 = .ok (.aload_n 0, 1) := by decide +kernel
theorem dX6_count_45 : decode cX6_count 45 = .ok (.getfield 19, 3) := by decide +kernel
theorem dX6_count_48 : decode cX6_count 48 = .ok (.i2l, 1) := by decide +kernel
theorem dX6_count_49 : decode cX6_count 49 = .ok (.lreturn, 1) := by decide +kernel
theorem dX6_count_50 : decode cX6_count 50 = .ok (.aload_n 0, 1) := by decide +kernel
theorem dX6_count_51 : decode cX6_count 51 = .ok (.getfield 29, 3) := by decide +kernel
theorem dX6_count_54 : decode cX6_count 54 = .ok (.i2l, 1) := by decide +kernel
theorem dX6_count_55 : decode cX6_count 55 = .ok (.lreturn, 1) := by decide +kernel
theorem dX6_count_56 : decode cX6_count 56 = .ok (.aload_n 0, 1) := by decide +kernel
theorem dX6_count_57 : decode cX6_count 57 = .ok (.invokevirtual 315, 3) := by decide +kernel
theorem dX6_count_60 : decode cX6_count 60 = .ok (.i2l, 1) := by decide +kernel
theorem dX6_count_61 : decode cX6_count 61 = .ok (.lreturn, 1) := by decide +kernel
theorem dX6_count_62 : decode cX6_count 62 = .ok (.aload_n 0, 1) := by decide +kernel
theorem dX6_count_63 : decode cX6_count 63 = .ok (.getfield 38, 3) := by decide +kernel
theorem dX6_count_66 : decode cX6_count 66 = .ok (.i2l, 1) := by decide +kernel
theorem dX6_count_67 : decode cX6_count 67 = .ok (.lreturn, 1) := by decide +kernel
theorem dX6_count_68 : decode cX6_count 68 = .ok (.aload_n 0, 1) := by decide +kernel
theorem dX6_count_69 : decode cX6_count 69 = .ok (.getfield 51, 3) := by decide +kernel
theorem dX6_count_72 : decode cX6_count 72 = .ok (.getfield 279, 3) := by decide +kernel
theorem dX6_count_75 : decode cX6_count 75 = .ok (.i2l, 1) := by decide +kernel
theorem dX6_count_76 : decode cX6_count 76 = .ok (.lreturn, 1) := by decide +kernel
theorem dX6_count_77 : decode cX6_count 77 = .ok (.aload_n 0, 1) := by decide +kernel
theorem dX6_count_78 : decode cX6_count 78 = .ok (.getfield 51, 3) := by decide +kernel
theorem dX6_count_81 : decode cX6_count 81 = .ok (.getfield 288, 3) := by decide +kernel
theorem dX6_count_84 : decode cX6_count 84 = .ok (.i2l, 1) := by decide +kernel
theorem dX6_count_85 : decode cX6_count 85 = .ok (.lreturn, 1) := by decide +kernel
theorem dX6_count_86 : decode cX6_count 86 = .ok (.aload_n 0, 1) := by decide +kernel
theorem dX6_count_87 : decode cX6_count 87 = .ok (.getfield 7, 3) := by decide +kernel
theorem dX6_count_90 : decode cX6_count 90 = .ok (.lreturn, 1) := by decide +kernel
theorem dX6_count_91 : decode cX6_count 91 = .ok (.ldc2_w 58, 3) := by decide +kernel
theorem dX6_count_94 : decode cX6_count 94 = .ok (.lreturn, 1) := by decide +kernel
theorem dX6_findMember_0 : decode cX6_findMember 0 = .ok (.iload_n 1, 1) := by decide +kernel
theorem dX6_findMember_1 : decode cX6_findMember 1 = .ok (.ifCond .lt 11, 3) := by decide +kernel
theorem dX6_findMember_4 : decode cX6_findMember 4 = .ok (.iload_n 1, 1) := by decide +kernel
theorem dX6_findMember_5 : decode cX6_findMember 5 = .ok (.aload_n 0, 1) := by decide +kernel
theorem dX6_findMember_6 : decode cX6_findMember 6 = .ok (.getfield 19, 3) := by decide +kernel
theorem dX6_findMember_9 : decode cX6_findMember 9 = .ok (.if_icmp .lt 7, 3) := by decide +kernel
theorem dX6_findMember_12 : decode cX6_findMember 12 = .ok (.aconst_null, 1) := by decide +kernel
theorem dX6_findMember_13 : decode cX6_findMember 13 = .ok (.goto 9, 3) := by decide +kernel
theorem dX6_findMember_16 : decode cX6_findMember 16 = .ok (.aload_n 0, 1) := by decide +kernel
theorem dX6_findMember_17 : decode cX6_findMember 17 = .ok (.getfield 15, 3) := by decide +kernel
theorem dX6_findMember_20 : decode cX6_findMember 20 = .ok (.iload_n 1, 1) := by decide +kernel
theorem dX6_findMember_21 : decode cX6_findMember 21 = .ok (.aaload, 1) := by decide +kernel
theorem dX6_findMember_22 : decode cX6_findMember 22 = .ok (.areturn, 1) := by decide +kernel
theorem dX6_findLetter_0 : decode cX6_findLetter 0 = .ok (.iload_n 1, 1) := by decide +kernel
theorem dX6_findLetter_1 : decode cX6_findLetter 1 = .ok (.ifCond .lt 11, 3) := by decide +kernel
theorem dX6_findLetter_4 : decode cX6_findLetter 4 = .ok (.iload_n 1, 1) := by decide +kernel
theorem dX6_findLetter_5 : decode cX6_findLetter 5 = .ok (.aload_n 0, 1) := by decide +kernel
theorem dX6_findLetter_6 : decode cX6_findLetter 6 = .ok (.getfield 29, 3) := by decide +kernel
theorem dX6_findLetter_9 : decode cX6_findLetter 9 = .ok (.if_icmp .lt 7, 3) := by decide +kernel
theorem dX6_findLetter_12 : decode cX6_findLetter 12 = .ok (.aconst_null, 1) := by decide +kernel
theorem dX6_findLetter_13 : decode cX6_findLetter 13 = .ok (.goto 9, 3) := by decide +kernel
theorem dX6_findLetter_16 : decode cX6_findLetter 16 = .ok (.aload_n 0, 1) := by decide +kernel
theorem dX6_findLetter_17 : decode cX6_findLetter 17 = .ok (.getfield 25, 3) := by decide +kernel
theorem dX6_findLetter_20 : decode cX6_findLetter 20 = .ok (.iload_n 1, 1) := by decide +kernel
theorem dX6_findLetter_21 : decode cX6_findLetter 21 = .ok (.aaload, 1) := by decide +kernel
theorem dX6_findLetter_22 : decode cX6_findLetter 22 = .ok (.areturn, 1) := by decide +kernel
theorem dX6_findUnderWay_0 : decode cX6_findUnderWay 0 = .ok (.aload_n 0, 1) := by decide +kernel
theorem dX6_findUnderWay_1 : decode cX6_findUnderWay 1 = .ok (.iload_n 1, 1) := by decide +kernel
theorem dX6_findUnderWay_2 : decode cX6_findUnderWay 2 = .ok (.invokevirtual 177, 3) := by decide +kernel
theorem dX6_findUnderWay_5 : decode cX6_findUnderWay 5 = .ok (.astore_n 2, 1) := by decide +kernel
theorem dX6_findUnderWay_6 : decode cX6_findUnderWay 6 = .ok (.aload_n 2, 1) := by decide +kernel
theorem dX6_findUnderWay_7 : decode cX6_findUnderWay 7 = .ok (.ifnull 10, 3) := by decide +kernel
theorem dX6_findUnderWay_10 : decode cX6_findUnderWay 10 = .ok (.aload_n 2, 1) := by decide +kernel
theorem dX6_findUnderWay_11 : decode cX6_findUnderWay 11 = .ok (.invokevirtual 318, 3) := by decide +kernel
theorem dX6_findUnderWay_14 : decode cX6_findUnderWay 14 = .ok (.ifCond .ne 7, 3) := by decide +kernel
theorem dX6_findUnderWay_17 : decode cX6_findUnderWay 17 = .ok (.aconst_null, 1) := by decide +kernel
theorem dX6_findUnderWay_18 : decode cX6_findUnderWay 18 = .ok (.goto 4, 3) := by decide +kernel
theorem dX6_findUnderWay_21 : decode cX6_findUnderWay 21 = .ok (.aload_n 2, 1) := by decide +kernel
theorem dX6_findUnderWay_22 : decode cX6_findUnderWay 22 = .ok (.areturn, 1) := by decide +kernel
theorem dX6_findStamp_0 : decode cX6_findStamp 0 = .ok (.iload_n 1, 1) := by decide +kernel
theorem dX6_findStamp_1 : decode cX6_findStamp 1 = .ok (.ifCond .lt 11, 3) := by decide +kernel
theorem dX6_findStamp_4 : decode cX6_findStamp 4 = .ok (.iload_n 1, 1) := by decide +kernel
theorem dX6_findStamp_5 : decode cX6_findStamp 5 = .ok (.aload_n 0, 1) := by decide +kernel
theorem dX6_findStamp_6 : decode cX6_findStamp 6 = .ok (.getfield 38, 3) := by decide +kernel
theorem dX6_findStamp_9 : decode cX6_findStamp 9 = .ok (.if_icmp .lt 7, 3) := by decide +kernel
theorem dX6_findStamp_12 : decode cX6_findStamp 12 = .ok (.aconst_null, 1) := by decide +kernel
theorem dX6_findStamp_13 : decode cX6_findStamp 13 = .ok (.goto 9, 3) := by decide +kernel
theorem dX6_findStamp_16 : decode cX6_findStamp 16 = .ok (.aload_n 0, 1) := by decide +kernel
theorem dX6_findStamp_17 : decode cX6_findStamp 17 = .ok (.getfield 34, 3) := by decide +kernel
theorem dX6_findStamp_20 : decode cX6_findStamp 20 = .ok (.iload_n 1, 1) := by decide +kernel
theorem dX6_findStamp_21 : decode cX6_findStamp 21 = .ok (.aaload, 1) := by decide +kernel
theorem dX6_findStamp_22 : decode cX6_findStamp 22 = .ok (.areturn, 1) := by decide +kernel
theorem dX6_addLetter_0 : decode cX6_addLetter 0 = .ok (.aload_n 0, 1) := by decide +kernel
theorem dX6_addLetter_1 : decode cX6_addLetter 1 = .ok (.getfield 29, 3) := by decide +kernel
theorem dX6_addLetter_4 : decode cX6_addLetter 4 = .ok (.sipush 200, 3) := by decide +kernel
theorem dX6_addLetter_7 : decode cX6_addLetter 7 = .ok (.if_icmp .lt 7, 3) := by decide +kernel
theorem dX6_addLetter_10 : decode cX6_addLetter 10 = .ok (.ldc2_w 58, 3) := by decide +kernel
theorem dX6_addLetter_13 : decode cX6_addLetter 13 = .ok (.lreturn, 1) := by decide +kernel
theorem dX6_addLetter_14 : decode cX6_addLetter 14 = .ok (.aload_n 0, 1) := by decide +kernel
theorem dX6_addLetter_15 : decode cX6_addLetter 15 = .ok (.getfield 25, 3) := by decide +kernel
theorem dX6_addLetter_18 : decode cX6_addLetter 18 = .ok (.aload_n 0, 1) := by decide +kernel
theorem dX6_addLetter_19 : decode cX6_addLetter 19 = .ok (.getfield 29, 3) := by decide +kernel
theorem dX6_addLetter_22 : decode cX6_addLetter 22 = .ok (.aload_n 1, 1) := by decide +kernel
theorem dX6_addLetter_23 : decode cX6_addLetter 23 = .ok (.aastore, 1) := by decide +kernel
theorem dX6_addLetter_24 : decode cX6_addLetter 24 = .ok (.aload_n 0, 1) := by decide +kernel
theorem dX6_addLetter_25 : decode cX6_addLetter 25 = .ok (.dup, 1) := by decide +kernel
theorem dX6_addLetter_26 : decode cX6_addLetter 26 = .ok (.getfield 29, 3) := by decide +kernel
theorem dX6_addLetter_29 : decode cX6_addLetter 29 = .ok (.iconst 1, 1) := by decide +kernel
theorem dX6_addLetter_30 : decode cX6_addLetter 30 = .ok (.iadd, 1) := by decide +kernel
theorem dX6_addLetter_31 : decode cX6_addLetter 31 = .ok (.putfield 29, 3) := by decide +kernel
theorem dX6_addLetter_34 : decode cX6_addLetter 34 = .ok (.aload_n 0, 1) := by decide +kernel
theorem dX6_addLetter_35 : decode cX6_addLetter 35 = .ok (.getfield 29, 3) := by decide +kernel
theorem dX6_addLetter_38 : decode cX6_addLetter 38 = .ok (.iconst 1, 1) := by decide +kernel
theorem dX6_addLetter_39 : decode cX6_addLetter 39 = .ok (.isub, 1) := by decide +kernel
theorem dX6_addLetter_40 : decode cX6_addLetter 40 = .ok (.i2l, 1) := by decide +kernel
theorem dX6_addLetter_41 : decode cX6_addLetter 41 = .ok (.lreturn, 1) := by decide +kernel
theorem dX6_howManyUnderWay_0 : decode cX6_howManyUnderWay 0 = .ok (.iconst 0, 1) := by decide +kernel
theorem dX6_howManyUnderWay_1 : decode cX6_howManyUnderWay 1 = .ok (.istore_n 1, 1) := by decide +kernel
theorem dX6_howManyUnderWay_2 : decode cX6_howManyUnderWay 2 = .ok (.iconst 0, 1) := by decide +kernel
theorem dX6_howManyUnderWay_3 : decode cX6_howManyUnderWay 3 = .ok (.istore_n 2, 1) := by decide +kernel
theorem dX6_howManyUnderWay_4 : decode cX6_howManyUnderWay 4 = .ok (.iload_n 2, 1) := by decide +kernel
theorem dX6_howManyUnderWay_5 : decode cX6_howManyUnderWay 5 = .ok (.aload_n 0, 1) := by decide +kernel
theorem dX6_howManyUnderWay_6 : decode cX6_howManyUnderWay 6 = .ok (.getfield 29, 3) := by decide +kernel
theorem dX6_howManyUnderWay_9 : decode cX6_howManyUnderWay 9 = .ok (.if_icmp .ge 20, 3) := by decide +kernel
theorem dX6_howManyUnderWay_12 : decode cX6_howManyUnderWay 12 = .ok (.aload_n 0, 1) := by decide +kernel
theorem dX6_howManyUnderWay_13 : decode cX6_howManyUnderWay 13 = .ok (.iload_n 2, 1) := by decide +kernel
theorem dX6_howManyUnderWay_14 : decode cX6_howManyUnderWay 14 = .ok (.invokevirtual 142, 3) := by decide +kernel
theorem dX6_howManyUnderWay_17 : decode cX6_howManyUnderWay 17 = .ok (.ifnull 6, 3) := by decide +kernel
theorem dX6_howManyUnderWay_20 : decode cX6_howManyUnderWay 20 = .ok (.iinc 1 1, 3) := by decide +kernel
theorem dX6_howManyUnderWay_23 : decode cX6_howManyUnderWay 23 = .ok (.iinc 2 1, 3) := by decide +kernel
theorem dX6_howManyUnderWay_26 : decode cX6_howManyUnderWay 26 = .ok (.goto (-22), 3) := by decide +kernel
theorem dX6_howManyUnderWay_29 : decode cX6_howManyUnderWay 29 = .ok (.iload_n 1, 1) := by decide +kernel
theorem dX6_howManyUnderWay_30 : decode cX6_howManyUnderWay 30 = .ok (.ireturn, 1) := by decide +kernel
theorem dX6_gather_0 : decode cX6_gather 0 = .ok (.aload_n 0, 1) := by decide +kernel
theorem dX6_gather_1 : decode cX6_gather 1 = .ok (.getfield 44, 3) := by decide +kernel
theorem dX6_gather_4 : decode cX6_gather 4 = .ok (.invokevirtual 322, 3) := by decide +kernel
theorem dX6_gather_7 : decode cX6_gather 7 = .ok (.aload_n 0, 1) := by decide +kernel
theorem dX6_gather_8 : decode cX6_gather 8 = .ok (.getfield 44, 3) := by decide +kernel
theorem dX6_gather_11 : decode cX6_gather 11 = .ok (.aload_n 1, 1) := by decide +kernel
theorem dX6_gather_12 : decode cX6_gather 12 = .ok (.getfield 180, 3) := by decide +kernel
theorem dX6_gather_15 : decode cX6_gather 15 = .ok (.aload_n 1, 1) := by decide +kernel
theorem dX6_gather_16 : decode cX6_gather 16 = .ok (.aload_n 0, 1) := by decide +kernel
theorem dX6_gather_17 : decode cX6_gather 17 = .ok (.getfield 7, 3) := by decide +kernel
theorem dX6_gather_20 : decode cX6_gather 20 = .ok (.invokevirtual 112, 3) := by decide +kernel
theorem dX6_gather_23 : decode cX6_gather 23 = .ok (.aload_n 1, 1) := by decide +kernel
theorem dX6_gather_24 : decode cX6_gather 24 = .ok (.aload_n 0, 1) := by decide +kernel
theorem dX6_gather_25 : decode cX6_gather 25 = .ok (.getfield 7, 3) := by decide +kernel
theorem dX6_gather_28 : decode cX6_gather 28 = .ok (.invokevirtual 115, 3) := by decide +kernel
theorem dX6_gather_31 : decode cX6_gather 31 = .ok (.invokevirtual 325, 3) := by decide +kernel
theorem dX6_gather_34 : decode cX6_gather 34 = .ok (.iconst 0, 1) := by decide +kernel
theorem dX6_gather_35 : decode cX6_gather 35 = .ok (.istore_n 2, 1) := by decide +kernel
theorem dX6_gather_36 : decode cX6_gather 36 = .ok (.iload_n 2, 1) := by decide +kernel
theorem dX6_gather_37 : decode cX6_gather 37 = .ok (.aload_n 0, 1) := by decide +kernel
theorem dX6_gather_38 : decode cX6_gather 38 = .ok (.getfield 19, 3) := by decide +kernel
theorem dX6_gather_41 : decode cX6_gather 41 = .ok (.if_icmp .ge 43, 3) := by decide +kernel
theorem dX6_gather_44 : decode cX6_gather 44 = .ok (.aload_n 1, 1) := by decide +kernel
theorem dX6_gather_45 : decode cX6_gather 45 = .ok (.iload_n 2, 1) := by decide +kernel
theorem dX6_gather_46 : decode cX6_gather 46 = .ok (.invokevirtual 183, 3) := by decide +kernel
theorem dX6_gather_49 : decode cX6_gather 49 = .ok (.ifCond .eq 29, 3) := by decide +kernel
theorem dX6_gather_52 : decode cX6_gather 52 = .ok (.aload_n 0, 1) := by decide +kernel
theorem dX6_gather_53 : decode cX6_gather 53 = .ok (.getfield 44, 3) := by decide +kernel
theorem dX6_gather_56 : decode cX6_gather 56 = .ok (.iload_n 2, 1) := by decide +kernel
theorem dX6_gather_57 : decode cX6_gather 57 = .ok (.aload_n 1, 1) := by decide +kernel
theorem dX6_gather_58 : decode cX6_gather 58 = .ok (.iload_n 2, 1) := by decide +kernel
theorem dX6_gather_59 : decode cX6_gather 59 = .ok (.aload_n 0, 1) := by decide +kernel
theorem dX6_gather_60 : decode cX6_gather 60 = .ok (.getfield 7, 3) := by decide +kernel
theorem dX6_gather_63 : decode cX6_gather 63 = .ok (.invokevirtual 187, 3) := by decide +kernel
theorem dX6_gather_66 : decode cX6_gather 66 = .ok (.aload_n 1, 1) := by decide +kernel
theorem dX6_gather_67 : decode cX6_gather 67 = .ok (.iload_n 2, 1) := by decide +kernel
theorem dX6_gather_68 : decode cX6_gather 68 = .ok (.aload_n 0, 1) := by decide +kernel
theorem dX6_gather_69 : decode cX6_gather 69 = .ok (.getfield 7, 3) := by decide +kernel
theorem dX6_gather_72 : decode cX6_gather 72 = .ok (.invokevirtual 191, 3) := by decide +kernel
theorem dX6_gather_75 : decode cX6_gather 75 = .ok (.invokevirtual 325, 3) := by decide +kernel
theorem dX6_gather_78 : decode cX6_gather 78 = .ok (.iinc 2 1, 3) := by decide +kernel
theorem dX6_gather_81 : decode cX6_gather 81 = .ok (.goto (-45), 3) := by decide +kernel
theorem dX6_gather_84 : decode cX6_gather 84 = .ok (.return_, 1) := by decide +kernel
theorem dX6_noteMeeting_0 : decode cX6_noteMeeting 0 = .ok (.iconst 0, 1) := by decide +kernel
theorem dX6_noteMeeting_1 : decode cX6_noteMeeting 1 = .ok (.istore_n 2, 1) := by decide +kernel
theorem dX6_noteMeeting_2 : decode cX6_noteMeeting 2 = .ok (.iload_n 2, 1) := by decide +kernel
theorem dX6_noteMeeting_3 : decode cX6_noteMeeting 3 = .ok (.aload_n 0, 1) := by decide +kernel
theorem dX6_noteMeeting_4 : decode cX6_noteMeeting 4 = .ok (.getfield 44, 3) := by decide +kernel
theorem dX6_noteMeeting_7 : decode cX6_noteMeeting 7 = .ok (.getfield 202, 3) := by decide +kernel
theorem dX6_noteMeeting_10 : decode cX6_noteMeeting 10 = .ok (.if_icmp .ge 54, 3) := by decide +kernel
theorem dX6_noteMeeting_13 : decode cX6_noteMeeting 13 = .ok (.aload_n 0, 1) := by decide +kernel
theorem dX6_noteMeeting_14 : decode cX6_noteMeeting 14 = .ok (.aload_n 0, 1) := by decide +kernel
theorem dX6_noteMeeting_15 : decode cX6_noteMeeting 15 = .ok (.getfield 44, 3) := by decide +kernel
theorem dX6_noteMeeting_18 : decode cX6_noteMeeting 18 = .ok (.getfield 329, 3) := by decide +kernel
theorem dX6_noteMeeting_21 : decode cX6_noteMeeting 21 = .ok (.iload_n 2, 1) := by decide +kernel
theorem dX6_noteMeeting_22 : decode cX6_noteMeeting 22 = .ok (.iaload, 1) := by decide +kernel
theorem dX6_noteMeeting_23 : decode cX6_noteMeeting 23 = .ok (.invokevirtual 64, 3) := by decide +kernel
theorem dX6_noteMeeting_26 : decode cX6_noteMeeting 26 = .ok (.astore_n 3, 1) := by decide +kernel
theorem dX6_noteMeeting_27 : decode cX6_noteMeeting 27 = .ok (.aload_n 3, 1) := by decide +kernel
theorem dX6_noteMeeting_28 : decode cX6_noteMeeting 28 = .ok (.ifnull 30, 3) := by decide +kernel
theorem dX6_noteMeeting_31 : decode cX6_noteMeeting 31 = .ok (.aload_n 3, 1) := by decide +kernel
theorem dX6_noteMeeting_32 : decode cX6_noteMeeting 32 = .ok (.dup, 1) := by decide +kernel
theorem dX6_noteMeeting_33 : decode cX6_noteMeeting 33 = .ok (.getfield 128, 3) := by decide +kernel
theorem dX6_noteMeeting_36 : decode cX6_noteMeeting 36 = .ok (.iconst 1, 1) := by decide +kernel
theorem dX6_noteMeeting_37 : decode cX6_noteMeeting 37 = .ok (.iadd, 1) := by decide +kernel
theorem dX6_noteMeeting_38 : decode cX6_noteMeeting 38 = .ok (.putfield 128, 3) := by decide +kernel
theorem dX6_noteMeeting_41 : decode cX6_noteMeeting 41 = .ok (.aload_n 3, 1) := by decide +kernel
theorem dX6_noteMeeting_42 : decode cX6_noteMeeting 42 = .ok (.dup, 1) := by decide +kernel
theorem dX6_noteMeeting_43 : decode cX6_noteMeeting 43 = .ok (.getfield 125, 3) := by decide +kernel
theorem dX6_noteMeeting_46 : decode cX6_noteMeeting 46 = .ok (.iload_n 1, 1) := by decide +kernel
theorem dX6_noteMeeting_47 : decode cX6_noteMeeting 47 = .ok (.aload_n 3, 1) := by decide +kernel
theorem dX6_noteMeeting_48 : decode cX6_noteMeeting 48 = .ok (.getfield 180, 3) := by decide +kernel
theorem dX6_noteMeeting_51 : decode cX6_noteMeeting 51 = .ok (.ishr, 1) := by decide +kernel
theorem dX6_noteMeeting_52 : decode cX6_noteMeeting 52 = .ok (.iconst 1, 1) := by decide +kernel
theorem dX6_noteMeeting_53 : decode cX6_noteMeeting 53 = .ok (.iand, 1) := by decide +kernel
theorem dX6_noteMeeting_54 : decode cX6_noteMeeting 54 = .ok (.iadd, 1) := by decide +kernel
theorem dX6_noteMeeting_55 : decode cX6_noteMeeting 55 = .ok (.putfield 125, 3) := by decide +kernel
theorem dX6_noteMeeting_58 : decode cX6_noteMeeting 58 = .ok (.iinc 2 1, 3) := by decide +kernel
theorem dX6_noteMeeting_61 : decode cX6_noteMeeting 61 = .ok (.goto (-59), 3) := by decide +kernel
theorem dX6_noteMeeting_64 : decode cX6_noteMeeting 64 = .ok (.return_, 1) := by decide +kernel
theorem dX6_latestStamped_0 : decode cX6_latestStamped 0 = .ok (.ldc2_w 58, 3) := by decide +kernel
theorem dX6_latestStamped_3 : decode cX6_latestStamped 3 = .ok (.lstore_n 1, 1) := by decide +kernel
theorem dX6_latestStamped_4 : decode cX6_latestStamped 4 = .ok (.iconst 0, 1) := by decide +kernel
theorem dX6_latestStamped_5 : decode cX6_latestStamped 5 = .ok (.istore_n 3, 1) := by decide +kernel
theorem dX6_latestStamped_6 : decode cX6_latestStamped 6 = .ok (.iload_n 3, 1) := by decide +kernel
theorem dX6_latestStamped_7 : decode cX6_latestStamped 7 = .ok (.aload_n 0, 1) := by decide +kernel
theorem dX6_latestStamped_8 : decode cX6_latestStamped 8 = .ok (.getfield 38, 3) := by decide +kernel
theorem dX6_latestStamped_11 : decode cX6_latestStamped 11 = .ok (.if_icmp .ge 31, 3) := by decide +kernel
theorem dX6_latestStamped_14 : decode cX6_latestStamped 14 = .ok (.aload_n 0, 1) := by decide +kernel
theorem dX6_latestStamped_15 : decode cX6_latestStamped 15 = .ok (.iload_n 3, 1) := by decide +kernel
theorem dX6_latestStamped_16 : decode cX6_latestStamped 16 = .ok (.invokevirtual 253, 3) := by decide +kernel
theorem dX6_latestStamped_19 : decode cX6_latestStamped 19 = .ok (.astore 4, 2) := by decide +kernel
theorem dX6_latestStamped_21 : decode cX6_latestStamped 21 = .ok (.aload 4, 2) := by decide +kernel
theorem dX6_latestStamped_23 : decode cX6_latestStamped 23 = .ok (.ifnull 13, 3) := by decide +kernel
theorem dX6_latestStamped_26 : decode cX6_latestStamped 26 = .ok (.lload_n 1, 1) := by decide +kernel
theorem dX6_latestStamped_27 : decode cX6_latestStamped 27 = .ok (.aload 4, 2) := by decide +kernel
theorem dX6_latestStamped_29 : decode cX6_latestStamped 29 = .ok (.getfield 258, 3) := by decide +kernel
theorem dX6_latestStamped_32 : decode cX6_latestStamped 32 = .ok (.invokestatic 244, 3) := by decide +kernel
theorem dX6_latestStamped_35 : decode cX6_latestStamped 35 = .ok (.lstore_n 1, 1) := by decide +kernel
theorem dX6_latestStamped_36 : decode cX6_latestStamped 36 = .ok (.iinc 3 1, 3) := by decide +kernel
theorem dX6_latestStamped_39 : decode cX6_latestStamped 39 = .ok (.goto (-33), 3) := by decide +kernel
theorem dX6_latestStamped_42 : decode cX6_latestStamped 42 = .ok (.lload_n 1, 1) := by decide +kernel
theorem dX6_latestStamped_43 : decode cX6_latestStamped 43 = .ok (.lreturn, 1) := by decide +kernel
theorem dX6_asBit_0 : decode cX6_asBit 0 = .ok (.iload_n 0, 1) := by decide +kernel
theorem dX6_asBit_1 : decode cX6_asBit 1 = .ok (.ifCond .eq 7, 3) := by decide +kernel
theorem dX6_asBit_4 : decode cX6_asBit 4 = .ok (.lconst 1, 1) := by decide +kernel
theorem dX6_asBit_5 : decode cX6_asBit 5 = .ok (.goto 4, 3) := by decide +kernel
theorem dX6_asBit_8 : decode cX6_asBit 8 = .ok (.lconst 0, 1) := by decide +kernel
theorem dX6_asBit_9 : decode cX6_asBit 9 = .ok (.lreturn, 1) := by decide +kernel
theorem dX6_floorOf_0 : decode cX6_floorOf 0 = .ok (.lload_n 2, 1) := by decide +kernel
theorem dX6_floorOf_1 : decode cX6_floorOf 1 = .ok (.lconst 1, 1) := by decide +kernel
theorem dX6_floorOf_2 : decode cX6_floorOf 2 = .ok (.lcmp, 1) := by decide +kernel
theorem dX6_floorOf_3 : decode cX6_floorOf 3 = .ok (.ifCond .ge 7, 3) := by decide +kernel
theorem dX6_floorOf_6 : decode cX6_floorOf 6 = .ok (.lconst 0, 1) := by decide +kernel
theorem dX6_floorOf_7 : decode cX6_floorOf 7 = .ok (.goto 8, 3) := by decide +kernel
theorem dX6_floorOf_10 : decode cX6_floorOf 10 = .ok (.lload_n 0, 1) := by decide +kernel
theorem dX6_floorOf_11 : decode cX6_floorOf 11 = .ok (.lload_n 2, 1) := by decide +kernel
theorem dX6_floorOf_12 : decode cX6_floorOf 12 = .ok (.invokestatic 332, 3) := by decide +kernel
theorem dX6_floorOf_15 : decode cX6_floorOf 15 = .ok (.lreturn, 1) := by decide +kernel
theorem dX6_ceilOf_0 : decode cX6_ceilOf 0 = .ok (.lload_n 2, 1) := by decide +kernel
theorem dX6_ceilOf_1 : decode cX6_ceilOf 1 = .ok (.lconst 1, 1) := by decide +kernel
theorem dX6_ceilOf_2 : decode cX6_ceilOf 2 = .ok (.lcmp, 1) := by decide +kernel
theorem dX6_ceilOf_3 : decode cX6_ceilOf 3 = .ok (.ifCond .ge 7, 3) := by decide +kernel
theorem dX6_ceilOf_6 : decode cX6_ceilOf 6 = .ok (.lconst 0, 1) := by decide +kernel
theorem dX6_ceilOf_7 : decode cX6_ceilOf 7 = .ok (.goto 10, 3) := by decide +kernel
theorem dX6_ceilOf_10 : decode cX6_ceilOf 10 = .ok (.lload_n 0, 1) := by decide +kernel
theorem dX6_ceilOf_11 : decode cX6_ceilOf 11 = .ok (.lneg, 1) := by decide +kernel
theorem dX6_ceilOf_12 : decode cX6_ceilOf 12 = .ok (.lload_n 2, 1) := by decide +kernel
theorem dX6_ceilOf_13 : decode cX6_ceilOf 13 = .ok (.invokestatic 332, 3) := by decide +kernel
theorem dX6_ceilOf_16 : decode cX6_ceilOf 16 = .ok (.lneg, 1) := by decide +kernel
theorem dX6_ceilOf_17 : decode cX6_ceilOf 17 = .ok (.lreturn, 1) := by decide +kernel
theorem dX6_atLeast_0 : decode cX6_atLeast 0 = .ok (.lload_n 0, 1) := by decide +kernel
theorem dX6_atLeast_1 : decode cX6_atLeast 1 = .ok (.lconst 1, 1) := by decide +kernel
theorem dX6_atLeast_2 : decode cX6_atLeast 2 = .ok (.lsub, 1) := by decide +kernel
theorem dX6_atLeast_3 : decode cX6_atLeast 3 = .ok (.ldc2_w 83, 3) := by decide +kernel
theorem dX6_atLeast_6 : decode cX6_atLeast 6 = .ok (.lmul, 1) := by decide +kernel
theorem dX6_atLeast_7 : decode cX6_atLeast 7 = .ok (.sipush 1000, 3) := by decide +kernel
theorem dX6_atLeast_10 : decode cX6_atLeast 10 = .ok (.iload_n 2, 1) := by decide +kernel
theorem dX6_atLeast_11 : decode cX6_atLeast 11 = .ok (.iadd, 1) := by decide +kernel
theorem dX6_atLeast_12 : decode cX6_atLeast 12 = .ok (.i2l, 1) := by decide +kernel
theorem dX6_atLeast_13 : decode cX6_atLeast 13 = .ok (.invokestatic 240, 3) := by decide +kernel
theorem dX6_atLeast_16 : decode cX6_atLeast 16 = .ok (.lconst 1, 1) := by decide +kernel
theorem dX6_atLeast_17 : decode cX6_atLeast 17 = .ok (.ladd, 1) := by decide +kernel
theorem dX6_atLeast_18 : decode cX6_atLeast 18 = .ok (.lreturn, 1) := by decide +kernel
theorem dX6_atMost_0 : decode cX6_atMost 0 = .ok (.lload_n 0, 1) := by decide +kernel
theorem dX6_atMost_1 : decode cX6_atMost 1 = .ok (.lconst 1, 1) := by decide +kernel
theorem dX6_atMost_2 : decode cX6_atMost 2 = .ok (.ladd, 1) := by decide +kernel
theorem dX6_atMost_3 : decode cX6_atMost 3 = .ok (.ldc2_w 83, 3) := by decide +kernel
theorem dX6_atMost_6 : decode cX6_atMost 6 = .ok (.lmul, 1) := by decide +kernel
theorem dX6_atMost_7 : decode cX6_atMost 7 = .ok (.sipush 1000, 3) := by decide +kernel
theorem dX6_atMost_10 : decode cX6_atMost 10 = .ok (.iload_n 2, 1) := by decide +kernel
theorem dX6_atMost_11 : decode cX6_atMost 11 = .ok (.isub, 1) := by decide +kernel
theorem dX6_atMost_12 : decode cX6_atMost 12 = .ok (.i2l, 1) := by decide +kernel
theorem dX6_atMost_13 : decode cX6_atMost 13 = .ok (.invokestatic 335, 3) := by decide +kernel
theorem dX6_atMost_16 : decode cX6_atMost 16 = .ok (.lconst 1, 1) := by decide +kernel
theorem dX6_atMost_17 : decode cX6_atMost 17 = .ok (.lsub, 1) := by decide +kernel
theorem dX6_atMost_18 : decode cX6_atMost 18 = .ok (.lreturn, 1) := by decide +kernel
theorem dX6_countFor_0 : decode cX6_countFor 0 = .ok (.lload_n 0, 1) := by decide +kernel
theorem dX6_countFor_1 : decode cX6_countFor 1 = .ok (.lload_n 0, 1) := by decide +kernel
theorem dX6_countFor_2 : decode cX6_countFor 2 = .ok (.lconst 1, 1) := by decide +kernel
theorem dX6_countFor_3 : decode cX6_countFor 3 = .ok (.lsub, 1) := by decide +kernel
theorem dX6_countFor_4 : decode cX6_countFor 4 = .ok (.iload_n 2, 1) := by decide +kernel
theorem dX6_countFor_5 : decode cX6_countFor 5 = .ok (.i2l, 1) := by decide +kernel
theorem dX6_countFor_6 : decode cX6_countFor 6 = .ok (.lmul, 1) := by decide +kernel
theorem dX6_countFor_7 : decode cX6_countFor 7 = .ok (.ldc2_w 83, 3) := by decide +kernel
theorem dX6_countFor_10 : decode cX6_countFor 10 = .ok (.invokestatic 335, 3) := by decide +kernel
theorem dX6_countFor_13 : decode cX6_countFor 13 = .ok (.ladd, 1) := by decide +kernel
theorem dX6_countFor_14 : decode cX6_countFor 14 = .ok (.lreturn, 1) := by decide +kernel
