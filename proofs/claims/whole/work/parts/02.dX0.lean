theorem dX0_init_0 : decode cX0_init 0 = .ok (.aload_n 0, 1) := by decide +kernel
theorem dX0_init_1 : decode cX0_init 1 = .ok (.invokespecial 3, 3) := by decide +kernel
theorem dX0_init_4 : decode cX0_init 4 = .ok (.aload_n 0, 1) := by decide +kernel
theorem dX0_init_5 : decode cX0_init 5 = .ok (.bipush 10, 2) := by decide +kernel
theorem dX0_init_7 : decode cX0_init 7 = .ok (.newarray .int, 2) := by decide +kernel
theorem dX0_init_9 : decode cX0_init 9 = .ok (.putfield 9, 3) := by decide +kernel
theorem dX0_init_12 : decode cX0_init 12 = .ok (.aload_n 0, 1) := by decide +kernel
theorem dX0_init_13 : decode cX0_init 13 = .ok (.bipush 10, 2) := by decide +kernel
theorem dX0_init_15 : decode cX0_init 15 = .ok (.newarray .long, 2) := by decide +kernel
theorem dX0_init_17 : decode cX0_init 17 = .ok (.putfield 15, 3) := by decide +kernel
theorem dX0_init_20 : decode cX0_init 20 = .ok (.aload_n 0, 1) := by decide +kernel
theorem dX0_init_21 : decode cX0_init 21 = .ok (.bipush 10, 2) := by decide +kernel
theorem dX0_init_23 : decode cX0_init 23 = .ok (.newarray .long, 2) := by decide +kernel
theorem dX0_init_25 : decode cX0_init 25 = .ok (.putfield 19, 3) := by decide +kernel
theorem dX0_init_28 : decode cX0_init 28 = .ok (.return_, 1) := by decide +kernel
theorem dX0_clear_0 : decode cX0_clear 0 = .ok (.aload_n 0, 1) := by decide +kernel
theorem dX0_clear_1 : decode cX0_clear 1 = .ok (.iconst 0, 1) := by decide +kernel
theorem dX0_clear_2 : decode cX0_clear 2 = .ok (.putfield 22, 3) := by decide +kernel
theorem dX0_clear_5 : decode cX0_clear 5 = .ok (.return_, 1) := by decide +kernel
theorem dX0_add_0 : decode cX0_add 0 = .ok (.aload_n 0, 1) := by decide +kernel
theorem dX0_add_1 : decode cX0_add 1 = .ok (.getfield 22, 3) := by decide +kernel
theorem dX0_add_4 : decode cX0_add 4 = .ok (.aload_n 0, 1) := by decide +kernel
theorem dX0_add_5 : decode cX0_add 5 = .ok (.getfield 9, 3) := by decide +kernel
theorem dX0_add_8 : decode cX0_add 8 = .ok (.arraylength, 1) := by decide +kernel
theorem dX0_add_9 : decode cX0_add 9 = .ok (.if_icmp .lt 4, 3) := by decide +kernel
theorem dX0_add_12 : decode cX0_add 12 = .ok (.return_, 1) := by decide +kernel
theorem dX0_add_13 : decode cX0_add 13 = .ok (.aload_n 0, 1) := by decide +kernel
theorem dX0_add_14 : decode cX0_add 14 = .ok (.getfield 9, 3) := by decide +kernel
theorem dX0_add_17 : decode cX0_add 17 = .ok (.aload_n 0, 1) := by decide +kernel
theorem dX0_add_18 : decode cX0_add 18 = .ok (.getfield 22, 3) := by decide +kernel
theorem dX0_add_21 : decode cX0_add 21 = .ok (.iload_n 1, 1) := by decide +kernel
theorem dX0_add_22 : decode cX0_add 22 = .ok (.iastore, 1) := by decide +kernel
theorem dX0_add_23 : decode cX0_add 23 = .ok (.aload_n 0, 1) := by decide +kernel
theorem dX0_add_24 : decode cX0_add 24 = .ok (.getfield 15, 3) := by decide +kernel
theorem dX0_add_27 : decode cX0_add 27 = .ok (.aload_n 0, 1) := by decide +kernel
theorem dX0_add_28 : decode cX0_add 28 = .ok (.getfield 22, 3) := by decide +kernel
theorem dX0_add_31 : decode cX0_add 31 = .ok (.lload_n 2, 1) := by decide +kernel
theorem dX0_add_32 : decode cX0_add 32 = .ok (.lastore, 1) := by decide +kernel
theorem dX0_add_33 : decode cX0_add 33 = .ok (.aload_n 0, 1) := by decide +kernel
theorem dX0_add_34 : decode cX0_add 34 = .ok (.getfield 19, 3) := by decide +kernel
theorem dX0_add_37 : decode cX0_add 37 = .ok (.aload_n 0, 1) := by decide +kernel
theorem dX0_add_38 : decode cX0_add 38 = .ok (.getfield 22, 3) := by decide +kernel
theorem dX0_add_41 : decode cX0_add 41 = .ok (.lload 4, 2) := by decide +kernel
theorem dX0_add_43 : decode cX0_add 43 = .ok (.lastore, 1) := by decide +kernel
theorem dX0_add_44 : decode cX0_add 44 = .ok (.aload_n 0, 1) := by decide +kernel
theorem dX0_add_45 : decode cX0_add 45 = .ok (.dup, 1) := by decide +kernel
theorem dX0_add_46 : decode cX0_add 46 = .ok (.getfield 22, 3) := by decide +kernel
theorem dX0_add_49 : decode cX0_add 49 = .ok (.iconst 1, 1) := by decide +kernel
theorem dX0_add_50 : decode cX0_add 50 = .ok (.iadd, 1) := by decide +kernel
theorem dX0_add_51 : decode cX0_add 51 = .ok (.putfield 22, 3) := by decide +kernel
theorem dX0_add_54 : decode cX0_add 54 = .ok (.return_, 1) := by decide +kernel
theorem dX0_having_0 : decode cX0_having 0 = .ok (.iconst 0, 1) := by decide +kernel
theorem dX0_having_1 : decode cX0_having 1 = .ok (.istore_n 3, 1) := by decide +kernel
theorem dX0_having_2 : decode cX0_having 2 = .ok (.iconst 0, 1) := by decide +kernel
theorem dX0_having_3 : decode cX0_having 3 = .ok (.istore 4, 2) := by decide +kernel
theorem dX0_having_5 : decode cX0_having 5 = .ok (.iload 4, 2) := by decide +kernel
theorem dX0_having_7 : decode cX0_having 7 = .ok (.aload_n 0, 1) := by decide +kernel
theorem dX0_having_8 : decode cX0_having 8 = .ok (.getfield 22, 3) := by decide +kernel
theorem dX0_having_11 : decode cX0_having 11 = .ok (.if_icmp .ge 36, 3) := by decide +kernel
theorem dX0_having_14 : decode cX0_having 14 = .ok (.aload_n 0, 1) := by decide +kernel
theorem dX0_having_15 : decode cX0_having 15 = .ok (.getfield 15, 3) := by decide +kernel
theorem dX0_having_18 : decode cX0_having 18 = .ok (.iload 4, 2) := by decide +kernel
theorem dX0_having_20 : decode cX0_having 20 = .ok (.laload, 1) := by decide +kernel
theorem dX0_having_21 : decode cX0_having 21 = .ok (.lload_n 1, 1) := by decide +kernel
theorem dX0_having_22 : decode cX0_having 22 = .ok (.lcmp, 1) := by decide +kernel
theorem dX0_having_23 : decode cX0_having 23 = .ok (.ifCond .gt 18, 3) := by decide +kernel
theorem dX0_having_26 : decode cX0_having 26 = .ok (.lload_n 1, 1) := by decide +kernel
theorem dX0_having_27 : decode cX0_having 27 = .ok (.aload_n 0, 1) := by decide +kernel
theorem dX0_having_28 : decode cX0_having 28 = .ok (.getfield 19, 3) := by decide +kernel
theorem dX0_having_31 : decode cX0_having 31 = .ok (.iload 4, 2) := by decide +kernel
theorem dX0_having_33 : decode cX0_having 33 = .ok (.laload, 1) := by decide +kernel
theorem dX0_having_34 : decode cX0_having 34 = .ok (.lcmp, 1) := by decide +kernel
theorem dX0_having_35 : decode cX0_having 35 = .ok (.ifCond .gt 6, 3) := by decide +kernel
theorem dX0_having_38 : decode cX0_having 38 = .ok (.iinc 3 1, 3) := by decide +kernel
theorem dX0_having_41 : decode cX0_having 41 = .ok (.iinc 4 1, 3) := by decide +kernel
theorem dX0_having_44 : decode cX0_having 44 = .ok (.goto (-39), 3) := by decide +kernel
theorem dX0_having_47 : decode cX0_having 47 = .ok (.iload_n 3, 1) := by decide +kernel
theorem dX0_having_48 : decode cX0_having 48 = .ok (.ireturn, 1) := by decide +kernel
theorem dX0_least_0 : decode cX0_least 0 = .ok (.ldc2_w 26, 3) := by decide +kernel
theorem dX0_least_3 : decode cX0_least 3 = .ok (.lstore_n 2, 1) := by decide +kernel
theorem dX0_least_4 : decode cX0_least 4 = .ok (.iconst 0, 1) := by decide +kernel
theorem dX0_least_5 : decode cX0_least 5 = .ok (.istore 4, 2) := by decide +kernel
theorem dX0_least_7 : decode cX0_least 7 = .ok (.iload 4, 2) := by decide +kernel
theorem dX0_least_9 : decode cX0_least 9 = .ok (.aload_n 0, 1) := by decide +kernel
theorem dX0_least_10 : decode cX0_least 10 = .ok (.getfield 22, 3) := by decide +kernel
theorem dX0_least_13 : decode cX0_least 13 = .ok (.if_icmp .ge 52, 3) := by decide +kernel
theorem dX0_least_16 : decode cX0_least 16 = .ok (.aload_n 0, 1) := by decide +kernel
theorem dX0_least_17 : decode cX0_least 17 = .ok (.aload_n 0, 1) := by decide +kernel
theorem dX0_least_18 : decode cX0_least 18 = .ok (.getfield 15, 3) := by decide +kernel
theorem dX0_least_21 : decode cX0_least 21 = .ok (.iload 4, 2) := by decide +kernel
theorem dX0_least_23 : decode cX0_least 23 = .ok (.laload, 1) := by decide +kernel
theorem dX0_least_24 : decode cX0_least 24 = .ok (.invokevirtual 28, 3) := by decide +kernel
theorem dX0_least_27 : decode cX0_least 27 = .ok (.iload_n 1, 1) := by decide +kernel
theorem dX0_least_28 : decode cX0_least 28 = .ok (.if_icmp .lt 31, 3) := by decide +kernel
theorem dX0_least_31 : decode cX0_least 31 = .ok (.lload_n 2, 1) := by decide +kernel
theorem dX0_least_32 : decode cX0_least 32 = .ok (.ldc2_w 26, 3) := by decide +kernel
theorem dX0_least_35 : decode cX0_least 35 = .ok (.lcmp, 1) := by decide +kernel
theorem dX0_least_36 : decode cX0_least 36 = .ok (.ifCond .eq 15, 3) := by decide +kernel
theorem dX0_least_39 : decode cX0_least 39 = .ok (.aload_n 0, 1) := by decide +kernel
theorem dX0_least_40 : decode cX0_least 40 = .ok (.getfield 15, 3) := by decide +kernel
theorem dX0_least_43 : decode cX0_least 43 = .ok (.iload 4, 2) := by decide +kernel
theorem dX0_least_45 : decode cX0_least 45 = .ok (.laload, 1) := by decide +kernel
theorem dX0_least_46 : decode cX0_least 46 = .ok (.lload_n 2, 1) := by decide +kernel
theorem dX0_least_47 : decode cX0_least 47 = .ok (.lcmp, 1) := by decide +kernel
theorem dX0_least_48 : decode cX0_least 48 = .ok (.ifCond .ge 11, 3) := by decide +kernel
theorem dX0_least_51 : decode cX0_least 51 = .ok (.aload_n 0, 1) := by decide +kernel
theorem dX0_least_52 : decode cX0_least 52 = .ok (.getfield 15, 3) := by decide +kernel
theorem dX0_least_55 : decode cX0_least 55 = .ok (.iload 4, 2) := by decide +kernel
theorem dX0_least_57 : decode cX0_least 57 = .ok (.laload, 1) := by decide +kernel
theorem dX0_least_58 : decode cX0_least 58 = .ok (.lstore_n 2, 1) := by decide +kernel
theorem dX0_least_59 : decode cX0_least 59 = .ok (.iinc 4 1, 3) := by decide +kernel
theorem dX0_least_62 : decode cX0_least 62 = .ok (.goto (-55), 3) := by decide +kernel
theorem dX0_least_65 : decode cX0_least 65 = .ok (.lload_n 2, 1) := by decide +kernel
theorem dX0_least_66 : decode cX0_least 66 = .ok (.lreturn, 1) := by decide +kernel
theorem dX0_greatest_0 : decode cX0_greatest 0 = .ok (.ldc2_w 26, 3) := by decide +kernel
theorem dX0_greatest_3 : decode cX0_greatest 3 = .ok (.lstore_n 2, 1) := by decide +kernel
theorem dX0_greatest_4 : decode cX0_greatest 4 = .ok (.iconst 0, 1) := by decide +kernel
theorem dX0_greatest_5 : decode cX0_greatest 5 = .ok (.istore 4, 2) := by decide +kernel
theorem dX0_greatest_7 : decode cX0_greatest 7 = .ok (.iload 4, 2) := by decide +kernel
theorem dX0_greatest_9 : decode cX0_greatest 9 = .ok (.aload_n 0, 1) := by decide +kernel
theorem dX0_greatest_10 : decode cX0_greatest 10 = .ok (.getfield 22, 3) := by decide +kernel
theorem dX0_greatest_13 : decode cX0_greatest 13 = .ok (.if_icmp .ge 52, 3) := by decide +kernel
theorem dX0_greatest_16 : decode cX0_greatest 16 = .ok (.aload_n 0, 1) := by decide +kernel
theorem dX0_greatest_17 : decode cX0_greatest 17 = .ok (.aload_n 0, 1) := by decide +kernel
theorem dX0_greatest_18 : decode cX0_greatest 18 = .ok (.getfield 19, 3) := by decide +kernel
theorem dX0_greatest_21 : decode cX0_greatest 21 = .ok (.iload 4, 2) := by decide +kernel
theorem dX0_greatest_23 : decode cX0_greatest 23 = .ok (.laload, 1) := by decide +kernel
theorem dX0_greatest_24 : decode cX0_greatest 24 = .ok (.invokevirtual 28, 3) := by decide +kernel
theorem dX0_greatest_27 : decode cX0_greatest 27 = .ok (.iload_n 1, 1) := by decide +kernel
theorem dX0_greatest_28 : decode cX0_greatest 28 = .ok (.if_icmp .lt 31, 3) := by decide +kernel
theorem dX0_greatest_31 : decode cX0_greatest 31 = .ok (.lload_n 2, 1) := by decide +kernel
theorem dX0_greatest_32 : decode cX0_greatest 32 = .ok (.ldc2_w 26, 3) := by decide +kernel
theorem dX0_greatest_35 : decode cX0_greatest 35 = .ok (.lcmp, 1) := by decide +kernel
theorem dX0_greatest_36 : decode cX0_greatest 36 = .ok (.ifCond .eq 15, 3) := by decide +kernel
theorem dX0_greatest_39 : decode cX0_greatest 39 = .ok (.aload_n 0, 1) := by decide +kernel
theorem dX0_greatest_40 : decode cX0_greatest 40 = .ok (.getfield 19, 3) := by decide +kernel
theorem dX0_greatest_43 : decode cX0_greatest 43 = .ok (.iload 4, 2) := by decide +kernel
theorem dX0_greatest_45 : decode cX0_greatest 45 = .ok (.laload, 1) := by decide +kernel
theorem dX0_greatest_46 : decode cX0_greatest 46 = .ok (.lload_n 2, 1) := by decide +kernel
theorem dX0_greatest_47 : decode cX0_greatest 47 = .ok (.lcmp, 1) := by decide +kernel
theorem dX0_greatest_48 : decode cX0_greatest 48 = .ok (.ifCond .le 11, 3) := by decide +kernel
theorem dX0_greatest_51 : decode cX0_greatest 51 = .ok (.aload_n 0, 1) := by decide +kernel
theorem dX0_greatest_52 : decode cX0_greatest 52 = .ok (.getfield 19, 3) := by decide +kernel
theorem dX0_greatest_55 : decode cX0_greatest 55 = .ok (.iload 4, 2) := by decide +kernel
theorem dX0_greatest_57 : decode cX0_greatest 57 = .ok (.laload, 1) := by decide +kernel
theorem dX0_greatest_58 : decode cX0_greatest 58 = .ok (.lstore_n 2, 1) := by decide +kernel
theorem dX0_greatest_59 : decode cX0_greatest 59 = .ok (.iinc 4 1, 3) := by decide +kernel
theorem dX0_greatest_62 : decode cX0_greatest 62 = .ok (.goto (-55), 3) := by decide +kernel
theorem dX0_greatest_65 : decode cX0_greatest 65 = .ok (.lload_n 2, 1) := by decide +kernel
theorem dX0_greatest_66 : decode cX0_greatest 66 = .ok (.lreturn, 1) := by decide +kernel
theorem dX0_pieces_0 : decode cX0_pieces 0 = .ok (.iconst 0, 1) := by decide +kernel
theorem dX0_pieces_1 : decode cX0_pieces 1 = .ok (.istore_n 2, 1) := by decide +kernel
theorem dX0_pieces_2 : decode cX0_pieces 2 = .ok (.iconst 0, 1) := by decide +kernel
theorem dX0_pieces_3 : decode cX0_pieces 3 = .ok (.istore_n 3, 1) := by decide +kernel
theorem dX0_pieces_4 : decode cX0_pieces 4 = .ok (.iload_n 3, 1) := by decide +kernel
theorem dX0_pieces_5 : decode cX0_pieces 5 = .ok (.aload_n 0, 1) := by decide +kernel
theorem dX0_pieces_6 : decode cX0_pieces 6 = .ok (.getfield 22, 3) := by decide +kernel
theorem dX0_pieces_9 : decode cX0_pieces 9 = .ok (.if_icmp .ge 62, 3) := by decide +kernel
theorem dX0_pieces_12 : decode cX0_pieces 12 = .ok (.aload_n 0, 1) := by decide +kernel
theorem dX0_pieces_13 : decode cX0_pieces 13 = .ok (.aload_n 0, 1) := by decide +kernel
theorem dX0_pieces_14 : decode cX0_pieces 14 = .ok (.getfield 15, 3) := by decide +kernel
theorem dX0_pieces_17 : decode cX0_pieces 17 = .ok (.iload_n 3, 1) := by decide +kernel
theorem dX0_pieces_18 : decode cX0_pieces 18 = .ok (.laload, 1) := by decide +kernel
theorem dX0_pieces_19 : decode cX0_pieces 19 = .ok (.invokevirtual 28, 3) := by decide +kernel
theorem dX0_pieces_22 : decode cX0_pieces 22 = .ok (.iload_n 1, 1) := by decide +kernel
theorem dX0_pieces_23 : decode cX0_pieces 23 = .ok (.if_icmp .lt 23, 3) := by decide +kernel
theorem dX0_pieces_26 : decode cX0_pieces 26 = .ok (.aload_n 0, 1) := by decide +kernel
theorem dX0_pieces_27 : decode cX0_pieces 27 = .ok (.aload_n 0, 1) := by decide +kernel
theorem dX0_pieces_28 : decode cX0_pieces 28 = .ok (.getfield 15, 3) := by decide +kernel
theorem dX0_pieces_31 : decode cX0_pieces 31 = .ok (.iload_n 3, 1) := by decide +kernel
theorem dX0_pieces_32 : decode cX0_pieces 32 = .ok (.laload, 1) := by decide +kernel
theorem dX0_pieces_33 : decode cX0_pieces 33 = .ok (.lconst 1, 1) := by decide +kernel
theorem dX0_pieces_34 : decode cX0_pieces 34 = .ok (.lsub, 1) := by decide +kernel
theorem dX0_pieces_35 : decode cX0_pieces 35 = .ok (.invokevirtual 28, 3) := by decide +kernel
theorem dX0_pieces_38 : decode cX0_pieces 38 = .ok (.iload_n 1, 1) := by decide +kernel
theorem dX0_pieces_39 : decode cX0_pieces 39 = .ok (.if_icmp .ge 7, 3) := by decide +kernel
theorem dX0_pieces_42 : decode cX0_pieces 42 = .ok (.iconst 1, 1) := by decide +kernel
theorem dX0_pieces_43 : decode cX0_pieces 43 = .ok (.goto 4, 3) := by decide +kernel
theorem dX0_pieces_46 : decode cX0_pieces 46 = .ok (.iconst 0, 1) := by decide +kernel
theorem dX0_pieces_47 : decode cX0_pieces 47 = .ok (.istore 4, 2) := by decide +kernel
theorem dX0_pieces_49 : decode cX0_pieces 49 = .ok (.iload 4, 2) := by decide +kernel
theorem dX0_pieces_51 : decode cX0_pieces 51 = .ok (.ifCond .eq 14, 3) := by decide +kernel
theorem dX0_pieces_54 : decode cX0_pieces 54 = .ok (.aload_n 0, 1) := by decide +kernel
theorem dX0_pieces_55 : decode cX0_pieces 55 = .ok (.iload_n 3, 1) := by decide +kernel
theorem dX0_pieces_56 : decode cX0_pieces 56 = .ok (.invokevirtual 32, 3) := by decide +kernel
theorem dX0_pieces_59 : decode cX0_pieces 59 = .ok (.ifCond .ne 6, 3) := by decide +kernel
theorem dX0_pieces_62 : decode cX0_pieces 62 = .ok (.iinc 2 1, 3) := by decide +kernel
theorem dX0_pieces_65 : decode cX0_pieces 65 = .ok (.iinc 3 1, 3) := by decide +kernel
theorem dX0_pieces_68 : decode cX0_pieces 68 = .ok (.goto (-64), 3) := by decide +kernel
theorem dX0_pieces_71 : decode cX0_pieces 71 = .ok (.iload_n 2, 1) := by decide +kernel
theorem dX0_pieces_72 : decode cX0_pieces 72 = .ok (.ireturn, 1) := by decide +kernel
theorem dX0_beganBefore_0 : decode cX0_beganBefore 0 = .ok (.iconst 0, 1) := by decide +kernel
theorem dX0_beganBefore_1 : decode cX0_beganBefore 1 = .ok (.istore_n 2, 1) := by decide +kernel
theorem dX0_beganBefore_2 : decode cX0_beganBefore 2 = .ok (.iload_n 2, 1) := by decide +kernel
theorem dX0_beganBefore_3 : decode cX0_beganBefore 3 = .ok (.iload_n 1, 1) := by decide +kernel
theorem dX0_beganBefore_4 : decode cX0_beganBefore 4 = .ok (.if_icmp .ge 27, 3) := by decide +kernel
theorem dX0_beganBefore_7 : decode cX0_beganBefore 7 = .ok (.aload_n 0, 1) := by decide +kernel
theorem dX0_beganBefore_8 : decode cX0_beganBefore 8 = .ok (.getfield 15, 3) := by decide +kernel
theorem dX0_beganBefore_11 : decode cX0_beganBefore 11 = .ok (.iload_n 2, 1) := by decide +kernel
theorem dX0_beganBefore_12 : decode cX0_beganBefore 12 = .ok (.laload, 1) := by decide +kernel
theorem dX0_beganBefore_13 : decode cX0_beganBefore 13 = .ok (.aload_n 0, 1) := by decide +kernel
theorem dX0_beganBefore_14 : decode cX0_beganBefore 14 = .ok (.getfield 15, 3) := by decide +kernel
theorem dX0_beganBefore_17 : decode cX0_beganBefore 17 = .ok (.iload_n 1, 1) := by decide +kernel
theorem dX0_beganBefore_18 : decode cX0_beganBefore 18 = .ok (.laload, 1) := by decide +kernel
theorem dX0_beganBefore_19 : decode cX0_beganBefore 19 = .ok (.lcmp, 1) := by decide +kernel
theorem dX0_beganBefore_20 : decode cX0_beganBefore 20 = .ok (.ifCond .ne 5, 3) := by decide +kernel
theorem dX0_beganBefore_23 : decode cX0_beganBefore 23 = .ok (.iconst 1, 1) := by decide +kernel
theorem dX0_beganBefore_24 : decode cX0_beganBefore 24 = .ok (.ireturn, 1) := by decide +kernel
theorem dX0_beganBefore_25 : decode cX0_beganBefore 25 = .ok (.iinc 2 1, 3) := by decide +kernel
theorem dX0_beganBefore_28 : decode cX0_beganBefore 28 = .ok (.goto (-26), 3) := by decide +kernel
theorem dX0_beganBefore_31 : decode cX0_beganBefore 31 = .ok (.iconst 0, 1) := by decide +kernel
theorem dX0_beganBefore_32 : decode cX0_beganBefore 32 = .ok (.ireturn, 1) := by decide +kernel
theorem dX0_apartFrom_0 : decode cX0_apartFrom 0 = .ok (.iconst 0, 1) := by decide +kernel
theorem dX0_apartFrom_1 : decode cX0_apartFrom 1 = .ok (.istore 5, 2) := by decide +kernel
theorem dX0_apartFrom_3 : decode cX0_apartFrom 3 = .ok (.iconst 0, 1) := by decide +kernel
theorem dX0_apartFrom_4 : decode cX0_apartFrom 4 = .ok (.istore 6, 2) := by decide +kernel
theorem dX0_apartFrom_6 : decode cX0_apartFrom 6 = .ok (.iload 6, 2) := by decide +kernel
theorem dX0_apartFrom_8 : decode cX0_apartFrom 8 = .ok (.aload_n 0, 1) := by decide +kernel
theorem dX0_apartFrom_9 : decode cX0_apartFrom 9 = .ok (.getfield 22, 3) := by decide +kernel
theorem dX0_apartFrom_12 : decode cX0_apartFrom 12 = .ok (.if_icmp .ge 47, 3) := by decide +kernel
theorem dX0_apartFrom_15 : decode cX0_apartFrom 15 = .ok (.aload_n 0, 1) := by decide +kernel
theorem dX0_apartFrom_16 : decode cX0_apartFrom 16 = .ok (.getfield 19, 3) := by decide +kernel
theorem dX0_apartFrom_19 : decode cX0_apartFrom 19 = .ok (.iload 6, 2) := by decide +kernel
theorem dX0_apartFrom_21 : decode cX0_apartFrom 21 = .ok (.laload, 1) := by decide +kernel
theorem dX0_apartFrom_22 : decode cX0_apartFrom 22 = .ok (.lload_n 1, 1) := by decide +kernel
theorem dX0_apartFrom_23 : decode cX0_apartFrom 23 = .ok (.lcmp, 1) := by decide +kernel
theorem dX0_apartFrom_24 : decode cX0_apartFrom 24 = .ok (.ifCond .lt 15, 3) := by decide +kernel
theorem dX0_apartFrom_27 : decode cX0_apartFrom 27 = .ok (.aload_n 0, 1) := by decide +kernel
theorem dX0_apartFrom_28 : decode cX0_apartFrom 28 = .ok (.getfield 15, 3) := by decide +kernel
theorem dX0_apartFrom_31 : decode cX0_apartFrom 31 = .ok (.iload 6, 2) := by decide +kernel
theorem dX0_apartFrom_33 : decode cX0_apartFrom 33 = .ok (.laload, 1) := by decide +kernel
theorem dX0_apartFrom_34 : decode cX0_apartFrom 34 = .ok (.lload_n 3, 1) := by decide +kernel
theorem dX0_apartFrom_35 : decode cX0_apartFrom 35 = .ok (.lcmp, 1) := by decide +kernel
theorem dX0_apartFrom_36 : decode cX0_apartFrom 36 = .ok (.ifCond .le 17, 3) := by decide +kernel
theorem dX0_apartFrom_39 : decode cX0_apartFrom 39 = .ok (.iload 5, 2) := by decide +kernel
theorem dX0_apartFrom_41 : decode cX0_apartFrom 41 = .ok (.iconst 1, 1) := by decide +kernel
theorem dX0_apartFrom_42 : decode cX0_apartFrom 42 = .ok (.aload_n 0, 1) := by decide +kernel
theorem dX0_apartFrom_43 : decode cX0_apartFrom 43 = .ok (.getfield 9, 3) := by decide +kernel
theorem dX0_apartFrom_46 : decode cX0_apartFrom 46 = .ok (.iload 6, 2) := by decide +kernel
theorem dX0_apartFrom_48 : decode cX0_apartFrom 48 = .ok (.iaload, 1) := by decide +kernel
theorem dX0_apartFrom_49 : decode cX0_apartFrom 49 = .ok (.ishl, 1) := by decide +kernel
theorem dX0_apartFrom_50 : decode cX0_apartFrom 50 = .ok (.ior, 1) := by decide +kernel
theorem dX0_apartFrom_51 : decode cX0_apartFrom 51 = .ok (.istore 5, 2) := by decide +kernel
theorem dX0_apartFrom_53 : decode cX0_apartFrom 53 = .ok (.iinc 6 1, 3) := by decide +kernel
theorem dX0_apartFrom_56 : decode cX0_apartFrom 56 = .ok (.goto (-50), 3) := by decide +kernel
theorem dX0_apartFrom_59 : decode cX0_apartFrom 59 = .ok (.iload 5, 2) := by decide +kernel
theorem dX0_apartFrom_61 : decode cX0_apartFrom 61 = .ok (.ireturn, 1) := by decide +kernel
