theorem dX4_init_0 : decode cX4_init 0 = .ok (.aload_n 0, 1) := by decide +kernel
theorem dX4_init_1 : decode cX4_init 1 = .ok (.invokespecial 1, 3) := by decide +kernel
theorem dX4_init_4 : decode cX4_init 4 = .ok (.return_, 1) := by decide +kernel
theorem dX4_put_0 : decode cX4_put 0 = .ok (.aload_n 0, 1) := by decide +kernel
theorem dX4_put_1 : decode cX4_put 1 = .ok (.iconst 1, 1) := by decide +kernel
theorem dX4_put_2 : decode cX4_put 2 = .ok (.putfield 7, 3) := by decide +kernel
theorem dX4_put_5 : decode cX4_put 5 = .ok (.aload_n 0, 1) := by decide +kernel
theorem dX4_put_6 : decode cX4_put 6 = .ok (.lload_n 1, 1) := by decide +kernel
theorem dX4_put_7 : decode cX4_put 7 = .ok (.putfield 13, 3) := by decide +kernel
theorem dX4_put_10 : decode cX4_put 10 = .ok (.aload_n 0, 1) := by decide +kernel
theorem dX4_put_11 : decode cX4_put 11 = .ok (.lload_n 3, 1) := by decide +kernel
theorem dX4_put_12 : decode cX4_put 12 = .ok (.putfield 17, 3) := by decide +kernel
theorem dX4_put_15 : decode cX4_put 15 = .ok (.aload_n 0, 1) := by decide +kernel
theorem dX4_put_16 : decode cX4_put 16 = .ok (.lload 5, 2) := by decide +kernel
theorem dX4_put_18 : decode cX4_put 18 = .ok (.putfield 20, 3) := by decide +kernel
theorem dX4_put_21 : decode cX4_put 21 = .ok (.return_, 1) := by decide +kernel
theorem dX4_lowWhen_0 : decode cX4_lowWhen 0 = .ok (.aload_n 0, 1) := by decide +kernel
theorem dX4_lowWhen_1 : decode cX4_lowWhen 1 = .ok (.getfield 13, 3) := by decide +kernel
theorem dX4_lowWhen_4 : decode cX4_lowWhen 4 = .ok (.lload_n 1, 1) := by decide +kernel
theorem dX4_lowWhen_5 : decode cX4_lowWhen 5 = .ok (.aload_n 0, 1) := by decide +kernel
theorem dX4_lowWhen_6 : decode cX4_lowWhen 6 = .ok (.getfield 20, 3) := by decide +kernel
theorem dX4_lowWhen_9 : decode cX4_lowWhen 9 = .ok (.lsub, 1) := by decide +kernel
theorem dX4_lowWhen_10 : decode cX4_lowWhen 10 = .ok (.iload_n 3, 1) := by decide +kernel
theorem dX4_lowWhen_11 : decode cX4_lowWhen 11 = .ok (.invokestatic 23, 3) := by decide +kernel
theorem dX4_lowWhen_14 : decode cX4_lowWhen 14 = .ok (.ladd, 1) := by decide +kernel
theorem dX4_lowWhen_15 : decode cX4_lowWhen 15 = .ok (.lreturn, 1) := by decide +kernel
theorem dX4_highWhen_0 : decode cX4_highWhen 0 = .ok (.aload_n 0, 1) := by decide +kernel
theorem dX4_highWhen_1 : decode cX4_highWhen 1 = .ok (.getfield 17, 3) := by decide +kernel
theorem dX4_highWhen_4 : decode cX4_highWhen 4 = .ok (.lload_n 1, 1) := by decide +kernel
theorem dX4_highWhen_5 : decode cX4_highWhen 5 = .ok (.aload_n 0, 1) := by decide +kernel
theorem dX4_highWhen_6 : decode cX4_highWhen 6 = .ok (.getfield 20, 3) := by decide +kernel
theorem dX4_highWhen_9 : decode cX4_highWhen 9 = .ok (.lsub, 1) := by decide +kernel
theorem dX4_highWhen_10 : decode cX4_highWhen 10 = .ok (.iload_n 3, 1) := by decide +kernel
theorem dX4_highWhen_11 : decode cX4_highWhen 11 = .ok (.invokestatic 29, 3) := by decide +kernel
theorem dX4_highWhen_14 : decode cX4_highWhen 14 = .ok (.ladd, 1) := by decide +kernel
theorem dX4_highWhen_15 : decode cX4_highWhen 15 = .ok (.lreturn, 1) := by decide +kernel
