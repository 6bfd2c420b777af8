theorem dJx00060_init_a7421_0 : decode cJx00060_init_a7421 0 = .ok (.aload_n 0, 1) := by decide +kernel
theorem dJx00060_init_a7421_1 : decode cJx00060_init_a7421 1 = .ok (.aload_n 1, 1) := by decide +kernel
theorem dJx00060_init_a7421_2 : decode cJx00060_init_a7421 2 = .ok (.invokespecial 7, 3) := by decide +kernel
theorem dJx00060_init_a7421_5 : decode cJx00060_init_a7421 5 = .ok (.return_, 1) := by decide +kernel
theorem dJ9_floorDiv_7cf53_0 : decode cJ9_floorDiv_7cf53 0 = .ok (.iload_n 0, 1) := by decide +kernel
theorem dJ9_floorDiv_7cf53_1 : decode cJ9_floorDiv_7cf53 1 = .ok (.iload_n 1, 1) := by decide +kernel
theorem dJ9_floorDiv_7cf53_2 : decode cJ9_floorDiv_7cf53 2 = .ok (.idiv, 1) := by decide +kernel
theorem dJ9_floorDiv_7cf53_3 : decode cJ9_floorDiv_7cf53 3 = .ok (.istore_n 2, 1) := by decide +kernel
theorem dJ9_floorDiv_7cf53_4 : decode cJ9_floorDiv_7cf53 4 = .ok (.iload_n 0, 1) := by decide +kernel
theorem dJ9_floorDiv_7cf53_5 : decode cJ9_floorDiv_7cf53 5 = .ok (.iload_n 1, 1) := by decide +kernel
theorem dJ9_floorDiv_7cf53_6 : decode cJ9_floorDiv_7cf53 6 = .ok (.ixor, 1) := by decide +kernel
theorem dJ9_floorDiv_7cf53_7 : decode cJ9_floorDiv_7cf53 7 = .ok (.ifCond .ge 14, 3) := by decide +kernel
theorem dJ9_floorDiv_7cf53_10 : decode cJ9_floorDiv_7cf53 10 = .ok (.iload_n 2, 1) := by decide +kernel
theorem dJ9_floorDiv_7cf53_11 : decode cJ9_floorDiv_7cf53 11 = .ok (.iload_n 1, 1) := by decide +kernel
theorem dJ9_floorDiv_7cf53_12 : decode cJ9_floorDiv_7cf53 12 = .ok (.imul, 1) := by decide +kernel
theorem dJ9_floorDiv_7cf53_13 : decode cJ9_floorDiv_7cf53 13 = .ok (.iload_n 0, 1) := by decide +kernel
theorem dJ9_floorDiv_7cf53_14 : decode cJ9_floorDiv_7cf53 14 = .ok (.if_icmp .eq 7, 3) := by decide +kernel
theorem dJ9_floorDiv_7cf53_17 : decode cJ9_floorDiv_7cf53 17 = .ok (.iload_n 2, 1) := by decide +kernel
theorem dJ9_floorDiv_7cf53_18 : decode cJ9_floorDiv_7cf53 18 = .ok (.iconst 1, 1) := by decide +kernel
theorem dJ9_floorDiv_7cf53_19 : decode cJ9_floorDiv_7cf53 19 = .ok (.isub, 1) := by decide +kernel
theorem dJ9_floorDiv_7cf53_20 : decode cJ9_floorDiv_7cf53 20 = .ok (.ireturn, 1) := by decide +kernel
theorem dJ9_floorDiv_7cf53_21 : decode cJ9_floorDiv_7cf53 21 = .ok (.iload_n 2, 1) := by decide +kernel
theorem dJ9_floorDiv_7cf53_22 : decode cJ9_floorDiv_7cf53 22 = .ok (.ireturn, 1) := by decide +kernel
theorem dJ9_floorDiv_f86c9_0 : decode cJ9_floorDiv_f86c9 0 = .ok (.lload_n 0, 1) := by decide +kernel
theorem dJ9_floorDiv_f86c9_1 : decode cJ9_floorDiv_f86c9 1 = .ok (.lload_n 2, 1) := by decide +kernel
theorem dJ9_floorDiv_f86c9_2 : decode cJ9_floorDiv_f86c9 2 = .ok (.ldiv, 1) := by decide +kernel
theorem dJ9_floorDiv_f86c9_3 : decode cJ9_floorDiv_f86c9 3 = .ok (.lstore 4, 2) := by decide +kernel
theorem dJ9_floorDiv_f86c9_5 : decode cJ9_floorDiv_f86c9 5 = .ok (.lload_n 0, 1) := by decide +kernel
theorem dJ9_floorDiv_f86c9_6 : decode cJ9_floorDiv_f86c9 6 = .ok (.lload_n 2, 1) := by decide +kernel
theorem dJ9_floorDiv_f86c9_7 : decode cJ9_floorDiv_f86c9 7 = .ok (.lxor, 1) := by decide +kernel
theorem dJ9_floorDiv_f86c9_8 : decode cJ9_floorDiv_f86c9 8 = .ok (.lconst 0, 1) := by decide +kernel
theorem dJ9_floorDiv_f86c9_9 : decode cJ9_floorDiv_f86c9 9 = .ok (.lcmp, 1) := by decide +kernel
theorem dJ9_floorDiv_f86c9_10 : decode cJ9_floorDiv_f86c9 10 = .ok (.ifCond .ge 17, 3) := by decide +kernel
theorem dJ9_floorDiv_f86c9_13 : decode cJ9_floorDiv_f86c9 13 = .ok (.lload 4, 2) := by decide +kernel
theorem dJ9_floorDiv_f86c9_15 : decode cJ9_floorDiv_f86c9 15 = .ok (.lload_n 2, 1) := by decide +kernel
theorem dJ9_floorDiv_f86c9_16 : decode cJ9_floorDiv_f86c9 16 = .ok (.lmul, 1) := by decide +kernel
theorem dJ9_floorDiv_f86c9_17 : decode cJ9_floorDiv_f86c9 17 = .ok (.lload_n 0, 1) := by decide +kernel
theorem dJ9_floorDiv_f86c9_18 : decode cJ9_floorDiv_f86c9 18 = .ok (.lcmp, 1) := by decide +kernel
theorem dJ9_floorDiv_f86c9_19 : decode cJ9_floorDiv_f86c9 19 = .ok (.ifCond .eq 8, 3) := by decide +kernel
theorem dJ9_floorDiv_f86c9_22 : decode cJ9_floorDiv_f86c9 22 = .ok (.lload 4, 2) := by decide +kernel
theorem dJ9_floorDiv_f86c9_24 : decode cJ9_floorDiv_f86c9 24 = .ok (.lconst 1, 1) := by decide +kernel
theorem dJ9_floorDiv_f86c9_25 : decode cJ9_floorDiv_f86c9 25 = .ok (.lsub, 1) := by decide +kernel
theorem dJ9_floorDiv_f86c9_26 : decode cJ9_floorDiv_f86c9 26 = .ok (.lreturn, 1) := by decide +kernel
theorem dJ9_floorDiv_f86c9_27 : decode cJ9_floorDiv_f86c9 27 = .ok (.lload 4, 2) := by decide +kernel
theorem dJ9_floorDiv_f86c9_29 : decode cJ9_floorDiv_f86c9 29 = .ok (.lreturn, 1) := by decide +kernel
theorem dJ9_floorMod_7cf53_0 : decode cJ9_floorMod_7cf53 0 = .ok (.iload_n 0, 1) := by decide +kernel
theorem dJ9_floorMod_7cf53_1 : decode cJ9_floorMod_7cf53 1 = .ok (.iload_n 1, 1) := by decide +kernel
theorem dJ9_floorMod_7cf53_2 : decode cJ9_floorMod_7cf53 2 = .ok (.irem, 1) := by decide +kernel
theorem dJ9_floorMod_7cf53_3 : decode cJ9_floorMod_7cf53 3 = .ok (.istore_n 2, 1) := by decide +kernel
theorem dJ9_floorMod_7cf53_4 : decode cJ9_floorMod_7cf53 4 = .ok (.iload_n 0, 1) := by decide +kernel
theorem dJ9_floorMod_7cf53_5 : decode cJ9_floorMod_7cf53 5 = .ok (.iload_n 1, 1) := by decide +kernel
theorem dJ9_floorMod_7cf53_6 : decode cJ9_floorMod_7cf53 6 = .ok (.ixor, 1) := by decide +kernel
theorem dJ9_floorMod_7cf53_7 : decode cJ9_floorMod_7cf53 7 = .ok (.ifCond .ge 11, 3) := by decide +kernel
theorem dJ9_floorMod_7cf53_10 : decode cJ9_floorMod_7cf53 10 = .ok (.iload_n 2, 1) := by decide +kernel
theorem dJ9_floorMod_7cf53_11 : decode cJ9_floorMod_7cf53 11 = .ok (.ifCond .eq 7, 3) := by decide +kernel
theorem dJ9_floorMod_7cf53_14 : decode cJ9_floorMod_7cf53 14 = .ok (.iload_n 2, 1) := by decide +kernel
theorem dJ9_floorMod_7cf53_15 : decode cJ9_floorMod_7cf53 15 = .ok (.iload_n 1, 1) := by decide +kernel
theorem dJ9_floorMod_7cf53_16 : decode cJ9_floorMod_7cf53 16 = .ok (.iadd, 1) := by decide +kernel
theorem dJ9_floorMod_7cf53_17 : decode cJ9_floorMod_7cf53 17 = .ok (.ireturn, 1) := by decide +kernel
theorem dJ9_floorMod_7cf53_18 : decode cJ9_floorMod_7cf53 18 = .ok (.iload_n 2, 1) := by decide +kernel
theorem dJ9_floorMod_7cf53_19 : decode cJ9_floorMod_7cf53 19 = .ok (.ireturn, 1) := by decide +kernel
theorem dJ9_floorMod_f86c9_0 : decode cJ9_floorMod_f86c9 0 = .ok (.lload_n 0, 1) := by decide +kernel
theorem dJ9_floorMod_f86c9_1 : decode cJ9_floorMod_f86c9 1 = .ok (.lload_n 2, 1) := by decide +kernel
theorem dJ9_floorMod_f86c9_2 : decode cJ9_floorMod_f86c9 2 = .ok (.lrem, 1) := by decide +kernel
theorem dJ9_floorMod_f86c9_3 : decode cJ9_floorMod_f86c9 3 = .ok (.lstore 4, 2) := by decide +kernel
theorem dJ9_floorMod_f86c9_5 : decode cJ9_floorMod_f86c9 5 = .ok (.lload_n 0, 1) := by decide +kernel
theorem dJ9_floorMod_f86c9_6 : decode cJ9_floorMod_f86c9 6 = .ok (.lload_n 2, 1) := by decide +kernel
theorem dJ9_floorMod_f86c9_7 : decode cJ9_floorMod_f86c9 7 = .ok (.lxor, 1) := by decide +kernel
theorem dJ9_floorMod_f86c9_8 : decode cJ9_floorMod_f86c9 8 = .ok (.lconst 0, 1) := by decide +kernel
theorem dJ9_floorMod_f86c9_9 : decode cJ9_floorMod_f86c9 9 = .ok (.lcmp, 1) := by decide +kernel
theorem dJ9_floorMod_f86c9_10 : decode cJ9_floorMod_f86c9 10 = .ok (.ifCond .ge 15, 3) := by decide +kernel
theorem dJ9_floorMod_f86c9_13 : decode cJ9_floorMod_f86c9 13 = .ok (.lload 4, 2) := by decide +kernel
theorem dJ9_floorMod_f86c9_15 : decode cJ9_floorMod_f86c9 15 = .ok (.lconst 0, 1) := by decide +kernel
theorem dJ9_floorMod_f86c9_16 : decode cJ9_floorMod_f86c9 16 = .ok (.lcmp, 1) := by decide +kernel
theorem dJ9_floorMod_f86c9_17 : decode cJ9_floorMod_f86c9 17 = .ok (.ifCond .eq 8, 3) := by decide +kernel
theorem dJ9_floorMod_f86c9_20 : decode cJ9_floorMod_f86c9 20 = .ok (.lload 4, 2) := by decide +kernel
theorem dJ9_floorMod_f86c9_22 : decode cJ9_floorMod_f86c9 22 = .ok (.lload_n 2, 1) := by decide +kernel
theorem dJ9_floorMod_f86c9_23 : decode cJ9_floorMod_f86c9 23 = .ok (.ladd, 1) := by decide +kernel
theorem dJ9_floorMod_f86c9_24 : decode cJ9_floorMod_f86c9 24 = .ok (.lreturn, 1) := by decide +kernel
theorem dJ9_floorMod_f86c9_25 : decode cJ9_floorMod_f86c9 25 = .ok (.lload 4, 2) := by decide +kernel
theorem dJ9_floorMod_f86c9_27 : decode cJ9_floorMod_f86c9 27 = .ok (.lreturn, 1) := by decide +kernel
theorem dJ9_abs_0f7a4_0 : decode cJ9_abs_0f7a4 0 = .ok (.iload_n 0, 1) := by decide +kernel
theorem dJ9_abs_0f7a4_1 : decode cJ9_abs_0f7a4 1 = .ok (.ifCond .ge 8, 3) := by decide +kernel
theorem dJ9_abs_0f7a4_4 : decode cJ9_abs_0f7a4 4 = .ok (.iload_n 0, 1) := by decide +kernel
theorem dJ9_abs_0f7a4_5 : decode cJ9_abs_0f7a4 5 = .ok (.ineg, 1) := by decide +kernel
theorem dJ9_abs_0f7a4_6 : decode cJ9_abs_0f7a4 6 = .ok (.goto 4, 3) := by decide +kernel
theorem dJ9_abs_0f7a4_9 : decode cJ9_abs_0f7a4 9 = .ok (.iload_n 0, 1) := by decide +kernel
theorem dJ9_abs_0f7a4_10 : decode cJ9_abs_0f7a4 10 = .ok (.ireturn, 1) := by decide +kernel
theorem dJ9_max_7cf53_0 : decode cJ9_max_7cf53 0 = .ok (.iload_n 0, 1) := by decide +kernel
theorem dJ9_max_7cf53_1 : decode cJ9_max_7cf53 1 = .ok (.iload_n 1, 1) := by decide +kernel
theorem dJ9_max_7cf53_2 : decode cJ9_max_7cf53 2 = .ok (.if_icmp .lt 7, 3) := by decide +kernel
theorem dJ9_max_7cf53_5 : decode cJ9_max_7cf53 5 = .ok (.iload_n 0, 1) := by decide +kernel
theorem dJ9_max_7cf53_6 : decode cJ9_max_7cf53 6 = .ok (.goto 4, 3) := by decide +kernel
theorem dJ9_max_7cf53_9 : decode cJ9_max_7cf53 9 = .ok (.iload_n 1, 1) := by decide +kernel
theorem dJ9_max_7cf53_10 : decode cJ9_max_7cf53 10 = .ok (.ireturn, 1) := by decide +kernel
theorem dJ9_max_f86c9_0 : decode cJ9_max_f86c9 0 = .ok (.lload_n 0, 1) := by decide +kernel
theorem dJ9_max_f86c9_1 : decode cJ9_max_f86c9 1 = .ok (.lload_n 2, 1) := by decide +kernel
theorem dJ9_max_f86c9_2 : decode cJ9_max_f86c9 2 = .ok (.lcmp, 1) := by decide +kernel
theorem dJ9_max_f86c9_3 : decode cJ9_max_f86c9 3 = .ok (.ifCond .lt 7, 3) := by decide +kernel
theorem dJ9_max_f86c9_6 : decode cJ9_max_f86c9 6 = .ok (.lload_n 0, 1) := by decide +kernel
theorem dJ9_max_f86c9_7 : decode cJ9_max_f86c9 7 = .ok (.goto 4, 3) := by decide +kernel
theorem dJ9_max_f86c9_10 : decode cJ9_max_f86c9 10 = .ok (.lload_n 2, 1) := by decide +kernel
theorem dJ9_max_f86c9_11 : decode cJ9_max_f86c9 11 = .ok (.lreturn, 1) := by decide +kernel
theorem dJ9_min_7cf53_0 : decode cJ9_min_7cf53 0 = .ok (.iload_n 0, 1) := by decide +kernel
theorem dJ9_min_7cf53_1 : decode cJ9_min_7cf53 1 = .ok (.iload_n 1, 1) := by decide +kernel
theorem dJ9_min_7cf53_2 : decode cJ9_min_7cf53 2 = .ok (.if_icmp .gt 7, 3) := by decide +kernel
theorem dJ9_min_7cf53_5 : decode cJ9_min_7cf53 5 = .ok (.iload_n 0, 1) := by decide +kernel
theorem dJ9_min_7cf53_6 : decode cJ9_min_7cf53 6 = .ok (.goto 4, 3) := by decide +kernel
theorem dJ9_min_7cf53_9 : decode cJ9_min_7cf53 9 = .ok (.iload_n 1, 1) := by decide +kernel
theorem dJ9_min_7cf53_10 : decode cJ9_min_7cf53 10 = .ok (.ireturn, 1) := by decide +kernel
theorem dX0_init_0 : decode cX0_init 0 = .ok (.aload_n 0, 1) := by decide +kernel
theorem dX0_init_1 : decode cX0_init 1 = .ok (.invokespecial 3, 3) := by decide +kernel
theorem dX0_init_4 : decode cX0_init 4 = .ok (.aload_n 0, 1) := by decide +kernel
theorem dX0_init_5 : decode cX0_init 5 = .ok (.iconst 4, 1) := by decide +kernel
theorem dX0_init_6 : decode cX0_init 6 = .ok (.anewarray 9, 3) := by decide +kernel
theorem dX0_init_9 : decode cX0_init 9 = .ok (.putfield 11, 3) := by decide +kernel
theorem dX0_init_12 : decode cX0_init 12 = .ok (.iconst 0, 1) := by decide +kernel
theorem dX0_init_13 : decode cX0_init 13 = .ok (.istore_n 1, 1) := by decide +kernel
theorem dX0_init_14 : decode cX0_init 14 = .ok (.iload_n 1, 1) := by decide +kernel
theorem dX0_init_15 : decode cX0_init 15 = .ok (.aload_n 0, 1) := by decide +kernel
theorem dX0_init_16 : decode cX0_init 16 = .ok (.getfield 11, 3) := by decide +kernel
theorem dX0_init_19 : decode cX0_init 19 = .ok (.arraylength, 1) := by decide +kernel
theorem dX0_init_20 : decode cX0_init 20 = .ok (.if_icmp .ge 22, 3) := by decide +kernel
theorem dX0_init_23 : decode cX0_init 23 = .ok (.aload_n 0, 1) := by decide +kernel
theorem dX0_init_24 : decode cX0_init 24 = .ok (.getfield 11, 3) := by decide +kernel
theorem dX0_init_27 : decode cX0_init 27 = .ok (.iload_n 1, 1) := by decide +kernel
theorem dX0_init_28 : decode cX0_init 28 = .ok (.new 9, 3) := by decide +kernel
theorem dX0_init_31 : decode cX0_init 31 = .ok (.dup, 1) := by decide +kernel
theorem dX0_init_32 : decode cX0_init 32 = .ok (.invokespecial 17, 3) := by decide +kernel
theorem dX0_init_35 : decode cX0_init 35 = .ok (.aastore, 1) := by decide +kernel
theorem dX0_init_36 : decode cX0_init 36 = .ok (.iinc 1 1, 3) := by decide +kernel
theorem dX0_init_39 : decode cX0_init 39 = .ok (.goto (-25), 3) := by decide +kernel
theorem dX0_init_42 : decode cX0_init 42 = .ok (.return_, 1) := by decide +kernel
theorem dX0_save_0 : decode cX0_save 0 = .ok (.aload_n 0, 1) := by decide +kernel
theorem dX0_save_1 : decode cX0_save 1 = .ok (.aload_n 0, 1) := by decide +kernel
theorem dX0_save_2 : decode cX0_save 2 = .ok (.getfield 18, 3) := by decide +kernel
theorem dX0_save_5 : decode cX0_save 5 = .ok (.iconst 1, 1) := by decide +kernel
theorem dX0_save_6 : decode cX0_save 6 = .ok (.iadd, 1) := by decide +kernel
theorem dX0_save_7 : decode cX0_save 7 = .ok (.iconst 4, 1) := by decide +kernel
theorem dX0_save_8 : decode cX0_save 8 = .ok (.invokestatic 22, 3) := by decide +kernel
theorem dX0_save_11 : decode cX0_save 11 = .ok (.putfield 18, 3) := by decide +kernel
theorem dX0_save_14 : decode cX0_save 14 = .ok (.aload_n 0, 1) := by decide +kernel
theorem dX0_save_15 : decode cX0_save 15 = .ok (.invokevirtual 28, 3) := by decide +kernel
theorem dX0_save_18 : decode cX0_save 18 = .ok (.astore_n 2, 1) := by decide +kernel
theorem dX0_save_19 : decode cX0_save 19 = .ok (.aload_n 2, 1) := by decide +kernel
theorem dX0_save_20 : decode cX0_save 20 = .ok (.ifnull 8, 3) := by decide +kernel
theorem dX0_save_23 : decode cX0_save 23 = .ok (.aload_n 2, 1) := by decide +kernel
theorem dX0_save_24 : decode cX0_save 24 = .ok (.aload_n 1, 1) := by decide +kernel
theorem dX0_save_25 : decode cX0_save 25 = .ok (.invokevirtual 32, 3) := by decide +kernel
theorem dX0_save_28 : decode cX0_save 28 = .ok (.aload_n 0, 1) := by decide +kernel
theorem dX0_save_29 : decode cX0_save 29 = .ok (.aload_n 0, 1) := by decide +kernel
theorem dX0_save_30 : decode cX0_save 30 = .ok (.getfield 36, 3) := by decide +kernel
theorem dX0_save_33 : decode cX0_save 33 = .ok (.iconst 1, 1) := by decide +kernel
theorem dX0_save_34 : decode cX0_save 34 = .ok (.iadd, 1) := by decide +kernel
theorem dX0_save_35 : decode cX0_save 35 = .ok (.iconst 4, 1) := by decide +kernel
theorem dX0_save_36 : decode cX0_save 36 = .ok (.invokestatic 39, 3) := by decide +kernel
theorem dX0_save_39 : decode cX0_save 39 = .ok (.putfield 36, 3) := by decide +kernel
theorem dX0_save_42 : decode cX0_save 42 = .ok (.return_, 1) := by decide +kernel
theorem dX0_restore_0 : decode cX0_restore 0 = .ok (.aload_n 0, 1) := by decide +kernel
theorem dX0_restore_1 : decode cX0_restore 1 = .ok (.invokevirtual 28, 3) := by decide +kernel
theorem dX0_restore_4 : decode cX0_restore 4 = .ok (.astore_n 2, 1) := by decide +kernel
theorem dX0_restore_5 : decode cX0_restore 5 = .ok (.aload_n 2, 1) := by decide +kernel
theorem dX0_restore_6 : decode cX0_restore 6 = .ok (.ifnull 39, 3) := by decide +kernel
theorem dX0_restore_9 : decode cX0_restore 9 = .ok (.aload_n 0, 1) := by decide +kernel
theorem dX0_restore_10 : decode cX0_restore 10 = .ok (.getfield 36, 3) := by decide +kernel
theorem dX0_restore_13 : decode cX0_restore 13 = .ok (.ifCond .le 32, 3) := by decide +kernel
theorem dX0_restore_16 : decode cX0_restore 16 = .ok (.aload_n 1, 1) := by decide +kernel
theorem dX0_restore_17 : decode cX0_restore 17 = .ok (.aload_n 2, 1) := by decide +kernel
theorem dX0_restore_18 : decode cX0_restore 18 = .ok (.invokevirtual 32, 3) := by decide +kernel
theorem dX0_restore_21 : decode cX0_restore 21 = .ok (.aload_n 0, 1) := by decide +kernel
theorem dX0_restore_22 : decode cX0_restore 22 = .ok (.aload_n 0, 1) := by decide +kernel
theorem dX0_restore_23 : decode cX0_restore 23 = .ok (.getfield 18, 3) := by decide +kernel
theorem dX0_restore_26 : decode cX0_restore 26 = .ok (.iconst 1, 1) := by decide +kernel
theorem dX0_restore_27 : decode cX0_restore 27 = .ok (.isub, 1) := by decide +kernel
theorem dX0_restore_28 : decode cX0_restore 28 = .ok (.iconst 4, 1) := by decide +kernel
theorem dX0_restore_29 : decode cX0_restore 29 = .ok (.invokestatic 22, 3) := by decide +kernel
theorem dX0_restore_32 : decode cX0_restore 32 = .ok (.putfield 18, 3) := by decide +kernel
theorem dX0_restore_35 : decode cX0_restore 35 = .ok (.aload_n 0, 1) := by decide +kernel
theorem dX0_restore_36 : decode cX0_restore 36 = .ok (.dup, 1) := by decide +kernel
theorem dX0_restore_37 : decode cX0_restore 37 = .ok (.getfield 36, 3) := by decide +kernel
theorem dX0_restore_40 : decode cX0_restore 40 = .ok (.iconst 1, 1) := by decide +kernel
theorem dX0_restore_41 : decode cX0_restore 41 = .ok (.isub, 1) := by decide +kernel
theorem dX0_restore_42 : decode cX0_restore 42 = .ok (.putfield 36, 3) := by decide +kernel
theorem dX0_restore_45 : decode cX0_restore 45 = .ok (.return_, 1) := by decide +kernel
theorem dX0_newestSlot_0 : decode cX0_newestSlot 0 = .ok (.aload_n 0, 1) := by decide +kernel
theorem dX0_newestSlot_1 : decode cX0_newestSlot 1 = .ok (.getfield 18, 3) := by decide +kernel
theorem dX0_newestSlot_4 : decode cX0_newestSlot 4 = .ok (.ifCond .lt 27, 3) := by decide +kernel
theorem dX0_newestSlot_7 : decode cX0_newestSlot 7 = .ok (.aload_n 0, 1) := by decide +kernel
theorem dX0_newestSlot_8 : decode cX0_newestSlot 8 = .ok (.getfield 18, 3) := by decide +kernel
theorem dX0_newestSlot_11 : decode cX0_newestSlot 11 = .ok (.aload_n 0, 1) := by decide +kernel
theorem dX0_newestSlot_12 : decode cX0_newestSlot 12 = .ok (.getfield 11, 3) := by decide +kernel
theorem dX0_newestSlot_15 : decode cX0_newestSlot 15 = .ok (.arraylength, 1) := by decide +kernel
theorem dX0_newestSlot_16 : decode cX0_newestSlot 16 = .ok (.if_icmp .ge 15, 3) := by decide +kernel
theorem dX0_newestSlot_19 : decode cX0_newestSlot 19 = .ok (.aload_n 0, 1) := by decide +kernel
theorem dX0_newestSlot_20 : decode cX0_newestSlot 20 = .ok (.getfield 11, 3) := by decide +kernel
theorem dX0_newestSlot_23 : decode cX0_newestSlot 23 = .ok (.aload_n 0, 1) := by decide +kernel
theorem dX0_newestSlot_24 : decode cX0_newestSlot 24 = .ok (.getfield 18, 3) := by decide +kernel
theorem dX0_newestSlot_27 : decode cX0_newestSlot 27 = .ok (.aaload, 1) := by decide +kernel
theorem dX0_newestSlot_28 : decode cX0_newestSlot 28 = .ok (.goto 4, 3) := by decide +kernel
theorem dX0_newestSlot_31 : decode cX0_newestSlot 31 = .ok (.aconst_null, 1) := by decide +kernel
theorem dX0_newestSlot_32 : decode cX0_newestSlot 32 = .ok (.areturn, 1) := by decide +kernel
theorem dX1_init_0 : decode cX1_init 0 = .ok (.aload_n 0, 1) := by decide +kernel
theorem dX1_init_1 : decode cX1_init 1 = .ok (.invokespecial 3, 3) := by decide +kernel
theorem dX1_init_4 : decode cX1_init 4 = .ok (.aload_n 0, 1) := by decide +kernel
theorem dX1_init_5 : decode cX1_init 5 = .ok (.new 9, 3) := by decide +kernel
theorem dX1_init_8 : decode cX1_init 8 = .ok (.dup, 1) := by decide +kernel
theorem dX1_init_9 : decode cX1_init 9 = .ok (.bipush 36, 2) := by decide +kernel
theorem dX1_init_11 : decode cX1_init 11 = .ok (.newarray .int, 2) := by decide +kernel
theorem dX1_init_13 : decode cX1_init 13 = .ok (.bipush 6, 2) := by decide +kernel
theorem dX1_init_15 : decode cX1_init 15 = .ok (.invokespecial 11, 3) := by decide +kernel
theorem dX1_init_18 : decode cX1_init 18 = .ok (.putfield 14, 3) := by decide +kernel
theorem dX1_init_21 : decode cX1_init 21 = .ok (.aload_n 0, 1) := by decide +kernel
theorem dX1_init_22 : decode cX1_init 22 = .ok (.new 9, 3) := by decide +kernel
theorem dX1_init_25 : decode cX1_init 25 = .ok (.dup, 1) := by decide +kernel
theorem dX1_init_26 : decode cX1_init 26 = .ok (.sipush 320, 3) := by decide +kernel
theorem dX1_init_29 : decode cX1_init 29 = .ok (.newarray .int, 2) := by decide +kernel
theorem dX1_init_31 : decode cX1_init 31 = .ok (.bipush 8, 2) := by decide +kernel
theorem dX1_init_33 : decode cX1_init 33 = .ok (.invokespecial 11, 3) := by decide +kernel
theorem dX1_init_36 : decode cX1_init 36 = .ok (.putfield 20, 3) := by decide +kernel
theorem dX1_init_39 : decode cX1_init 39 = .ok (.aload_n 0, 1) := by decide +kernel
theorem dX1_init_40 : decode cX1_init 40 = .ok (.new 9, 3) := by decide +kernel
theorem dX1_init_43 : decode cX1_init 43 = .ok (.dup, 1) := by decide +kernel
theorem dX1_init_44 : decode cX1_init 44 = .ok (.bipush 100, 2) := by decide +kernel
theorem dX1_init_46 : decode cX1_init 46 = .ok (.newarray .int, 2) := by decide +kernel
theorem dX1_init_48 : decode cX1_init 48 = .ok (.iconst 5, 1) := by decide +kernel
theorem dX1_init_49 : decode cX1_init 49 = .ok (.invokespecial 11, 3) := by decide +kernel
theorem dX1_init_52 : decode cX1_init 52 = .ok (.putfield 23, 3) := by decide +kernel
theorem dX1_init_55 : decode cX1_init 55 = .ok (.return_, 1) := by decide +kernel
theorem dX1_copyFrom_0 : decode cX1_copyFrom 0 = .ok (.aload_n 0, 1) := by decide +kernel
theorem dX1_copyFrom_1 : decode cX1_copyFrom 1 = .ok (.aload_n 1, 1) := by decide +kernel
theorem dX1_copyFrom_2 : decode cX1_copyFrom 2 = .ok (.getfield 26, 3) := by decide +kernel
theorem dX1_copyFrom_5 : decode cX1_copyFrom 5 = .ok (.putfield 26, 3) := by decide +kernel
theorem dX1_copyFrom_8 : decode cX1_copyFrom 8 = .ok (.aload_n 0, 1) := by decide +kernel
theorem dX1_copyFrom_9 : decode cX1_copyFrom 9 = .ok (.getfield 14, 3) := by decide +kernel
theorem dX1_copyFrom_12 : decode cX1_copyFrom 12 = .ok (.aload_n 1, 1) := by decide +kernel
theorem dX1_copyFrom_13 : decode cX1_copyFrom 13 = .ok (.getfield 14, 3) := by decide +kernel
theorem dX1_copyFrom_16 : decode cX1_copyFrom 16 = .ok (.invokevirtual 30, 3) := by decide +kernel
theorem dX1_copyFrom_19 : decode cX1_copyFrom 19 = .ok (.aload_n 0, 1) := by decide +kernel
theorem dX1_copyFrom_20 : decode cX1_copyFrom 20 = .ok (.getfield 20, 3) := by decide +kernel
theorem dX1_copyFrom_23 : decode cX1_copyFrom 23 = .ok (.aload_n 1, 1) := by decide +kernel
theorem dX1_copyFrom_24 : decode cX1_copyFrom 24 = .ok (.getfield 20, 3) := by decide +kernel
theorem dX1_copyFrom_27 : decode cX1_copyFrom 27 = .ok (.invokevirtual 30, 3) := by decide +kernel
theorem dX1_copyFrom_30 : decode cX1_copyFrom 30 = .ok (.aload_n 0, 1) := by decide +kernel
theorem dX1_copyFrom_31 : decode cX1_copyFrom 31 = .ok (.getfield 23, 3) := by decide +kernel
theorem dX1_copyFrom_34 : decode cX1_copyFrom 34 = .ok (.aload_n 1, 1) := by decide +kernel
theorem dX1_copyFrom_35 : decode cX1_copyFrom 35 = .ok (.getfield 23, 3) := by decide +kernel
theorem dX1_copyFrom_38 : decode cX1_copyFrom 38 = .ok (.invokevirtual 30, 3) := by decide +kernel
theorem dX1_copyFrom_41 : decode cX1_copyFrom 41 = .ok (.return_, 1) := by decide +kernel
theorem dX1_lengthBetween_0 : decode cX1_lengthBetween 0 = .ok (.aload_n 0, 1) := by decide +kernel
theorem dX1_lengthBetween_1 : decode cX1_lengthBetween 1 = .ok (.getfield 14, 3) := by decide +kernel
theorem dX1_lengthBetween_4 : decode cX1_lengthBetween 4 = .ok (.iload_n 1, 1) := by decide +kernel
theorem dX1_lengthBetween_5 : decode cX1_lengthBetween 5 = .ok (.iconst 0, 1) := by decide +kernel
theorem dX1_lengthBetween_6 : decode cX1_lengthBetween 6 = .ok (.invokevirtual 34, 3) := by decide +kernel
theorem dX1_lengthBetween_9 : decode cX1_lengthBetween 9 = .ok (.aload_n 0, 1) := by decide +kernel
theorem dX1_lengthBetween_10 : decode cX1_lengthBetween 10 = .ok (.getfield 14, 3) := by decide +kernel
theorem dX1_lengthBetween_13 : decode cX1_lengthBetween 13 = .ok (.iload_n 2, 1) := by decide +kernel
theorem dX1_lengthBetween_14 : decode cX1_lengthBetween 14 = .ok (.iconst 0, 1) := by decide +kernel
theorem dX1_lengthBetween_15 : decode cX1_lengthBetween 15 = .ok (.invokevirtual 34, 3) := by decide +kernel
theorem dX1_lengthBetween_18 : decode cX1_lengthBetween 18 = .ok (.isub, 1) := by decide +kernel
theorem dX1_lengthBetween_19 : decode cX1_lengthBetween 19 = .ok (.aload_n 0, 1) := by decide +kernel
theorem dX1_lengthBetween_20 : decode cX1_lengthBetween 20 = .ok (.getfield 14, 3) := by decide +kernel
theorem dX1_lengthBetween_23 : decode cX1_lengthBetween 23 = .ok (.iload_n 1, 1) := by decide +kernel
theorem dX1_lengthBetween_24 : decode cX1_lengthBetween 24 = .ok (.iconst 1, 1) := by decide +kernel
theorem dX1_lengthBetween_25 : decode cX1_lengthBetween 25 = .ok (.invokevirtual 34, 3) := by decide +kernel
theorem dX1_lengthBetween_28 : decode cX1_lengthBetween 28 = .ok (.aload_n 0, 1) := by decide +kernel
theorem dX1_lengthBetween_29 : decode cX1_lengthBetween 29 = .ok (.getfield 14, 3) := by decide +kernel
theorem dX1_lengthBetween_32 : decode cX1_lengthBetween 32 = .ok (.iload_n 2, 1) := by decide +kernel
theorem dX1_lengthBetween_33 : decode cX1_lengthBetween 33 = .ok (.iconst 1, 1) := by decide +kernel
theorem dX1_lengthBetween_34 : decode cX1_lengthBetween 34 = .ok (.invokevirtual 34, 3) := by decide +kernel
theorem dX1_lengthBetween_37 : decode cX1_lengthBetween 37 = .ok (.isub, 1) := by decide +kernel
theorem dX1_lengthBetween_38 : decode cX1_lengthBetween 38 = .ok (.invokestatic 38, 3) := by decide +kernel
theorem dX1_lengthBetween_41 : decode cX1_lengthBetween 41 = .ok (.ireturn, 1) := by decide +kernel
theorem dX1_squareFromOrigin_0 : decode cX1_squareFromOrigin 0 = .ok (.aload_n 0, 1) := by decide +kernel
theorem dX1_squareFromOrigin_1 : decode cX1_squareFromOrigin 1 = .ok (.getfield 14, 3) := by decide +kernel
theorem dX1_squareFromOrigin_4 : decode cX1_squareFromOrigin 4 = .ok (.iload_n 1, 1) := by decide +kernel
theorem dX1_squareFromOrigin_5 : decode cX1_squareFromOrigin 5 = .ok (.iconst 0, 1) := by decide +kernel
theorem dX1_squareFromOrigin_6 : decode cX1_squareFromOrigin 6 = .ok (.invokevirtual 34, 3) := by decide +kernel
theorem dX1_squareFromOrigin_9 : decode cX1_squareFromOrigin 9 = .ok (.invokestatic 41, 3) := by decide +kernel
theorem dX1_squareFromOrigin_12 : decode cX1_squareFromOrigin 12 = .ok (.aload_n 0, 1) := by decide +kernel
theorem dX1_squareFromOrigin_13 : decode cX1_squareFromOrigin 13 = .ok (.getfield 14, 3) := by decide +kernel
theorem dX1_squareFromOrigin_16 : decode cX1_squareFromOrigin 16 = .ok (.iload_n 1, 1) := by decide +kernel
theorem dX1_squareFromOrigin_17 : decode cX1_squareFromOrigin 17 = .ok (.iconst 1, 1) := by decide +kernel
theorem dX1_squareFromOrigin_18 : decode cX1_squareFromOrigin 18 = .ok (.invokevirtual 34, 3) := by decide +kernel
theorem dX1_squareFromOrigin_21 : decode cX1_squareFromOrigin 21 = .ok (.invokestatic 41, 3) := by decide +kernel
theorem dX1_squareFromOrigin_24 : decode cX1_squareFromOrigin 24 = .ok (.ladd, 1) := by decide +kernel
theorem dX1_squareFromOrigin_25 : decode cX1_squareFromOrigin 25 = .ok (.lreturn, 1) := by decide +kernel
theorem dX1_counterAt_0 : decode cX1_counterAt 0 = .ok (.lload_n 2, 1) := by decide +kernel
theorem dX1_counterAt_1 : decode cX1_counterAt 1 = .ok (.ldc 45, 2) := by decide +kernel
theorem dX1_counterAt_3 : decode cX1_counterAt 3 = .ok (.aload_n 0, 1) := by decide +kernel
theorem dX1_counterAt_4 : decode cX1_counterAt 4 = .ok (.getfield 14, 3) := by decide +kernel
theorem dX1_counterAt_7 : decode cX1_counterAt 7 = .ok (.iload_n 1, 1) := by decide +kernel
theorem dX1_counterAt_8 : decode cX1_counterAt 8 = .ok (.iconst 2, 1) := by decide +kernel
theorem dX1_counterAt_9 : decode cX1_counterAt 9 = .ok (.invokevirtual 34, 3) := by decide +kernel
theorem dX1_counterAt_12 : decode cX1_counterAt 12 = .ok (.iadd, 1) := by decide +kernel
theorem dX1_counterAt_13 : decode cX1_counterAt 13 = .ok (.i2l, 1) := by decide +kernel
theorem dX1_counterAt_14 : decode cX1_counterAt 14 = .ok (.lmul, 1) := by decide +kernel
theorem dX1_counterAt_15 : decode cX1_counterAt 15 = .ok (.ldc2_w 46, 3) := by decide +kernel
theorem dX1_counterAt_18 : decode cX1_counterAt 18 = .ok (.ldiv, 1) := by decide +kernel
theorem dX1_counterAt_19 : decode cX1_counterAt 19 = .ok (.lstore 4, 2) := by decide +kernel
theorem dX1_counterAt_21 : decode cX1_counterAt 21 = .ok (.lload 4, 2) := by decide +kernel
theorem dX1_counterAt_23 : decode cX1_counterAt 23 = .ok (.aload_n 0, 1) := by decide +kernel
theorem dX1_counterAt_24 : decode cX1_counterAt 24 = .ok (.getfield 14, 3) := by decide +kernel
theorem dX1_counterAt_27 : decode cX1_counterAt 27 = .ok (.iload_n 1, 1) := by decide +kernel
theorem dX1_counterAt_28 : decode cX1_counterAt 28 = .ok (.iconst 3, 1) := by decide +kernel
theorem dX1_counterAt_29 : decode cX1_counterAt 29 = .ok (.invokevirtual 34, 3) := by decide +kernel
theorem dX1_counterAt_32 : decode cX1_counterAt 32 = .ok (.i2l, 1) := by decide +kernel
theorem dX1_counterAt_33 : decode cX1_counterAt 33 = .ok (.ladd, 1) := by decide +kernel
theorem dX1_counterAt_34 : decode cX1_counterAt 34 = .ok (.ldc2_w 48, 3) := by decide +kernel
theorem dX1_counterAt_37 : decode cX1_counterAt 37 = .ok (.invokestatic 50, 3) := by decide +kernel
theorem dX1_counterAt_40 : decode cX1_counterAt 40 = .ok (.l2i, 1) := by decide +kernel
theorem dX1_counterAt_41 : decode cX1_counterAt 41 = .ok (.ireturn, 1) := by decide +kernel
theorem dX1_carryOut_0 : decode cX1_carryOut 0 = .ok (.aload_n 0, 1) := by decide +kernel
theorem dX1_carryOut_1 : decode cX1_carryOut 1 = .ok (.getfield 14, 3) := by decide +kernel
theorem dX1_carryOut_4 : decode cX1_carryOut 4 = .ok (.iload_n 1, 1) := by decide +kernel
theorem dX1_carryOut_5 : decode cX1_carryOut 5 = .ok (.iconst 4, 1) := by decide +kernel
theorem dX1_carryOut_6 : decode cX1_carryOut 6 = .ok (.invokevirtual 34, 3) := by decide +kernel
theorem dX1_carryOut_9 : decode cX1_carryOut 9 = .ok (.aload_n 0, 1) := by decide +kernel
theorem dX1_carryOut_10 : decode cX1_carryOut 10 = .ok (.iload_n 1, 1) := by decide +kernel
theorem dX1_carryOut_11 : decode cX1_carryOut 11 = .ok (.iload_n 2, 1) := by decide +kernel
theorem dX1_carryOut_12 : decode cX1_carryOut 12 = .ok (.invokevirtual 56, 3) := by decide +kernel
theorem dX1_carryOut_15 : decode cX1_carryOut 15 = .ok (.iadd, 1) := by decide +kernel
theorem dX1_carryOut_16 : decode cX1_carryOut 16 = .ok (.aload_n 0, 1) := by decide +kernel
theorem dX1_carryOut_17 : decode cX1_carryOut 17 = .ok (.getfield 14, 3) := by decide +kernel
theorem dX1_carryOut_20 : decode cX1_carryOut 20 = .ok (.iload_n 2, 1) := by decide +kernel
theorem dX1_carryOut_21 : decode cX1_carryOut 21 = .ok (.iconst 4, 1) := by decide +kernel
theorem dX1_carryOut_22 : decode cX1_carryOut 22 = .ok (.invokevirtual 34, 3) := by decide +kernel
theorem dX1_carryOut_25 : decode cX1_carryOut 25 = .ok (.iadd, 1) := by decide +kernel
theorem dX1_carryOut_26 : decode cX1_carryOut 26 = .ok (.istore 5, 2) := by decide +kernel
theorem dX1_carryOut_28 : decode cX1_carryOut 28 = .ok (.aload_n 0, 1) := by decide +kernel
theorem dX1_carryOut_29 : decode cX1_carryOut 29 = .ok (.getfield 26, 3) := by decide +kernel
theorem dX1_carryOut_32 : decode cX1_carryOut 32 = .ok (.iload 5, 2) := by decide +kernel
theorem dX1_carryOut_34 : decode cX1_carryOut 34 = .ok (.i2l, 1) := by decide +kernel
theorem dX1_carryOut_35 : decode cX1_carryOut 35 = .ok (.ladd, 1) := by decide +kernel
theorem dX1_carryOut_36 : decode cX1_carryOut 36 = .ok (.lstore 6, 2) := by decide +kernel
theorem dX1_carryOut_38 : decode cX1_carryOut 38 = .ok (.lload 6, 2) := by decide +kernel
theorem dX1_carryOut_40 : decode cX1_carryOut 40 = .ok (.iload_n 3, 1) := by decide +kernel
theorem dX1_carryOut_41 : decode cX1_carryOut 41 = .ok (.i2l, 1) := by decide +kernel
theorem dX1_carryOut_42 : decode cX1_carryOut 42 = .ok (.ladd, 1) := by decide +kernel
theorem dX1_carryOut_43 : decode cX1_carryOut 43 = .ok (.lstore 8, 2) := by decide +kernel
theorem dX1_carryOut_45 : decode cX1_carryOut 45 = .ok (.lload 8, 2) := by decide +kernel
theorem dX1_carryOut_47 : decode cX1_carryOut 47 = .ok (.iload 5, 2) := by decide +kernel
theorem dX1_carryOut_49 : decode cX1_carryOut 49 = .ok (.i2l, 1) := by decide +kernel
theorem dX1_carryOut_50 : decode cX1_carryOut 50 = .ok (.ladd, 1) := by decide +kernel
theorem dX1_carryOut_51 : decode cX1_carryOut 51 = .ok (.lstore 10, 2) := by decide +kernel
theorem dX1_carryOut_53 : decode cX1_carryOut 53 = .ok (.lload 10, 2) := by decide +kernel
theorem dX1_carryOut_55 : decode cX1_carryOut 55 = .ok (.iload 4, 2) := by decide +kernel
theorem dX1_carryOut_57 : decode cX1_carryOut 57 = .ok (.i2l, 1) := by decide +kernel
theorem dX1_carryOut_58 : decode cX1_carryOut 58 = .ok (.ladd, 1) := by decide +kernel
theorem dX1_carryOut_59 : decode cX1_carryOut 59 = .ok (.lstore 12, 2) := by decide +kernel
theorem dX1_carryOut_61 : decode cX1_carryOut 61 = .ok (.lload 12, 2) := by decide +kernel
theorem dX1_carryOut_63 : decode cX1_carryOut 63 = .ok (.iload 5, 2) := by decide +kernel
theorem dX1_carryOut_65 : decode cX1_carryOut 65 = .ok (.i2l, 1) := by decide +kernel
theorem dX1_carryOut_66 : decode cX1_carryOut 66 = .ok (.ladd, 1) := by decide +kernel
theorem dX1_carryOut_67 : decode cX1_carryOut 67 = .ok (.lstore 14, 2) := by decide +kernel
theorem dX1_carryOut_69 : decode cX1_carryOut 69 = .ok (.aload_n 0, 1) := by decide +kernel
theorem dX1_carryOut_70 : decode cX1_carryOut 70 = .ok (.getfield 20, 3) := by decide +kernel
theorem dX1_carryOut_73 : decode cX1_carryOut 73 = .ok (.aload_n 0, 1) := by decide +kernel
theorem dX1_carryOut_74 : decode cX1_carryOut 74 = .ok (.getfield 20, 3) := by decide +kernel
theorem dX1_carryOut_77 : decode cX1_carryOut 77 = .ok (.getfield 59, 3) := by decide +kernel
theorem dX1_carryOut_80 : decode cX1_carryOut 80 = .ok (.invokevirtual 63, 3) := by decide +kernel
theorem dX1_carryOut_83 : decode cX1_carryOut 83 = .ok (.istore 16, 2) := by decide +kernel
theorem dX1_carryOut_85 : decode cX1_carryOut 85 = .ok (.aload_n 0, 1) := by decide +kernel
theorem dX1_carryOut_86 : decode cX1_carryOut 86 = .ok (.getfield 20, 3) := by decide +kernel
theorem dX1_carryOut_89 : decode cX1_carryOut 89 = .ok (.iload 16, 2) := by decide +kernel
theorem dX1_carryOut_91 : decode cX1_carryOut 91 = .ok (.iconst 0, 1) := by decide +kernel
theorem dX1_carryOut_92 : decode cX1_carryOut 92 = .ok (.iload_n 1, 1) := by decide +kernel
theorem dX1_carryOut_93 : decode cX1_carryOut 93 = .ok (.invokevirtual 67, 3) := by decide +kernel
theorem dX1_carryOut_96 : decode cX1_carryOut 96 = .ok (.aload_n 0, 1) := by decide +kernel
theorem dX1_carryOut_97 : decode cX1_carryOut 97 = .ok (.getfield 20, 3) := by decide +kernel
theorem dX1_carryOut_100 : decode cX1_carryOut 100 = .ok (.iload 16, 2) := by decide +kernel
theorem dX1_carryOut_102 : decode cX1_carryOut 102 = .ok (.iconst 1, 1) := by decide +kernel
theorem dX1_carryOut_103 : decode cX1_carryOut 103 = .ok (.iload_n 2, 1) := by decide +kernel
theorem dX1_carryOut_104 : decode cX1_carryOut 104 = .ok (.invokevirtual 67, 3) := by decide +kernel
theorem dX1_carryOut_107 : decode cX1_carryOut 107 = .ok (.aload_n 0, 1) := by decide +kernel
theorem dX1_carryOut_108 : decode cX1_carryOut 108 = .ok (.getfield 20, 3) := by decide +kernel
theorem dX1_carryOut_111 : decode cX1_carryOut 111 = .ok (.iload 16, 2) := by decide +kernel
theorem dX1_carryOut_113 : decode cX1_carryOut 113 = .ok (.iconst 2, 1) := by decide +kernel
theorem dX1_carryOut_114 : decode cX1_carryOut 114 = .ok (.aload_n 0, 1) := by decide +kernel
theorem dX1_carryOut_115 : decode cX1_carryOut 115 = .ok (.iload_n 1, 1) := by decide +kernel
theorem dX1_carryOut_116 : decode cX1_carryOut 116 = .ok (.aload_n 0, 1) := by decide +kernel
theorem dX1_carryOut_117 : decode cX1_carryOut 117 = .ok (.getfield 26, 3) := by decide +kernel
theorem dX1_carryOut_120 : decode cX1_carryOut 120 = .ok (.invokevirtual 71, 3) := by decide +kernel
theorem dX1_carryOut_123 : decode cX1_carryOut 123 = .ok (.invokevirtual 67, 3) := by decide +kernel
theorem dX1_carryOut_126 : decode cX1_carryOut 126 = .ok (.aload_n 0, 1) := by decide +kernel
theorem dX1_carryOut_127 : decode cX1_carryOut 127 = .ok (.getfield 20, 3) := by decide +kernel
theorem dX1_carryOut_130 : decode cX1_carryOut 130 = .ok (.iload 16, 2) := by decide +kernel
theorem dX1_carryOut_132 : decode cX1_carryOut 132 = .ok (.iconst 3, 1) := by decide +kernel
theorem dX1_carryOut_133 : decode cX1_carryOut 133 = .ok (.aload_n 0, 1) := by decide +kernel
theorem dX1_carryOut_134 : decode cX1_carryOut 134 = .ok (.iload_n 2, 1) := by decide +kernel
theorem dX1_carryOut_135 : decode cX1_carryOut 135 = .ok (.lload 6, 2) := by decide +kernel
theorem dX1_carryOut_137 : decode cX1_carryOut 137 = .ok (.invokevirtual 71, 3) := by decide +kernel
theorem dX1_carryOut_140 : decode cX1_carryOut 140 = .ok (.invokevirtual 67, 3) := by decide +kernel
theorem dX1_carryOut_143 : decode cX1_carryOut 143 = .ok (.aload_n 0, 1) := by decide +kernel
theorem dX1_carryOut_144 : decode cX1_carryOut 144 = .ok (.getfield 20, 3) := by decide +kernel
theorem dX1_carryOut_147 : decode cX1_carryOut 147 = .ok (.iload 16, 2) := by decide +kernel
theorem dX1_carryOut_149 : decode cX1_carryOut 149 = .ok (.iconst 4, 1) := by decide +kernel
theorem dX1_carryOut_150 : decode cX1_carryOut 150 = .ok (.aload_n 0, 1) := by decide +kernel
theorem dX1_carryOut_151 : decode cX1_carryOut 151 = .ok (.iload_n 2, 1) := by decide +kernel
theorem dX1_carryOut_152 : decode cX1_carryOut 152 = .ok (.lload 8, 2) := by decide +kernel
theorem dX1_carryOut_154 : decode cX1_carryOut 154 = .ok (.invokevirtual 71, 3) := by decide +kernel
theorem dX1_carryOut_157 : decode cX1_carryOut 157 = .ok (.invokevirtual 67, 3) := by decide +kernel
theorem dX1_carryOut_160 : decode cX1_carryOut 160 = .ok (.aload_n 0, 1) := by decide +kernel
theorem dX1_carryOut_161 : decode cX1_carryOut 161 = .ok (.getfield 20, 3) := by decide +kernel
theorem dX1_carryOut_164 : decode cX1_carryOut 164 = .ok (.iload 16, 2) := by decide +kernel
theorem dX1_carryOut_166 : decode cX1_carryOut 166 = .ok (.iconst 5, 1) := by decide +kernel
theorem dX1_carryOut_167 : decode cX1_carryOut 167 = .ok (.aload_n 0, 1) := by decide +kernel
theorem dX1_carryOut_168 : decode cX1_carryOut 168 = .ok (.iload_n 1, 1) := by decide +kernel
theorem dX1_carryOut_169 : decode cX1_carryOut 169 = .ok (.lload 10, 2) := by decide +kernel
theorem dX1_carryOut_171 : decode cX1_carryOut 171 = .ok (.invokevirtual 71, 3) := by decide +kernel
theorem dX1_carryOut_174 : decode cX1_carryOut 174 = .ok (.invokevirtual 67, 3) := by decide +kernel
theorem dX1_carryOut_177 : decode cX1_carryOut 177 = .ok (.aload_n 0, 1) := by decide +kernel
theorem dX1_carryOut_178 : decode cX1_carryOut 178 = .ok (.getfield 20, 3) := by decide +kernel
theorem dX1_carryOut_181 : decode cX1_carryOut 181 = .ok (.iload 16, 2) := by decide +kernel
theorem dX1_carryOut_183 : decode cX1_carryOut 183 = .ok (.bipush 6, 2) := by decide +kernel
theorem dX1_carryOut_185 : decode cX1_carryOut 185 = .ok (.aload_n 0, 1) := by decide +kernel
theorem dX1_carryOut_186 : decode cX1_carryOut 186 = .ok (.iload_n 1, 1) := by decide +kernel
theorem dX1_carryOut_187 : decode cX1_carryOut 187 = .ok (.lload 12, 2) := by decide +kernel
theorem dX1_carryOut_189 : decode cX1_carryOut 189 = .ok (.invokevirtual 71, 3) := by decide +kernel
theorem dX1_carryOut_192 : decode cX1_carryOut 192 = .ok (.invokevirtual 67, 3) := by decide +kernel
theorem dX1_carryOut_195 : decode cX1_carryOut 195 = .ok (.aload_n 0, 1) := by decide +kernel
theorem dX1_carryOut_196 : decode cX1_carryOut 196 = .ok (.getfield 20, 3) := by decide +kernel
theorem dX1_carryOut_199 : decode cX1_carryOut 199 = .ok (.iload 16, 2) := by decide +kernel
theorem dX1_carryOut_201 : decode cX1_carryOut 201 = .ok (.bipush 7, 2) := by decide +kernel
theorem dX1_carryOut_203 : decode cX1_carryOut 203 = .ok (.aload_n 0, 1) := by decide +kernel
theorem dX1_carryOut_204 : decode cX1_carryOut 204 = .ok (.iload_n 2, 1) := by decide +kernel
theorem dX1_carryOut_205 : decode cX1_carryOut 205 = .ok (.lload 14, 2) := by decide +kernel
theorem dX1_carryOut_207 : decode cX1_carryOut 207 = .ok (.invokevirtual 71, 3) := by decide +kernel
theorem dX1_carryOut_210 : decode cX1_carryOut 210 = .ok (.invokevirtual 67, 3) := by decide +kernel
theorem dX1_carryOut_213 : decode cX1_carryOut 213 = .ok (.aload_n 0, 1) := by decide +kernel
theorem dX1_carryOut_214 : decode cX1_carryOut 214 = .ok (.lload 14, 2) := by decide +kernel
theorem dX1_carryOut_216 : decode cX1_carryOut 216 = .ok (.putfield 26, 3) := by decide +kernel
theorem dX1_carryOut_219 : decode cX1_carryOut 219 = .ok (.iload 16, 2) := by decide +kernel
theorem dX1_carryOut_221 : decode cX1_carryOut 221 = .ok (.ireturn, 1) := by decide +kernel
theorem dX1_rowForPlan_0 : decode cX1_rowForPlan 0 = .ok (.iconst 0, 1) := by decide +kernel
theorem dX1_rowForPlan_1 : decode cX1_rowForPlan 1 = .ok (.istore_n 2, 1) := by decide +kernel
theorem dX1_rowForPlan_2 : decode cX1_rowForPlan 2 = .ok (.iload_n 2, 1) := by decide +kernel
theorem dX1_rowForPlan_3 : decode cX1_rowForPlan 3 = .ok (.aload_n 0, 1) := by decide +kernel
theorem dX1_rowForPlan_4 : decode cX1_rowForPlan 4 = .ok (.getfield 23, 3) := by decide +kernel
theorem dX1_rowForPlan_7 : decode cX1_rowForPlan 7 = .ok (.getfield 59, 3) := by decide +kernel
theorem dX1_rowForPlan_10 : decode cX1_rowForPlan 10 = .ok (.if_icmp .ge 22, 3) := by decide +kernel
theorem dX1_rowForPlan_13 : decode cX1_rowForPlan 13 = .ok (.aload_n 0, 1) := by decide +kernel
theorem dX1_rowForPlan_14 : decode cX1_rowForPlan 14 = .ok (.getfield 23, 3) := by decide +kernel
theorem dX1_rowForPlan_17 : decode cX1_rowForPlan 17 = .ok (.iload_n 2, 1) := by decide +kernel
theorem dX1_rowForPlan_18 : decode cX1_rowForPlan 18 = .ok (.iconst 0, 1) := by decide +kernel
theorem dX1_rowForPlan_19 : decode cX1_rowForPlan 19 = .ok (.invokevirtual 34, 3) := by decide +kernel
theorem dX1_rowForPlan_22 : decode cX1_rowForPlan 22 = .ok (.iload_n 1, 1) := by decide +kernel
theorem dX1_rowForPlan_23 : decode cX1_rowForPlan 23 = .ok (.if_icmp .gt 9, 3) := by decide +kernel
theorem dX1_rowForPlan_26 : decode cX1_rowForPlan 26 = .ok (.iinc 2 1, 3) := by decide +kernel
theorem dX1_rowForPlan_29 : decode cX1_rowForPlan 29 = .ok (.goto (-27), 3) := by decide +kernel
theorem dX1_rowForPlan_32 : decode cX1_rowForPlan 32 = .ok (.iload_n 2, 1) := by decide +kernel
theorem dX1_rowForPlan_33 : decode cX1_rowForPlan 33 = .ok (.ireturn, 1) := by decide +kernel
theorem dX1_runUntil_0 : decode cX1_runUntil 0 = .ok (.iconst 0, 1) := by decide +kernel
theorem dX1_runUntil_1 : decode cX1_runUntil 1 = .ok (.istore_n 2, 1) := by decide +kernel
theorem dX1_runUntil_2 : decode cX1_runUntil 2 = .ok (.aload_n 0, 1) := by decide +kernel
theorem dX1_runUntil_3 : decode cX1_runUntil 3 = .ok (.getfield 23, 3) := by decide +kernel
theorem dX1_runUntil_6 : decode cX1_runUntil 6 = .ok (.getfield 59, 3) := by decide +kernel
theorem dX1_runUntil_9 : decode cX1_runUntil 9 = .ok (.istore_n 3, 1) := by decide +kernel
theorem dX1_runUntil_10 : decode cX1_runUntil 10 = .ok (.iconst 0, 1) := by decide +kernel
theorem dX1_runUntil_11 : decode cX1_runUntil 11 = .ok (.istore 4, 2) := by decide +kernel
theorem dX1_runUntil_13 : decode cX1_runUntil 13 = .ok (.iload 4, 2) := by decide +kernel
theorem dX1_runUntil_15 : decode cX1_runUntil 15 = .ok (.iload_n 3, 1) := by decide +kernel
theorem dX1_runUntil_16 : decode cX1_runUntil 16 = .ok (.if_icmp .ge 46, 3) := by decide +kernel
theorem dX1_runUntil_19 : decode cX1_runUntil 19 = .ok (.aload_n 0, 1) := by decide +kernel
theorem dX1_runUntil_20 : decode cX1_runUntil 20 = .ok (.getfield 23, 3) := by decide +kernel
theorem dX1_runUntil_23 : decode cX1_runUntil 23 = .ok (.iconst 0, 1) := by decide +kernel
theorem dX1_runUntil_24 : decode cX1_runUntil 24 = .ok (.iconst 0, 1) := by decide +kernel
theorem dX1_runUntil_25 : decode cX1_runUntil 25 = .ok (.invokevirtual 34, 3) := by decide +kernel
theorem dX1_runUntil_28 : decode cX1_runUntil 28 = .ok (.iload_n 1, 1) := by decide +kernel
theorem dX1_runUntil_29 : decode cX1_runUntil 29 = .ok (.if_icmp .gt 33, 3) := by decide +kernel
theorem dX1_runUntil_32 : decode cX1_runUntil 32 = .ok (.aload_n 0, 1) := by decide +kernel
theorem dX1_runUntil_33 : decode cX1_runUntil 33 = .ok (.getfield 20, 3) := by decide +kernel
theorem dX1_runUntil_36 : decode cX1_runUntil 36 = .ok (.invokevirtual 75, 3) := by decide +kernel
theorem dX1_runUntil_39 : decode cX1_runUntil 39 = .ok (.ifCond .ne 10, 3) := by decide +kernel
theorem dX1_runUntil_42 : decode cX1_runUntil 42 = .ok (.aload_n 0, 1) := by decide +kernel
theorem dX1_runUntil_43 : decode cX1_runUntil 43 = .ok (.invokevirtual 79, 3) := by decide +kernel
theorem dX1_runUntil_46 : decode cX1_runUntil 46 = .ok (.iinc 2 1, 3) := by decide +kernel
theorem dX1_runUntil_49 : decode cX1_runUntil 49 = .ok (.aload_n 0, 1) := by decide +kernel
theorem dX1_runUntil_50 : decode cX1_runUntil 50 = .ok (.getfield 23, 3) := by decide +kernel
theorem dX1_runUntil_53 : decode cX1_runUntil 53 = .ok (.invokevirtual 82, 3) := by decide +kernel
theorem dX1_runUntil_56 : decode cX1_runUntil 56 = .ok (.iinc 4 1, 3) := by decide +kernel
theorem dX1_runUntil_59 : decode cX1_runUntil 59 = .ok (.goto (-46), 3) := by decide +kernel
theorem dX1_runUntil_62 : decode cX1_runUntil 62 = .ok (.aload_n 0, 1) := by decide +kernel
theorem dX1_runUntil_63 : decode cX1_runUntil 63 = .ok (.aload_n 0, 1) := by decide +kernel
theorem dX1_runUntil_64 : decode cX1_runUntil 64 = .ok (.getfield 26, 3) := by decide +kernel
theorem dX1_runUntil_67 : decode cX1_runUntil 67 = .ok (.iload_n 1, 1) := by decide +kernel
theorem dX1_runUntil_68 : decode cX1_runUntil 68 = .ok (.i2l, 1) := by decide +kernel
theorem dX1_runUntil_69 : decode cX1_runUntil 69 = .ok (.invokestatic 85, 3) := by decide +kernel
theorem dX1_runUntil_72 : decode cX1_runUntil 72 = .ok (.putfield 26, 3) := by decide +kernel
theorem dX1_runUntil_75 : decode cX1_runUntil 75 = .ok (.iload_n 2, 1) := by decide +kernel
theorem dX1_runUntil_76 : decode cX1_runUntil 76 = .ok (.ireturn, 1) := by decide +kernel
theorem dX1_carryOutFirstPlan_0 : decode cX1_carryOutFirstPlan 0 = .ok (.aload_n 0, 1) := by decide +kernel
theorem dX1_carryOutFirstPlan_1 : decode cX1_carryOutFirstPlan 1 = .ok (.aload_n 0, 1) := by decide +kernel
theorem dX1_carryOutFirstPlan_2 : decode cX1_carryOutFirstPlan 2 = .ok (.getfield 26, 3) := by decide +kernel
theorem dX1_carryOutFirstPlan_5 : decode cX1_carryOutFirstPlan 5 = .ok (.aload_n 0, 1) := by decide +kernel
theorem dX1_carryOutFirstPlan_6 : decode cX1_carryOutFirstPlan 6 = .ok (.getfield 23, 3) := by decide +kernel
theorem dX1_carryOutFirstPlan_9 : decode cX1_carryOutFirstPlan 9 = .ok (.iconst 0, 1) := by decide +kernel
theorem dX1_carryOutFirstPlan_10 : decode cX1_carryOutFirstPlan 10 = .ok (.iconst 0, 1) := by decide +kernel
theorem dX1_carryOutFirstPlan_11 : decode cX1_carryOutFirstPlan 11 = .ok (.invokevirtual 34, 3) := by decide +kernel
theorem dX1_carryOutFirstPlan_14 : decode cX1_carryOutFirstPlan 14 = .ok (.i2l, 1) := by decide +kernel
theorem dX1_carryOutFirstPlan_15 : decode cX1_carryOutFirstPlan 15 = .ok (.invokestatic 85, 3) := by decide +kernel
theorem dX1_carryOutFirstPlan_18 : decode cX1_carryOutFirstPlan 18 = .ok (.putfield 26, 3) := by decide +kernel
theorem dX1_carryOutFirstPlan_21 : decode cX1_carryOutFirstPlan 21 = .ok (.aload_n 0, 1) := by decide +kernel
theorem dX1_carryOutFirstPlan_22 : decode cX1_carryOutFirstPlan 22 = .ok (.aload_n 0, 1) := by decide +kernel
theorem dX1_carryOutFirstPlan_23 : decode cX1_carryOutFirstPlan 23 = .ok (.getfield 23, 3) := by decide +kernel
theorem dX1_carryOutFirstPlan_26 : decode cX1_carryOutFirstPlan 26 = .ok (.iconst 0, 1) := by decide +kernel
theorem dX1_carryOutFirstPlan_27 : decode cX1_carryOutFirstPlan 27 = .ok (.iconst 1, 1) := by decide +kernel
theorem dX1_carryOutFirstPlan_28 : decode cX1_carryOutFirstPlan 28 = .ok (.invokevirtual 34, 3) := by decide +kernel
theorem dX1_carryOutFirstPlan_31 : decode cX1_carryOutFirstPlan 31 = .ok (.aload_n 0, 1) := by decide +kernel
theorem dX1_carryOutFirstPlan_32 : decode cX1_carryOutFirstPlan 32 = .ok (.getfield 23, 3) := by decide +kernel
theorem dX1_carryOutFirstPlan_35 : decode cX1_carryOutFirstPlan 35 = .ok (.iconst 0, 1) := by decide +kernel
theorem dX1_carryOutFirstPlan_36 : decode cX1_carryOutFirstPlan 36 = .ok (.iconst 2, 1) := by decide +kernel
theorem dX1_carryOutFirstPlan_37 : decode cX1_carryOutFirstPlan 37 = .ok (.invokevirtual 34, 3) := by decide +kernel
theorem dX1_carryOutFirstPlan_40 : decode cX1_carryOutFirstPlan 40 = .ok (.aload_n 0, 1) := by decide +kernel
theorem dX1_carryOutFirstPlan_41 : decode cX1_carryOutFirstPlan 41 = .ok (.getfield 23, 3) := by decide +kernel
theorem dX1_carryOutFirstPlan_44 : decode cX1_carryOutFirstPlan 44 = .ok (.iconst 0, 1) := by decide +kernel
theorem dX1_carryOutFirstPlan_45 : decode cX1_carryOutFirstPlan 45 = .ok (.iconst 3, 1) := by decide +kernel
theorem dX1_carryOutFirstPlan_46 : decode cX1_carryOutFirstPlan 46 = .ok (.invokevirtual 34, 3) := by decide +kernel
theorem dX1_carryOutFirstPlan_49 : decode cX1_carryOutFirstPlan 49 = .ok (.aload_n 0, 1) := by decide +kernel
theorem dX1_carryOutFirstPlan_50 : decode cX1_carryOutFirstPlan 50 = .ok (.getfield 23, 3) := by decide +kernel
theorem dX1_carryOutFirstPlan_53 : decode cX1_carryOutFirstPlan 53 = .ok (.iconst 0, 1) := by decide +kernel
theorem dX1_carryOutFirstPlan_54 : decode cX1_carryOutFirstPlan 54 = .ok (.iconst 4, 1) := by decide +kernel
theorem dX1_carryOutFirstPlan_55 : decode cX1_carryOutFirstPlan 55 = .ok (.invokevirtual 34, 3) := by decide +kernel
theorem dX1_carryOutFirstPlan_58 : decode cX1_carryOutFirstPlan 58 = .ok (.invokevirtual 88, 3) := by decide +kernel
theorem dX1_carryOutFirstPlan_61 : decode cX1_carryOutFirstPlan 61 = .ok (.pop, 1) := by decide +kernel
theorem dX1_carryOutFirstPlan_62 : decode cX1_carryOutFirstPlan 62 = .ok (.return_, 1) := by decide +kernel
theorem dX1_elapsed_0 : decode cX1_elapsed 0 = .ok (.aload_n 0, 1) := by decide +kernel
theorem dX1_elapsed_1 : decode cX1_elapsed 1 = .ok (.getfield 20, 3) := by decide +kernel
theorem dX1_elapsed_4 : decode cX1_elapsed 4 = .ok (.iload_n 1, 1) := by decide +kernel
theorem dX1_elapsed_5 : decode cX1_elapsed 5 = .ok (.iload_n 3, 1) := by decide +kernel
theorem dX1_elapsed_6 : decode cX1_elapsed 6 = .ok (.invokevirtual 34, 3) := by decide +kernel
theorem dX1_elapsed_9 : decode cX1_elapsed 9 = .ok (.aload_n 0, 1) := by decide +kernel
theorem dX1_elapsed_10 : decode cX1_elapsed 10 = .ok (.getfield 20, 3) := by decide +kernel
theorem dX1_elapsed_13 : decode cX1_elapsed 13 = .ok (.iload_n 1, 1) := by decide +kernel
theorem dX1_elapsed_14 : decode cX1_elapsed 14 = .ok (.iload_n 2, 1) := by decide +kernel
theorem dX1_elapsed_15 : decode cX1_elapsed 15 = .ok (.invokevirtual 34, 3) := by decide +kernel
theorem dX1_elapsed_18 : decode cX1_elapsed 18 = .ok (.isub, 1) := by decide +kernel
theorem dX1_elapsed_19 : decode cX1_elapsed 19 = .ok (.ldc 92, 2) := by decide +kernel
theorem dX1_elapsed_21 : decode cX1_elapsed 21 = .ok (.invokestatic 93, 3) := by decide +kernel
theorem dX1_elapsed_24 : decode cX1_elapsed 24 = .ok (.ireturn, 1) := by decide +kernel
theorem dX1_rawRangeOf_0 : decode cX1_rawRangeOf 0 = .ok (.aload_n 0, 1) := by decide +kernel
theorem dX1_rawRangeOf_1 : decode cX1_rawRangeOf 1 = .ok (.iload_n 1, 1) := by decide +kernel
theorem dX1_rawRangeOf_2 : decode cX1_rawRangeOf 2 = .ok (.iconst 2, 1) := by decide +kernel
theorem dX1_rawRangeOf_3 : decode cX1_rawRangeOf 3 = .ok (.iconst 5, 1) := by decide +kernel
theorem dX1_rawRangeOf_4 : decode cX1_rawRangeOf 4 = .ok (.invokevirtual 95, 3) := by decide +kernel
theorem dX1_rawRangeOf_7 : decode cX1_rawRangeOf 7 = .ok (.i2l, 1) := by decide +kernel
theorem dX1_rawRangeOf_8 : decode cX1_rawRangeOf 8 = .ok (.lstore_n 3, 1) := by decide +kernel
theorem dX1_rawRangeOf_9 : decode cX1_rawRangeOf 9 = .ok (.aload_n 0, 1) := by decide +kernel
theorem dX1_rawRangeOf_10 : decode cX1_rawRangeOf 10 = .ok (.iload_n 1, 1) := by decide +kernel
theorem dX1_rawRangeOf_11 : decode cX1_rawRangeOf 11 = .ok (.iconst 3, 1) := by decide +kernel
theorem dX1_rawRangeOf_12 : decode cX1_rawRangeOf 12 = .ok (.iconst 4, 1) := by decide +kernel
theorem dX1_rawRangeOf_13 : decode cX1_rawRangeOf 13 = .ok (.invokevirtual 95, 3) := by decide +kernel
theorem dX1_rawRangeOf_16 : decode cX1_rawRangeOf 16 = .ok (.i2l, 1) := by decide +kernel
theorem dX1_rawRangeOf_17 : decode cX1_rawRangeOf 17 = .ok (.lstore 5, 2) := by decide +kernel
theorem dX1_rawRangeOf_19 : decode cX1_rawRangeOf 19 = .ok (.aload_n 0, 1) := by decide +kernel
theorem dX1_rawRangeOf_20 : decode cX1_rawRangeOf 20 = .ok (.iload_n 1, 1) := by decide +kernel
theorem dX1_rawRangeOf_21 : decode cX1_rawRangeOf 21 = .ok (.iconst 4, 1) := by decide +kernel
theorem dX1_rawRangeOf_22 : decode cX1_rawRangeOf 22 = .ok (.bipush 7, 2) := by decide +kernel
theorem dX1_rawRangeOf_24 : decode cX1_rawRangeOf 24 = .ok (.invokevirtual 95, 3) := by decide +kernel
theorem dX1_rawRangeOf_27 : decode cX1_rawRangeOf 27 = .ok (.i2l, 1) := by decide +kernel
theorem dX1_rawRangeOf_28 : decode cX1_rawRangeOf 28 = .ok (.lstore 7, 2) := by decide +kernel
theorem dX1_rawRangeOf_30 : decode cX1_rawRangeOf 30 = .ok (.aload_n 0, 1) := by decide +kernel
theorem dX1_rawRangeOf_31 : decode cX1_rawRangeOf 31 = .ok (.iload_n 1, 1) := by decide +kernel
theorem dX1_rawRangeOf_32 : decode cX1_rawRangeOf 32 = .ok (.iconst 5, 1) := by decide +kernel
theorem dX1_rawRangeOf_33 : decode cX1_rawRangeOf 33 = .ok (.bipush 6, 2) := by decide +kernel
theorem dX1_rawRangeOf_35 : decode cX1_rawRangeOf 35 = .ok (.invokevirtual 95, 3) := by decide +kernel
theorem dX1_rawRangeOf_38 : decode cX1_rawRangeOf 38 = .ok (.i2l, 1) := by decide +kernel
theorem dX1_rawRangeOf_39 : decode cX1_rawRangeOf 39 = .ok (.lstore 9, 2) := by decide +kernel
theorem dX1_rawRangeOf_41 : decode cX1_rawRangeOf 41 = .ok (.iload_n 2, 1) := by decide +kernel
theorem dX1_rawRangeOf_42 : decode cX1_rawRangeOf 42 = .ok (.ifCond .ne 15, 3) := by decide +kernel
theorem dX1_rawRangeOf_45 : decode cX1_rawRangeOf 45 = .ok (.lload_n 3, 1) := by decide +kernel
theorem dX1_rawRangeOf_46 : decode cX1_rawRangeOf 46 = .ok (.lload 5, 2) := by decide +kernel
theorem dX1_rawRangeOf_48 : decode cX1_rawRangeOf 48 = .ok (.lsub, 1) := by decide +kernel
theorem dX1_rawRangeOf_49 : decode cX1_rawRangeOf 49 = .ok (.ldc2_w 99, 3) := by decide +kernel
theorem dX1_rawRangeOf_52 : decode cX1_rawRangeOf 52 = .ok (.invokestatic 101, 3) := by decide +kernel
theorem dX1_rawRangeOf_55 : decode cX1_rawRangeOf 55 = .ok (.l2i, 1) := by decide +kernel
theorem dX1_rawRangeOf_56 : decode cX1_rawRangeOf 56 = .ok (.ireturn, 1) := by decide +kernel
theorem dX1_rawRangeOf_57 : decode cX1_rawRangeOf 57 = .ok (.iload_n 2, 1) := by decide +kernel
theorem dX1_rawRangeOf_58 : decode cX1_rawRangeOf 58 = .ok (.iconst 1, 1) := by decide +kernel
theorem dX1_rawRangeOf_59 : decode cX1_rawRangeOf 59 = .ok (.if_icmp .ne 21, 3) := by decide +kernel
theorem dX1_rawRangeOf_62 : decode cX1_rawRangeOf 62 = .ok (.lload_n 3, 1) := by decide +kernel
theorem dX1_rawRangeOf_63 : decode cX1_rawRangeOf 63 = .ok (.lload 5, 2) := by decide +kernel
theorem dX1_rawRangeOf_65 : decode cX1_rawRangeOf 65 = .ok (.lsub, 1) := by decide +kernel
theorem dX1_rawRangeOf_66 : decode cX1_rawRangeOf 66 = .ok (.lload 7, 2) := by decide +kernel
theorem dX1_rawRangeOf_68 : decode cX1_rawRangeOf 68 = .ok (.ladd, 1) := by decide +kernel
theorem dX1_rawRangeOf_69 : decode cX1_rawRangeOf 69 = .ok (.lload 9, 2) := by decide +kernel
theorem dX1_rawRangeOf_71 : decode cX1_rawRangeOf 71 = .ok (.lsub, 1) := by decide +kernel
theorem dX1_rawRangeOf_72 : decode cX1_rawRangeOf 72 = .ok (.ldc2_w 104, 3) := by decide +kernel
theorem dX1_rawRangeOf_75 : decode cX1_rawRangeOf 75 = .ok (.invokestatic 101, 3) := by decide +kernel
theorem dX1_rawRangeOf_78 : decode cX1_rawRangeOf 78 = .ok (.l2i, 1) := by decide +kernel
theorem dX1_rawRangeOf_79 : decode cX1_rawRangeOf 79 = .ok (.ireturn, 1) := by decide +kernel
theorem dX1_rawRangeOf_80 : decode cX1_rawRangeOf 80 = .ok (.lload_n 3, 1) := by decide +kernel
theorem dX1_rawRangeOf_81 : decode cX1_rawRangeOf 81 = .ok (.lload 7, 2) := by decide +kernel
theorem dX1_rawRangeOf_83 : decode cX1_rawRangeOf 83 = .ok (.ladd, 1) := by decide +kernel
theorem dX1_rawRangeOf_84 : decode cX1_rawRangeOf 84 = .ok (.lload 9, 2) := by decide +kernel
theorem dX1_rawRangeOf_86 : decode cX1_rawRangeOf 86 = .ok (.ladd, 1) := by decide +kernel
theorem dX1_rawRangeOf_87 : decode cX1_rawRangeOf 87 = .ok (.lload 5, 2) := by decide +kernel
theorem dX1_rawRangeOf_89 : decode cX1_rawRangeOf 89 = .ok (.ladd, 1) := by decide +kernel
theorem dX1_rawRangeOf_90 : decode cX1_rawRangeOf 90 = .ok (.lstore 11, 2) := by decide +kernel
theorem dX1_rawRangeOf_92 : decode cX1_rawRangeOf 92 = .ok (.lload 11, 2) := by decide +kernel
theorem dX1_rawRangeOf_94 : decode cX1_rawRangeOf 94 = .ok (.lconst 0, 1) := by decide +kernel
theorem dX1_rawRangeOf_95 : decode cX1_rawRangeOf 95 = .ok (.lcmp, 1) := by decide +kernel
theorem dX1_rawRangeOf_96 : decode cX1_rawRangeOf 96 = .ok (.ifCond .ne 7, 3) := by decide +kernel
theorem dX1_rawRangeOf_99 : decode cX1_rawRangeOf 99 = .ok (.iconst 0, 1) := by decide +kernel
theorem dX1_rawRangeOf_100 : decode cX1_rawRangeOf 100 = .ok (.goto 19, 3) := by decide +kernel
theorem dX1_rawRangeOf_103 : decode cX1_rawRangeOf 103 = .ok (.lload_n 3, 1) := by decide +kernel
theorem dX1_rawRangeOf_104 : decode cX1_rawRangeOf 104 = .ok (.lload 7, 2) := by decide +kernel
theorem dX1_rawRangeOf_106 : decode cX1_rawRangeOf 106 = .ok (.lmul, 1) := by decide +kernel
theorem dX1_rawRangeOf_107 : decode cX1_rawRangeOf 107 = .ok (.lload 9, 2) := by decide +kernel
theorem dX1_rawRangeOf_109 : decode cX1_rawRangeOf 109 = .ok (.lload 5, 2) := by decide +kernel
theorem dX1_rawRangeOf_111 : decode cX1_rawRangeOf 111 = .ok (.lmul, 1) := by decide +kernel
theorem dX1_rawRangeOf_112 : decode cX1_rawRangeOf 112 = .ok (.lsub, 1) := by decide +kernel
theorem dX1_rawRangeOf_113 : decode cX1_rawRangeOf 113 = .ok (.lload 11, 2) := by decide +kernel
theorem dX1_rawRangeOf_115 : decode cX1_rawRangeOf 115 = .ok (.invokestatic 101, 3) := by decide +kernel
theorem dX1_rawRangeOf_118 : decode cX1_rawRangeOf 118 = .ok (.l2i, 1) := by decide +kernel
theorem dX1_rawRangeOf_119 : decode cX1_rawRangeOf 119 = .ok (.ireturn, 1) := by decide +kernel
theorem dX1_rangeOf_0 : decode cX1_rangeOf 0 = .ok (.aload_n 0, 1) := by decide +kernel
theorem dX1_rangeOf_1 : decode cX1_rangeOf 1 = .ok (.iload_n 1, 1) := by decide +kernel
theorem dX1_rangeOf_2 : decode cX1_rangeOf 2 = .ok (.iload_n 2, 1) := by decide +kernel
theorem dX1_rangeOf_3 : decode cX1_rangeOf 3 = .ok (.invokevirtual 106, 3) := by decide +kernel
theorem dX1_rangeOf_6 : decode cX1_rangeOf 6 = .ok (.aload_n 0, 1) := by decide +kernel
theorem dX1_rangeOf_7 : decode cX1_rangeOf 7 = .ok (.getfield 14, 3) := by decide +kernel
theorem dX1_rangeOf_10 : decode cX1_rangeOf 10 = .ok (.aload_n 0, 1) := by decide +kernel
theorem dX1_rangeOf_11 : decode cX1_rangeOf 11 = .ok (.getfield 20, 3) := by decide +kernel
theorem dX1_rangeOf_14 : decode cX1_rangeOf 14 = .ok (.iload_n 1, 1) := by decide +kernel
theorem dX1_rangeOf_15 : decode cX1_rangeOf 15 = .ok (.iconst 0, 1) := by decide +kernel
theorem dX1_rangeOf_16 : decode cX1_rangeOf 16 = .ok (.invokevirtual 34, 3) := by decide +kernel
theorem dX1_rangeOf_19 : decode cX1_rangeOf 19 = .ok (.iconst 5, 1) := by decide +kernel
theorem dX1_rangeOf_20 : decode cX1_rangeOf 20 = .ok (.invokevirtual 34, 3) := by decide +kernel
theorem dX1_rangeOf_23 : decode cX1_rangeOf 23 = .ok (.isub, 1) := by decide +kernel
theorem dX1_rangeOf_24 : decode cX1_rangeOf 24 = .ok (.aload_n 0, 1) := by decide +kernel
theorem dX1_rangeOf_25 : decode cX1_rangeOf 25 = .ok (.getfield 14, 3) := by decide +kernel
theorem dX1_rangeOf_28 : decode cX1_rangeOf 28 = .ok (.aload_n 0, 1) := by decide +kernel
theorem dX1_rangeOf_29 : decode cX1_rangeOf 29 = .ok (.getfield 20, 3) := by decide +kernel
theorem dX1_rangeOf_32 : decode cX1_rangeOf 32 = .ok (.iload_n 1, 1) := by decide +kernel
theorem dX1_rangeOf_33 : decode cX1_rangeOf 33 = .ok (.iconst 1, 1) := by decide +kernel
theorem dX1_rangeOf_34 : decode cX1_rangeOf 34 = .ok (.invokevirtual 34, 3) := by decide +kernel
theorem dX1_rangeOf_37 : decode cX1_rangeOf 37 = .ok (.iconst 5, 1) := by decide +kernel
theorem dX1_rangeOf_38 : decode cX1_rangeOf 38 = .ok (.invokevirtual 34, 3) := by decide +kernel
theorem dX1_rangeOf_41 : decode cX1_rangeOf 41 = .ok (.isub, 1) := by decide +kernel
theorem dX1_rangeOf_42 : decode cX1_rangeOf 42 = .ok (.ireturn, 1) := by decide +kernel
theorem dX1_errorOf_0 : decode cX1_errorOf 0 = .ok (.aload_n 0, 1) := by decide +kernel
theorem dX1_errorOf_1 : decode cX1_errorOf 1 = .ok (.iload_n 1, 1) := by decide +kernel
theorem dX1_errorOf_2 : decode cX1_errorOf 2 = .ok (.iload_n 2, 1) := by decide +kernel
theorem dX1_errorOf_3 : decode cX1_errorOf 3 = .ok (.invokevirtual 109, 3) := by decide +kernel
theorem dX1_errorOf_6 : decode cX1_errorOf 6 = .ok (.aload_n 0, 1) := by decide +kernel
theorem dX1_errorOf_7 : decode cX1_errorOf 7 = .ok (.iload_n 1, 1) := by decide +kernel
theorem dX1_errorOf_8 : decode cX1_errorOf 8 = .ok (.invokevirtual 112, 3) := by decide +kernel
theorem dX1_errorOf_11 : decode cX1_errorOf 11 = .ok (.isub, 1) := by decide +kernel
theorem dX1_errorOf_12 : decode cX1_errorOf 12 = .ok (.ireturn, 1) := by decide +kernel
theorem dX1_excessOf_0 : decode cX1_excessOf 0 = .ok (.aload_n 0, 1) := by decide +kernel
theorem dX1_excessOf_1 : decode cX1_excessOf 1 = .ok (.iload_n 1, 1) := by decide +kernel
theorem dX1_excessOf_2 : decode cX1_excessOf 2 = .ok (.iconst 2, 1) := by decide +kernel
theorem dX1_excessOf_3 : decode cX1_excessOf 3 = .ok (.invokevirtual 106, 3) := by decide +kernel
theorem dX1_excessOf_6 : decode cX1_excessOf 6 = .ok (.aload_n 0, 1) := by decide +kernel
theorem dX1_excessOf_7 : decode cX1_excessOf 7 = .ok (.iload_n 1, 1) := by decide +kernel
theorem dX1_excessOf_8 : decode cX1_excessOf 8 = .ok (.invokevirtual 112, 3) := by decide +kernel
theorem dX1_excessOf_11 : decode cX1_excessOf 11 = .ok (.isub, 1) := by decide +kernel
theorem dX1_excessOf_12 : decode cX1_excessOf 12 = .ok (.ireturn, 1) := by decide +kernel
theorem dX1_lengthOf_0 : decode cX1_lengthOf 0 = .ok (.aload_n 0, 1) := by decide +kernel
theorem dX1_lengthOf_1 : decode cX1_lengthOf 1 = .ok (.aload_n 0, 1) := by decide +kernel
theorem dX1_lengthOf_2 : decode cX1_lengthOf 2 = .ok (.getfield 20, 3) := by decide +kernel
theorem dX1_lengthOf_5 : decode cX1_lengthOf 5 = .ok (.iload_n 1, 1) := by decide +kernel
theorem dX1_lengthOf_6 : decode cX1_lengthOf 6 = .ok (.iconst 0, 1) := by decide +kernel
theorem dX1_lengthOf_7 : decode cX1_lengthOf 7 = .ok (.invokevirtual 34, 3) := by decide +kernel
theorem dX1_lengthOf_10 : decode cX1_lengthOf 10 = .ok (.aload_n 0, 1) := by decide +kernel
theorem dX1_lengthOf_11 : decode cX1_lengthOf 11 = .ok (.getfield 20, 3) := by decide +kernel
theorem dX1_lengthOf_14 : decode cX1_lengthOf 14 = .ok (.iload_n 1, 1) := by decide +kernel
theorem dX1_lengthOf_15 : decode cX1_lengthOf 15 = .ok (.iconst 1, 1) := by decide +kernel
theorem dX1_lengthOf_16 : decode cX1_lengthOf 16 = .ok (.invokevirtual 34, 3) := by decide +kernel
theorem dX1_lengthOf_19 : decode cX1_lengthOf 19 = .ok (.invokevirtual 56, 3) := by decide +kernel
theorem dX1_lengthOf_22 : decode cX1_lengthOf 22 = .ok (.ireturn, 1) := by decide +kernel
theorem dX1_latestBetween_0 : decode cX1_latestBetween 0 = .ok (.aload_n 0, 1) := by decide +kernel
theorem dX1_latestBetween_1 : decode cX1_latestBetween 1 = .ok (.getfield 20, 3) := by decide +kernel
theorem dX1_latestBetween_4 : decode cX1_latestBetween 4 = .ok (.getfield 59, 3) := by decide +kernel
theorem dX1_latestBetween_7 : decode cX1_latestBetween 7 = .ok (.iconst 1, 1) := by decide +kernel
theorem dX1_latestBetween_8 : decode cX1_latestBetween 8 = .ok (.isub, 1) := by decide +kernel
theorem dX1_latestBetween_9 : decode cX1_latestBetween 9 = .ok (.istore_n 3, 1) := by decide +kernel
theorem dX1_latestBetween_10 : decode cX1_latestBetween 10 = .ok (.iload_n 3, 1) := by decide +kernel
theorem dX1_latestBetween_11 : decode cX1_latestBetween 11 = .ok (.ifCond .lt 57, 3) := by decide +kernel
theorem dX1_latestBetween_14 : decode cX1_latestBetween 14 = .ok (.aload_n 0, 1) := by decide +kernel
theorem dX1_latestBetween_15 : decode cX1_latestBetween 15 = .ok (.getfield 20, 3) := by decide +kernel
theorem dX1_latestBetween_18 : decode cX1_latestBetween 18 = .ok (.iload_n 3, 1) := by decide +kernel
theorem dX1_latestBetween_19 : decode cX1_latestBetween 19 = .ok (.iconst 0, 1) := by decide +kernel
theorem dX1_latestBetween_20 : decode cX1_latestBetween 20 = .ok (.invokevirtual 34, 3) := by decide +kernel
theorem dX1_latestBetween_23 : decode cX1_latestBetween 23 = .ok (.istore 4, 2) := by decide +kernel
theorem dX1_latestBetween_25 : decode cX1_latestBetween 25 = .ok (.aload_n 0, 1) := by decide +kernel
theorem dX1_latestBetween_26 : decode cX1_latestBetween 26 = .ok (.getfield 20, 3) := by decide +kernel
theorem dX1_latestBetween_29 : decode cX1_latestBetween 29 = .ok (.iload_n 3, 1) := by decide +kernel
theorem dX1_latestBetween_30 : decode cX1_latestBetween 30 = .ok (.iconst 1, 1) := by decide +kernel
theorem dX1_latestBetween_31 : decode cX1_latestBetween 31 = .ok (.invokevirtual 34, 3) := by decide +kernel
theorem dX1_latestBetween_34 : decode cX1_latestBetween 34 = .ok (.istore 5, 2) := by decide +kernel
theorem dX1_latestBetween_36 : decode cX1_latestBetween 36 = .ok (.iload 4, 2) := by decide +kernel
theorem dX1_latestBetween_38 : decode cX1_latestBetween 38 = .ok (.iload_n 1, 1) := by decide +kernel
theorem dX1_latestBetween_39 : decode cX1_latestBetween 39 = .ok (.if_icmp .ne 9, 3) := by decide +kernel
theorem dX1_latestBetween_42 : decode cX1_latestBetween 42 = .ok (.iload 5, 2) := by decide +kernel
theorem dX1_latestBetween_44 : decode cX1_latestBetween 44 = .ok (.iload_n 2, 1) := by decide +kernel
theorem dX1_latestBetween_45 : decode cX1_latestBetween 45 = .ok (.if_icmp .eq 15, 3) := by decide +kernel
theorem dX1_latestBetween_48 : decode cX1_latestBetween 48 = .ok (.iload 4, 2) := by decide +kernel
theorem dX1_latestBetween_50 : decode cX1_latestBetween 50 = .ok (.iload_n 2, 1) := by decide +kernel
theorem dX1_latestBetween_51 : decode cX1_latestBetween 51 = .ok (.if_icmp .ne 11, 3) := by decide +kernel
theorem dX1_latestBetween_54 : decode cX1_latestBetween 54 = .ok (.iload 5, 2) := by decide +kernel
theorem dX1_latestBetween_56 : decode cX1_latestBetween 56 = .ok (.iload_n 1, 1) := by decide +kernel
theorem dX1_latestBetween_57 : decode cX1_latestBetween 57 = .ok (.if_icmp .ne 5, 3) := by decide +kernel
theorem dX1_latestBetween_60 : decode cX1_latestBetween 60 = .ok (.iload_n 3, 1) := by decide +kernel
theorem dX1_latestBetween_61 : decode cX1_latestBetween 61 = .ok (.ireturn, 1) := by decide +kernel
theorem dX1_latestBetween_62 : decode cX1_latestBetween 62 = .ok (.iinc 3 (-1), 3) := by decide +kernel
theorem dX1_latestBetween_65 : decode cX1_latestBetween 65 = .ok (.goto (-55), 3) := by decide +kernel
theorem dX1_latestBetween_68 : decode cX1_latestBetween 68 = .ok (.iconst (-1), 1) := by decide +kernel
theorem dX1_latestBetween_69 : decode cX1_latestBetween 69 = .ok (.ireturn, 1) := by decide +kernel
theorem dX1_mixNodes_0 : decode cX1_mixNodes 0 = .ok (.lload_n 1, 1) := by decide +kernel
theorem dX1_mixNodes_1 : decode cX1_mixNodes 1 = .ok (.aload_n 0, 1) := by decide +kernel
theorem dX1_mixNodes_2 : decode cX1_mixNodes 2 = .ok (.getfield 14, 3) := by decide +kernel
theorem dX1_mixNodes_5 : decode cX1_mixNodes 5 = .ok (.getfield 59, 3) := by decide +kernel
theorem dX1_mixNodes_8 : decode cX1_mixNodes 8 = .ok (.i2l, 1) := by decide +kernel
theorem dX1_mixNodes_9 : decode cX1_mixNodes 9 = .ok (.invokestatic 115, 3) := by decide +kernel
theorem dX1_mixNodes_12 : decode cX1_mixNodes 12 = .ok (.lstore_n 3, 1) := by decide +kernel
theorem dX1_mixNodes_13 : decode cX1_mixNodes 13 = .ok (.iconst 0, 1) := by decide +kernel
theorem dX1_mixNodes_14 : decode cX1_mixNodes 14 = .ok (.istore 5, 2) := by decide +kernel
theorem dX1_mixNodes_16 : decode cX1_mixNodes 16 = .ok (.iload 5, 2) := by decide +kernel
theorem dX1_mixNodes_18 : decode cX1_mixNodes 18 = .ok (.aload_n 0, 1) := by decide +kernel
theorem dX1_mixNodes_19 : decode cX1_mixNodes 19 = .ok (.getfield 14, 3) := by decide +kernel
theorem dX1_mixNodes_22 : decode cX1_mixNodes 22 = .ok (.getfield 59, 3) := by decide +kernel
theorem dX1_mixNodes_25 : decode cX1_mixNodes 25 = .ok (.if_icmp .ge 58, 3) := by decide +kernel
theorem dX1_mixNodes_28 : decode cX1_mixNodes 28 = .ok (.iconst 0, 1) := by decide +kernel
theorem dX1_mixNodes_29 : decode cX1_mixNodes 29 = .ok (.istore 6, 2) := by decide +kernel
theorem dX1_mixNodes_31 : decode cX1_mixNodes 31 = .ok (.iload 6, 2) := by decide +kernel
theorem dX1_mixNodes_33 : decode cX1_mixNodes 33 = .ok (.bipush 6, 2) := by decide +kernel
theorem dX1_mixNodes_35 : decode cX1_mixNodes 35 = .ok (.if_icmp .ge 26, 3) := by decide +kernel
theorem dX1_mixNodes_38 : decode cX1_mixNodes 38 = .ok (.lload_n 3, 1) := by decide +kernel
theorem dX1_mixNodes_39 : decode cX1_mixNodes 39 = .ok (.aload_n 0, 1) := by decide +kernel
theorem dX1_mixNodes_40 : decode cX1_mixNodes 40 = .ok (.getfield 14, 3) := by decide +kernel
theorem dX1_mixNodes_43 : decode cX1_mixNodes 43 = .ok (.iload 5, 2) := by decide +kernel
theorem dX1_mixNodes_45 : decode cX1_mixNodes 45 = .ok (.iload 6, 2) := by decide +kernel
theorem dX1_mixNodes_47 : decode cX1_mixNodes 47 = .ok (.invokevirtual 34, 3) := by decide +kernel
theorem dX1_mixNodes_50 : decode cX1_mixNodes 50 = .ok (.i2l, 1) := by decide +kernel
theorem dX1_mixNodes_51 : decode cX1_mixNodes 51 = .ok (.invokestatic 115, 3) := by decide +kernel
theorem dX1_mixNodes_54 : decode cX1_mixNodes 54 = .ok (.lstore_n 3, 1) := by decide +kernel
theorem dX1_mixNodes_55 : decode cX1_mixNodes 55 = .ok (.iinc 6 1, 3) := by decide +kernel
theorem dX1_mixNodes_58 : decode cX1_mixNodes 58 = .ok (.goto (-27), 3) := by decide +kernel
theorem dX1_mixNodes_61 : decode cX1_mixNodes 61 = .ok (.lload_n 3, 1) := by decide +kernel
theorem dX1_mixNodes_62 : decode cX1_mixNodes 62 = .ok (.aload_n 0, 1) := by decide +kernel
theorem dX1_mixNodes_63 : decode cX1_mixNodes 63 = .ok (.iload 5, 2) := by decide +kernel
theorem dX1_mixNodes_65 : decode cX1_mixNodes 65 = .ok (.aload_n 0, 1) := by decide +kernel
theorem dX1_mixNodes_66 : decode cX1_mixNodes 66 = .ok (.getfield 26, 3) := by decide +kernel
theorem dX1_mixNodes_69 : decode cX1_mixNodes 69 = .ok (.invokevirtual 71, 3) := by decide +kernel
theorem dX1_mixNodes_72 : decode cX1_mixNodes 72 = .ok (.i2l, 1) := by decide +kernel
theorem dX1_mixNodes_73 : decode cX1_mixNodes 73 = .ok (.invokestatic 115, 3) := by decide +kernel
theorem dX1_mixNodes_76 : decode cX1_mixNodes 76 = .ok (.lstore_n 3, 1) := by decide +kernel
theorem dX1_mixNodes_77 : decode cX1_mixNodes 77 = .ok (.iinc 5 1, 3) := by decide +kernel
theorem dX1_mixNodes_80 : decode cX1_mixNodes 80 = .ok (.goto (-64), 3) := by decide +kernel
theorem dX1_mixNodes_83 : decode cX1_mixNodes 83 = .ok (.lload_n 3, 1) := by decide +kernel
theorem dX1_mixNodes_84 : decode cX1_mixNodes 84 = .ok (.lreturn, 1) := by decide +kernel
theorem dX1_mixRecords_0 : decode cX1_mixRecords 0 = .ok (.lload_n 1, 1) := by decide +kernel
theorem dX1_mixRecords_1 : decode cX1_mixRecords 1 = .ok (.aload_n 0, 1) := by decide +kernel
theorem dX1_mixRecords_2 : decode cX1_mixRecords 2 = .ok (.getfield 20, 3) := by decide +kernel
theorem dX1_mixRecords_5 : decode cX1_mixRecords 5 = .ok (.getfield 59, 3) := by decide +kernel
theorem dX1_mixRecords_8 : decode cX1_mixRecords 8 = .ok (.i2l, 1) := by decide +kernel
theorem dX1_mixRecords_9 : decode cX1_mixRecords 9 = .ok (.invokestatic 115, 3) := by decide +kernel
theorem dX1_mixRecords_12 : decode cX1_mixRecords 12 = .ok (.lstore_n 3, 1) := by decide +kernel
theorem dX1_mixRecords_13 : decode cX1_mixRecords 13 = .ok (.iconst 0, 1) := by decide +kernel
theorem dX1_mixRecords_14 : decode cX1_mixRecords 14 = .ok (.istore 5, 2) := by decide +kernel
theorem dX1_mixRecords_16 : decode cX1_mixRecords 16 = .ok (.iload 5, 2) := by decide +kernel
theorem dX1_mixRecords_18 : decode cX1_mixRecords 18 = .ok (.aload_n 0, 1) := by decide +kernel
theorem dX1_mixRecords_19 : decode cX1_mixRecords 19 = .ok (.getfield 20, 3) := by decide +kernel
theorem dX1_mixRecords_22 : decode cX1_mixRecords 22 = .ok (.getfield 59, 3) := by decide +kernel
theorem dX1_mixRecords_25 : decode cX1_mixRecords 25 = .ok (.if_icmp .ge 71, 3) := by decide +kernel
theorem dX1_mixRecords_28 : decode cX1_mixRecords 28 = .ok (.iconst 0, 1) := by decide +kernel
theorem dX1_mixRecords_29 : decode cX1_mixRecords 29 = .ok (.istore 6, 2) := by decide +kernel
theorem dX1_mixRecords_31 : decode cX1_mixRecords 31 = .ok (.iload 6, 2) := by decide +kernel
theorem dX1_mixRecords_33 : decode cX1_mixRecords 33 = .ok (.bipush 8, 2) := by decide +kernel
theorem dX1_mixRecords_35 : decode cX1_mixRecords 35 = .ok (.if_icmp .ge 26, 3) := by decide +kernel
theorem dX1_mixRecords_38 : decode cX1_mixRecords 38 = .ok (.lload_n 3, 1) := by decide +kernel
theorem dX1_mixRecords_39 : decode cX1_mixRecords 39 = .ok (.aload_n 0, 1) := by decide +kernel
theorem dX1_mixRecords_40 : decode cX1_mixRecords 40 = .ok (.getfield 20, 3) := by decide +kernel
theorem dX1_mixRecords_43 : decode cX1_mixRecords 43 = .ok (.iload 5, 2) := by decide +kernel
theorem dX1_mixRecords_45 : decode cX1_mixRecords 45 = .ok (.iload 6, 2) := by decide +kernel
theorem dX1_mixRecords_47 : decode cX1_mixRecords 47 = .ok (.invokevirtual 34, 3) := by decide +kernel
theorem dX1_mixRecords_50 : decode cX1_mixRecords 50 = .ok (.i2l, 1) := by decide +kernel
theorem dX1_mixRecords_51 : decode cX1_mixRecords 51 = .ok (.invokestatic 115, 3) := by decide +kernel
theorem dX1_mixRecords_54 : decode cX1_mixRecords 54 = .ok (.lstore_n 3, 1) := by decide +kernel
theorem dX1_mixRecords_55 : decode cX1_mixRecords 55 = .ok (.iinc 6 1, 3) := by decide +kernel
theorem dX1_mixRecords_58 : decode cX1_mixRecords 58 = .ok (.goto (-27), 3) := by decide +kernel
theorem dX1_mixRecords_61 : decode cX1_mixRecords 61 = .ok (.iconst 0, 1) := by decide +kernel
theorem dX1_mixRecords_62 : decode cX1_mixRecords 62 = .ok (.istore 6, 2) := by decide +kernel
theorem dX1_mixRecords_64 : decode cX1_mixRecords 64 = .ok (.iload 6, 2) := by decide +kernel
theorem dX1_mixRecords_66 : decode cX1_mixRecords 66 = .ok (.iconst 2, 1) := by decide +kernel
theorem dX1_mixRecords_67 : decode cX1_mixRecords 67 = .ok (.if_icmp .gt 23, 3) := by decide +kernel
theorem dX1_mixRecords_70 : decode cX1_mixRecords 70 = .ok (.lload_n 3, 1) := by decide +kernel
theorem dX1_mixRecords_71 : decode cX1_mixRecords 71 = .ok (.aload_n 0, 1) := by decide +kernel
theorem dX1_mixRecords_72 : decode cX1_mixRecords 72 = .ok (.iload 5, 2) := by decide +kernel
theorem dX1_mixRecords_74 : decode cX1_mixRecords 74 = .ok (.iload 6, 2) := by decide +kernel
theorem dX1_mixRecords_76 : decode cX1_mixRecords 76 = .ok (.invokevirtual 109, 3) := by decide +kernel
theorem dX1_mixRecords_79 : decode cX1_mixRecords 79 = .ok (.i2l, 1) := by decide +kernel
theorem dX1_mixRecords_80 : decode cX1_mixRecords 80 = .ok (.invokestatic 115, 3) := by decide +kernel
theorem dX1_mixRecords_83 : decode cX1_mixRecords 83 = .ok (.lstore_n 3, 1) := by decide +kernel
theorem dX1_mixRecords_84 : decode cX1_mixRecords 84 = .ok (.iinc 6 1, 3) := by decide +kernel
theorem dX1_mixRecords_87 : decode cX1_mixRecords 87 = .ok (.goto (-23), 3) := by decide +kernel
theorem dX1_mixRecords_90 : decode cX1_mixRecords 90 = .ok (.iinc 5 1, 3) := by decide +kernel
theorem dX1_mixRecords_93 : decode cX1_mixRecords 93 = .ok (.goto (-77), 3) := by decide +kernel
theorem dX1_mixRecords_96 : decode cX1_mixRecords 96 = .ok (.lload_n 3, 1) := by decide +kernel
theorem dX1_mixRecords_97 : decode cX1_mixRecords 97 = .ok (.lreturn, 1) := by decide +kernel
theorem dX1_mixPlans_0 : decode cX1_mixPlans 0 = .ok (.lload_n 1, 1) := by decide +kernel
theorem dX1_mixPlans_1 : decode cX1_mixPlans 1 = .ok (.aload_n 0, 1) := by decide +kernel
theorem dX1_mixPlans_2 : decode cX1_mixPlans 2 = .ok (.getfield 23, 3) := by decide +kernel
theorem dX1_mixPlans_5 : decode cX1_mixPlans 5 = .ok (.getfield 59, 3) := by decide +kernel
theorem dX1_mixPlans_8 : decode cX1_mixPlans 8 = .ok (.i2l, 1) := by decide +kernel
theorem dX1_mixPlans_9 : decode cX1_mixPlans 9 = .ok (.invokestatic 115, 3) := by decide +kernel
theorem dX1_mixPlans_12 : decode cX1_mixPlans 12 = .ok (.lstore_n 3, 1) := by decide +kernel
theorem dX1_mixPlans_13 : decode cX1_mixPlans 13 = .ok (.iconst 0, 1) := by decide +kernel
theorem dX1_mixPlans_14 : decode cX1_mixPlans 14 = .ok (.istore 5, 2) := by decide +kernel
theorem dX1_mixPlans_16 : decode cX1_mixPlans 16 = .ok (.iload 5, 2) := by decide +kernel
theorem dX1_mixPlans_18 : decode cX1_mixPlans 18 = .ok (.aload_n 0, 1) := by decide +kernel
theorem dX1_mixPlans_19 : decode cX1_mixPlans 19 = .ok (.getfield 23, 3) := by decide +kernel
theorem dX1_mixPlans_22 : decode cX1_mixPlans 22 = .ok (.getfield 59, 3) := by decide +kernel
theorem dX1_mixPlans_25 : decode cX1_mixPlans 25 = .ok (.if_icmp .ge 41, 3) := by decide +kernel
theorem dX1_mixPlans_28 : decode cX1_mixPlans 28 = .ok (.iconst 0, 1) := by decide +kernel
theorem dX1_mixPlans_29 : decode cX1_mixPlans 29 = .ok (.istore 6, 2) := by decide +kernel
theorem dX1_mixPlans_31 : decode cX1_mixPlans 31 = .ok (.iload 6, 2) := by decide +kernel
theorem dX1_mixPlans_33 : decode cX1_mixPlans 33 = .ok (.iconst 5, 1) := by decide +kernel
theorem dX1_mixPlans_34 : decode cX1_mixPlans 34 = .ok (.if_icmp .ge 26, 3) := by decide +kernel
theorem dX1_mixPlans_37 : decode cX1_mixPlans 37 = .ok (.lload_n 3, 1) := by decide +kernel
theorem dX1_mixPlans_38 : decode cX1_mixPlans 38 = .ok (.aload_n 0, 1) := by decide +kernel
theorem dX1_mixPlans_39 : decode cX1_mixPlans 39 = .ok (.getfield 23, 3) := by decide +kernel
theorem dX1_mixPlans_42 : decode cX1_mixPlans 42 = .ok (.iload 5, 2) := by decide +kernel
theorem dX1_mixPlans_44 : decode cX1_mixPlans 44 = .ok (.iload 6, 2) := by decide +kernel
theorem dX1_mixPlans_46 : decode cX1_mixPlans 46 = .ok (.invokevirtual 34, 3) := by decide +kernel
theorem dX1_mixPlans_49 : decode cX1_mixPlans 49 = .ok (.i2l, 1) := by decide +kernel
theorem dX1_mixPlans_50 : decode cX1_mixPlans 50 = .ok (.invokestatic 115, 3) := by decide +kernel
theorem dX1_mixPlans_53 : decode cX1_mixPlans 53 = .ok (.lstore_n 3, 1) := by decide +kernel
theorem dX1_mixPlans_54 : decode cX1_mixPlans 54 = .ok (.iinc 6 1, 3) := by decide +kernel
theorem dX1_mixPlans_57 : decode cX1_mixPlans 57 = .ok (.goto (-26), 3) := by decide +kernel
theorem dX1_mixPlans_60 : decode cX1_mixPlans 60 = .ok (.iinc 5 1, 3) := by decide +kernel
theorem dX1_mixPlans_63 : decode cX1_mixPlans 63 = .ok (.goto (-47), 3) := by decide +kernel
theorem dX1_mixPlans_66 : decode cX1_mixPlans 66 = .ok (.lload_n 3, 1) := by decide +kernel
theorem dX1_mixPlans_67 : decode cX1_mixPlans 67 = .ok (.lreturn, 1) := by decide +kernel
theorem dX2_init_0 : decode cX2_init 0 = .ok (.aload_n 0, 1) := by decide +kernel
theorem dX2_init_1 : decode cX2_init 1 = .ok (.invokespecial 3, 3) := by decide +kernel
theorem dX2_init_4 : decode cX2_init 4 = .ok (.aload_n 0, 1) := by decide +kernel
theorem dX2_init_5 : decode cX2_init 5 = .ok (.aload_n 1, 1) := by decide +kernel
theorem dX2_init_6 : decode cX2_init 6 = .ok (.putfield 9, 3) := by decide +kernel
theorem dX2_init_9 : decode cX2_init 9 = .ok (.aload_n 0, 1) := by decide +kernel
theorem dX2_init_10 : decode cX2_init 10 = .ok (.iload_n 2, 1) := by decide +kernel
theorem dX2_init_11 : decode cX2_init 11 = .ok (.putfield 15, 3) := by decide +kernel
theorem dX2_init_14 : decode cX2_init 14 = .ok (.return_, 1) := by decide +kernel
theorem dX2_isFull_0 : decode cX2_isFull 0 = .ok (.aload_n 0, 1) := by decide +kernel
theorem dX2_isFull_1 : decode cX2_isFull 1 = .ok (.getfield 19, 3) := by decide +kernel
theorem dX2_isFull_4 : decode cX2_isFull 4 = .ok (.iconst 1, 1) := by decide +kernel
theorem dX2_isFull_5 : decode cX2_isFull 5 = .ok (.iadd, 1) := by decide +kernel
theorem dX2_isFull_6 : decode cX2_isFull 6 = .ok (.aload_n 0, 1) := by decide +kernel
theorem dX2_isFull_7 : decode cX2_isFull 7 = .ok (.getfield 15, 3) := by decide +kernel
theorem dX2_isFull_10 : decode cX2_isFull 10 = .ok (.imul, 1) := by decide +kernel
theorem dX2_isFull_11 : decode cX2_isFull 11 = .ok (.aload_n 0, 1) := by decide +kernel
theorem dX2_isFull_12 : decode cX2_isFull 12 = .ok (.getfield 9, 3) := by decide +kernel
theorem dX2_isFull_15 : decode cX2_isFull 15 = .ok (.arraylength, 1) := by decide +kernel
theorem dX2_isFull_16 : decode cX2_isFull 16 = .ok (.if_icmp .le 7, 3) := by decide +kernel
theorem dX2_isFull_19 : decode cX2_isFull 19 = .ok (.iconst 1, 1) := by decide +kernel
theorem dX2_isFull_20 : decode cX2_isFull 20 = .ok (.goto 4, 3) := by decide +kernel
theorem dX2_isFull_23 : decode cX2_isFull 23 = .ok (.iconst 0, 1) := by decide +kernel
theorem dX2_isFull_24 : decode cX2_isFull 24 = .ok (.ireturn, 1) := by decide +kernel
theorem dX2_get_0 : decode cX2_get 0 = .ok (.iload_n 1, 1) := by decide +kernel
theorem dX2_get_1 : decode cX2_get 1 = .ok (.aload_n 0, 1) := by decide +kernel
theorem dX2_get_2 : decode cX2_get 2 = .ok (.getfield 15, 3) := by decide +kernel
theorem dX2_get_5 : decode cX2_get 5 = .ok (.imul, 1) := by decide +kernel
theorem dX2_get_6 : decode cX2_get 6 = .ok (.iload_n 2, 1) := by decide +kernel
theorem dX2_get_7 : decode cX2_get 7 = .ok (.iadd, 1) := by decide +kernel
theorem dX2_get_8 : decode cX2_get 8 = .ok (.istore_n 3, 1) := by decide +kernel
theorem dX2_get_9 : decode cX2_get 9 = .ok (.iload_n 3, 1) := by decide +kernel
theorem dX2_get_10 : decode cX2_get 10 = .ok (.ifCond .lt 21, 3) := by decide +kernel
theorem dX2_get_13 : decode cX2_get 13 = .ok (.iload_n 3, 1) := by decide +kernel
theorem dX2_get_14 : decode cX2_get 14 = .ok (.aload_n 0, 1) := by decide +kernel
theorem dX2_get_15 : decode cX2_get 15 = .ok (.getfield 9, 3) := by decide +kernel
theorem dX2_get_18 : decode cX2_get 18 = .ok (.arraylength, 1) := by decide +kernel
theorem dX2_get_19 : decode cX2_get 19 = .ok (.if_icmp .ge 12, 3) := by decide +kernel
theorem dX2_get_22 : decode cX2_get 22 = .ok (.aload_n 0, 1) := by decide +kernel
theorem dX2_get_23 : decode cX2_get 23 = .ok (.getfield 9, 3) := by decide +kernel
theorem dX2_get_26 : decode cX2_get 26 = .ok (.iload_n 3, 1) := by decide +kernel
theorem dX2_get_27 : decode cX2_get 27 = .ok (.iaload, 1) := by decide +kernel
theorem dX2_get_28 : decode cX2_get 28 = .ok (.goto 4, 3) := by decide +kernel
theorem dX2_get_31 : decode cX2_get 31 = .ok (.iconst 0, 1) := by decide +kernel
theorem dX2_get_32 : decode cX2_get 32 = .ok (.ireturn, 1) := by decide +kernel
theorem dX2_set_0 : decode cX2_set 0 = .ok (.iload_n 1, 1) := by decide +kernel
theorem dX2_set_1 : decode cX2_set 1 = .ok (.aload_n 0, 1) := by decide +kernel
theorem dX2_set_2 : decode cX2_set 2 = .ok (.getfield 15, 3) := by decide +kernel
theorem dX2_set_5 : decode cX2_set 5 = .ok (.imul, 1) := by decide +kernel
theorem dX2_set_6 : decode cX2_set 6 = .ok (.iload_n 2, 1) := by decide +kernel
theorem dX2_set_7 : decode cX2_set 7 = .ok (.iadd, 1) := by decide +kernel
theorem dX2_set_8 : decode cX2_set 8 = .ok (.istore 4, 2) := by decide +kernel
theorem dX2_set_10 : decode cX2_set 10 = .ok (.iload 4, 2) := by decide +kernel
theorem dX2_set_12 : decode cX2_set 12 = .ok (.ifCond .lt 21, 3) := by decide +kernel
theorem dX2_set_15 : decode cX2_set 15 = .ok (.iload 4, 2) := by decide +kernel
theorem dX2_set_17 : decode cX2_set 17 = .ok (.aload_n 0, 1) := by decide +kernel
theorem dX2_set_18 : decode cX2_set 18 = .ok (.getfield 9, 3) := by decide +kernel
theorem dX2_set_21 : decode cX2_set 21 = .ok (.arraylength, 1) := by decide +kernel
theorem dX2_set_22 : decode cX2_set 22 = .ok (.if_icmp .ge 11, 3) := by decide +kernel
theorem dX2_set_25 : decode cX2_set 25 = .ok (.aload_n 0, 1) := by decide +kernel
theorem dX2_set_26 : decode cX2_set 26 = .ok (.getfield 9, 3) := by decide +kernel
theorem dX2_set_29 : decode cX2_set 29 = .ok (.iload 4, 2) := by decide +kernel
theorem dX2_set_31 : decode cX2_set 31 = .ok (.iload_n 3, 1) := by decide +kernel
theorem dX2_set_32 : decode cX2_set 32 = .ok (.iastore, 1) := by decide +kernel
theorem dX2_set_33 : decode cX2_set 33 = .ok (.return_, 1) := by decide +kernel
theorem dX2_openRow_0 : decode cX2_openRow 0 = .ok (.aload_n 0, 1) := by decide +kernel
theorem dX2_openRow_1 : decode cX2_openRow 1 = .ok (.invokevirtual 22, 3) := by decide +kernel
theorem dX2_openRow_4 : decode cX2_openRow 4 = .ok (.ifCond .ne 15, 3) := by decide +kernel
theorem dX2_openRow_7 : decode cX2_openRow 7 = .ok (.iload_n 1, 1) := by decide +kernel
theorem dX2_openRow_8 : decode cX2_openRow 8 = .ok (.ifCond .lt 11, 3) := by decide +kernel
theorem dX2_openRow_11 : decode cX2_openRow 11 = .ok (.iload_n 1, 1) := by decide +kernel
theorem dX2_openRow_12 : decode cX2_openRow 12 = .ok (.aload_n 0, 1) := by decide +kernel
theorem dX2_openRow_13 : decode cX2_openRow 13 = .ok (.getfield 19, 3) := by decide +kernel
theorem dX2_openRow_16 : decode cX2_openRow 16 = .ok (.if_icmp .le 5, 3) := by decide +kernel
theorem dX2_openRow_19 : decode cX2_openRow 19 = .ok (.iconst (-1), 1) := by decide +kernel
theorem dX2_openRow_20 : decode cX2_openRow 20 = .ok (.ireturn, 1) := by decide +kernel
theorem dX2_openRow_21 : decode cX2_openRow 21 = .ok (.aload_n 0, 1) := by decide +kernel
theorem dX2_openRow_22 : decode cX2_openRow 22 = .ok (.getfield 9, 3) := by decide +kernel
theorem dX2_openRow_25 : decode cX2_openRow 25 = .ok (.iload_n 1, 1) := by decide +kernel
theorem dX2_openRow_26 : decode cX2_openRow 26 = .ok (.aload_n 0, 1) := by decide +kernel
theorem dX2_openRow_27 : decode cX2_openRow 27 = .ok (.getfield 15, 3) := by decide +kernel
theorem dX2_openRow_30 : decode cX2_openRow 30 = .ok (.imul, 1) := by decide +kernel
theorem dX2_openRow_31 : decode cX2_openRow 31 = .ok (.aload_n 0, 1) := by decide +kernel
theorem dX2_openRow_32 : decode cX2_openRow 32 = .ok (.getfield 9, 3) := by decide +kernel
theorem dX2_openRow_35 : decode cX2_openRow 35 = .ok (.iload_n 1, 1) := by decide +kernel
theorem dX2_openRow_36 : decode cX2_openRow 36 = .ok (.iconst 1, 1) := by decide +kernel
theorem dX2_openRow_37 : decode cX2_openRow 37 = .ok (.iadd, 1) := by decide +kernel
theorem dX2_openRow_38 : decode cX2_openRow 38 = .ok (.aload_n 0, 1) := by decide +kernel
theorem dX2_openRow_39 : decode cX2_openRow 39 = .ok (.getfield 15, 3) := by decide +kernel
theorem dX2_openRow_42 : decode cX2_openRow 42 = .ok (.imul, 1) := by decide +kernel
theorem dX2_openRow_43 : decode cX2_openRow 43 = .ok (.aload_n 0, 1) := by decide +kernel
theorem dX2_openRow_44 : decode cX2_openRow 44 = .ok (.getfield 19, 3) := by decide +kernel
theorem dX2_openRow_47 : decode cX2_openRow 47 = .ok (.iload_n 1, 1) := by decide +kernel
theorem dX2_openRow_48 : decode cX2_openRow 48 = .ok (.isub, 1) := by decide +kernel
theorem dX2_openRow_49 : decode cX2_openRow 49 = .ok (.aload_n 0, 1) := by decide +kernel
theorem dX2_openRow_50 : decode cX2_openRow 50 = .ok (.getfield 15, 3) := by decide +kernel
theorem dX2_openRow_53 : decode cX2_openRow 53 = .ok (.imul, 1) := by decide +kernel
theorem dX2_openRow_54 : decode cX2_openRow 54 = .ok (.invokestatic 26, 3) := by decide +kernel
theorem dX2_openRow_57 : decode cX2_openRow 57 = .ok (.aload_n 0, 1) := by decide +kernel
theorem dX2_openRow_58 : decode cX2_openRow 58 = .ok (.dup, 1) := by decide +kernel
theorem dX2_openRow_59 : decode cX2_openRow 59 = .ok (.getfield 19, 3) := by decide +kernel
theorem dX2_openRow_62 : decode cX2_openRow 62 = .ok (.iconst 1, 1) := by decide +kernel
theorem dX2_openRow_63 : decode cX2_openRow 63 = .ok (.iadd, 1) := by decide +kernel
theorem dX2_openRow_64 : decode cX2_openRow 64 = .ok (.putfield 19, 3) := by decide +kernel
theorem dX2_openRow_67 : decode cX2_openRow 67 = .ok (.iload_n 1, 1) := by decide +kernel
theorem dX2_openRow_68 : decode cX2_openRow 68 = .ok (.ireturn, 1) := by decide +kernel
theorem dX2_removeFirstRow_0 : decode cX2_removeFirstRow 0 = .ok (.aload_n 0, 1) := by decide +kernel
theorem dX2_removeFirstRow_1 : decode cX2_removeFirstRow 1 = .ok (.getfield 19, 3) := by decide +kernel
theorem dX2_removeFirstRow_4 : decode cX2_removeFirstRow 4 = .ok (.ifCond .le 38, 3) := by decide +kernel
theorem dX2_removeFirstRow_7 : decode cX2_removeFirstRow 7 = .ok (.aload_n 0, 1) := by decide +kernel
theorem dX2_removeFirstRow_8 : decode cX2_removeFirstRow 8 = .ok (.dup, 1) := by decide +kernel
theorem dX2_removeFirstRow_9 : decode cX2_removeFirstRow 9 = .ok (.getfield 19, 3) := by decide +kernel
theorem dX2_removeFirstRow_12 : decode cX2_removeFirstRow 12 = .ok (.iconst 1, 1) := by decide +kernel
theorem dX2_removeFirstRow_13 : decode cX2_removeFirstRow 13 = .ok (.isub, 1) := by decide +kernel
theorem dX2_removeFirstRow_14 : decode cX2_removeFirstRow 14 = .ok (.putfield 19, 3) := by decide +kernel
theorem dX2_removeFirstRow_17 : decode cX2_removeFirstRow 17 = .ok (.aload_n 0, 1) := by decide +kernel
theorem dX2_removeFirstRow_18 : decode cX2_removeFirstRow 18 = .ok (.getfield 9, 3) := by decide +kernel
theorem dX2_removeFirstRow_21 : decode cX2_removeFirstRow 21 = .ok (.aload_n 0, 1) := by decide +kernel
theorem dX2_removeFirstRow_22 : decode cX2_removeFirstRow 22 = .ok (.getfield 15, 3) := by decide +kernel
theorem dX2_removeFirstRow_25 : decode cX2_removeFirstRow 25 = .ok (.aload_n 0, 1) := by decide +kernel
theorem dX2_removeFirstRow_26 : decode cX2_removeFirstRow 26 = .ok (.getfield 9, 3) := by decide +kernel
theorem dX2_removeFirstRow_29 : decode cX2_removeFirstRow 29 = .ok (.iconst 0, 1) := by decide +kernel
theorem dX2_removeFirstRow_30 : decode cX2_removeFirstRow 30 = .ok (.aload_n 0, 1) := by decide +kernel
theorem dX2_removeFirstRow_31 : decode cX2_removeFirstRow 31 = .ok (.getfield 19, 3) := by decide +kernel
theorem dX2_removeFirstRow_34 : decode cX2_removeFirstRow 34 = .ok (.aload_n 0, 1) := by decide +kernel
theorem dX2_removeFirstRow_35 : decode cX2_removeFirstRow 35 = .ok (.getfield 15, 3) := by decide +kernel
theorem dX2_removeFirstRow_38 : decode cX2_removeFirstRow 38 = .ok (.imul, 1) := by decide +kernel
theorem dX2_removeFirstRow_39 : decode cX2_removeFirstRow 39 = .ok (.invokestatic 26, 3) := by decide +kernel
theorem dX2_removeFirstRow_42 : decode cX2_removeFirstRow 42 = .ok (.return_, 1) := by decide +kernel
theorem dX2_copyFrom_0 : decode cX2_copyFrom 0 = .ok (.aload_n 1, 1) := by decide +kernel
theorem dX2_copyFrom_1 : decode cX2_copyFrom 1 = .ok (.getfield 19, 3) := by decide +kernel
theorem dX2_copyFrom_4 : decode cX2_copyFrom 4 = .ok (.aload_n 0, 1) := by decide +kernel
theorem dX2_copyFrom_5 : decode cX2_copyFrom 5 = .ok (.getfield 15, 3) := by decide +kernel
theorem dX2_copyFrom_8 : decode cX2_copyFrom 8 = .ok (.imul, 1) := by decide +kernel
theorem dX2_copyFrom_9 : decode cX2_copyFrom 9 = .ok (.istore_n 2, 1) := by decide +kernel
theorem dX2_copyFrom_10 : decode cX2_copyFrom 10 = .ok (.iload_n 2, 1) := by decide +kernel
theorem dX2_copyFrom_11 : decode cX2_copyFrom 11 = .ok (.aload_n 0, 1) := by decide +kernel
theorem dX2_copyFrom_12 : decode cX2_copyFrom 12 = .ok (.getfield 9, 3) := by decide +kernel
theorem dX2_copyFrom_15 : decode cX2_copyFrom 15 = .ok (.arraylength, 1) := by decide +kernel
theorem dX2_copyFrom_16 : decode cX2_copyFrom 16 = .ok (.if_icmp .gt 34, 3) := by decide +kernel
theorem dX2_copyFrom_19 : decode cX2_copyFrom 19 = .ok (.iload_n 2, 1) := by decide +kernel
theorem dX2_copyFrom_20 : decode cX2_copyFrom 20 = .ok (.aload_n 1, 1) := by decide +kernel
theorem dX2_copyFrom_21 : decode cX2_copyFrom 21 = .ok (.getfield 9, 3) := by decide +kernel
theorem dX2_copyFrom_24 : decode cX2_copyFrom 24 = .ok (.arraylength, 1) := by decide +kernel
theorem dX2_copyFrom_25 : decode cX2_copyFrom 25 = .ok (.if_icmp .gt 25, 3) := by decide +kernel
theorem dX2_copyFrom_28 : decode cX2_copyFrom 28 = .ok (.aload_n 1, 1) := by decide +kernel
theorem dX2_copyFrom_29 : decode cX2_copyFrom 29 = .ok (.getfield 9, 3) := by decide +kernel
theorem dX2_copyFrom_32 : decode cX2_copyFrom 32 = .ok (.iconst 0, 1) := by decide +kernel
theorem dX2_copyFrom_33 : decode cX2_copyFrom 33 = .ok (.aload_n 0, 1) := by decide +kernel
theorem dX2_copyFrom_34 : decode cX2_copyFrom 34 = .ok (.getfield 9, 3) := by decide +kernel
theorem dX2_copyFrom_37 : decode cX2_copyFrom 37 = .ok (.iconst 0, 1) := by decide +kernel
theorem dX2_copyFrom_38 : decode cX2_copyFrom 38 = .ok (.iload_n 2, 1) := by decide +kernel
theorem dX2_copyFrom_39 : decode cX2_copyFrom 39 = .ok (.invokestatic 26, 3) := by decide +kernel
theorem dX2_copyFrom_42 : decode cX2_copyFrom 42 = .ok (.aload_n 0, 1) := by decide +kernel
theorem dX2_copyFrom_43 : decode cX2_copyFrom 43 = .ok (.aload_n 1, 1) := by decide +kernel
theorem dX2_copyFrom_44 : decode cX2_copyFrom 44 = .ok (.getfield 19, 3) := by decide +kernel
theorem dX2_copyFrom_47 : decode cX2_copyFrom 47 = .ok (.putfield 19, 3) := by decide +kernel
theorem dX2_copyFrom_50 : decode cX2_copyFrom 50 = .ok (.return_, 1) := by decide +kernel
theorem dX3_init_0 : decode cX3_init 0 = .ok (.aload_n 0, 1) := by decide +kernel
theorem dX3_init_1 : decode cX3_init 1 = .ok (.invokespecial 1, 3) := by decide +kernel
theorem dX3_init_4 : decode cX3_init 4 = .ok (.aload_n 0, 1) := by decide +kernel
theorem dX3_init_5 : decode cX3_init 5 = .ok (.new 7, 3) := by decide +kernel
theorem dX3_init_8 : decode cX3_init 8 = .ok (.dup, 1) := by decide +kernel
theorem dX3_init_9 : decode cX3_init 9 = .ok (.invokespecial 9, 3) := by decide +kernel
theorem dX3_init_12 : decode cX3_init 12 = .ok (.putfield 10, 3) := by decide +kernel
theorem dX3_init_15 : decode cX3_init 15 = .ok (.aload_n 0, 1) := by decide +kernel
theorem dX3_init_16 : decode cX3_init 16 = .ok (.new 16, 3) := by decide +kernel
theorem dX3_init_19 : decode cX3_init 19 = .ok (.dup, 1) := by decide +kernel
theorem dX3_init_20 : decode cX3_init 20 = .ok (.invokespecial 18, 3) := by decide +kernel
theorem dX3_init_23 : decode cX3_init 23 = .ok (.putfield 19, 3) := by decide +kernel
theorem dX3_init_26 : decode cX3_init 26 = .ok (.return_, 1) := by decide +kernel
theorem dX3_addNode_0 : decode cX3_addNode 0 = .ok (.iload_n 1, 1) := by decide +kernel
theorem dX3_addNode_1 : decode cX3_addNode 1 = .ok (.sipush (-1000), 3) := by decide +kernel
theorem dX3_addNode_4 : decode cX3_addNode 4 = .ok (.sipush 1000, 3) := by decide +kernel
theorem dX3_addNode_7 : decode cX3_addNode 7 = .ok (.invokestatic 23, 3) := by decide +kernel
theorem dX3_addNode_10 : decode cX3_addNode 10 = .ok (.iload_n 2, 1) := by decide +kernel
theorem dX3_addNode_11 : decode cX3_addNode 11 = .ok (.sipush (-1000), 3) := by decide +kernel
theorem dX3_addNode_14 : decode cX3_addNode 14 = .ok (.sipush 1000, 3) := by decide +kernel
theorem dX3_addNode_17 : decode cX3_addNode 17 = .ok (.invokestatic 23, 3) := by decide +kernel
theorem dX3_addNode_20 : decode cX3_addNode 20 = .ok (.iload_n 3, 1) := by decide +kernel
theorem dX3_addNode_21 : decode cX3_addNode 21 = .ok (.bipush (-100), 2) := by decide +kernel
theorem dX3_addNode_23 : decode cX3_addNode 23 = .ok (.bipush 100, 2) := by decide +kernel
theorem dX3_addNode_25 : decode cX3_addNode 25 = .ok (.invokestatic 23, 3) := by decide +kernel
theorem dX3_addNode_28 : decode cX3_addNode 28 = .ok (.iload 4, 2) := by decide +kernel
theorem dX3_addNode_30 : decode cX3_addNode 30 = .ok (.iconst 0, 1) := by decide +kernel
theorem dX3_addNode_31 : decode cX3_addNode 31 = .ok (.ldc 27, 2) := by decide +kernel
theorem dX3_addNode_33 : decode cX3_addNode 33 = .ok (.invokestatic 23, 3) := by decide +kernel
theorem dX3_addNode_36 : decode cX3_addNode 36 = .ok (.iload 5, 2) := by decide +kernel
theorem dX3_addNode_38 : decode cX3_addNode 38 = .ok (.iconst 0, 1) := by decide +kernel
theorem dX3_addNode_39 : decode cX3_addNode 39 = .ok (.sipush 200, 3) := by decide +kernel
theorem dX3_addNode_42 : decode cX3_addNode 42 = .ok (.invokestatic 23, 3) := by decide +kernel
theorem dX3_addNode_45 : decode cX3_addNode 45 = .ok (.aload_n 0, 1) := by decide +kernel
theorem dX3_addNode_46 : decode cX3_addNode 46 = .ok (.getfield 10, 3) := by decide +kernel
theorem dX3_addNode_49 : decode cX3_addNode 49 = .ok (.getfield 28, 3) := by decide +kernel
theorem dX3_addNode_52 : decode cX3_addNode 52 = .ok (.invokevirtual 32, 3) := by decide +kernel
theorem dX3_addNode_55 : decode cX3_addNode 55 = .ok (.ifCond .eq 13, 3) := by decide +kernel
theorem dX3_addNode_58 : decode cX3_addNode 58 = .ok (.new 38, 3) := by decide +kernel
theorem dX3_addNode_61 : decode cX3_addNode 61 = .ok (.dup, 1) := by decide +kernel
theorem dX3_addNode_62 : decode cX3_addNode 62 = .ok (.ldc 40, 2) := by decide +kernel
theorem dX3_addNode_64 : decode cX3_addNode 64 = .ok (.invokespecial 42, 3) := by decide +kernel
theorem dX3_addNode_67 : decode cX3_addNode 67 = .ok (.athrow, 1) := by decide +kernel
theorem dX3_addNode_68 : decode cX3_addNode 68 = .ok (.aload_n 0, 1) := by decide +kernel
theorem dX3_addNode_69 : decode cX3_addNode 69 = .ok (.getfield 19, 3) := by decide +kernel
theorem dX3_addNode_72 : decode cX3_addNode 72 = .ok (.aload_n 0, 1) := by decide +kernel
theorem dX3_addNode_73 : decode cX3_addNode 73 = .ok (.getfield 10, 3) := by decide +kernel
theorem dX3_addNode_76 : decode cX3_addNode 76 = .ok (.invokevirtual 45, 3) := by decide +kernel
theorem dX3_addNode_79 : decode cX3_addNode 79 = .ok (.aload_n 0, 1) := by decide +kernel
theorem dX3_addNode_80 : decode cX3_addNode 80 = .ok (.getfield 10, 3) := by decide +kernel
theorem dX3_addNode_83 : decode cX3_addNode 83 = .ok (.getfield 28, 3) := by decide +kernel
theorem dX3_addNode_86 : decode cX3_addNode 86 = .ok (.aload_n 0, 1) := by decide +kernel
theorem dX3_addNode_87 : decode cX3_addNode 87 = .ok (.getfield 10, 3) := by decide +kernel
theorem dX3_addNode_90 : decode cX3_addNode 90 = .ok (.getfield 28, 3) := by decide +kernel
theorem dX3_addNode_93 : decode cX3_addNode 93 = .ok (.getfield 49, 3) := by decide +kernel
theorem dX3_addNode_96 : decode cX3_addNode 96 = .ok (.invokevirtual 53, 3) := by decide +kernel
theorem dX3_addNode_99 : decode cX3_addNode 99 = .ok (.istore 6, 2) := by decide +kernel
theorem dX3_addNode_101 : decode cX3_addNode 101 = .ok (.aload_n 0, 1) := by decide +kernel
theorem dX3_addNode_102 : decode cX3_addNode 102 = .ok (.getfield 10, 3) := by decide +kernel
theorem dX3_addNode_105 : decode cX3_addNode 105 = .ok (.getfield 28, 3) := by decide +kernel
theorem dX3_addNode_108 : decode cX3_addNode 108 = .ok (.iload 6, 2) := by decide +kernel
theorem dX3_addNode_110 : decode cX3_addNode 110 = .ok (.iconst 0, 1) := by decide +kernel
theorem dX3_addNode_111 : decode cX3_addNode 111 = .ok (.iload_n 1, 1) := by decide +kernel
theorem dX3_addNode_112 : decode cX3_addNode 112 = .ok (.invokevirtual 57, 3) := by decide +kernel
theorem dX3_addNode_115 : decode cX3_addNode 115 = .ok (.aload_n 0, 1) := by decide +kernel
theorem dX3_addNode_116 : decode cX3_addNode 116 = .ok (.getfield 10, 3) := by decide +kernel
theorem dX3_addNode_119 : decode cX3_addNode 119 = .ok (.getfield 28, 3) := by decide +kernel
theorem dX3_addNode_122 : decode cX3_addNode 122 = .ok (.iload 6, 2) := by decide +kernel
theorem dX3_addNode_124 : decode cX3_addNode 124 = .ok (.iconst 1, 1) := by decide +kernel
theorem dX3_addNode_125 : decode cX3_addNode 125 = .ok (.iload_n 2, 1) := by decide +kernel
theorem dX3_addNode_126 : decode cX3_addNode 126 = .ok (.invokevirtual 57, 3) := by decide +kernel
theorem dX3_addNode_129 : decode cX3_addNode 129 = .ok (.aload_n 0, 1) := by decide +kernel
theorem dX3_addNode_130 : decode cX3_addNode 130 = .ok (.getfield 10, 3) := by decide +kernel
theorem dX3_addNode_133 : decode cX3_addNode 133 = .ok (.getfield 28, 3) := by decide +kernel
theorem dX3_addNode_136 : decode cX3_addNode 136 = .ok (.iload 6, 2) := by decide +kernel
theorem dX3_addNode_138 : decode cX3_addNode 138 = .ok (.iconst 2, 1) := by decide +kernel
theorem dX3_addNode_139 : decode cX3_addNode 139 = .ok (.iload_n 3, 1) := by decide +kernel
theorem dX3_addNode_140 : decode cX3_addNode 140 = .ok (.invokevirtual 57, 3) := by decide +kernel
theorem dX3_addNode_143 : decode cX3_addNode 143 = .ok (.aload_n 0, 1) := by decide +kernel
theorem dX3_addNode_144 : decode cX3_addNode 144 = .ok (.getfield 10, 3) := by decide +kernel
theorem dX3_addNode_147 : decode cX3_addNode 147 = .ok (.getfield 28, 3) := by decide +kernel
theorem dX3_addNode_150 : decode cX3_addNode 150 = .ok (.iload 6, 2) := by decide +kernel
theorem dX3_addNode_152 : decode cX3_addNode 152 = .ok (.iconst 3, 1) := by decide +kernel
theorem dX3_addNode_153 : decode cX3_addNode 153 = .ok (.iload 4, 2) := by decide +kernel
theorem dX3_addNode_155 : decode cX3_addNode 155 = .ok (.invokevirtual 57, 3) := by decide +kernel
theorem dX3_addNode_158 : decode cX3_addNode 158 = .ok (.aload_n 0, 1) := by decide +kernel
theorem dX3_addNode_159 : decode cX3_addNode 159 = .ok (.getfield 10, 3) := by decide +kernel
theorem dX3_addNode_162 : decode cX3_addNode 162 = .ok (.getfield 28, 3) := by decide +kernel
theorem dX3_addNode_165 : decode cX3_addNode 165 = .ok (.iload 6, 2) := by decide +kernel
theorem dX3_addNode_167 : decode cX3_addNode 167 = .ok (.iconst 4, 1) := by decide +kernel
theorem dX3_addNode_168 : decode cX3_addNode 168 = .ok (.iload 5, 2) := by decide +kernel
theorem dX3_addNode_170 : decode cX3_addNode 170 = .ok (.invokevirtual 57, 3) := by decide +kernel
theorem dX3_addNode_173 : decode cX3_addNode 173 = .ok (.aload_n 0, 1) := by decide +kernel
theorem dX3_addNode_174 : decode cX3_addNode 174 = .ok (.getfield 10, 3) := by decide +kernel
theorem dX3_addNode_177 : decode cX3_addNode 177 = .ok (.getfield 28, 3) := by decide +kernel
theorem dX3_addNode_180 : decode cX3_addNode 180 = .ok (.iload 6, 2) := by decide +kernel
theorem dX3_addNode_182 : decode cX3_addNode 182 = .ok (.iconst 5, 1) := by decide +kernel
theorem dX3_addNode_183 : decode cX3_addNode 183 = .ok (.iconst 0, 1) := by decide +kernel
theorem dX3_addNode_184 : decode cX3_addNode 184 = .ok (.invokevirtual 57, 3) := by decide +kernel
theorem dX3_addNode_187 : decode cX3_addNode 187 = .ok (.iload 6, 2) := by decide +kernel
theorem dX3_addNode_189 : decode cX3_addNode 189 = .ok (.ireturn, 1) := by decide +kernel
theorem dX3_move_0 : decode cX3_move 0 = .ok (.aload_n 0, 1) := by decide +kernel
theorem dX3_move_1 : decode cX3_move 1 = .ok (.iload_n 1, 1) := by decide +kernel
theorem dX3_move_2 : decode cX3_move 2 = .ok (.invokevirtual 60, 3) := by decide +kernel
theorem dX3_move_5 : decode cX3_move 5 = .ok (.iload_n 2, 1) := by decide +kernel
theorem dX3_move_6 : decode cX3_move 6 = .ok (.sipush (-1000), 3) := by decide +kernel
theorem dX3_move_9 : decode cX3_move 9 = .ok (.sipush 1000, 3) := by decide +kernel
theorem dX3_move_12 : decode cX3_move 12 = .ok (.invokestatic 23, 3) := by decide +kernel
theorem dX3_move_15 : decode cX3_move 15 = .ok (.iload_n 3, 1) := by decide +kernel
theorem dX3_move_16 : decode cX3_move 16 = .ok (.sipush (-1000), 3) := by decide +kernel
theorem dX3_move_19 : decode cX3_move 19 = .ok (.sipush 1000, 3) := by decide +kernel
theorem dX3_move_22 : decode cX3_move 22 = .ok (.invokestatic 23, 3) := by decide +kernel
theorem dX3_move_25 : decode cX3_move 25 = .ok (.aload_n 0, 1) := by decide +kernel
theorem dX3_move_26 : decode cX3_move 26 = .ok (.getfield 19, 3) := by decide +kernel
theorem dX3_move_29 : decode cX3_move 29 = .ok (.aload_n 0, 1) := by decide +kernel
theorem dX3_move_30 : decode cX3_move 30 = .ok (.getfield 10, 3) := by decide +kernel
theorem dX3_move_33 : decode cX3_move 33 = .ok (.invokevirtual 45, 3) := by decide +kernel
theorem dX3_move_36 : decode cX3_move 36 = .ok (.iload_n 2, 1) := by decide +kernel
theorem dX3_move_37 : decode cX3_move 37 = .ok (.aload_n 0, 1) := by decide +kernel
theorem dX3_move_38 : decode cX3_move 38 = .ok (.getfield 10, 3) := by decide +kernel
theorem dX3_move_41 : decode cX3_move 41 = .ok (.getfield 28, 3) := by decide +kernel
theorem dX3_move_44 : decode cX3_move 44 = .ok (.iload_n 1, 1) := by decide +kernel
theorem dX3_move_45 : decode cX3_move 45 = .ok (.iconst 0, 1) := by decide +kernel
theorem dX3_move_46 : decode cX3_move 46 = .ok (.invokevirtual 64, 3) := by decide +kernel
theorem dX3_move_49 : decode cX3_move 49 = .ok (.isub, 1) := by decide +kernel
theorem dX3_move_50 : decode cX3_move 50 = .ok (.iload_n 3, 1) := by decide +kernel
theorem dX3_move_51 : decode cX3_move 51 = .ok (.aload_n 0, 1) := by decide +kernel
theorem dX3_move_52 : decode cX3_move 52 = .ok (.getfield 10, 3) := by decide +kernel
theorem dX3_move_55 : decode cX3_move 55 = .ok (.getfield 28, 3) := by decide +kernel
theorem dX3_move_58 : decode cX3_move 58 = .ok (.iload_n 1, 1) := by decide +kernel
theorem dX3_move_59 : decode cX3_move 59 = .ok (.iconst 1, 1) := by decide +kernel
theorem dX3_move_60 : decode cX3_move 60 = .ok (.invokevirtual 64, 3) := by decide +kernel
theorem dX3_move_63 : decode cX3_move 63 = .ok (.isub, 1) := by decide +kernel
theorem dX3_move_64 : decode cX3_move 64 = .ok (.invokestatic 68, 3) := by decide +kernel
theorem dX3_move_67 : decode cX3_move 67 = .ok (.istore 4, 2) := by decide +kernel
theorem dX3_move_69 : decode cX3_move 69 = .ok (.aload_n 0, 1) := by decide +kernel
theorem dX3_move_70 : decode cX3_move 70 = .ok (.getfield 10, 3) := by decide +kernel
theorem dX3_move_73 : decode cX3_move 73 = .ok (.getfield 28, 3) := by decide +kernel
theorem dX3_move_76 : decode cX3_move 76 = .ok (.iload_n 1, 1) := by decide +kernel
theorem dX3_move_77 : decode cX3_move 77 = .ok (.iconst 0, 1) := by decide +kernel
theorem dX3_move_78 : decode cX3_move 78 = .ok (.iload_n 2, 1) := by decide +kernel
theorem dX3_move_79 : decode cX3_move 79 = .ok (.invokevirtual 57, 3) := by decide +kernel
theorem dX3_move_82 : decode cX3_move 82 = .ok (.aload_n 0, 1) := by decide +kernel
theorem dX3_move_83 : decode cX3_move 83 = .ok (.getfield 10, 3) := by decide +kernel
theorem dX3_move_86 : decode cX3_move 86 = .ok (.getfield 28, 3) := by decide +kernel
theorem dX3_move_89 : decode cX3_move 89 = .ok (.iload_n 1, 1) := by decide +kernel
theorem dX3_move_90 : decode cX3_move 90 = .ok (.iconst 1, 1) := by decide +kernel
theorem dX3_move_91 : decode cX3_move 91 = .ok (.iload_n 3, 1) := by decide +kernel
theorem dX3_move_92 : decode cX3_move 92 = .ok (.invokevirtual 57, 3) := by decide +kernel
theorem dX3_move_95 : decode cX3_move 95 = .ok (.iload 4, 2) := by decide +kernel
theorem dX3_move_97 : decode cX3_move 97 = .ok (.ireturn, 1) := by decide +kernel
theorem dX3_assume_0 : decode cX3_assume 0 = .ok (.aload_n 0, 1) := by decide +kernel
theorem dX3_assume_1 : decode cX3_assume 1 = .ok (.iload_n 1, 1) := by decide +kernel
theorem dX3_assume_2 : decode cX3_assume 2 = .ok (.invokevirtual 60, 3) := by decide +kernel
theorem dX3_assume_5 : decode cX3_assume 5 = .ok (.iload_n 2, 1) := by decide +kernel
theorem dX3_assume_6 : decode cX3_assume 6 = .ok (.sipush (-1000), 3) := by decide +kernel
theorem dX3_assume_9 : decode cX3_assume 9 = .ok (.sipush 1000, 3) := by decide +kernel
theorem dX3_assume_12 : decode cX3_assume 12 = .ok (.invokestatic 23, 3) := by decide +kernel
theorem dX3_assume_15 : decode cX3_assume 15 = .ok (.aload_n 0, 1) := by decide +kernel
theorem dX3_assume_16 : decode cX3_assume 16 = .ok (.getfield 19, 3) := by decide +kernel
theorem dX3_assume_19 : decode cX3_assume 19 = .ok (.aload_n 0, 1) := by decide +kernel
theorem dX3_assume_20 : decode cX3_assume 20 = .ok (.getfield 10, 3) := by decide +kernel
theorem dX3_assume_23 : decode cX3_assume 23 = .ok (.invokevirtual 45, 3) := by decide +kernel
theorem dX3_assume_26 : decode cX3_assume 26 = .ok (.aload_n 0, 1) := by decide +kernel
theorem dX3_assume_27 : decode cX3_assume 27 = .ok (.getfield 10, 3) := by decide +kernel
theorem dX3_assume_30 : decode cX3_assume 30 = .ok (.getfield 28, 3) := by decide +kernel
theorem dX3_assume_33 : decode cX3_assume 33 = .ok (.iload_n 1, 1) := by decide +kernel
theorem dX3_assume_34 : decode cX3_assume 34 = .ok (.iconst 5, 1) := by decide +kernel
theorem dX3_assume_35 : decode cX3_assume 35 = .ok (.invokevirtual 64, 3) := by decide +kernel
theorem dX3_assume_38 : decode cX3_assume 38 = .ok (.istore_n 3, 1) := by decide +kernel
theorem dX3_assume_39 : decode cX3_assume 39 = .ok (.aload_n 0, 1) := by decide +kernel
theorem dX3_assume_40 : decode cX3_assume 40 = .ok (.getfield 10, 3) := by decide +kernel
theorem dX3_assume_43 : decode cX3_assume 43 = .ok (.getfield 28, 3) := by decide +kernel
theorem dX3_assume_46 : decode cX3_assume 46 = .ok (.iload_n 1, 1) := by decide +kernel
theorem dX3_assume_47 : decode cX3_assume 47 = .ok (.iconst 5, 1) := by decide +kernel
theorem dX3_assume_48 : decode cX3_assume 48 = .ok (.iload_n 2, 1) := by decide +kernel
theorem dX3_assume_49 : decode cX3_assume 49 = .ok (.invokevirtual 57, 3) := by decide +kernel
theorem dX3_assume_52 : decode cX3_assume 52 = .ok (.iload_n 3, 1) := by decide +kernel
theorem dX3_assume_53 : decode cX3_assume 53 = .ok (.ireturn, 1) := by decide +kernel
theorem dX3_assumed_0 : decode cX3_assumed 0 = .ok (.aload_n 0, 1) := by decide +kernel
theorem dX3_assumed_1 : decode cX3_assumed 1 = .ok (.iload_n 1, 1) := by decide +kernel
theorem dX3_assumed_2 : decode cX3_assumed 2 = .ok (.invokevirtual 60, 3) := by decide +kernel
theorem dX3_assumed_5 : decode cX3_assumed 5 = .ok (.aload_n 0, 1) := by decide +kernel
theorem dX3_assumed_6 : decode cX3_assumed 6 = .ok (.getfield 10, 3) := by decide +kernel
theorem dX3_assumed_9 : decode cX3_assumed 9 = .ok (.getfield 28, 3) := by decide +kernel
theorem dX3_assumed_12 : decode cX3_assumed 12 = .ok (.iload_n 1, 1) := by decide +kernel
theorem dX3_assumed_13 : decode cX3_assumed 13 = .ok (.iconst 5, 1) := by decide +kernel
theorem dX3_assumed_14 : decode cX3_assumed 14 = .ok (.invokevirtual 64, 3) := by decide +kernel
theorem dX3_assumed_17 : decode cX3_assumed 17 = .ok (.ireturn, 1) := by decide +kernel
theorem dX3_distance_0 : decode cX3_distance 0 = .ok (.aload_n 0, 1) := by decide +kernel
theorem dX3_distance_1 : decode cX3_distance 1 = .ok (.iload_n 1, 1) := by decide +kernel
theorem dX3_distance_2 : decode cX3_distance 2 = .ok (.invokevirtual 60, 3) := by decide +kernel
theorem dX3_distance_5 : decode cX3_distance 5 = .ok (.aload_n 0, 1) := by decide +kernel
theorem dX3_distance_6 : decode cX3_distance 6 = .ok (.iload_n 2, 1) := by decide +kernel
theorem dX3_distance_7 : decode cX3_distance 7 = .ok (.invokevirtual 60, 3) := by decide +kernel
theorem dX3_distance_10 : decode cX3_distance 10 = .ok (.aload_n 0, 1) := by decide +kernel
theorem dX3_distance_11 : decode cX3_distance 11 = .ok (.getfield 10, 3) := by decide +kernel
theorem dX3_distance_14 : decode cX3_distance 14 = .ok (.iload_n 1, 1) := by decide +kernel
theorem dX3_distance_15 : decode cX3_distance 15 = .ok (.iload_n 2, 1) := by decide +kernel
theorem dX3_distance_16 : decode cX3_distance 16 = .ok (.invokevirtual 71, 3) := by decide +kernel
theorem dX3_distance_19 : decode cX3_distance 19 = .ok (.ireturn, 1) := by decide +kernel
theorem dX3_counter_0 : decode cX3_counter 0 = .ok (.aload_n 0, 1) := by decide +kernel
theorem dX3_counter_1 : decode cX3_counter 1 = .ok (.iload_n 1, 1) := by decide +kernel
theorem dX3_counter_2 : decode cX3_counter 2 = .ok (.invokevirtual 60, 3) := by decide +kernel
theorem dX3_counter_5 : decode cX3_counter 5 = .ok (.iload_n 2, 1) := by decide +kernel
theorem dX3_counter_6 : decode cX3_counter 6 = .ok (.iconst 0, 1) := by decide +kernel
theorem dX3_counter_7 : decode cX3_counter 7 = .ok (.ldc 74, 2) := by decide +kernel
theorem dX3_counter_9 : decode cX3_counter 9 = .ok (.invokestatic 23, 3) := by decide +kernel
theorem dX3_counter_12 : decode cX3_counter 12 = .ok (.aload_n 0, 1) := by decide +kernel
theorem dX3_counter_13 : decode cX3_counter 13 = .ok (.getfield 10, 3) := by decide +kernel
theorem dX3_counter_16 : decode cX3_counter 16 = .ok (.iload_n 1, 1) := by decide +kernel
theorem dX3_counter_17 : decode cX3_counter 17 = .ok (.iload_n 2, 1) := by decide +kernel
theorem dX3_counter_18 : decode cX3_counter 18 = .ok (.i2l, 1) := by decide +kernel
theorem dX3_counter_19 : decode cX3_counter 19 = .ok (.invokevirtual 75, 3) := by decide +kernel
theorem dX3_counter_22 : decode cX3_counter 22 = .ok (.ireturn, 1) := by decide +kernel
theorem dX3_exchange_0 : decode cX3_exchange 0 = .ok (.aload_n 0, 1) := by decide +kernel
theorem dX3_exchange_1 : decode cX3_exchange 1 = .ok (.iload_n 1, 1) := by decide +kernel
theorem dX3_exchange_2 : decode cX3_exchange 2 = .ok (.invokevirtual 60, 3) := by decide +kernel
theorem dX3_exchange_5 : decode cX3_exchange 5 = .ok (.aload_n 0, 1) := by decide +kernel
theorem dX3_exchange_6 : decode cX3_exchange 6 = .ok (.iload_n 2, 1) := by decide +kernel
theorem dX3_exchange_7 : decode cX3_exchange 7 = .ok (.invokevirtual 60, 3) := by decide +kernel
theorem dX3_exchange_10 : decode cX3_exchange 10 = .ok (.iload_n 1, 1) := by decide +kernel
theorem dX3_exchange_11 : decode cX3_exchange 11 = .ok (.iload_n 2, 1) := by decide +kernel
theorem dX3_exchange_12 : decode cX3_exchange 12 = .ok (.invokestatic 79, 3) := by decide +kernel
theorem dX3_exchange_15 : decode cX3_exchange 15 = .ok (.iload_n 3, 1) := by decide +kernel
theorem dX3_exchange_16 : decode cX3_exchange 16 = .ok (.iconst 0, 1) := by decide +kernel
theorem dX3_exchange_17 : decode cX3_exchange 17 = .ok (.ldc 83, 2) := by decide +kernel
theorem dX3_exchange_19 : decode cX3_exchange 19 = .ok (.invokestatic 23, 3) := by decide +kernel
theorem dX3_exchange_22 : decode cX3_exchange 22 = .ok (.iload 4, 2) := by decide +kernel
theorem dX3_exchange_24 : decode cX3_exchange 24 = .ok (.iconst 0, 1) := by decide +kernel
theorem dX3_exchange_25 : decode cX3_exchange 25 = .ok (.ldc 83, 2) := by decide +kernel
theorem dX3_exchange_27 : decode cX3_exchange 27 = .ok (.invokestatic 23, 3) := by decide +kernel
theorem dX3_exchange_30 : decode cX3_exchange 30 = .ok (.aload_n 0, 1) := by decide +kernel
theorem dX3_exchange_31 : decode cX3_exchange 31 = .ok (.getfield 10, 3) := by decide +kernel
theorem dX3_exchange_34 : decode cX3_exchange 34 = .ok (.getfield 84, 3) := by decide +kernel
theorem dX3_exchange_37 : decode cX3_exchange 37 = .ok (.invokevirtual 32, 3) := by decide +kernel
theorem dX3_exchange_40 : decode cX3_exchange 40 = .ok (.ifCond .eq 13, 3) := by decide +kernel
theorem dX3_exchange_43 : decode cX3_exchange 43 = .ok (.new 38, 3) := by decide +kernel
theorem dX3_exchange_46 : decode cX3_exchange 46 = .ok (.dup, 1) := by decide +kernel
theorem dX3_exchange_47 : decode cX3_exchange 47 = .ok (.ldc 87, 2) := by decide +kernel
theorem dX3_exchange_49 : decode cX3_exchange 49 = .ok (.invokespecial 42, 3) := by decide +kernel
theorem dX3_exchange_52 : decode cX3_exchange 52 = .ok (.athrow, 1) := by decide +kernel
theorem dX3_exchange_53 : decode cX3_exchange 53 = .ok (.aload_n 0, 1) := by decide +kernel
theorem dX3_exchange_54 : decode cX3_exchange 54 = .ok (.getfield 19, 3) := by decide +kernel
theorem dX3_exchange_57 : decode cX3_exchange 57 = .ok (.aload_n 0, 1) := by decide +kernel
theorem dX3_exchange_58 : decode cX3_exchange 58 = .ok (.getfield 10, 3) := by decide +kernel
theorem dX3_exchange_61 : decode cX3_exchange 61 = .ok (.invokevirtual 45, 3) := by decide +kernel
theorem dX3_exchange_64 : decode cX3_exchange 64 = .ok (.aload_n 0, 1) := by decide +kernel
theorem dX3_exchange_65 : decode cX3_exchange 65 = .ok (.getfield 10, 3) := by decide +kernel
theorem dX3_exchange_68 : decode cX3_exchange 68 = .ok (.iload_n 1, 1) := by decide +kernel
theorem dX3_exchange_69 : decode cX3_exchange 69 = .ok (.iload_n 2, 1) := by decide +kernel
theorem dX3_exchange_70 : decode cX3_exchange 70 = .ok (.iload_n 3, 1) := by decide +kernel
theorem dX3_exchange_71 : decode cX3_exchange 71 = .ok (.iload 4, 2) := by decide +kernel
theorem dX3_exchange_73 : decode cX3_exchange 73 = .ok (.invokevirtual 89, 3) := by decide +kernel
theorem dX3_exchange_76 : decode cX3_exchange 76 = .ok (.ireturn, 1) := by decide +kernel
theorem dX3_plan_0 : decode cX3_plan 0 = .ok (.aload_n 0, 1) := by decide +kernel
theorem dX3_plan_1 : decode cX3_plan 1 = .ok (.iload_n 2, 1) := by decide +kernel
theorem dX3_plan_2 : decode cX3_plan 2 = .ok (.invokevirtual 60, 3) := by decide +kernel
theorem dX3_plan_5 : decode cX3_plan 5 = .ok (.aload_n 0, 1) := by decide +kernel
theorem dX3_plan_6 : decode cX3_plan 6 = .ok (.iload_n 3, 1) := by decide +kernel
theorem dX3_plan_7 : decode cX3_plan 7 = .ok (.invokevirtual 60, 3) := by decide +kernel
theorem dX3_plan_10 : decode cX3_plan 10 = .ok (.iload_n 2, 1) := by decide +kernel
theorem dX3_plan_11 : decode cX3_plan 11 = .ok (.iload_n 3, 1) := by decide +kernel
theorem dX3_plan_12 : decode cX3_plan 12 = .ok (.invokestatic 79, 3) := by decide +kernel
theorem dX3_plan_15 : decode cX3_plan 15 = .ok (.iload_n 1, 1) := by decide +kernel
theorem dX3_plan_16 : decode cX3_plan 16 = .ok (.iconst 0, 1) := by decide +kernel
theorem dX3_plan_17 : decode cX3_plan 17 = .ok (.ldc 93, 2) := by decide +kernel
theorem dX3_plan_19 : decode cX3_plan 19 = .ok (.invokestatic 23, 3) := by decide +kernel
theorem dX3_plan_22 : decode cX3_plan 22 = .ok (.iload 4, 2) := by decide +kernel
theorem dX3_plan_24 : decode cX3_plan 24 = .ok (.iconst 0, 1) := by decide +kernel
theorem dX3_plan_25 : decode cX3_plan 25 = .ok (.ldc 83, 2) := by decide +kernel
theorem dX3_plan_27 : decode cX3_plan 27 = .ok (.invokestatic 23, 3) := by decide +kernel
theorem dX3_plan_30 : decode cX3_plan 30 = .ok (.iload 5, 2) := by decide +kernel
theorem dX3_plan_32 : decode cX3_plan 32 = .ok (.iconst 0, 1) := by decide +kernel
theorem dX3_plan_33 : decode cX3_plan 33 = .ok (.ldc 83, 2) := by decide +kernel
theorem dX3_plan_35 : decode cX3_plan 35 = .ok (.invokestatic 23, 3) := by decide +kernel
theorem dX3_plan_38 : decode cX3_plan 38 = .ok (.aload_n 0, 1) := by decide +kernel
theorem dX3_plan_39 : decode cX3_plan 39 = .ok (.getfield 10, 3) := by decide +kernel
theorem dX3_plan_42 : decode cX3_plan 42 = .ok (.getfield 94, 3) := by decide +kernel
theorem dX3_plan_45 : decode cX3_plan 45 = .ok (.invokevirtual 32, 3) := by decide +kernel
theorem dX3_plan_48 : decode cX3_plan 48 = .ok (.ifCond .eq 13, 3) := by decide +kernel
theorem dX3_plan_51 : decode cX3_plan 51 = .ok (.new 38, 3) := by decide +kernel
theorem dX3_plan_54 : decode cX3_plan 54 = .ok (.dup, 1) := by decide +kernel
theorem dX3_plan_55 : decode cX3_plan 55 = .ok (.ldc 97, 2) := by decide +kernel
theorem dX3_plan_57 : decode cX3_plan 57 = .ok (.invokespecial 42, 3) := by decide +kernel
theorem dX3_plan_60 : decode cX3_plan 60 = .ok (.athrow, 1) := by decide +kernel
theorem dX3_plan_61 : decode cX3_plan 61 = .ok (.aload_n 0, 1) := by decide +kernel
theorem dX3_plan_62 : decode cX3_plan 62 = .ok (.getfield 19, 3) := by decide +kernel
theorem dX3_plan_65 : decode cX3_plan 65 = .ok (.aload_n 0, 1) := by decide +kernel
theorem dX3_plan_66 : decode cX3_plan 66 = .ok (.getfield 10, 3) := by decide +kernel
theorem dX3_plan_69 : decode cX3_plan 69 = .ok (.invokevirtual 45, 3) := by decide +kernel
theorem dX3_plan_72 : decode cX3_plan 72 = .ok (.aload_n 0, 1) := by decide +kernel
theorem dX3_plan_73 : decode cX3_plan 73 = .ok (.getfield 10, 3) := by decide +kernel
theorem dX3_plan_76 : decode cX3_plan 76 = .ok (.getfield 94, 3) := by decide +kernel
theorem dX3_plan_79 : decode cX3_plan 79 = .ok (.aload_n 0, 1) := by decide +kernel
theorem dX3_plan_80 : decode cX3_plan 80 = .ok (.getfield 10, 3) := by decide +kernel
theorem dX3_plan_83 : decode cX3_plan 83 = .ok (.iload_n 1, 1) := by decide +kernel
theorem dX3_plan_84 : decode cX3_plan 84 = .ok (.invokevirtual 99, 3) := by decide +kernel
theorem dX3_plan_87 : decode cX3_plan 87 = .ok (.invokevirtual 53, 3) := by decide +kernel
theorem dX3_plan_90 : decode cX3_plan 90 = .ok (.istore 6, 2) := by decide +kernel
theorem dX3_plan_92 : decode cX3_plan 92 = .ok (.aload_n 0, 1) := by decide +kernel
theorem dX3_plan_93 : decode cX3_plan 93 = .ok (.getfield 10, 3) := by decide +kernel
theorem dX3_plan_96 : decode cX3_plan 96 = .ok (.getfield 94, 3) := by decide +kernel
theorem dX3_plan_99 : decode cX3_plan 99 = .ok (.iload 6, 2) := by decide +kernel
theorem dX3_plan_101 : decode cX3_plan 101 = .ok (.iconst 0, 1) := by decide +kernel
theorem dX3_plan_102 : decode cX3_plan 102 = .ok (.iload_n 1, 1) := by decide +kernel
theorem dX3_plan_103 : decode cX3_plan 103 = .ok (.invokevirtual 57, 3) := by decide +kernel
theorem dX3_plan_106 : decode cX3_plan 106 = .ok (.aload_n 0, 1) := by decide +kernel
theorem dX3_plan_107 : decode cX3_plan 107 = .ok (.getfield 10, 3) := by decide +kernel
theorem dX3_plan_110 : decode cX3_plan 110 = .ok (.getfield 94, 3) := by decide +kernel
theorem dX3_plan_113 : decode cX3_plan 113 = .ok (.iload 6, 2) := by decide +kernel
theorem dX3_plan_115 : decode cX3_plan 115 = .ok (.iconst 1, 1) := by decide +kernel
theorem dX3_plan_116 : decode cX3_plan 116 = .ok (.iload_n 2, 1) := by decide +kernel
theorem dX3_plan_117 : decode cX3_plan 117 = .ok (.invokevirtual 57, 3) := by decide +kernel
theorem dX3_plan_120 : decode cX3_plan 120 = .ok (.aload_n 0, 1) := by decide +kernel
theorem dX3_plan_121 : decode cX3_plan 121 = .ok (.getfield 10, 3) := by decide +kernel
theorem dX3_plan_124 : decode cX3_plan 124 = .ok (.getfield 94, 3) := by decide +kernel
theorem dX3_plan_127 : decode cX3_plan 127 = .ok (.iload 6, 2) := by decide +kernel
theorem dX3_plan_129 : decode cX3_plan 129 = .ok (.iconst 2, 1) := by decide +kernel
theorem dX3_plan_130 : decode cX3_plan 130 = .ok (.iload_n 3, 1) := by decide +kernel
theorem dX3_plan_131 : decode cX3_plan 131 = .ok (.invokevirtual 57, 3) := by decide +kernel
theorem dX3_plan_134 : decode cX3_plan 134 = .ok (.aload_n 0, 1) := by decide +kernel
theorem dX3_plan_135 : decode cX3_plan 135 = .ok (.getfield 10, 3) := by decide +kernel
theorem dX3_plan_138 : decode cX3_plan 138 = .ok (.getfield 94, 3) := by decide +kernel
theorem dX3_plan_141 : decode cX3_plan 141 = .ok (.iload 6, 2) := by decide +kernel
theorem dX3_plan_143 : decode cX3_plan 143 = .ok (.iconst 3, 1) := by decide +kernel
theorem dX3_plan_144 : decode cX3_plan 144 = .ok (.iload 4, 2) := by decide +kernel
theorem dX3_plan_146 : decode cX3_plan 146 = .ok (.invokevirtual 57, 3) := by decide +kernel
theorem dX3_plan_149 : decode cX3_plan 149 = .ok (.aload_n 0, 1) := by decide +kernel
theorem dX3_plan_150 : decode cX3_plan 150 = .ok (.getfield 10, 3) := by decide +kernel
theorem dX3_plan_153 : decode cX3_plan 153 = .ok (.getfield 94, 3) := by decide +kernel
theorem dX3_plan_156 : decode cX3_plan 156 = .ok (.iload 6, 2) := by decide +kernel
theorem dX3_plan_158 : decode cX3_plan 158 = .ok (.iconst 4, 1) := by decide +kernel
theorem dX3_plan_159 : decode cX3_plan 159 = .ok (.iload 5, 2) := by decide +kernel
theorem dX3_plan_161 : decode cX3_plan 161 = .ok (.invokevirtual 57, 3) := by decide +kernel
theorem dX3_plan_164 : decode cX3_plan 164 = .ok (.aload_n 0, 1) := by decide +kernel
theorem dX3_plan_165 : decode cX3_plan 165 = .ok (.getfield 10, 3) := by decide +kernel
theorem dX3_plan_168 : decode cX3_plan 168 = .ok (.getfield 94, 3) := by decide +kernel
theorem dX3_plan_171 : decode cX3_plan 171 = .ok (.getfield 49, 3) := by decide +kernel
theorem dX3_plan_174 : decode cX3_plan 174 = .ok (.ireturn, 1) := by decide +kernel
theorem dX3_nextPlanned_0 : decode cX3_nextPlanned 0 = .ok (.aload_n 0, 1) := by decide +kernel
theorem dX3_nextPlanned_1 : decode cX3_nextPlanned 1 = .ok (.getfield 10, 3) := by decide +kernel
theorem dX3_nextPlanned_4 : decode cX3_nextPlanned 4 = .ok (.getfield 94, 3) := by decide +kernel
theorem dX3_nextPlanned_7 : decode cX3_nextPlanned 7 = .ok (.getfield 49, 3) := by decide +kernel
theorem dX3_nextPlanned_10 : decode cX3_nextPlanned 10 = .ok (.ifCond .ne 7, 3) := by decide +kernel
theorem dX3_nextPlanned_13 : decode cX3_nextPlanned 13 = .ok (.iconst (-1), 1) := by decide +kernel
theorem dX3_nextPlanned_14 : decode cX3_nextPlanned 14 = .ok (.goto 15, 3) := by decide +kernel
theorem dX3_nextPlanned_17 : decode cX3_nextPlanned 17 = .ok (.aload_n 0, 1) := by decide +kernel
theorem dX3_nextPlanned_18 : decode cX3_nextPlanned 18 = .ok (.getfield 10, 3) := by decide +kernel
theorem dX3_nextPlanned_21 : decode cX3_nextPlanned 21 = .ok (.getfield 94, 3) := by decide +kernel
theorem dX3_nextPlanned_24 : decode cX3_nextPlanned 24 = .ok (.iconst 0, 1) := by decide +kernel
theorem dX3_nextPlanned_25 : decode cX3_nextPlanned 25 = .ok (.iconst 0, 1) := by decide +kernel
theorem dX3_nextPlanned_26 : decode cX3_nextPlanned 26 = .ok (.invokevirtual 64, 3) := by decide +kernel
theorem dX3_nextPlanned_29 : decode cX3_nextPlanned 29 = .ok (.ireturn, 1) := by decide +kernel
theorem dX3_run_0 : decode cX3_run 0 = .ok (.iload_n 1, 1) := by decide +kernel
theorem dX3_run_1 : decode cX3_run 1 = .ok (.iconst 0, 1) := by decide +kernel
theorem dX3_run_2 : decode cX3_run 2 = .ok (.ldc 93, 2) := by decide +kernel
theorem dX3_run_4 : decode cX3_run 4 = .ok (.invokestatic 23, 3) := by decide +kernel
theorem dX3_run_7 : decode cX3_run 7 = .ok (.aload_n 0, 1) := by decide +kernel
theorem dX3_run_8 : decode cX3_run 8 = .ok (.getfield 19, 3) := by decide +kernel
theorem dX3_run_11 : decode cX3_run 11 = .ok (.aload_n 0, 1) := by decide +kernel
theorem dX3_run_12 : decode cX3_run 12 = .ok (.getfield 10, 3) := by decide +kernel
theorem dX3_run_15 : decode cX3_run 15 = .ok (.invokevirtual 45, 3) := by decide +kernel
theorem dX3_run_18 : decode cX3_run 18 = .ok (.aload_n 0, 1) := by decide +kernel
theorem dX3_run_19 : decode cX3_run 19 = .ok (.getfield 10, 3) := by decide +kernel
theorem dX3_run_22 : decode cX3_run 22 = .ok (.iload_n 1, 1) := by decide +kernel
theorem dX3_run_23 : decode cX3_run 23 = .ok (.invokevirtual 102, 3) := by decide +kernel
theorem dX3_run_26 : decode cX3_run 26 = .ok (.ireturn, 1) := by decide +kernel
theorem dX3_now_0 : decode cX3_now 0 = .ok (.aload_n 0, 1) := by decide +kernel
theorem dX3_now_1 : decode cX3_now 1 = .ok (.getfield 10, 3) := by decide +kernel
theorem dX3_now_4 : decode cX3_now 4 = .ok (.getfield 105, 3) := by decide +kernel
theorem dX3_now_7 : decode cX3_now 7 = .ok (.lreturn, 1) := by decide +kernel
theorem dX3_exchanges_0 : decode cX3_exchanges 0 = .ok (.aload_n 0, 1) := by decide +kernel
theorem dX3_exchanges_1 : decode cX3_exchanges 1 = .ok (.getfield 10, 3) := by decide +kernel
theorem dX3_exchanges_4 : decode cX3_exchanges 4 = .ok (.getfield 84, 3) := by decide +kernel
theorem dX3_exchanges_7 : decode cX3_exchanges 7 = .ok (.getfield 49, 3) := by decide +kernel
theorem dX3_exchanges_10 : decode cX3_exchanges 10 = .ok (.ireturn, 1) := by decide +kernel
theorem dX3_stamp_0 : decode cX3_stamp 0 = .ok (.aload_n 0, 1) := by decide +kernel
theorem dX3_stamp_1 : decode cX3_stamp 1 = .ok (.iload_n 1, 1) := by decide +kernel
theorem dX3_stamp_2 : decode cX3_stamp 2 = .ok (.invokevirtual 109, 3) := by decide +kernel
theorem dX3_stamp_5 : decode cX3_stamp 5 = .ok (.iload_n 2, 1) := by decide +kernel
theorem dX3_stamp_6 : decode cX3_stamp 6 = .ok (.iconst 1, 1) := by decide +kernel
theorem dX3_stamp_7 : decode cX3_stamp 7 = .ok (.bipush 6, 2) := by decide +kernel
theorem dX3_stamp_9 : decode cX3_stamp 9 = .ok (.invokestatic 23, 3) := by decide +kernel
theorem dX3_stamp_12 : decode cX3_stamp 12 = .ok (.aload_n 0, 1) := by decide +kernel
theorem dX3_stamp_13 : decode cX3_stamp 13 = .ok (.getfield 10, 3) := by decide +kernel
theorem dX3_stamp_16 : decode cX3_stamp 16 = .ok (.getfield 84, 3) := by decide +kernel
theorem dX3_stamp_19 : decode cX3_stamp 19 = .ok (.iload_n 1, 1) := by decide +kernel
theorem dX3_stamp_20 : decode cX3_stamp 20 = .ok (.iconst 2, 1) := by decide +kernel
theorem dX3_stamp_21 : decode cX3_stamp 21 = .ok (.iload_n 2, 1) := by decide +kernel
theorem dX3_stamp_22 : decode cX3_stamp 22 = .ok (.iadd, 1) := by decide +kernel
theorem dX3_stamp_23 : decode cX3_stamp 23 = .ok (.iconst 1, 1) := by decide +kernel
theorem dX3_stamp_24 : decode cX3_stamp 24 = .ok (.isub, 1) := by decide +kernel
theorem dX3_stamp_25 : decode cX3_stamp 25 = .ok (.invokevirtual 64, 3) := by decide +kernel
theorem dX3_stamp_28 : decode cX3_stamp 28 = .ok (.ireturn, 1) := by decide +kernel
theorem dX3_party_0 : decode cX3_party 0 = .ok (.aload_n 0, 1) := by decide +kernel
theorem dX3_party_1 : decode cX3_party 1 = .ok (.iload_n 1, 1) := by decide +kernel
theorem dX3_party_2 : decode cX3_party 2 = .ok (.invokevirtual 109, 3) := by decide +kernel
theorem dX3_party_5 : decode cX3_party 5 = .ok (.iload_n 2, 1) := by decide +kernel
theorem dX3_party_6 : decode cX3_party 6 = .ok (.iconst 0, 1) := by decide +kernel
theorem dX3_party_7 : decode cX3_party 7 = .ok (.iconst 1, 1) := by decide +kernel
theorem dX3_party_8 : decode cX3_party 8 = .ok (.invokestatic 23, 3) := by decide +kernel
theorem dX3_party_11 : decode cX3_party 11 = .ok (.aload_n 0, 1) := by decide +kernel
theorem dX3_party_12 : decode cX3_party 12 = .ok (.getfield 10, 3) := by decide +kernel
theorem dX3_party_15 : decode cX3_party 15 = .ok (.getfield 84, 3) := by decide +kernel
theorem dX3_party_18 : decode cX3_party 18 = .ok (.iload_n 1, 1) := by decide +kernel
theorem dX3_party_19 : decode cX3_party 19 = .ok (.iload_n 2, 1) := by decide +kernel
theorem dX3_party_20 : decode cX3_party 20 = .ok (.ifCond .ne 7, 3) := by decide +kernel
theorem dX3_party_23 : decode cX3_party 23 = .ok (.iconst 0, 1) := by decide +kernel
theorem dX3_party_24 : decode cX3_party 24 = .ok (.goto 4, 3) := by decide +kernel
theorem dX3_party_27 : decode cX3_party 27 = .ok (.iconst 1, 1) := by decide +kernel
theorem dX3_party_28 : decode cX3_party 28 = .ok (.invokevirtual 64, 3) := by decide +kernel
theorem dX3_party_31 : decode cX3_party 31 = .ok (.ireturn, 1) := by decide +kernel
theorem dX3_range_0 : decode cX3_range 0 = .ok (.aload_n 0, 1) := by decide +kernel
theorem dX3_range_1 : decode cX3_range 1 = .ok (.iload_n 1, 1) := by decide +kernel
theorem dX3_range_2 : decode cX3_range 2 = .ok (.invokevirtual 109, 3) := by decide +kernel
theorem dX3_range_5 : decode cX3_range 5 = .ok (.iload_n 2, 1) := by decide +kernel
theorem dX3_range_6 : decode cX3_range 6 = .ok (.invokestatic 112, 3) := by decide +kernel
theorem dX3_range_9 : decode cX3_range 9 = .ok (.aload_n 0, 1) := by decide +kernel
theorem dX3_range_10 : decode cX3_range 10 = .ok (.getfield 10, 3) := by decide +kernel
theorem dX3_range_13 : decode cX3_range 13 = .ok (.iload_n 1, 1) := by decide +kernel
theorem dX3_range_14 : decode cX3_range 14 = .ok (.iload_n 2, 1) := by decide +kernel
theorem dX3_range_15 : decode cX3_range 15 = .ok (.invokevirtual 115, 3) := by decide +kernel
theorem dX3_range_18 : decode cX3_range 18 = .ok (.ireturn, 1) := by decide +kernel
theorem dX3_latestRange_0 : decode cX3_latestRange 0 = .ok (.aload_n 0, 1) := by decide +kernel
theorem dX3_latestRange_1 : decode cX3_latestRange 1 = .ok (.iload_n 1, 1) := by decide +kernel
theorem dX3_latestRange_2 : decode cX3_latestRange 2 = .ok (.invokevirtual 60, 3) := by decide +kernel
theorem dX3_latestRange_5 : decode cX3_latestRange 5 = .ok (.aload_n 0, 1) := by decide +kernel
theorem dX3_latestRange_6 : decode cX3_latestRange 6 = .ok (.iload_n 2, 1) := by decide +kernel
theorem dX3_latestRange_7 : decode cX3_latestRange 7 = .ok (.invokevirtual 60, 3) := by decide +kernel
theorem dX3_latestRange_10 : decode cX3_latestRange 10 = .ok (.iload_n 3, 1) := by decide +kernel
theorem dX3_latestRange_11 : decode cX3_latestRange 11 = .ok (.invokestatic 112, 3) := by decide +kernel
theorem dX3_latestRange_14 : decode cX3_latestRange 14 = .ok (.aload_n 0, 1) := by decide +kernel
theorem dX3_latestRange_15 : decode cX3_latestRange 15 = .ok (.getfield 10, 3) := by decide +kernel
theorem dX3_latestRange_18 : decode cX3_latestRange 18 = .ok (.aload_n 0, 1) := by decide +kernel
theorem dX3_latestRange_19 : decode cX3_latestRange 19 = .ok (.iload_n 1, 1) := by decide +kernel
theorem dX3_latestRange_20 : decode cX3_latestRange 20 = .ok (.iload_n 2, 1) := by decide +kernel
theorem dX3_latestRange_21 : decode cX3_latestRange 21 = .ok (.invokevirtual 118, 3) := by decide +kernel
theorem dX3_latestRange_24 : decode cX3_latestRange 24 = .ok (.iload_n 3, 1) := by decide +kernel
theorem dX3_latestRange_25 : decode cX3_latestRange 25 = .ok (.invokevirtual 115, 3) := by decide +kernel
theorem dX3_latestRange_28 : decode cX3_latestRange 28 = .ok (.ireturn, 1) := by decide +kernel
theorem dX3_worstError_0 : decode cX3_worstError 0 = .ok (.iload_n 1, 1) := by decide +kernel
theorem dX3_worstError_1 : decode cX3_worstError 1 = .ok (.invokestatic 112, 3) := by decide +kernel
theorem dX3_worstError_4 : decode cX3_worstError 4 = .ok (.iconst (-1), 1) := by decide +kernel
theorem dX3_worstError_5 : decode cX3_worstError 5 = .ok (.istore_n 2, 1) := by decide +kernel
theorem dX3_worstError_6 : decode cX3_worstError 6 = .ok (.iconst 0, 1) := by decide +kernel
theorem dX3_worstError_7 : decode cX3_worstError 7 = .ok (.istore_n 3, 1) := by decide +kernel
theorem dX3_worstError_8 : decode cX3_worstError 8 = .ok (.iload_n 3, 1) := by decide +kernel
theorem dX3_worstError_9 : decode cX3_worstError 9 = .ok (.aload_n 0, 1) := by decide +kernel
theorem dX3_worstError_10 : decode cX3_worstError 10 = .ok (.getfield 10, 3) := by decide +kernel
theorem dX3_worstError_13 : decode cX3_worstError 13 = .ok (.getfield 84, 3) := by decide +kernel
theorem dX3_worstError_16 : decode cX3_worstError 16 = .ok (.getfield 49, 3) := by decide +kernel
theorem dX3_worstError_19 : decode cX3_worstError 19 = .ok (.if_icmp .ge 26, 3) := by decide +kernel
theorem dX3_worstError_22 : decode cX3_worstError 22 = .ok (.iload_n 2, 1) := by decide +kernel
theorem dX3_worstError_23 : decode cX3_worstError 23 = .ok (.aload_n 0, 1) := by decide +kernel
theorem dX3_worstError_24 : decode cX3_worstError 24 = .ok (.getfield 10, 3) := by decide +kernel
theorem dX3_worstError_27 : decode cX3_worstError 27 = .ok (.iload_n 3, 1) := by decide +kernel
theorem dX3_worstError_28 : decode cX3_worstError 28 = .ok (.iload_n 1, 1) := by decide +kernel
theorem dX3_worstError_29 : decode cX3_worstError 29 = .ok (.invokevirtual 121, 3) := by decide +kernel
theorem dX3_worstError_32 : decode cX3_worstError 32 = .ok (.invokestatic 124, 3) := by decide +kernel
theorem dX3_worstError_35 : decode cX3_worstError 35 = .ok (.invokestatic 129, 3) := by decide +kernel
theorem dX3_worstError_38 : decode cX3_worstError 38 = .ok (.istore_n 2, 1) := by decide +kernel
theorem dX3_worstError_39 : decode cX3_worstError 39 = .ok (.iinc 3 1, 3) := by decide +kernel
theorem dX3_worstError_42 : decode cX3_worstError 42 = .ok (.goto (-34), 3) := by decide +kernel
theorem dX3_worstError_45 : decode cX3_worstError 45 = .ok (.iload_n 2, 1) := by decide +kernel
theorem dX3_worstError_46 : decode cX3_worstError 46 = .ok (.ireturn, 1) := by decide +kernel
theorem dX3_meanError_0 : decode cX3_meanError 0 = .ok (.iload_n 1, 1) := by decide +kernel
theorem dX3_meanError_1 : decode cX3_meanError 1 = .ok (.invokestatic 112, 3) := by decide +kernel
theorem dX3_meanError_4 : decode cX3_meanError 4 = .ok (.aload_n 0, 1) := by decide +kernel
theorem dX3_meanError_5 : decode cX3_meanError 5 = .ok (.getfield 10, 3) := by decide +kernel
theorem dX3_meanError_8 : decode cX3_meanError 8 = .ok (.getfield 84, 3) := by decide +kernel
theorem dX3_meanError_11 : decode cX3_meanError 11 = .ok (.getfield 49, 3) := by decide +kernel
theorem dX3_meanError_14 : decode cX3_meanError 14 = .ok (.ifCond .ne 5, 3) := by decide +kernel
theorem dX3_meanError_17 : decode cX3_meanError 17 = .ok (.dconst 0, 1) := by decide +kernel
theorem dX3_meanError_18 : decode cX3_meanError 18 = .ok (.dreturn, 1) := by decide +kernel
theorem dX3_meanError_19 : decode cX3_meanError 19 = .ok (.lconst 0, 1) := by decide +kernel
theorem dX3_meanError_20 : decode cX3_meanError 20 = .ok (.lstore_n 2, 1) := by decide +kernel
theorem dX3_meanError_21 : decode cX3_meanError 21 = .ok (.iconst 0, 1) := by decide +kernel
theorem dX3_meanError_22 : decode cX3_meanError 22 = .ok (.istore 4, 2) := by decide +kernel
theorem dX3_meanError_24 : decode cX3_meanError 24 = .ok (.iload 4, 2) := by decide +kernel
theorem dX3_meanError_26 : decode cX3_meanError 26 = .ok (.aload_n 0, 1) := by decide +kernel
theorem dX3_meanError_27 : decode cX3_meanError 27 = .ok (.getfield 10, 3) := by decide +kernel
theorem dX3_meanError_30 : decode cX3_meanError 30 = .ok (.getfield 84, 3) := by decide +kernel
theorem dX3_meanError_33 : decode cX3_meanError 33 = .ok (.getfield 49, 3) := by decide +kernel
theorem dX3_meanError_36 : decode cX3_meanError 36 = .ok (.if_icmp .ge 23, 3) := by decide +kernel
theorem dX3_meanError_39 : decode cX3_meanError 39 = .ok (.lload_n 2, 1) := by decide +kernel
theorem dX3_meanError_40 : decode cX3_meanError 40 = .ok (.aload_n 0, 1) := by decide +kernel
theorem dX3_meanError_41 : decode cX3_meanError 41 = .ok (.getfield 10, 3) := by decide +kernel
theorem dX3_meanError_44 : decode cX3_meanError 44 = .ok (.iload 4, 2) := by decide +kernel
theorem dX3_meanError_46 : decode cX3_meanError 46 = .ok (.iload_n 1, 1) := by decide +kernel
theorem dX3_meanError_47 : decode cX3_meanError 47 = .ok (.invokevirtual 121, 3) := by decide +kernel
theorem dX3_meanError_50 : decode cX3_meanError 50 = .ok (.i2l, 1) := by decide +kernel
theorem dX3_meanError_51 : decode cX3_meanError 51 = .ok (.ladd, 1) := by decide +kernel
theorem dX3_meanError_52 : decode cX3_meanError 52 = .ok (.lstore_n 2, 1) := by decide +kernel
theorem dX3_meanError_53 : decode cX3_meanError 53 = .ok (.iinc 4 1, 3) := by decide +kernel
theorem dX3_meanError_56 : decode cX3_meanError 56 = .ok (.goto (-32), 3) := by decide +kernel
theorem dX3_meanError_59 : decode cX3_meanError 59 = .ok (.lload_n 2, 1) := by decide +kernel
theorem dX3_meanError_60 : decode cX3_meanError 60 = .ok (.l2d, 1) := by decide +kernel
theorem dX3_meanError_61 : decode cX3_meanError 61 = .ok (.aload_n 0, 1) := by decide +kernel
theorem dX3_meanError_62 : decode cX3_meanError 62 = .ok (.getfield 10, 3) := by decide +kernel
theorem dX3_meanError_65 : decode cX3_meanError 65 = .ok (.getfield 84, 3) := by decide +kernel
theorem dX3_meanError_68 : decode cX3_meanError 68 = .ok (.getfield 49, 3) := by decide +kernel
theorem dX3_meanError_71 : decode cX3_meanError 71 = .ok (.i2d, 1) := by decide +kernel
theorem dX3_meanError_72 : decode cX3_meanError 72 = .ok (.ddiv, 1) := by decide +kernel
theorem dX3_meanError_73 : decode cX3_meanError 73 = .ok (.dreturn, 1) := by decide +kernel
theorem dX3_relativeDrift_0 : decode cX3_relativeDrift 0 = .ok (.aload_n 0, 1) := by decide +kernel
theorem dX3_relativeDrift_1 : decode cX3_relativeDrift 1 = .ok (.iload_n 1, 1) := by decide +kernel
theorem dX3_relativeDrift_2 : decode cX3_relativeDrift 2 = .ok (.invokevirtual 109, 3) := by decide +kernel
theorem dX3_relativeDrift_5 : decode cX3_relativeDrift 5 = .ok (.aload_n 0, 1) := by decide +kernel
theorem dX3_relativeDrift_6 : decode cX3_relativeDrift 6 = .ok (.getfield 10, 3) := by decide +kernel
theorem dX3_relativeDrift_9 : decode cX3_relativeDrift 9 = .ok (.iload_n 1, 1) := by decide +kernel
theorem dX3_relativeDrift_10 : decode cX3_relativeDrift 10 = .ok (.iconst 2, 1) := by decide +kernel
theorem dX3_relativeDrift_11 : decode cX3_relativeDrift 11 = .ok (.iconst 5, 1) := by decide +kernel
theorem dX3_relativeDrift_12 : decode cX3_relativeDrift 12 = .ok (.invokevirtual 132, 3) := by decide +kernel
theorem dX3_relativeDrift_15 : decode cX3_relativeDrift 15 = .ok (.aload_n 0, 1) := by decide +kernel
theorem dX3_relativeDrift_16 : decode cX3_relativeDrift 16 = .ok (.getfield 10, 3) := by decide +kernel
theorem dX3_relativeDrift_19 : decode cX3_relativeDrift 19 = .ok (.iload_n 1, 1) := by decide +kernel
theorem dX3_relativeDrift_20 : decode cX3_relativeDrift 20 = .ok (.iconst 5, 1) := by decide +kernel
theorem dX3_relativeDrift_21 : decode cX3_relativeDrift 21 = .ok (.bipush 6, 2) := by decide +kernel
theorem dX3_relativeDrift_23 : decode cX3_relativeDrift 23 = .ok (.invokevirtual 132, 3) := by decide +kernel
theorem dX3_relativeDrift_26 : decode cX3_relativeDrift 26 = .ok (.iadd, 1) := by decide +kernel
theorem dX3_relativeDrift_27 : decode cX3_relativeDrift 27 = .ok (.istore_n 2, 1) := by decide +kernel
theorem dX3_relativeDrift_28 : decode cX3_relativeDrift 28 = .ok (.aload_n 0, 1) := by decide +kernel
theorem dX3_relativeDrift_29 : decode cX3_relativeDrift 29 = .ok (.getfield 10, 3) := by decide +kernel
theorem dX3_relativeDrift_32 : decode cX3_relativeDrift 32 = .ok (.iload_n 1, 1) := by decide +kernel
theorem dX3_relativeDrift_33 : decode cX3_relativeDrift 33 = .ok (.iconst 4, 1) := by decide +kernel
theorem dX3_relativeDrift_34 : decode cX3_relativeDrift 34 = .ok (.bipush 7, 2) := by decide +kernel
theorem dX3_relativeDrift_36 : decode cX3_relativeDrift 36 = .ok (.invokevirtual 132, 3) := by decide +kernel
theorem dX3_relativeDrift_39 : decode cX3_relativeDrift 39 = .ok (.aload_n 0, 1) := by decide +kernel
theorem dX3_relativeDrift_40 : decode cX3_relativeDrift 40 = .ok (.getfield 10, 3) := by decide +kernel
theorem dX3_relativeDrift_43 : decode cX3_relativeDrift 43 = .ok (.iload_n 1, 1) := by decide +kernel
theorem dX3_relativeDrift_44 : decode cX3_relativeDrift 44 = .ok (.iconst 3, 1) := by decide +kernel
theorem dX3_relativeDrift_45 : decode cX3_relativeDrift 45 = .ok (.iconst 4, 1) := by decide +kernel
theorem dX3_relativeDrift_46 : decode cX3_relativeDrift 46 = .ok (.invokevirtual 132, 3) := by decide +kernel
theorem dX3_relativeDrift_49 : decode cX3_relativeDrift 49 = .ok (.iadd, 1) := by decide +kernel
theorem dX3_relativeDrift_50 : decode cX3_relativeDrift 50 = .ok (.istore_n 3, 1) := by decide +kernel
theorem dX3_relativeDrift_51 : decode cX3_relativeDrift 51 = .ok (.iload_n 3, 1) := by decide +kernel
theorem dX3_relativeDrift_52 : decode cX3_relativeDrift 52 = .ok (.ifCond .ne 13, 3) := by decide +kernel
theorem dX3_relativeDrift_55 : decode cX3_relativeDrift 55 = .ok (.new 136, 3) := by decide +kernel
theorem dX3_relativeDrift_58 : decode cX3_relativeDrift 58 = .ok (.dup, 1) := by decide +kernel
theorem dX3_relativeDrift_59 : decode cX3_relativeDrift 59 = .ok (.ldc 138, 2) := by decide +kernel
theorem dX3_relativeDrift_61 : decode cX3_relativeDrift 61 = .ok (.invokespecial 140, 3) := by decide +kernel
theorem dX3_relativeDrift_64 : decode cX3_relativeDrift 64 = .ok (.athrow, 1) := by decide +kernel
theorem dX3_relativeDrift_65 : decode cX3_relativeDrift 65 = .ok (.iload_n 2, 1) := by decide +kernel
theorem dX3_relativeDrift_66 : decode cX3_relativeDrift 66 = .ok (.i2d, 1) := by decide +kernel
theorem dX3_relativeDrift_67 : decode cX3_relativeDrift 67 = .ok (.iload_n 3, 1) := by decide +kernel
theorem dX3_relativeDrift_68 : decode cX3_relativeDrift 68 = .ok (.i2d, 1) := by decide +kernel
theorem dX3_relativeDrift_69 : decode cX3_relativeDrift 69 = .ok (.ddiv, 1) := by decide +kernel
theorem dX3_relativeDrift_70 : decode cX3_relativeDrift 70 = .ok (.dconst 1, 1) := by decide +kernel
theorem dX3_relativeDrift_71 : decode cX3_relativeDrift 71 = .ok (.dsub, 1) := by decide +kernel
theorem dX3_relativeDrift_72 : decode cX3_relativeDrift 72 = .ok (.ldc2_w 141, 3) := by decide +kernel
theorem dX3_relativeDrift_75 : decode cX3_relativeDrift 75 = .ok (.dmul, 1) := by decide +kernel
theorem dX3_relativeDrift_76 : decode cX3_relativeDrift 76 = .ok (.dreturn, 1) := by decide +kernel
theorem dX3_calibrate_0 : decode cX3_calibrate 0 = .ok (.aload_n 0, 1) := by decide +kernel
theorem dX3_calibrate_1 : decode cX3_calibrate 1 = .ok (.iload_n 1, 1) := by decide +kernel
theorem dX3_calibrate_2 : decode cX3_calibrate 2 = .ok (.invokevirtual 60, 3) := by decide +kernel
theorem dX3_calibrate_5 : decode cX3_calibrate 5 = .ok (.aload_n 0, 1) := by decide +kernel
theorem dX3_calibrate_6 : decode cX3_calibrate 6 = .ok (.iload_n 2, 1) := by decide +kernel
theorem dX3_calibrate_7 : decode cX3_calibrate 7 = .ok (.invokevirtual 60, 3) := by decide +kernel
theorem dX3_calibrate_10 : decode cX3_calibrate 10 = .ok (.aload_n 0, 1) := by decide +kernel
theorem dX3_calibrate_11 : decode cX3_calibrate 11 = .ok (.iload_n 3, 1) := by decide +kernel
theorem dX3_calibrate_12 : decode cX3_calibrate 12 = .ok (.invokevirtual 60, 3) := by decide +kernel
theorem dX3_calibrate_15 : decode cX3_calibrate 15 = .ok (.iload_n 1, 1) := by decide +kernel
theorem dX3_calibrate_16 : decode cX3_calibrate 16 = .ok (.iload_n 2, 1) := by decide +kernel
theorem dX3_calibrate_17 : decode cX3_calibrate 17 = .ok (.invokestatic 79, 3) := by decide +kernel
theorem dX3_calibrate_20 : decode cX3_calibrate 20 = .ok (.iload_n 1, 1) := by decide +kernel
theorem dX3_calibrate_21 : decode cX3_calibrate 21 = .ok (.iload_n 3, 1) := by decide +kernel
theorem dX3_calibrate_22 : decode cX3_calibrate 22 = .ok (.invokestatic 79, 3) := by decide +kernel
theorem dX3_calibrate_25 : decode cX3_calibrate 25 = .ok (.iload_n 2, 1) := by decide +kernel
theorem dX3_calibrate_26 : decode cX3_calibrate 26 = .ok (.iload_n 3, 1) := by decide +kernel
theorem dX3_calibrate_27 : decode cX3_calibrate 27 = .ok (.invokestatic 79, 3) := by decide +kernel
theorem dX3_calibrate_30 : decode cX3_calibrate 30 = .ok (.aload_n 0, 1) := by decide +kernel
theorem dX3_calibrate_31 : decode cX3_calibrate 31 = .ok (.getfield 10, 3) := by decide +kernel
theorem dX3_calibrate_34 : decode cX3_calibrate 34 = .ok (.aload_n 0, 1) := by decide +kernel
theorem dX3_calibrate_35 : decode cX3_calibrate 35 = .ok (.iload_n 1, 1) := by decide +kernel
theorem dX3_calibrate_36 : decode cX3_calibrate 36 = .ok (.iload_n 2, 1) := by decide +kernel
theorem dX3_calibrate_37 : decode cX3_calibrate 37 = .ok (.invokevirtual 118, 3) := by decide +kernel
theorem dX3_calibrate_40 : decode cX3_calibrate 40 = .ok (.invokevirtual 143, 3) := by decide +kernel
theorem dX3_calibrate_43 : decode cX3_calibrate 43 = .ok (.istore 4, 2) := by decide +kernel
theorem dX3_calibrate_45 : decode cX3_calibrate 45 = .ok (.aload_n 0, 1) := by decide +kernel
theorem dX3_calibrate_46 : decode cX3_calibrate 46 = .ok (.getfield 10, 3) := by decide +kernel
theorem dX3_calibrate_49 : decode cX3_calibrate 49 = .ok (.aload_n 0, 1) := by decide +kernel
theorem dX3_calibrate_50 : decode cX3_calibrate 50 = .ok (.iload_n 1, 1) := by decide +kernel
theorem dX3_calibrate_51 : decode cX3_calibrate 51 = .ok (.iload_n 3, 1) := by decide +kernel
theorem dX3_calibrate_52 : decode cX3_calibrate 52 = .ok (.invokevirtual 118, 3) := by decide +kernel
theorem dX3_calibrate_55 : decode cX3_calibrate 55 = .ok (.invokevirtual 143, 3) := by decide +kernel
theorem dX3_calibrate_58 : decode cX3_calibrate 58 = .ok (.istore 5, 2) := by decide +kernel
theorem dX3_calibrate_60 : decode cX3_calibrate 60 = .ok (.aload_n 0, 1) := by decide +kernel
theorem dX3_calibrate_61 : decode cX3_calibrate 61 = .ok (.getfield 10, 3) := by decide +kernel
theorem dX3_calibrate_64 : decode cX3_calibrate 64 = .ok (.aload_n 0, 1) := by decide +kernel
theorem dX3_calibrate_65 : decode cX3_calibrate 65 = .ok (.iload_n 2, 1) := by decide +kernel
theorem dX3_calibrate_66 : decode cX3_calibrate 66 = .ok (.iload_n 3, 1) := by decide +kernel
theorem dX3_calibrate_67 : decode cX3_calibrate 67 = .ok (.invokevirtual 118, 3) := by decide +kernel
theorem dX3_calibrate_70 : decode cX3_calibrate 70 = .ok (.invokevirtual 143, 3) := by decide +kernel
theorem dX3_calibrate_73 : decode cX3_calibrate 73 = .ok (.istore 6, 2) := by decide +kernel
theorem dX3_calibrate_75 : decode cX3_calibrate 75 = .ok (.aload_n 0, 1) := by decide +kernel
theorem dX3_calibrate_76 : decode cX3_calibrate 76 = .ok (.getfield 19, 3) := by decide +kernel
theorem dX3_calibrate_79 : decode cX3_calibrate 79 = .ok (.aload_n 0, 1) := by decide +kernel
theorem dX3_calibrate_80 : decode cX3_calibrate 80 = .ok (.getfield 10, 3) := by decide +kernel
theorem dX3_calibrate_83 : decode cX3_calibrate 83 = .ok (.invokevirtual 45, 3) := by decide +kernel
theorem dX3_calibrate_86 : decode cX3_calibrate 86 = .ok (.iload 4, 2) := by decide +kernel
theorem dX3_calibrate_88 : decode cX3_calibrate 88 = .ok (.iload 5, 2) := by decide +kernel
theorem dX3_calibrate_90 : decode cX3_calibrate 90 = .ok (.iadd, 1) := by decide +kernel
theorem dX3_calibrate_91 : decode cX3_calibrate 91 = .ok (.iload 6, 2) := by decide +kernel
theorem dX3_calibrate_93 : decode cX3_calibrate 93 = .ok (.isub, 1) := by decide +kernel
theorem dX3_calibrate_94 : decode cX3_calibrate 94 = .ok (.iconst 2, 1) := by decide +kernel
theorem dX3_calibrate_95 : decode cX3_calibrate 95 = .ok (.invokestatic 146, 3) := by decide +kernel
theorem dX3_calibrate_98 : decode cX3_calibrate 98 = .ok (.istore 7, 2) := by decide +kernel
theorem dX3_calibrate_100 : decode cX3_calibrate 100 = .ok (.iload 4, 2) := by decide +kernel
theorem dX3_calibrate_102 : decode cX3_calibrate 102 = .ok (.iload 6, 2) := by decide +kernel
theorem dX3_calibrate_104 : decode cX3_calibrate 104 = .ok (.iadd, 1) := by decide +kernel
theorem dX3_calibrate_105 : decode cX3_calibrate 105 = .ok (.iload 5, 2) := by decide +kernel
theorem dX3_calibrate_107 : decode cX3_calibrate 107 = .ok (.isub, 1) := by decide +kernel
theorem dX3_calibrate_108 : decode cX3_calibrate 108 = .ok (.iconst 2, 1) := by decide +kernel
theorem dX3_calibrate_109 : decode cX3_calibrate 109 = .ok (.invokestatic 146, 3) := by decide +kernel
theorem dX3_calibrate_112 : decode cX3_calibrate 112 = .ok (.istore 8, 2) := by decide +kernel
theorem dX3_calibrate_114 : decode cX3_calibrate 114 = .ok (.iload 5, 2) := by decide +kernel
theorem dX3_calibrate_116 : decode cX3_calibrate 116 = .ok (.iload 6, 2) := by decide +kernel
theorem dX3_calibrate_118 : decode cX3_calibrate 118 = .ok (.iadd, 1) := by decide +kernel
theorem dX3_calibrate_119 : decode cX3_calibrate 119 = .ok (.iload 4, 2) := by decide +kernel
theorem dX3_calibrate_121 : decode cX3_calibrate 121 = .ok (.isub, 1) := by decide +kernel
theorem dX3_calibrate_122 : decode cX3_calibrate 122 = .ok (.iconst 2, 1) := by decide +kernel
theorem dX3_calibrate_123 : decode cX3_calibrate 123 = .ok (.invokestatic 146, 3) := by decide +kernel
theorem dX3_calibrate_126 : decode cX3_calibrate 126 = .ok (.istore 9, 2) := by decide +kernel
theorem dX3_calibrate_128 : decode cX3_calibrate 128 = .ok (.aload_n 0, 1) := by decide +kernel
theorem dX3_calibrate_129 : decode cX3_calibrate 129 = .ok (.getfield 10, 3) := by decide +kernel
theorem dX3_calibrate_132 : decode cX3_calibrate 132 = .ok (.getfield 28, 3) := by decide +kernel
theorem dX3_calibrate_135 : decode cX3_calibrate 135 = .ok (.iload_n 1, 1) := by decide +kernel
theorem dX3_calibrate_136 : decode cX3_calibrate 136 = .ok (.iconst 5, 1) := by decide +kernel
theorem dX3_calibrate_137 : decode cX3_calibrate 137 = .ok (.iload 7, 2) := by decide +kernel
theorem dX3_calibrate_139 : decode cX3_calibrate 139 = .ok (.invokevirtual 57, 3) := by decide +kernel
theorem dX3_calibrate_142 : decode cX3_calibrate 142 = .ok (.aload_n 0, 1) := by decide +kernel
theorem dX3_calibrate_143 : decode cX3_calibrate 143 = .ok (.getfield 10, 3) := by decide +kernel
theorem dX3_calibrate_146 : decode cX3_calibrate 146 = .ok (.getfield 28, 3) := by decide +kernel
theorem dX3_calibrate_149 : decode cX3_calibrate 149 = .ok (.iload_n 2, 1) := by decide +kernel
theorem dX3_calibrate_150 : decode cX3_calibrate 150 = .ok (.iconst 5, 1) := by decide +kernel
theorem dX3_calibrate_151 : decode cX3_calibrate 151 = .ok (.iload 8, 2) := by decide +kernel
theorem dX3_calibrate_153 : decode cX3_calibrate 153 = .ok (.invokevirtual 57, 3) := by decide +kernel
theorem dX3_calibrate_156 : decode cX3_calibrate 156 = .ok (.aload_n 0, 1) := by decide +kernel
theorem dX3_calibrate_157 : decode cX3_calibrate 157 = .ok (.getfield 10, 3) := by decide +kernel
theorem dX3_calibrate_160 : decode cX3_calibrate 160 = .ok (.getfield 28, 3) := by decide +kernel
theorem dX3_calibrate_163 : decode cX3_calibrate 163 = .ok (.iload_n 3, 1) := by decide +kernel
theorem dX3_calibrate_164 : decode cX3_calibrate 164 = .ok (.iconst 5, 1) := by decide +kernel
theorem dX3_calibrate_165 : decode cX3_calibrate 165 = .ok (.iload 9, 2) := by decide +kernel
theorem dX3_calibrate_167 : decode cX3_calibrate 167 = .ok (.invokevirtual 57, 3) := by decide +kernel
theorem dX3_calibrate_170 : decode cX3_calibrate 170 = .ok (.iload 7, 2) := by decide +kernel
theorem dX3_calibrate_172 : decode cX3_calibrate 172 = .ok (.iload 8, 2) := by decide +kernel
theorem dX3_calibrate_174 : decode cX3_calibrate 174 = .ok (.iadd, 1) := by decide +kernel
theorem dX3_calibrate_175 : decode cX3_calibrate 175 = .ok (.iload 9, 2) := by decide +kernel
theorem dX3_calibrate_177 : decode cX3_calibrate 177 = .ok (.iadd, 1) := by decide +kernel
theorem dX3_calibrate_178 : decode cX3_calibrate 178 = .ok (.ireturn, 1) := by decide +kernel
theorem dX3_fix_0 : decode cX3_fix 0 = .ok (.aload_n 0, 1) := by decide +kernel
theorem dX3_fix_1 : decode cX3_fix 1 = .ok (.iload_n 1, 1) := by decide +kernel
theorem dX3_fix_2 : decode cX3_fix 2 = .ok (.invokevirtual 60, 3) := by decide +kernel
theorem dX3_fix_5 : decode cX3_fix 5 = .ok (.iload_n 2, 1) := by decide +kernel
theorem dX3_fix_6 : decode cX3_fix 6 = .ok (.ifCond .lt 10, 3) := by decide +kernel
theorem dX3_fix_9 : decode cX3_fix 9 = .ok (.iload_n 2, 1) := by decide +kernel
theorem dX3_fix_10 : decode cX3_fix 10 = .ok (.sipush 999, 3) := by decide +kernel
theorem dX3_fix_13 : decode cX3_fix 13 = .ok (.if_icmp .le 13, 3) := by decide +kernel
theorem dX3_fix_16 : decode cX3_fix 16 = .ok (.new 149, 3) := by decide +kernel
theorem dX3_fix_19 : decode cX3_fix 19 = .ok (.dup, 1) := by decide +kernel
theorem dX3_fix_20 : decode cX3_fix 20 = .ok (.ldc 151, 2) := by decide +kernel
theorem dX3_fix_22 : decode cX3_fix 22 = .ok (.invokespecial 153, 3) := by decide +kernel
theorem dX3_fix_25 : decode cX3_fix 25 = .ok (.athrow, 1) := by decide +kernel
theorem dX3_fix_26 : decode cX3_fix 26 = .ok (.iload_n 2, 1) := by decide +kernel
theorem dX3_fix_27 : decode cX3_fix 27 = .ok (.bipush 100, 2) := by decide +kernel
theorem dX3_fix_29 : decode cX3_fix 29 = .ok (.idiv, 1) := by decide +kernel
theorem dX3_fix_30 : decode cX3_fix 30 = .ok (.istore 5, 2) := by decide +kernel
theorem dX3_fix_32 : decode cX3_fix 32 = .ok (.iload_n 2, 1) := by decide +kernel
theorem dX3_fix_33 : decode cX3_fix 33 = .ok (.bipush 10, 2) := by decide +kernel
theorem dX3_fix_35 : decode cX3_fix 35 = .ok (.idiv, 1) := by decide +kernel
theorem dX3_fix_36 : decode cX3_fix 36 = .ok (.bipush 10, 2) := by decide +kernel
theorem dX3_fix_38 : decode cX3_fix 38 = .ok (.irem, 1) := by decide +kernel
theorem dX3_fix_39 : decode cX3_fix 39 = .ok (.istore 6, 2) := by decide +kernel
theorem dX3_fix_41 : decode cX3_fix 41 = .ok (.iload_n 2, 1) := by decide +kernel
theorem dX3_fix_42 : decode cX3_fix 42 = .ok (.bipush 10, 2) := by decide +kernel
theorem dX3_fix_44 : decode cX3_fix 44 = .ok (.irem, 1) := by decide +kernel
theorem dX3_fix_45 : decode cX3_fix 45 = .ok (.istore 7, 2) := by decide +kernel
theorem dX3_fix_47 : decode cX3_fix 47 = .ok (.aload_n 0, 1) := by decide +kernel
theorem dX3_fix_48 : decode cX3_fix 48 = .ok (.iload 5, 2) := by decide +kernel
theorem dX3_fix_50 : decode cX3_fix 50 = .ok (.invokevirtual 60, 3) := by decide +kernel
theorem dX3_fix_53 : decode cX3_fix 53 = .ok (.aload_n 0, 1) := by decide +kernel
theorem dX3_fix_54 : decode cX3_fix 54 = .ok (.iload 6, 2) := by decide +kernel
theorem dX3_fix_56 : decode cX3_fix 56 = .ok (.invokevirtual 60, 3) := by decide +kernel
theorem dX3_fix_59 : decode cX3_fix 59 = .ok (.aload_n 0, 1) := by decide +kernel
theorem dX3_fix_60 : decode cX3_fix 60 = .ok (.iload 7, 2) := by decide +kernel
theorem dX3_fix_62 : decode cX3_fix 62 = .ok (.invokevirtual 60, 3) := by decide +kernel
theorem dX3_fix_65 : decode cX3_fix 65 = .ok (.iload_n 1, 1) := by decide +kernel
theorem dX3_fix_66 : decode cX3_fix 66 = .ok (.iload 5, 2) := by decide +kernel
theorem dX3_fix_68 : decode cX3_fix 68 = .ok (.iload 6, 2) := by decide +kernel
theorem dX3_fix_70 : decode cX3_fix 70 = .ok (.iload 7, 2) := by decide +kernel
theorem dX3_fix_72 : decode cX3_fix 72 = .ok (.invokestatic 154, 3) := by decide +kernel
theorem dX3_fix_75 : decode cX3_fix 75 = .ok (.iload_n 3, 1) := by decide +kernel
theorem dX3_fix_76 : decode cX3_fix 76 = .ok (.invokestatic 112, 3) := by decide +kernel
theorem dX3_fix_79 : decode cX3_fix 79 = .ok (.iload 4, 2) := by decide +kernel
theorem dX3_fix_81 : decode cX3_fix 81 = .ok (.iconst 0, 1) := by decide +kernel
theorem dX3_fix_82 : decode cX3_fix 82 = .ok (.iconst 1, 1) := by decide +kernel
theorem dX3_fix_83 : decode cX3_fix 83 = .ok (.invokestatic 23, 3) := by decide +kernel
theorem dX3_fix_86 : decode cX3_fix 86 = .ok (.aload_n 0, 1) := by decide +kernel
theorem dX3_fix_87 : decode cX3_fix 87 = .ok (.getfield 10, 3) := by decide +kernel
theorem dX3_fix_90 : decode cX3_fix 90 = .ok (.aload_n 0, 1) := by decide +kernel
theorem dX3_fix_91 : decode cX3_fix 91 = .ok (.iload_n 1, 1) := by decide +kernel
theorem dX3_fix_92 : decode cX3_fix 92 = .ok (.iload 5, 2) := by decide +kernel
theorem dX3_fix_94 : decode cX3_fix 94 = .ok (.invokevirtual 118, 3) := by decide +kernel
theorem dX3_fix_97 : decode cX3_fix 97 = .ok (.iload_n 3, 1) := by decide +kernel
theorem dX3_fix_98 : decode cX3_fix 98 = .ok (.invokevirtual 115, 3) := by decide +kernel
theorem dX3_fix_101 : decode cX3_fix 101 = .ok (.invokestatic 158, 3) := by decide +kernel
theorem dX3_fix_104 : decode cX3_fix 104 = .ok (.lstore 8, 2) := by decide +kernel
theorem dX3_fix_106 : decode cX3_fix 106 = .ok (.aload_n 0, 1) := by decide +kernel
theorem dX3_fix_107 : decode cX3_fix 107 = .ok (.getfield 10, 3) := by decide +kernel
theorem dX3_fix_110 : decode cX3_fix 110 = .ok (.aload_n 0, 1) := by decide +kernel
theorem dX3_fix_111 : decode cX3_fix 111 = .ok (.iload_n 1, 1) := by decide +kernel
theorem dX3_fix_112 : decode cX3_fix 112 = .ok (.iload 6, 2) := by decide +kernel
theorem dX3_fix_114 : decode cX3_fix 114 = .ok (.invokevirtual 118, 3) := by decide +kernel
theorem dX3_fix_117 : decode cX3_fix 117 = .ok (.iload_n 3, 1) := by decide +kernel
theorem dX3_fix_118 : decode cX3_fix 118 = .ok (.invokevirtual 115, 3) := by decide +kernel
theorem dX3_fix_121 : decode cX3_fix 121 = .ok (.invokestatic 158, 3) := by decide +kernel
theorem dX3_fix_124 : decode cX3_fix 124 = .ok (.lstore 10, 2) := by decide +kernel
theorem dX3_fix_126 : decode cX3_fix 126 = .ok (.aload_n 0, 1) := by decide +kernel
theorem dX3_fix_127 : decode cX3_fix 127 = .ok (.getfield 10, 3) := by decide +kernel
theorem dX3_fix_130 : decode cX3_fix 130 = .ok (.aload_n 0, 1) := by decide +kernel
theorem dX3_fix_131 : decode cX3_fix 131 = .ok (.iload_n 1, 1) := by decide +kernel
theorem dX3_fix_132 : decode cX3_fix 132 = .ok (.iload 7, 2) := by decide +kernel
theorem dX3_fix_134 : decode cX3_fix 134 = .ok (.invokevirtual 118, 3) := by decide +kernel
theorem dX3_fix_137 : decode cX3_fix 137 = .ok (.iload_n 3, 1) := by decide +kernel
theorem dX3_fix_138 : decode cX3_fix 138 = .ok (.invokevirtual 115, 3) := by decide +kernel
theorem dX3_fix_141 : decode cX3_fix 141 = .ok (.invokestatic 158, 3) := by decide +kernel
theorem dX3_fix_144 : decode cX3_fix 144 = .ok (.lstore 12, 2) := by decide +kernel
theorem dX3_fix_146 : decode cX3_fix 146 = .ok (.lload 8, 2) := by decide +kernel
theorem dX3_fix_148 : decode cX3_fix 148 = .ok (.lload 10, 2) := by decide +kernel
theorem dX3_fix_150 : decode cX3_fix 150 = .ok (.lsub, 1) := by decide +kernel
theorem dX3_fix_151 : decode cX3_fix 151 = .ok (.aload_n 0, 1) := by decide +kernel
theorem dX3_fix_152 : decode cX3_fix 152 = .ok (.getfield 10, 3) := by decide +kernel
theorem dX3_fix_155 : decode cX3_fix 155 = .ok (.iload 6, 2) := by decide +kernel
theorem dX3_fix_157 : decode cX3_fix 157 = .ok (.invokevirtual 162, 3) := by decide +kernel
theorem dX3_fix_160 : decode cX3_fix 160 = .ok (.ladd, 1) := by decide +kernel
theorem dX3_fix_161 : decode cX3_fix 161 = .ok (.aload_n 0, 1) := by decide +kernel
theorem dX3_fix_162 : decode cX3_fix 162 = .ok (.getfield 10, 3) := by decide +kernel
theorem dX3_fix_165 : decode cX3_fix 165 = .ok (.iload 5, 2) := by decide +kernel
theorem dX3_fix_167 : decode cX3_fix 167 = .ok (.invokevirtual 162, 3) := by decide +kernel
theorem dX3_fix_170 : decode cX3_fix 170 = .ok (.lsub, 1) := by decide +kernel
theorem dX3_fix_171 : decode cX3_fix 171 = .ok (.lstore 14, 2) := by decide +kernel
theorem dX3_fix_173 : decode cX3_fix 173 = .ok (.lload 8, 2) := by decide +kernel
theorem dX3_fix_175 : decode cX3_fix 175 = .ok (.lload 12, 2) := by decide +kernel
theorem dX3_fix_177 : decode cX3_fix 177 = .ok (.lsub, 1) := by decide +kernel
theorem dX3_fix_178 : decode cX3_fix 178 = .ok (.aload_n 0, 1) := by decide +kernel
theorem dX3_fix_179 : decode cX3_fix 179 = .ok (.getfield 10, 3) := by decide +kernel
theorem dX3_fix_182 : decode cX3_fix 182 = .ok (.iload 7, 2) := by decide +kernel
theorem dX3_fix_184 : decode cX3_fix 184 = .ok (.invokevirtual 162, 3) := by decide +kernel
theorem dX3_fix_187 : decode cX3_fix 187 = .ok (.ladd, 1) := by decide +kernel
theorem dX3_fix_188 : decode cX3_fix 188 = .ok (.aload_n 0, 1) := by decide +kernel
theorem dX3_fix_189 : decode cX3_fix 189 = .ok (.getfield 10, 3) := by decide +kernel
theorem dX3_fix_192 : decode cX3_fix 192 = .ok (.iload 5, 2) := by decide +kernel
theorem dX3_fix_194 : decode cX3_fix 194 = .ok (.invokevirtual 162, 3) := by decide +kernel
theorem dX3_fix_197 : decode cX3_fix 197 = .ok (.lsub, 1) := by decide +kernel
theorem dX3_fix_198 : decode cX3_fix 198 = .ok (.lstore 16, 2) := by decide +kernel
theorem dX3_fix_200 : decode cX3_fix 200 = .ok (.aload_n 0, 1) := by decide +kernel
theorem dX3_fix_201 : decode cX3_fix 201 = .ok (.iload 5, 2) := by decide +kernel
theorem dX3_fix_203 : decode cX3_fix 203 = .ok (.iload 6, 2) := by decide +kernel
theorem dX3_fix_205 : decode cX3_fix 205 = .ok (.iload 7, 2) := by decide +kernel
theorem dX3_fix_207 : decode cX3_fix 207 = .ok (.lload 14, 2) := by decide +kernel
theorem dX3_fix_209 : decode cX3_fix 209 = .ok (.lload 16, 2) := by decide +kernel
theorem dX3_fix_211 : decode cX3_fix 211 = .ok (.iload 4, 2) := by decide +kernel
theorem dX3_fix_213 : decode cX3_fix 213 = .ok (.invokevirtual 165, 3) := by decide +kernel
theorem dX3_fix_216 : decode cX3_fix 216 = .ok (.ireturn, 1) := by decide +kernel
theorem dX3_undo_0 : decode cX3_undo 0 = .ok (.aload_n 0, 1) := by decide +kernel
theorem dX3_undo_1 : decode cX3_undo 1 = .ok (.getfield 19, 3) := by decide +kernel
theorem dX3_undo_4 : decode cX3_undo 4 = .ok (.getfield 169, 3) := by decide +kernel
theorem dX3_undo_7 : decode cX3_undo 7 = .ok (.ifCond .ne 13, 3) := by decide +kernel
theorem dX3_undo_10 : decode cX3_undo 10 = .ok (.new 38, 3) := by decide +kernel
theorem dX3_undo_13 : decode cX3_undo 13 = .ok (.dup, 1) := by decide +kernel
theorem dX3_undo_14 : decode cX3_undo 14 = .ok (.ldc 170, 2) := by decide +kernel
theorem dX3_undo_16 : decode cX3_undo 16 = .ok (.invokespecial 42, 3) := by decide +kernel
theorem dX3_undo_19 : decode cX3_undo 19 = .ok (.athrow, 1) := by decide +kernel
theorem dX3_undo_20 : decode cX3_undo 20 = .ok (.aload_n 0, 1) := by decide +kernel
theorem dX3_undo_21 : decode cX3_undo 21 = .ok (.getfield 19, 3) := by decide +kernel
theorem dX3_undo_24 : decode cX3_undo 24 = .ok (.aload_n 0, 1) := by decide +kernel
theorem dX3_undo_25 : decode cX3_undo 25 = .ok (.getfield 10, 3) := by decide +kernel
theorem dX3_undo_28 : decode cX3_undo 28 = .ok (.invokevirtual 172, 3) := by decide +kernel
theorem dX3_undo_31 : decode cX3_undo 31 = .ok (.aload_n 0, 1) := by decide +kernel
theorem dX3_undo_32 : decode cX3_undo 32 = .ok (.getfield 19, 3) := by decide +kernel
theorem dX3_undo_35 : decode cX3_undo 35 = .ok (.getfield 169, 3) := by decide +kernel
theorem dX3_undo_38 : decode cX3_undo 38 = .ok (.ireturn, 1) := by decide +kernel
theorem dX3_digest_0 : decode cX3_digest 0 = .ok (.ldc2_w 175, 3) := by decide +kernel
theorem dX3_digest_3 : decode cX3_digest 3 = .ok (.aload_n 0, 1) := by decide +kernel
theorem dX3_digest_4 : decode cX3_digest 4 = .ok (.getfield 10, 3) := by decide +kernel
theorem dX3_digest_7 : decode cX3_digest 7 = .ok (.getfield 105, 3) := by decide +kernel
theorem dX3_digest_10 : decode cX3_digest 10 = .ok (.invokestatic 177, 3) := by decide +kernel
theorem dX3_digest_13 : decode cX3_digest 13 = .ok (.lstore_n 1, 1) := by decide +kernel
theorem dX3_digest_14 : decode cX3_digest 14 = .ok (.aload_n 0, 1) := by decide +kernel
theorem dX3_digest_15 : decode cX3_digest 15 = .ok (.getfield 10, 3) := by decide +kernel
theorem dX3_digest_18 : decode cX3_digest 18 = .ok (.lload_n 1, 1) := by decide +kernel
theorem dX3_digest_19 : decode cX3_digest 19 = .ok (.invokevirtual 181, 3) := by decide +kernel
theorem dX3_digest_22 : decode cX3_digest 22 = .ok (.lstore_n 1, 1) := by decide +kernel
theorem dX3_digest_23 : decode cX3_digest 23 = .ok (.aload_n 0, 1) := by decide +kernel
theorem dX3_digest_24 : decode cX3_digest 24 = .ok (.getfield 10, 3) := by decide +kernel
theorem dX3_digest_27 : decode cX3_digest 27 = .ok (.lload_n 1, 1) := by decide +kernel
theorem dX3_digest_28 : decode cX3_digest 28 = .ok (.invokevirtual 185, 3) := by decide +kernel
theorem dX3_digest_31 : decode cX3_digest 31 = .ok (.lstore_n 1, 1) := by decide +kernel
theorem dX3_digest_32 : decode cX3_digest 32 = .ok (.aload_n 0, 1) := by decide +kernel
theorem dX3_digest_33 : decode cX3_digest 33 = .ok (.getfield 10, 3) := by decide +kernel
theorem dX3_digest_36 : decode cX3_digest 36 = .ok (.lload_n 1, 1) := by decide +kernel
theorem dX3_digest_37 : decode cX3_digest 37 = .ok (.invokevirtual 188, 3) := by decide +kernel
theorem dX3_digest_40 : decode cX3_digest 40 = .ok (.lstore_n 1, 1) := by decide +kernel
theorem dX3_digest_41 : decode cX3_digest 41 = .ok (.lload_n 1, 1) := by decide +kernel
theorem dX3_digest_42 : decode cX3_digest 42 = .ok (.aload_n 0, 1) := by decide +kernel
theorem dX3_digest_43 : decode cX3_digest 43 = .ok (.getfield 19, 3) := by decide +kernel
theorem dX3_digest_46 : decode cX3_digest 46 = .ok (.getfield 169, 3) := by decide +kernel
theorem dX3_digest_49 : decode cX3_digest 49 = .ok (.i2l, 1) := by decide +kernel
theorem dX3_digest_50 : decode cX3_digest 50 = .ok (.invokestatic 177, 3) := by decide +kernel
theorem dX3_digest_53 : decode cX3_digest 53 = .ok (.lreturn, 1) := by decide +kernel
theorem dX3_requireWithin_0 : decode cX3_requireWithin 0 = .ok (.iload_n 0, 1) := by decide +kernel
theorem dX3_requireWithin_1 : decode cX3_requireWithin 1 = .ok (.iload_n 1, 1) := by decide +kernel
theorem dX3_requireWithin_2 : decode cX3_requireWithin 2 = .ok (.if_icmp .lt 8, 3) := by decide +kernel
theorem dX3_requireWithin_5 : decode cX3_requireWithin 5 = .ok (.iload_n 0, 1) := by decide +kernel
theorem dX3_requireWithin_6 : decode cX3_requireWithin 6 = .ok (.iload_n 2, 1) := by decide +kernel
theorem dX3_requireWithin_7 : decode cX3_requireWithin 7 = .ok (.if_icmp .le 13, 3) := by decide +kernel
theorem dX3_requireWithin_10 : decode cX3_requireWithin 10 = .ok (.new 191, 3) := by decide +kernel
theorem dX3_requireWithin_13 : decode cX3_requireWithin 13 = .ok (.dup, 1) := by decide +kernel
theorem dX3_requireWithin_14 : decode cX3_requireWithin 14 = .ok (.ldc 193, 2) := by decide +kernel
theorem dX3_requireWithin_16 : decode cX3_requireWithin 16 = .ok (.invokespecial 195, 3) := by decide +kernel
theorem dX3_requireWithin_19 : decode cX3_requireWithin 19 = .ok (.athrow, 1) := by decide +kernel
theorem dX3_requireWithin_20 : decode cX3_requireWithin 20 = .ok (.return_, 1) := by decide +kernel
theorem dX3_requireMethod_0 : decode cX3_requireMethod 0 = .ok (.iload_n 0, 1) := by decide +kernel
theorem dX3_requireMethod_1 : decode cX3_requireMethod 1 = .ok (.iconst 0, 1) := by decide +kernel
theorem dX3_requireMethod_2 : decode cX3_requireMethod 2 = .ok (.iconst 2, 1) := by decide +kernel
theorem dX3_requireMethod_3 : decode cX3_requireMethod 3 = .ok (.invokestatic 23, 3) := by decide +kernel
theorem dX3_requireMethod_6 : decode cX3_requireMethod 6 = .ok (.return_, 1) := by decide +kernel
theorem dX3_requirePair_0 : decode cX3_requirePair 0 = .ok (.iload_n 0, 1) := by decide +kernel
theorem dX3_requirePair_1 : decode cX3_requirePair 1 = .ok (.iload_n 1, 1) := by decide +kernel
theorem dX3_requirePair_2 : decode cX3_requirePair 2 = .ok (.if_icmp .ne 13, 3) := by decide +kernel
theorem dX3_requirePair_5 : decode cX3_requirePair 5 = .ok (.new 191, 3) := by decide +kernel
theorem dX3_requirePair_8 : decode cX3_requirePair 8 = .ok (.dup, 1) := by decide +kernel
theorem dX3_requirePair_9 : decode cX3_requirePair 9 = .ok (.ldc 196, 2) := by decide +kernel
theorem dX3_requirePair_11 : decode cX3_requirePair 11 = .ok (.invokespecial 195, 3) := by decide +kernel
theorem dX3_requirePair_14 : decode cX3_requirePair 14 = .ok (.athrow, 1) := by decide +kernel
theorem dX3_requirePair_15 : decode cX3_requirePair 15 = .ok (.return_, 1) := by decide +kernel
theorem dX3_requireFourNodes_0 : decode cX3_requireFourNodes 0 = .ok (.iload_n 0, 1) := by decide +kernel
theorem dX3_requireFourNodes_1 : decode cX3_requireFourNodes 1 = .ok (.iload_n 1, 1) := by decide +kernel
theorem dX3_requireFourNodes_2 : decode cX3_requireFourNodes 2 = .ok (.invokestatic 79, 3) := by decide +kernel
theorem dX3_requireFourNodes_5 : decode cX3_requireFourNodes 5 = .ok (.iload_n 0, 1) := by decide +kernel
theorem dX3_requireFourNodes_6 : decode cX3_requireFourNodes 6 = .ok (.iload_n 2, 1) := by decide +kernel
theorem dX3_requireFourNodes_7 : decode cX3_requireFourNodes 7 = .ok (.invokestatic 79, 3) := by decide +kernel
theorem dX3_requireFourNodes_10 : decode cX3_requireFourNodes 10 = .ok (.iload_n 0, 1) := by decide +kernel
theorem dX3_requireFourNodes_11 : decode cX3_requireFourNodes 11 = .ok (.iload_n 3, 1) := by decide +kernel
theorem dX3_requireFourNodes_12 : decode cX3_requireFourNodes 12 = .ok (.invokestatic 79, 3) := by decide +kernel
theorem dX3_requireFourNodes_15 : decode cX3_requireFourNodes 15 = .ok (.iload_n 1, 1) := by decide +kernel
theorem dX3_requireFourNodes_16 : decode cX3_requireFourNodes 16 = .ok (.iload_n 2, 1) := by decide +kernel
theorem dX3_requireFourNodes_17 : decode cX3_requireFourNodes 17 = .ok (.invokestatic 79, 3) := by decide +kernel
theorem dX3_requireFourNodes_20 : decode cX3_requireFourNodes 20 = .ok (.iload_n 1, 1) := by decide +kernel
theorem dX3_requireFourNodes_21 : decode cX3_requireFourNodes 21 = .ok (.iload_n 3, 1) := by decide +kernel
theorem dX3_requireFourNodes_22 : decode cX3_requireFourNodes 22 = .ok (.invokestatic 79, 3) := by decide +kernel
theorem dX3_requireFourNodes_25 : decode cX3_requireFourNodes 25 = .ok (.iload_n 2, 1) := by decide +kernel
theorem dX3_requireFourNodes_26 : decode cX3_requireFourNodes 26 = .ok (.iload_n 3, 1) := by decide +kernel
theorem dX3_requireFourNodes_27 : decode cX3_requireFourNodes 27 = .ok (.invokestatic 79, 3) := by decide +kernel
theorem dX3_requireFourNodes_30 : decode cX3_requireFourNodes 30 = .ok (.return_, 1) := by decide +kernel
theorem dX3_requireNode_0 : decode cX3_requireNode 0 = .ok (.iload_n 1, 1) := by decide +kernel
theorem dX3_requireNode_1 : decode cX3_requireNode 1 = .ok (.ifCond .lt 17, 3) := by decide +kernel
theorem dX3_requireNode_4 : decode cX3_requireNode 4 = .ok (.iload_n 1, 1) := by decide +kernel
theorem dX3_requireNode_5 : decode cX3_requireNode 5 = .ok (.aload_n 0, 1) := by decide +kernel
theorem dX3_requireNode_6 : decode cX3_requireNode 6 = .ok (.getfield 10, 3) := by decide +kernel
theorem dX3_requireNode_9 : decode cX3_requireNode 9 = .ok (.getfield 28, 3) := by decide +kernel
theorem dX3_requireNode_12 : decode cX3_requireNode 12 = .ok (.getfield 49, 3) := by decide +kernel
theorem dX3_requireNode_15 : decode cX3_requireNode 15 = .ok (.if_icmp .lt 13, 3) := by decide +kernel
theorem dX3_requireNode_18 : decode cX3_requireNode 18 = .ok (.new 149, 3) := by decide +kernel
theorem dX3_requireNode_21 : decode cX3_requireNode 21 = .ok (.dup, 1) := by decide +kernel
theorem dX3_requireNode_22 : decode cX3_requireNode 22 = .ok (.ldc 198, 2) := by decide +kernel
theorem dX3_requireNode_24 : decode cX3_requireNode 24 = .ok (.invokespecial 153, 3) := by decide +kernel
theorem dX3_requireNode_27 : decode cX3_requireNode 27 = .ok (.athrow, 1) := by decide +kernel
theorem dX3_requireNode_28 : decode cX3_requireNode 28 = .ok (.return_, 1) := by decide +kernel
theorem dX3_requireExchange_0 : decode cX3_requireExchange 0 = .ok (.iload_n 1, 1) := by decide +kernel
theorem dX3_requireExchange_1 : decode cX3_requireExchange 1 = .ok (.ifCond .lt 17, 3) := by decide +kernel
theorem dX3_requireExchange_4 : decode cX3_requireExchange 4 = .ok (.iload_n 1, 1) := by decide +kernel
theorem dX3_requireExchange_5 : decode cX3_requireExchange 5 = .ok (.aload_n 0, 1) := by decide +kernel
theorem dX3_requireExchange_6 : decode cX3_requireExchange 6 = .ok (.getfield 10, 3) := by decide +kernel
theorem dX3_requireExchange_9 : decode cX3_requireExchange 9 = .ok (.getfield 84, 3) := by decide +kernel
theorem dX3_requireExchange_12 : decode cX3_requireExchange 12 = .ok (.getfield 49, 3) := by decide +kernel
theorem dX3_requireExchange_15 : decode cX3_requireExchange 15 = .ok (.if_icmp .lt 13, 3) := by decide +kernel
theorem dX3_requireExchange_18 : decode cX3_requireExchange 18 = .ok (.new 149, 3) := by decide +kernel
theorem dX3_requireExchange_21 : decode cX3_requireExchange 21 = .ok (.dup, 1) := by decide +kernel
theorem dX3_requireExchange_22 : decode cX3_requireExchange 22 = .ok (.ldc 200, 2) := by decide +kernel
theorem dX3_requireExchange_24 : decode cX3_requireExchange 24 = .ok (.invokespecial 153, 3) := by decide +kernel
theorem dX3_requireExchange_27 : decode cX3_requireExchange 27 = .ok (.athrow, 1) := by decide +kernel
theorem dX3_requireExchange_28 : decode cX3_requireExchange 28 = .ok (.return_, 1) := by decide +kernel
theorem dX3_requireLatest_0 : decode cX3_requireLatest 0 = .ok (.aload_n 0, 1) := by decide +kernel
theorem dX3_requireLatest_1 : decode cX3_requireLatest 1 = .ok (.getfield 10, 3) := by decide +kernel
theorem dX3_requireLatest_4 : decode cX3_requireLatest 4 = .ok (.iload_n 1, 1) := by decide +kernel
theorem dX3_requireLatest_5 : decode cX3_requireLatest 5 = .ok (.iload_n 2, 1) := by decide +kernel
theorem dX3_requireLatest_6 : decode cX3_requireLatest 6 = .ok (.invokevirtual 202, 3) := by decide +kernel
theorem dX3_requireLatest_9 : decode cX3_requireLatest 9 = .ok (.istore_n 3, 1) := by decide +kernel
theorem dX3_requireLatest_10 : decode cX3_requireLatest 10 = .ok (.iload_n 3, 1) := by decide +kernel
theorem dX3_requireLatest_11 : decode cX3_requireLatest 11 = .ok (.iconst (-1), 1) := by decide +kernel
theorem dX3_requireLatest_12 : decode cX3_requireLatest 12 = .ok (.if_icmp .ne 13, 3) := by decide +kernel
theorem dX3_requireLatest_15 : decode cX3_requireLatest 15 = .ok (.new 38, 3) := by decide +kernel
theorem dX3_requireLatest_18 : decode cX3_requireLatest 18 = .ok (.dup, 1) := by decide +kernel
theorem dX3_requireLatest_19 : decode cX3_requireLatest 19 = .ok (.ldc 205, 2) := by decide +kernel
theorem dX3_requireLatest_21 : decode cX3_requireLatest 21 = .ok (.invokespecial 42, 3) := by decide +kernel
theorem dX3_requireLatest_24 : decode cX3_requireLatest 24 = .ok (.athrow, 1) := by decide +kernel
theorem dX3_requireLatest_25 : decode cX3_requireLatest 25 = .ok (.iload_n 3, 1) := by decide +kernel
theorem dX3_requireLatest_26 : decode cX3_requireLatest 26 = .ok (.ireturn, 1) := by decide +kernel
theorem dX3_solve_0 : decode cX3_solve 0 = .ok (.ldc2_w 207, 3) := by decide +kernel
theorem dX3_solve_3 : decode cX3_solve 3 = .ok (.aload_n 0, 1) := by decide +kernel
theorem dX3_solve_4 : decode cX3_solve 4 = .ok (.getfield 10, 3) := by decide +kernel
theorem dX3_solve_7 : decode cX3_solve 7 = .ok (.getfield 28, 3) := by decide +kernel
theorem dX3_solve_10 : decode cX3_solve 10 = .ok (.iload_n 2, 1) := by decide +kernel
theorem dX3_solve_11 : decode cX3_solve 11 = .ok (.iconst 0, 1) := by decide +kernel
theorem dX3_solve_12 : decode cX3_solve 12 = .ok (.invokevirtual 64, 3) := by decide +kernel
theorem dX3_solve_15 : decode cX3_solve 15 = .ok (.aload_n 0, 1) := by decide +kernel
theorem dX3_solve_16 : decode cX3_solve 16 = .ok (.getfield 10, 3) := by decide +kernel
theorem dX3_solve_19 : decode cX3_solve 19 = .ok (.getfield 28, 3) := by decide +kernel
theorem dX3_solve_22 : decode cX3_solve 22 = .ok (.iload_n 1, 1) := by decide +kernel
theorem dX3_solve_23 : decode cX3_solve 23 = .ok (.iconst 0, 1) := by decide +kernel
theorem dX3_solve_24 : decode cX3_solve 24 = .ok (.invokevirtual 64, 3) := by decide +kernel
theorem dX3_solve_27 : decode cX3_solve 27 = .ok (.isub, 1) := by decide +kernel
theorem dX3_solve_28 : decode cX3_solve 28 = .ok (.i2l, 1) := by decide +kernel
theorem dX3_solve_29 : decode cX3_solve 29 = .ok (.lmul, 1) := by decide +kernel
theorem dX3_solve_30 : decode cX3_solve 30 = .ok (.lstore 9, 2) := by decide +kernel
theorem dX3_solve_32 : decode cX3_solve 32 = .ok (.ldc2_w 207, 3) := by decide +kernel
theorem dX3_solve_35 : decode cX3_solve 35 = .ok (.aload_n 0, 1) := by decide +kernel
theorem dX3_solve_36 : decode cX3_solve 36 = .ok (.getfield 10, 3) := by decide +kernel
theorem dX3_solve_39 : decode cX3_solve 39 = .ok (.getfield 28, 3) := by decide +kernel
theorem dX3_solve_42 : decode cX3_solve 42 = .ok (.iload_n 2, 1) := by decide +kernel
theorem dX3_solve_43 : decode cX3_solve 43 = .ok (.iconst 1, 1) := by decide +kernel
theorem dX3_solve_44 : decode cX3_solve 44 = .ok (.invokevirtual 64, 3) := by decide +kernel
theorem dX3_solve_47 : decode cX3_solve 47 = .ok (.aload_n 0, 1) := by decide +kernel
theorem dX3_solve_48 : decode cX3_solve 48 = .ok (.getfield 10, 3) := by decide +kernel
theorem dX3_solve_51 : decode cX3_solve 51 = .ok (.getfield 28, 3) := by decide +kernel
theorem dX3_solve_54 : decode cX3_solve 54 = .ok (.iload_n 1, 1) := by decide +kernel
theorem dX3_solve_55 : decode cX3_solve 55 = .ok (.iconst 1, 1) := by decide +kernel
theorem dX3_solve_56 : decode cX3_solve 56 = .ok (.invokevirtual 64, 3) := by decide +kernel
theorem dX3_solve_59 : decode cX3_solve 59 = .ok (.isub, 1) := by decide +kernel
theorem dX3_solve_60 : decode cX3_solve 60 = .ok (.i2l, 1) := by decide +kernel
theorem dX3_solve_61 : decode cX3_solve 61 = .ok (.lmul, 1) := by decide +kernel
theorem dX3_solve_62 : decode cX3_solve 62 = .ok (.lstore 11, 2) := by decide +kernel
theorem dX3_solve_64 : decode cX3_solve 64 = .ok (.ldc2_w 207, 3) := by decide +kernel
theorem dX3_solve_67 : decode cX3_solve 67 = .ok (.aload_n 0, 1) := by decide +kernel
theorem dX3_solve_68 : decode cX3_solve 68 = .ok (.getfield 10, 3) := by decide +kernel
theorem dX3_solve_71 : decode cX3_solve 71 = .ok (.getfield 28, 3) := by decide +kernel
theorem dX3_solve_74 : decode cX3_solve 74 = .ok (.iload_n 3, 1) := by decide +kernel
theorem dX3_solve_75 : decode cX3_solve 75 = .ok (.iconst 0, 1) := by decide +kernel
theorem dX3_solve_76 : decode cX3_solve 76 = .ok (.invokevirtual 64, 3) := by decide +kernel
theorem dX3_solve_79 : decode cX3_solve 79 = .ok (.aload_n 0, 1) := by decide +kernel
theorem dX3_solve_80 : decode cX3_solve 80 = .ok (.getfield 10, 3) := by decide +kernel
theorem dX3_solve_83 : decode cX3_solve 83 = .ok (.getfield 28, 3) := by decide +kernel
theorem dX3_solve_86 : decode cX3_solve 86 = .ok (.iload_n 1, 1) := by decide +kernel
theorem dX3_solve_87 : decode cX3_solve 87 = .ok (.iconst 0, 1) := by decide +kernel
theorem dX3_solve_88 : decode cX3_solve 88 = .ok (.invokevirtual 64, 3) := by decide +kernel
theorem dX3_solve_91 : decode cX3_solve 91 = .ok (.isub, 1) := by decide +kernel
theorem dX3_solve_92 : decode cX3_solve 92 = .ok (.i2l, 1) := by decide +kernel
theorem dX3_solve_93 : decode cX3_solve 93 = .ok (.lmul, 1) := by decide +kernel
theorem dX3_solve_94 : decode cX3_solve 94 = .ok (.lstore 13, 2) := by decide +kernel
theorem dX3_solve_96 : decode cX3_solve 96 = .ok (.ldc2_w 207, 3) := by decide +kernel
theorem dX3_solve_99 : decode cX3_solve 99 = .ok (.aload_n 0, 1) := by decide +kernel
theorem dX3_solve_100 : decode cX3_solve 100 = .ok (.getfield 10, 3) := by decide +kernel
theorem dX3_solve_103 : decode cX3_solve 103 = .ok (.getfield 28, 3) := by decide +kernel
theorem dX3_solve_106 : decode cX3_solve 106 = .ok (.iload_n 3, 1) := by decide +kernel
theorem dX3_solve_107 : decode cX3_solve 107 = .ok (.iconst 1, 1) := by decide +kernel
theorem dX3_solve_108 : decode cX3_solve 108 = .ok (.invokevirtual 64, 3) := by decide +kernel
theorem dX3_solve_111 : decode cX3_solve 111 = .ok (.aload_n 0, 1) := by decide +kernel
theorem dX3_solve_112 : decode cX3_solve 112 = .ok (.getfield 10, 3) := by decide +kernel
theorem dX3_solve_115 : decode cX3_solve 115 = .ok (.getfield 28, 3) := by decide +kernel
theorem dX3_solve_118 : decode cX3_solve 118 = .ok (.iload_n 1, 1) := by decide +kernel
theorem dX3_solve_119 : decode cX3_solve 119 = .ok (.iconst 1, 1) := by decide +kernel
theorem dX3_solve_120 : decode cX3_solve 120 = .ok (.invokevirtual 64, 3) := by decide +kernel
theorem dX3_solve_123 : decode cX3_solve 123 = .ok (.isub, 1) := by decide +kernel
theorem dX3_solve_124 : decode cX3_solve 124 = .ok (.i2l, 1) := by decide +kernel
theorem dX3_solve_125 : decode cX3_solve 125 = .ok (.lmul, 1) := by decide +kernel
theorem dX3_solve_126 : decode cX3_solve 126 = .ok (.lstore 15, 2) := by decide +kernel
theorem dX3_solve_128 : decode cX3_solve 128 = .ok (.lload 9, 2) := by decide +kernel
theorem dX3_solve_130 : decode cX3_solve 130 = .ok (.lload 15, 2) := by decide +kernel
theorem dX3_solve_132 : decode cX3_solve 132 = .ok (.lmul, 1) := by decide +kernel
theorem dX3_solve_133 : decode cX3_solve 133 = .ok (.lload 13, 2) := by decide +kernel
theorem dX3_solve_135 : decode cX3_solve 135 = .ok (.lload 11, 2) := by decide +kernel
theorem dX3_solve_137 : decode cX3_solve 137 = .ok (.lmul, 1) := by decide +kernel
theorem dX3_solve_138 : decode cX3_solve 138 = .ok (.lsub, 1) := by decide +kernel
theorem dX3_solve_139 : decode cX3_solve 139 = .ok (.lstore 17, 2) := by decide +kernel
theorem dX3_solve_141 : decode cX3_solve 141 = .ok (.lload 17, 2) := by decide +kernel
theorem dX3_solve_143 : decode cX3_solve 143 = .ok (.lconst 0, 1) := by decide +kernel
theorem dX3_solve_144 : decode cX3_solve 144 = .ok (.lcmp, 1) := by decide +kernel
theorem dX3_solve_145 : decode cX3_solve 145 = .ok (.ifCond .ne 13, 3) := by decide +kernel
theorem dX3_solve_148 : decode cX3_solve 148 = .ok (.new 136, 3) := by decide +kernel
theorem dX3_solve_151 : decode cX3_solve 151 = .ok (.dup, 1) := by decide +kernel
theorem dX3_solve_152 : decode cX3_solve 152 = .ok (.ldc 209, 2) := by decide +kernel
theorem dX3_solve_154 : decode cX3_solve 154 = .ok (.invokespecial 140, 3) := by decide +kernel
theorem dX3_solve_157 : decode cX3_solve 157 = .ok (.athrow, 1) := by decide +kernel
theorem dX3_solve_158 : decode cX3_solve 158 = .ok (.iload 8, 2) := by decide +kernel
theorem dX3_solve_160 : decode cX3_solve 160 = .ok (.ifCond .ne 17, 3) := by decide +kernel
theorem dX3_solve_163 : decode cX3_solve 163 = .ok (.lload 4, 2) := by decide +kernel
theorem dX3_solve_165 : decode cX3_solve 165 = .ok (.lload 15, 2) := by decide +kernel
theorem dX3_solve_167 : decode cX3_solve 167 = .ok (.lmul, 1) := by decide +kernel
theorem dX3_solve_168 : decode cX3_solve 168 = .ok (.lload 6, 2) := by decide +kernel
theorem dX3_solve_170 : decode cX3_solve 170 = .ok (.lload 11, 2) := by decide +kernel
theorem dX3_solve_172 : decode cX3_solve 172 = .ok (.lmul, 1) := by decide +kernel
theorem dX3_solve_173 : decode cX3_solve 173 = .ok (.lsub, 1) := by decide +kernel
theorem dX3_solve_174 : decode cX3_solve 174 = .ok (.goto 14, 3) := by decide +kernel
theorem dX3_solve_177 : decode cX3_solve 177 = .ok (.lload 9, 2) := by decide +kernel
theorem dX3_solve_179 : decode cX3_solve 179 = .ok (.lload 6, 2) := by decide +kernel
theorem dX3_solve_181 : decode cX3_solve 181 = .ok (.lmul, 1) := by decide +kernel
theorem dX3_solve_182 : decode cX3_solve 182 = .ok (.lload 13, 2) := by decide +kernel
theorem dX3_solve_184 : decode cX3_solve 184 = .ok (.lload 4, 2) := by decide +kernel
theorem dX3_solve_186 : decode cX3_solve 186 = .ok (.lmul, 1) := by decide +kernel
theorem dX3_solve_187 : decode cX3_solve 187 = .ok (.lsub, 1) := by decide +kernel
theorem dX3_solve_188 : decode cX3_solve 188 = .ok (.lstore 19, 2) := by decide +kernel
theorem dX3_solve_190 : decode cX3_solve 190 = .ok (.lload 19, 2) := by decide +kernel
theorem dX3_solve_192 : decode cX3_solve 192 = .ok (.lload 17, 2) := by decide +kernel
theorem dX3_solve_194 : decode cX3_solve 194 = .ok (.invokestatic 211, 3) := by decide +kernel
theorem dX3_solve_197 : decode cX3_solve 197 = .ok (.lstore 21, 2) := by decide +kernel
theorem dX3_solve_199 : decode cX3_solve 199 = .ok (.lload 21, 2) := by decide +kernel
theorem dX3_solve_201 : decode cX3_solve 201 = .ok (.lload 21, 2) := by decide +kernel
theorem dX3_solve_203 : decode cX3_solve 203 = .ok (.l2i, 1) := by decide +kernel
theorem dX3_solve_204 : decode cX3_solve 204 = .ok (.i2l, 1) := by decide +kernel
theorem dX3_solve_205 : decode cX3_solve 205 = .ok (.lcmp, 1) := by decide +kernel
theorem dX3_solve_206 : decode cX3_solve 206 = .ok (.ifCond .eq 13, 3) := by decide +kernel
theorem dX3_solve_209 : decode cX3_solve 209 = .ok (.new 136, 3) := by decide +kernel
theorem dX3_solve_212 : decode cX3_solve 212 = .ok (.dup, 1) := by decide +kernel
theorem dX3_solve_213 : decode cX3_solve 213 = .ok (.ldc 213, 2) := by decide +kernel
theorem dX3_solve_215 : decode cX3_solve 215 = .ok (.invokespecial 140, 3) := by decide +kernel
theorem dX3_solve_218 : decode cX3_solve 218 = .ok (.athrow, 1) := by decide +kernel
theorem dX3_solve_219 : decode cX3_solve 219 = .ok (.lload 21, 2) := by decide +kernel
theorem dX3_solve_221 : decode cX3_solve 221 = .ok (.l2i, 1) := by decide +kernel
theorem dX3_solve_222 : decode cX3_solve 222 = .ok (.ireturn, 1) := by decide +kernel
theorem dX3_squareOf_0 : decode cX3_squareOf 0 = .ok (.iload_n 0, 1) := by decide +kernel
theorem dX3_squareOf_1 : decode cX3_squareOf 1 = .ok (.i2l, 1) := by decide +kernel
theorem dX3_squareOf_2 : decode cX3_squareOf 2 = .ok (.iload_n 0, 1) := by decide +kernel
theorem dX3_squareOf_3 : decode cX3_squareOf 3 = .ok (.i2l, 1) := by decide +kernel
theorem dX3_squareOf_4 : decode cX3_squareOf 4 = .ok (.lmul, 1) := by decide +kernel
theorem dX3_squareOf_5 : decode cX3_squareOf 5 = .ok (.lreturn, 1) := by decide +kernel
theorem dX3_mix_0 : decode cX3_mix 0 = .ok (.ldc2_w 215, 3) := by decide +kernel
theorem dX3_mix_3 : decode cX3_mix 3 = .ok (.lload_n 0, 1) := by decide +kernel
theorem dX3_mix_4 : decode cX3_mix 4 = .ok (.lmul, 1) := by decide +kernel
theorem dX3_mix_5 : decode cX3_mix 5 = .ok (.lload_n 2, 1) := by decide +kernel
theorem dX3_mix_6 : decode cX3_mix 6 = .ok (.ladd, 1) := by decide +kernel
theorem dX3_mix_7 : decode cX3_mix 7 = .ok (.lreturn, 1) := by decide +kernel
theorem dX3_floorLength_0 : decode cX3_floorLength 0 = .ok (.iload_n 0, 1) := by decide +kernel
theorem dX3_floorLength_1 : decode cX3_floorLength 1 = .ok (.iload_n 0, 1) := by decide +kernel
theorem dX3_floorLength_2 : decode cX3_floorLength 2 = .ok (.imul, 1) := by decide +kernel
theorem dX3_floorLength_3 : decode cX3_floorLength 3 = .ok (.iload_n 1, 1) := by decide +kernel
theorem dX3_floorLength_4 : decode cX3_floorLength 4 = .ok (.iload_n 1, 1) := by decide +kernel
theorem dX3_floorLength_5 : decode cX3_floorLength 5 = .ok (.imul, 1) := by decide +kernel
theorem dX3_floorLength_6 : decode cX3_floorLength 6 = .ok (.iadd, 1) := by decide +kernel
theorem dX3_floorLength_7 : decode cX3_floorLength 7 = .ok (.istore_n 2, 1) := by decide +kernel
theorem dX3_floorLength_8 : decode cX3_floorLength 8 = .ok (.iconst 0, 1) := by decide +kernel
theorem dX3_floorLength_9 : decode cX3_floorLength 9 = .ok (.istore_n 3, 1) := by decide +kernel
theorem dX3_floorLength_10 : decode cX3_floorLength 10 = .ok (.sipush 2048, 3) := by decide +kernel
theorem dX3_floorLength_13 : decode cX3_floorLength 13 = .ok (.istore 4, 2) := by decide +kernel
theorem dX3_floorLength_15 : decode cX3_floorLength 15 = .ok (.iload 4, 2) := by decide +kernel
theorem dX3_floorLength_17 : decode cX3_floorLength 17 = .ok (.ifCond .le 30, 3) := by decide +kernel
theorem dX3_floorLength_20 : decode cX3_floorLength 20 = .ok (.iload_n 3, 1) := by decide +kernel
theorem dX3_floorLength_21 : decode cX3_floorLength 21 = .ok (.iload 4, 2) := by decide +kernel
theorem dX3_floorLength_23 : decode cX3_floorLength 23 = .ok (.iadd, 1) := by decide +kernel
theorem dX3_floorLength_24 : decode cX3_floorLength 24 = .ok (.istore 5, 2) := by decide +kernel
theorem dX3_floorLength_26 : decode cX3_floorLength 26 = .ok (.iload 5, 2) := by decide +kernel
theorem dX3_floorLength_28 : decode cX3_floorLength 28 = .ok (.iload 5, 2) := by decide +kernel
theorem dX3_floorLength_30 : decode cX3_floorLength 30 = .ok (.imul, 1) := by decide +kernel
theorem dX3_floorLength_31 : decode cX3_floorLength 31 = .ok (.iload_n 2, 1) := by decide +kernel
theorem dX3_floorLength_32 : decode cX3_floorLength 32 = .ok (.if_icmp .gt 6, 3) := by decide +kernel
theorem dX3_floorLength_35 : decode cX3_floorLength 35 = .ok (.iload 5, 2) := by decide +kernel
theorem dX3_floorLength_37 : decode cX3_floorLength 37 = .ok (.istore_n 3, 1) := by decide +kernel
theorem dX3_floorLength_38 : decode cX3_floorLength 38 = .ok (.iload 4, 2) := by decide +kernel
theorem dX3_floorLength_40 : decode cX3_floorLength 40 = .ok (.iconst 2, 1) := by decide +kernel
theorem dX3_floorLength_41 : decode cX3_floorLength 41 = .ok (.idiv, 1) := by decide +kernel
theorem dX3_floorLength_42 : decode cX3_floorLength 42 = .ok (.istore 4, 2) := by decide +kernel
theorem dX3_floorLength_44 : decode cX3_floorLength 44 = .ok (.goto (-29), 3) := by decide +kernel
theorem dX3_floorLength_47 : decode cX3_floorLength 47 = .ok (.iload_n 3, 1) := by decide +kernel
theorem dX3_floorLength_48 : decode cX3_floorLength 48 = .ok (.ireturn, 1) := by decide +kernel
