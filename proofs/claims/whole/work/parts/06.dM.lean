theorem dX4_init_0 : decode cX4_init 0 = .ok (.aload_n 0, 1) := by decide +kernel
theorem dX4_init_1 : decode cX4_init 1 = .ok (.invokespecial 1, 3) := by decide +kernel
theorem dX4_init_4 : decode cX4_init 4 = .ok (.aload_n 0, 1) := by decide +kernel
theorem dX4_init_5 : decode cX4_init 5 = .ok (.sipush 460, 3) := by decide +kernel
theorem dX4_init_8 : decode cX4_init 8 = .ok (.newarray .long, 2) := by decide +kernel
theorem dX4_init_10 : decode cX4_init 10 = .ok (.putfield 7, 3) := by decide +kernel
theorem dX4_init_13 : decode cX4_init 13 = .ok (.aload_n 0, 1) := by decide +kernel
theorem dX4_init_14 : decode cX4_init 14 = .ok (.sipush 1840, 3) := by decide +kernel
theorem dX4_init_17 : decode cX4_init 17 = .ok (.newarray .long, 2) := by decide +kernel
theorem dX4_init_19 : decode cX4_init 19 = .ok (.putfield 13, 3) := by decide +kernel
theorem dX4_init_22 : decode cX4_init 22 = .ok (.return_, 1) := by decide +kernel
theorem dX4_thrown_0 : decode cX4_thrown 0 = .ok (.aload_n 0, 1) := by decide +kernel
theorem dX4_thrown_1 : decode cX4_thrown 1 = .ok (.getfield 16, 3) := by decide +kernel
theorem dX4_thrown_4 : decode cX4_thrown 4 = .ok (.ireturn, 1) := by decide +kernel
theorem dX4_in_0 : decode cX4_in 0 = .ok (.lload_n 0, 1) := by decide +kernel
theorem dX4_in_1 : decode cX4_in 1 = .ok (.lload_n 2, 1) := by decide +kernel
theorem dX4_in_2 : decode cX4_in 2 = .ok (.lcmp, 1) := by decide +kernel
theorem dX4_in_3 : decode cX4_in 3 = .ok (.ifCond .lt 14, 3) := by decide +kernel
theorem dX4_in_6 : decode cX4_in 6 = .ok (.lload_n 0, 1) := by decide +kernel
theorem dX4_in_7 : decode cX4_in 7 = .ok (.lload 4, 2) := by decide +kernel
theorem dX4_in_9 : decode cX4_in 9 = .ok (.lcmp, 1) := by decide +kernel
theorem dX4_in_10 : decode cX4_in 10 = .ok (.ifCond .gt 7, 3) := by decide +kernel
theorem dX4_in_13 : decode cX4_in 13 = .ok (.iconst 1, 1) := by decide +kernel
theorem dX4_in_14 : decode cX4_in 14 = .ok (.goto 4, 3) := by decide +kernel
theorem dX4_in_17 : decode cX4_in 17 = .ok (.iconst 0, 1) := by decide +kernel
theorem dX4_in_18 : decode cX4_in 18 = .ok (.ireturn, 1) := by decide +kernel
theorem dX4_goes_0 : decode cX4_goes 0 = .ok (.aload_n 0, 1) := by decide +kernel
theorem dX4_goes_1 : decode cX4_goes 1 = .ok (.iload_n 1, 1) := by decide +kernel
theorem dX4_goes_2 : decode cX4_goes 2 = .ok (.ifCond .ne 7, 3) := by decide +kernel
theorem dX4_goes_5 : decode cX4_goes 5 = .ok (.iconst 1, 1) := by decide +kernel
theorem dX4_goes_6 : decode cX4_goes 6 = .ok (.goto 20, 3) := by decide +kernel
theorem dX4_goes_9 : decode cX4_goes 9 = .ok (.iload_n 2, 1) := by decide +kernel
theorem dX4_goes_10 : decode cX4_goes 10 = .ok (.ifCond .ne 7, 3) := by decide +kernel
theorem dX4_goes_13 : decode cX4_goes 13 = .ok (.iconst 2, 1) := by decide +kernel
theorem dX4_goes_14 : decode cX4_goes 14 = .ok (.goto 12, 3) := by decide +kernel
theorem dX4_goes_17 : decode cX4_goes 17 = .ok (.iload_n 3, 1) := by decide +kernel
theorem dX4_goes_18 : decode cX4_goes 18 = .ok (.ifCond .ne 7, 3) := by decide +kernel
theorem dX4_goes_21 : decode cX4_goes 21 = .ok (.iconst 3, 1) := by decide +kernel
theorem dX4_goes_22 : decode cX4_goes 22 = .ok (.goto 4, 3) := by decide +kernel
theorem dX4_goes_25 : decode cX4_goes 25 = .ok (.iconst 0, 1) := by decide +kernel
theorem dX4_goes_26 : decode cX4_goes 26 = .ok (.putfield 16, 3) := by decide +kernel
theorem dX4_goes_29 : decode cX4_goes 29 = .ok (.aload_n 0, 1) := by decide +kernel
theorem dX4_goes_30 : decode cX4_goes 30 = .ok (.getfield 16, 3) := by decide +kernel
theorem dX4_goes_33 : decode cX4_goes 33 = .ok (.ifCond .ne 7, 3) := by decide +kernel
theorem dX4_goes_36 : decode cX4_goes 36 = .ok (.iconst 1, 1) := by decide +kernel
theorem dX4_goes_37 : decode cX4_goes 37 = .ok (.goto 4, 3) := by decide +kernel
theorem dX4_goes_40 : decode cX4_goes 40 = .ok (.iconst 0, 1) := by decide +kernel
theorem dX4_goes_41 : decode cX4_goes 41 = .ok (.ireturn, 1) := by decide +kernel
theorem dX4_save_0 : decode cX4_save 0 = .ok (.aload_n 0, 1) := by decide +kernel
theorem dX4_save_1 : decode cX4_save 1 = .ok (.getfield 20, 3) := by decide +kernel
theorem dX4_save_4 : decode cX4_save 4 = .ok (.iconst 4, 1) := by decide +kernel
theorem dX4_save_5 : decode cX4_save 5 = .ok (.if_icmp .ne 44, 3) := by decide +kernel
theorem dX4_save_8 : decode cX4_save 8 = .ok (.iconst 0, 1) := by decide +kernel
theorem dX4_save_9 : decode cX4_save 9 = .ok (.istore_n 1, 1) := by decide +kernel
theorem dX4_save_10 : decode cX4_save 10 = .ok (.iload_n 1, 1) := by decide +kernel
theorem dX4_save_11 : decode cX4_save 11 = .ok (.sipush 1380, 3) := by decide +kernel
theorem dX4_save_14 : decode cX4_save 14 = .ok (.if_icmp .ge 25, 3) := by decide +kernel
theorem dX4_save_17 : decode cX4_save 17 = .ok (.aload_n 0, 1) := by decide +kernel
theorem dX4_save_18 : decode cX4_save 18 = .ok (.getfield 13, 3) := by decide +kernel
theorem dX4_save_21 : decode cX4_save 21 = .ok (.iload_n 1, 1) := by decide +kernel
theorem dX4_save_22 : decode cX4_save 22 = .ok (.aload_n 0, 1) := by decide +kernel
theorem dX4_save_23 : decode cX4_save 23 = .ok (.getfield 13, 3) := by decide +kernel
theorem dX4_save_26 : decode cX4_save 26 = .ok (.iload_n 1, 1) := by decide +kernel
theorem dX4_save_27 : decode cX4_save 27 = .ok (.sipush 460, 3) := by decide +kernel
theorem dX4_save_30 : decode cX4_save 30 = .ok (.iadd, 1) := by decide +kernel
theorem dX4_save_31 : decode cX4_save 31 = .ok (.laload, 1) := by decide +kernel
theorem dX4_save_32 : decode cX4_save 32 = .ok (.lastore, 1) := by decide +kernel
theorem dX4_save_33 : decode cX4_save 33 = .ok (.iinc 1 1, 3) := by decide +kernel
theorem dX4_save_36 : decode cX4_save 36 = .ok (.goto (-26), 3) := by decide +kernel
theorem dX4_save_39 : decode cX4_save 39 = .ok (.aload_n 0, 1) := by decide +kernel
theorem dX4_save_40 : decode cX4_save 40 = .ok (.dup, 1) := by decide +kernel
theorem dX4_save_41 : decode cX4_save 41 = .ok (.getfield 20, 3) := by decide +kernel
theorem dX4_save_44 : decode cX4_save 44 = .ok (.iconst 1, 1) := by decide +kernel
theorem dX4_save_45 : decode cX4_save 45 = .ok (.isub, 1) := by decide +kernel
theorem dX4_save_46 : decode cX4_save 46 = .ok (.putfield 20, 3) := by decide +kernel
theorem dX4_save_49 : decode cX4_save 49 = .ok (.iconst 0, 1) := by decide +kernel
theorem dX4_save_50 : decode cX4_save 50 = .ok (.istore_n 1, 1) := by decide +kernel
theorem dX4_save_51 : decode cX4_save 51 = .ok (.iload_n 1, 1) := by decide +kernel
theorem dX4_save_52 : decode cX4_save 52 = .ok (.sipush 460, 3) := by decide +kernel
theorem dX4_save_55 : decode cX4_save 55 = .ok (.if_icmp .ge 30, 3) := by decide +kernel
theorem dX4_save_58 : decode cX4_save 58 = .ok (.aload_n 0, 1) := by decide +kernel
theorem dX4_save_59 : decode cX4_save 59 = .ok (.getfield 13, 3) := by decide +kernel
theorem dX4_save_62 : decode cX4_save 62 = .ok (.sipush 460, 3) := by decide +kernel
theorem dX4_save_65 : decode cX4_save 65 = .ok (.aload_n 0, 1) := by decide +kernel
theorem dX4_save_66 : decode cX4_save 66 = .ok (.getfield 20, 3) := by decide +kernel
theorem dX4_save_69 : decode cX4_save 69 = .ok (.imul, 1) := by decide +kernel
theorem dX4_save_70 : decode cX4_save 70 = .ok (.iload_n 1, 1) := by decide +kernel
theorem dX4_save_71 : decode cX4_save 71 = .ok (.iadd, 1) := by decide +kernel
theorem dX4_save_72 : decode cX4_save 72 = .ok (.aload_n 0, 1) := by decide +kernel
theorem dX4_save_73 : decode cX4_save 73 = .ok (.getfield 7, 3) := by decide +kernel
theorem dX4_save_76 : decode cX4_save 76 = .ok (.iload_n 1, 1) := by decide +kernel
theorem dX4_save_77 : decode cX4_save 77 = .ok (.laload, 1) := by decide +kernel
theorem dX4_save_78 : decode cX4_save 78 = .ok (.lastore, 1) := by decide +kernel
theorem dX4_save_79 : decode cX4_save 79 = .ok (.iinc 1 1, 3) := by decide +kernel
theorem dX4_save_82 : decode cX4_save 82 = .ok (.goto (-31), 3) := by decide +kernel
theorem dX4_save_85 : decode cX4_save 85 = .ok (.aload_n 0, 1) := by decide +kernel
theorem dX4_save_86 : decode cX4_save 86 = .ok (.dup, 1) := by decide +kernel
theorem dX4_save_87 : decode cX4_save 87 = .ok (.getfield 20, 3) := by decide +kernel
theorem dX4_save_90 : decode cX4_save 90 = .ok (.iconst 1, 1) := by decide +kernel
theorem dX4_save_91 : decode cX4_save 91 = .ok (.iadd, 1) := by decide +kernel
theorem dX4_save_92 : decode cX4_save 92 = .ok (.putfield 20, 3) := by decide +kernel
theorem dX4_save_95 : decode cX4_save 95 = .ok (.return_, 1) := by decide +kernel
theorem dX4_isNode_0 : decode cX4_isNode 0 = .ok (.iload_n 1, 1) := by decide +kernel
theorem dX4_isNode_1 : decode cX4_isNode 1 = .ok (.i2l, 1) := by decide +kernel
theorem dX4_isNode_2 : decode cX4_isNode 2 = .ok (.lconst 0, 1) := by decide +kernel
theorem dX4_isNode_3 : decode cX4_isNode 3 = .ok (.aload_n 0, 1) := by decide +kernel
theorem dX4_isNode_4 : decode cX4_isNode 4 = .ok (.getfield 7, 3) := by decide +kernel
theorem dX4_isNode_7 : decode cX4_isNode 7 = .ok (.iconst 1, 1) := by decide +kernel
theorem dX4_isNode_8 : decode cX4_isNode 8 = .ok (.laload, 1) := by decide +kernel
theorem dX4_isNode_9 : decode cX4_isNode 9 = .ok (.lconst 1, 1) := by decide +kernel
theorem dX4_isNode_10 : decode cX4_isNode 10 = .ok (.lsub, 1) := by decide +kernel
theorem dX4_isNode_11 : decode cX4_isNode 11 = .ok (.invokestatic 23, 3) := by decide +kernel
theorem dX4_isNode_14 : decode cX4_isNode 14 = .ok (.ireturn, 1) := by decide +kernel
theorem dX4_of_0 : decode cX4_of 0 = .ok (.aload_n 0, 1) := by decide +kernel
theorem dX4_of_1 : decode cX4_of 1 = .ok (.getfield 7, 3) := by decide +kernel
theorem dX4_of_4 : decode cX4_of 4 = .ok (.iconst 2, 1) := by decide +kernel
theorem dX4_of_5 : decode cX4_of 5 = .ok (.bipush 6, 2) := by decide +kernel
theorem dX4_of_7 : decode cX4_of 7 = .ok (.iload_n 1, 1) := by decide +kernel
theorem dX4_of_8 : decode cX4_of 8 = .ok (.imul, 1) := by decide +kernel
theorem dX4_of_9 : decode cX4_of 9 = .ok (.iadd, 1) := by decide +kernel
theorem dX4_of_10 : decode cX4_of 10 = .ok (.iload_n 2, 1) := by decide +kernel
theorem dX4_of_11 : decode cX4_of 11 = .ok (.iadd, 1) := by decide +kernel
theorem dX4_of_12 : decode cX4_of 12 = .ok (.laload, 1) := by decide +kernel
theorem dX4_of_13 : decode cX4_of 13 = .ok (.lreturn, 1) := by decide +kernel
theorem dX4_isPlace_0 : decode cX4_isPlace 0 = .ok (.iload_n 0, 1) := by decide +kernel
theorem dX4_isPlace_1 : decode cX4_isPlace 1 = .ok (.i2l, 1) := by decide +kernel
theorem dX4_isPlace_2 : decode cX4_isPlace 2 = .ok (.ldc2_w 27, 3) := by decide +kernel
theorem dX4_isPlace_5 : decode cX4_isPlace 5 = .ok (.ldc2_w 29, 3) := by decide +kernel
theorem dX4_isPlace_8 : decode cX4_isPlace 8 = .ok (.invokestatic 23, 3) := by decide +kernel
theorem dX4_isPlace_11 : decode cX4_isPlace 11 = .ok (.ireturn, 1) := by decide +kernel
theorem dX4_addNode_0 : decode cX4_addNode 0 = .ok (.iload_n 1, 1) := by decide +kernel
theorem dX4_addNode_1 : decode cX4_addNode 1 = .ok (.invokestatic 31, 3) := by decide +kernel
theorem dX4_addNode_4 : decode cX4_addNode 4 = .ok (.ifCond .eq 54, 3) := by decide +kernel
theorem dX4_addNode_7 : decode cX4_addNode 7 = .ok (.iload_n 2, 1) := by decide +kernel
theorem dX4_addNode_8 : decode cX4_addNode 8 = .ok (.invokestatic 31, 3) := by decide +kernel
theorem dX4_addNode_11 : decode cX4_addNode 11 = .ok (.ifCond .eq 47, 3) := by decide +kernel
theorem dX4_addNode_14 : decode cX4_addNode 14 = .ok (.iload_n 3, 1) := by decide +kernel
theorem dX4_addNode_15 : decode cX4_addNode 15 = .ok (.i2l, 1) := by decide +kernel
theorem dX4_addNode_16 : decode cX4_addNode 16 = .ok (.ldc2_w 35, 3) := by decide +kernel
theorem dX4_addNode_19 : decode cX4_addNode 19 = .ok (.ldc2_w 37, 3) := by decide +kernel
theorem dX4_addNode_22 : decode cX4_addNode 22 = .ok (.invokestatic 23, 3) := by decide +kernel
theorem dX4_addNode_25 : decode cX4_addNode 25 = .ok (.ifCond .eq 33, 3) := by decide +kernel
theorem dX4_addNode_28 : decode cX4_addNode 28 = .ok (.iload 4, 2) := by decide +kernel
theorem dX4_addNode_30 : decode cX4_addNode 30 = .ok (.i2l, 1) := by decide +kernel
theorem dX4_addNode_31 : decode cX4_addNode 31 = .ok (.lconst 0, 1) := by decide +kernel
theorem dX4_addNode_32 : decode cX4_addNode 32 = .ok (.ldc2_w 39, 3) := by decide +kernel
theorem dX4_addNode_35 : decode cX4_addNode 35 = .ok (.invokestatic 23, 3) := by decide +kernel
theorem dX4_addNode_38 : decode cX4_addNode 38 = .ok (.ifCond .eq 20, 3) := by decide +kernel
theorem dX4_addNode_41 : decode cX4_addNode 41 = .ok (.iload 5, 2) := by decide +kernel
theorem dX4_addNode_43 : decode cX4_addNode 43 = .ok (.i2l, 1) := by decide +kernel
theorem dX4_addNode_44 : decode cX4_addNode 44 = .ok (.lconst 0, 1) := by decide +kernel
theorem dX4_addNode_45 : decode cX4_addNode 45 = .ok (.ldc2_w 41, 3) := by decide +kernel
theorem dX4_addNode_48 : decode cX4_addNode 48 = .ok (.invokestatic 23, 3) := by decide +kernel
theorem dX4_addNode_51 : decode cX4_addNode 51 = .ok (.ifCond .eq 7, 3) := by decide +kernel
theorem dX4_addNode_54 : decode cX4_addNode 54 = .ok (.iconst 1, 1) := by decide +kernel
theorem dX4_addNode_55 : decode cX4_addNode 55 = .ok (.goto 4, 3) := by decide +kernel
theorem dX4_addNode_58 : decode cX4_addNode 58 = .ok (.iconst 0, 1) := by decide +kernel
theorem dX4_addNode_59 : decode cX4_addNode 59 = .ok (.istore 6, 2) := by decide +kernel
theorem dX4_addNode_61 : decode cX4_addNode 61 = .ok (.aload_n 0, 1) := by decide +kernel
theorem dX4_addNode_62 : decode cX4_addNode 62 = .ok (.iload 6, 2) := by decide +kernel
theorem dX4_addNode_64 : decode cX4_addNode 64 = .ok (.aload_n 0, 1) := by decide +kernel
theorem dX4_addNode_65 : decode cX4_addNode 65 = .ok (.getfield 7, 3) := by decide +kernel
theorem dX4_addNode_68 : decode cX4_addNode 68 = .ok (.iconst 1, 1) := by decide +kernel
theorem dX4_addNode_69 : decode cX4_addNode 69 = .ok (.laload, 1) := by decide +kernel
theorem dX4_addNode_70 : decode cX4_addNode 70 = .ok (.ldc2_w 43, 3) := by decide +kernel
theorem dX4_addNode_73 : decode cX4_addNode 73 = .ok (.lcmp, 1) := by decide +kernel
theorem dX4_addNode_74 : decode cX4_addNode 74 = .ok (.ifCond .ge 7, 3) := by decide +kernel
theorem dX4_addNode_77 : decode cX4_addNode 77 = .ok (.iconst 1, 1) := by decide +kernel
theorem dX4_addNode_78 : decode cX4_addNode 78 = .ok (.goto 4, 3) := by decide +kernel
theorem dX4_addNode_81 : decode cX4_addNode 81 = .ok (.iconst 0, 1) := by decide +kernel
theorem dX4_addNode_82 : decode cX4_addNode 82 = .ok (.iconst 1, 1) := by decide +kernel
theorem dX4_addNode_83 : decode cX4_addNode 83 = .ok (.invokevirtual 45, 3) := by decide +kernel
theorem dX4_addNode_86 : decode cX4_addNode 86 = .ok (.ifCond .ne 5, 3) := by decide +kernel
theorem dX4_addNode_89 : decode cX4_addNode 89 = .ok (.iconst 0, 1) := by decide +kernel
theorem dX4_addNode_90 : decode cX4_addNode 90 = .ok (.ireturn, 1) := by decide +kernel
theorem dX4_addNode_91 : decode cX4_addNode 91 = .ok (.aload_n 0, 1) := by decide +kernel
theorem dX4_addNode_92 : decode cX4_addNode 92 = .ok (.invokevirtual 49, 3) := by decide +kernel
theorem dX4_addNode_95 : decode cX4_addNode 95 = .ok (.iconst 2, 1) := by decide +kernel
theorem dX4_addNode_96 : decode cX4_addNode 96 = .ok (.bipush 6, 2) := by decide +kernel
theorem dX4_addNode_98 : decode cX4_addNode 98 = .ok (.aload_n 0, 1) := by decide +kernel
theorem dX4_addNode_99 : decode cX4_addNode 99 = .ok (.getfield 7, 3) := by decide +kernel
theorem dX4_addNode_102 : decode cX4_addNode 102 = .ok (.iconst 1, 1) := by decide +kernel
theorem dX4_addNode_103 : decode cX4_addNode 103 = .ok (.laload, 1) := by decide +kernel
theorem dX4_addNode_104 : decode cX4_addNode 104 = .ok (.l2i, 1) := by decide +kernel
theorem dX4_addNode_105 : decode cX4_addNode 105 = .ok (.imul, 1) := by decide +kernel
theorem dX4_addNode_106 : decode cX4_addNode 106 = .ok (.iadd, 1) := by decide +kernel
theorem dX4_addNode_107 : decode cX4_addNode 107 = .ok (.istore 7, 2) := by decide +kernel
theorem dX4_addNode_109 : decode cX4_addNode 109 = .ok (.aload_n 0, 1) := by decide +kernel
theorem dX4_addNode_110 : decode cX4_addNode 110 = .ok (.getfield 7, 3) := by decide +kernel
theorem dX4_addNode_113 : decode cX4_addNode 113 = .ok (.iload 7, 2) := by decide +kernel
theorem dX4_addNode_115 : decode cX4_addNode 115 = .ok (.iconst 0, 1) := by decide +kernel
theorem dX4_addNode_116 : decode cX4_addNode 116 = .ok (.iadd, 1) := by decide +kernel
theorem dX4_addNode_117 : decode cX4_addNode 117 = .ok (.iload_n 1, 1) := by decide +kernel
theorem dX4_addNode_118 : decode cX4_addNode 118 = .ok (.i2l, 1) := by decide +kernel
theorem dX4_addNode_119 : decode cX4_addNode 119 = .ok (.lastore, 1) := by decide +kernel
theorem dX4_addNode_120 : decode cX4_addNode 120 = .ok (.aload_n 0, 1) := by decide +kernel
theorem dX4_addNode_121 : decode cX4_addNode 121 = .ok (.getfield 7, 3) := by decide +kernel
theorem dX4_addNode_124 : decode cX4_addNode 124 = .ok (.iload 7, 2) := by decide +kernel
theorem dX4_addNode_126 : decode cX4_addNode 126 = .ok (.iconst 1, 1) := by decide +kernel
theorem dX4_addNode_127 : decode cX4_addNode 127 = .ok (.iadd, 1) := by decide +kernel
theorem dX4_addNode_128 : decode cX4_addNode 128 = .ok (.iload_n 2, 1) := by decide +kernel
theorem dX4_addNode_129 : decode cX4_addNode 129 = .ok (.i2l, 1) := by decide +kernel
theorem dX4_addNode_130 : decode cX4_addNode 130 = .ok (.lastore, 1) := by decide +kernel
theorem dX4_addNode_131 : decode cX4_addNode 131 = .ok (.aload_n 0, 1) := by decide +kernel
theorem dX4_addNode_132 : decode cX4_addNode 132 = .ok (.getfield 7, 3) := by decide +kernel
theorem dX4_addNode_135 : decode cX4_addNode 135 = .ok (.iload 7, 2) := by decide +kernel
theorem dX4_addNode_137 : decode cX4_addNode 137 = .ok (.iconst 2, 1) := by decide +kernel
theorem dX4_addNode_138 : decode cX4_addNode 138 = .ok (.iadd, 1) := by decide +kernel
theorem dX4_addNode_139 : decode cX4_addNode 139 = .ok (.iload_n 3, 1) := by decide +kernel
theorem dX4_addNode_140 : decode cX4_addNode 140 = .ok (.i2l, 1) := by decide +kernel
theorem dX4_addNode_141 : decode cX4_addNode 141 = .ok (.lastore, 1) := by decide +kernel
theorem dX4_addNode_142 : decode cX4_addNode 142 = .ok (.aload_n 0, 1) := by decide +kernel
theorem dX4_addNode_143 : decode cX4_addNode 143 = .ok (.getfield 7, 3) := by decide +kernel
theorem dX4_addNode_146 : decode cX4_addNode 146 = .ok (.iload 7, 2) := by decide +kernel
theorem dX4_addNode_148 : decode cX4_addNode 148 = .ok (.iconst 3, 1) := by decide +kernel
theorem dX4_addNode_149 : decode cX4_addNode 149 = .ok (.iadd, 1) := by decide +kernel
theorem dX4_addNode_150 : decode cX4_addNode 150 = .ok (.iload 4, 2) := by decide +kernel
theorem dX4_addNode_152 : decode cX4_addNode 152 = .ok (.i2l, 1) := by decide +kernel
theorem dX4_addNode_153 : decode cX4_addNode 153 = .ok (.lastore, 1) := by decide +kernel
theorem dX4_addNode_154 : decode cX4_addNode 154 = .ok (.aload_n 0, 1) := by decide +kernel
theorem dX4_addNode_155 : decode cX4_addNode 155 = .ok (.getfield 7, 3) := by decide +kernel
theorem dX4_addNode_158 : decode cX4_addNode 158 = .ok (.iload 7, 2) := by decide +kernel
theorem dX4_addNode_160 : decode cX4_addNode 160 = .ok (.iconst 4, 1) := by decide +kernel
theorem dX4_addNode_161 : decode cX4_addNode 161 = .ok (.iadd, 1) := by decide +kernel
theorem dX4_addNode_162 : decode cX4_addNode 162 = .ok (.iload 5, 2) := by decide +kernel
theorem dX4_addNode_164 : decode cX4_addNode 164 = .ok (.i2l, 1) := by decide +kernel
theorem dX4_addNode_165 : decode cX4_addNode 165 = .ok (.lastore, 1) := by decide +kernel
theorem dX4_addNode_166 : decode cX4_addNode 166 = .ok (.aload_n 0, 1) := by decide +kernel
theorem dX4_addNode_167 : decode cX4_addNode 167 = .ok (.getfield 7, 3) := by decide +kernel
theorem dX4_addNode_170 : decode cX4_addNode 170 = .ok (.iload 7, 2) := by decide +kernel
theorem dX4_addNode_172 : decode cX4_addNode 172 = .ok (.iconst 5, 1) := by decide +kernel
theorem dX4_addNode_173 : decode cX4_addNode 173 = .ok (.iadd, 1) := by decide +kernel
theorem dX4_addNode_174 : decode cX4_addNode 174 = .ok (.lconst 0, 1) := by decide +kernel
theorem dX4_addNode_175 : decode cX4_addNode 175 = .ok (.lastore, 1) := by decide +kernel
theorem dX4_addNode_176 : decode cX4_addNode 176 = .ok (.aload_n 0, 1) := by decide +kernel
theorem dX4_addNode_177 : decode cX4_addNode 177 = .ok (.getfield 7, 3) := by decide +kernel
theorem dX4_addNode_180 : decode cX4_addNode 180 = .ok (.iconst 1, 1) := by decide +kernel
theorem dX4_addNode_181 : decode cX4_addNode 181 = .ok (.dup2, 1) := by decide +kernel
theorem dX4_addNode_182 : decode cX4_addNode 182 = .ok (.laload, 1) := by decide +kernel
theorem dX4_addNode_183 : decode cX4_addNode 183 = .ok (.lconst 1, 1) := by decide +kernel
theorem dX4_addNode_184 : decode cX4_addNode 184 = .ok (.ladd, 1) := by decide +kernel
theorem dX4_addNode_185 : decode cX4_addNode 185 = .ok (.lastore, 1) := by decide +kernel
theorem dX4_addNode_186 : decode cX4_addNode 186 = .ok (.aload_n 0, 1) := by decide +kernel
theorem dX4_addNode_187 : decode cX4_addNode 187 = .ok (.getfield 7, 3) := by decide +kernel
theorem dX4_addNode_190 : decode cX4_addNode 190 = .ok (.iconst 1, 1) := by decide +kernel
theorem dX4_addNode_191 : decode cX4_addNode 191 = .ok (.laload, 1) := by decide +kernel
theorem dX4_addNode_192 : decode cX4_addNode 192 = .ok (.l2i, 1) := by decide +kernel
theorem dX4_addNode_193 : decode cX4_addNode 193 = .ok (.iconst 1, 1) := by decide +kernel
theorem dX4_addNode_194 : decode cX4_addNode 194 = .ok (.isub, 1) := by decide +kernel
theorem dX4_addNode_195 : decode cX4_addNode 195 = .ok (.ireturn, 1) := by decide +kernel
theorem dX4_rootOf_0 : decode cX4_rootOf 0 = .ok (.lload_n 0, 1) := by decide +kernel
theorem dX4_rootOf_1 : decode cX4_rootOf 1 = .ok (.lload_n 0, 1) := by decide +kernel
theorem dX4_rootOf_2 : decode cX4_rootOf 2 = .ok (.lmul, 1) := by decide +kernel
theorem dX4_rootOf_3 : decode cX4_rootOf 3 = .ok (.lload_n 2, 1) := by decide +kernel
theorem dX4_rootOf_4 : decode cX4_rootOf 4 = .ok (.lload_n 2, 1) := by decide +kernel
theorem dX4_rootOf_5 : decode cX4_rootOf 5 = .ok (.lmul, 1) := by decide +kernel
theorem dX4_rootOf_6 : decode cX4_rootOf 6 = .ok (.ladd, 1) := by decide +kernel
theorem dX4_rootOf_7 : decode cX4_rootOf 7 = .ok (.lstore 4, 2) := by decide +kernel
theorem dX4_rootOf_9 : decode cX4_rootOf 9 = .ok (.lconst 0, 1) := by decide +kernel
theorem dX4_rootOf_10 : decode cX4_rootOf 10 = .ok (.lstore 6, 2) := by decide +kernel
theorem dX4_rootOf_12 : decode cX4_rootOf 12 = .ok (.ldc2_w 52, 3) := by decide +kernel
theorem dX4_rootOf_15 : decode cX4_rootOf 15 = .ok (.lstore 8, 2) := by decide +kernel
theorem dX4_rootOf_17 : decode cX4_rootOf 17 = .ok (.lload 6, 2) := by decide +kernel
theorem dX4_rootOf_19 : decode cX4_rootOf 19 = .ok (.lload 8, 2) := by decide +kernel
theorem dX4_rootOf_21 : decode cX4_rootOf 21 = .ok (.lcmp, 1) := by decide +kernel
theorem dX4_rootOf_22 : decode cX4_rootOf 22 = .ok (.ifCond .ge 43, 3) := by decide +kernel
theorem dX4_rootOf_25 : decode cX4_rootOf 25 = .ok (.lload 6, 2) := by decide +kernel
theorem dX4_rootOf_27 : decode cX4_rootOf 27 = .ok (.lload 8, 2) := by decide +kernel
theorem dX4_rootOf_29 : decode cX4_rootOf 29 = .ok (.ladd, 1) := by decide +kernel
theorem dX4_rootOf_30 : decode cX4_rootOf 30 = .ok (.lconst 1, 1) := by decide +kernel
theorem dX4_rootOf_31 : decode cX4_rootOf 31 = .ok (.ladd, 1) := by decide +kernel
theorem dX4_rootOf_32 : decode cX4_rootOf 32 = .ok (.ldc2_w 54, 3) := by decide +kernel
theorem dX4_rootOf_35 : decode cX4_rootOf 35 = .ok (.ldiv, 1) := by decide +kernel
theorem dX4_rootOf_36 : decode cX4_rootOf 36 = .ok (.lstore 10, 2) := by decide +kernel
theorem dX4_rootOf_38 : decode cX4_rootOf 38 = .ok (.lload 10, 2) := by decide +kernel
theorem dX4_rootOf_40 : decode cX4_rootOf 40 = .ok (.lload 10, 2) := by decide +kernel
theorem dX4_rootOf_42 : decode cX4_rootOf 42 = .ok (.lmul, 1) := by decide +kernel
theorem dX4_rootOf_43 : decode cX4_rootOf 43 = .ok (.lload 4, 2) := by decide +kernel
theorem dX4_rootOf_45 : decode cX4_rootOf 45 = .ok (.lcmp, 1) := by decide +kernel
theorem dX4_rootOf_46 : decode cX4_rootOf 46 = .ok (.ifCond .gt 10, 3) := by decide +kernel
theorem dX4_rootOf_49 : decode cX4_rootOf 49 = .ok (.lload 10, 2) := by decide +kernel
theorem dX4_rootOf_51 : decode cX4_rootOf 51 = .ok (.lstore 6, 2) := by decide +kernel
theorem dX4_rootOf_53 : decode cX4_rootOf 53 = .ok (.goto 9, 3) := by decide +kernel
theorem dX4_rootOf_56 : decode cX4_rootOf 56 = .ok (.lload 10, 2) := by decide +kernel
theorem dX4_rootOf_58 : decode cX4_rootOf 58 = .ok (.lconst 1, 1) := by decide +kernel
theorem dX4_rootOf_59 : decode cX4_rootOf 59 = .ok (.lsub, 1) := by decide +kernel
theorem dX4_rootOf_60 : decode cX4_rootOf 60 = .ok (.lstore 8, 2) := by decide +kernel
theorem dX4_rootOf_62 : decode cX4_rootOf 62 = .ok (.goto (-45), 3) := by decide +kernel
theorem dX4_rootOf_65 : decode cX4_rootOf 65 = .ok (.lload 6, 2) := by decide +kernel
theorem dX4_rootOf_67 : decode cX4_rootOf 67 = .ok (.lreturn, 1) := by decide +kernel
theorem dX4_distanceOf_0 : decode cX4_distanceOf 0 = .ok (.aload_n 0, 1) := by decide +kernel
theorem dX4_distanceOf_1 : decode cX4_distanceOf 1 = .ok (.iload_n 1, 1) := by decide +kernel
theorem dX4_distanceOf_2 : decode cX4_distanceOf 2 = .ok (.iconst 0, 1) := by decide +kernel
theorem dX4_distanceOf_3 : decode cX4_distanceOf 3 = .ok (.invokevirtual 56, 3) := by decide +kernel
theorem dX4_distanceOf_6 : decode cX4_distanceOf 6 = .ok (.aload_n 0, 1) := by decide +kernel
theorem dX4_distanceOf_7 : decode cX4_distanceOf 7 = .ok (.iload_n 2, 1) := by decide +kernel
theorem dX4_distanceOf_8 : decode cX4_distanceOf 8 = .ok (.iconst 0, 1) := by decide +kernel
theorem dX4_distanceOf_9 : decode cX4_distanceOf 9 = .ok (.invokevirtual 56, 3) := by decide +kernel
theorem dX4_distanceOf_12 : decode cX4_distanceOf 12 = .ok (.lsub, 1) := by decide +kernel
theorem dX4_distanceOf_13 : decode cX4_distanceOf 13 = .ok (.aload_n 0, 1) := by decide +kernel
theorem dX4_distanceOf_14 : decode cX4_distanceOf 14 = .ok (.iload_n 1, 1) := by decide +kernel
theorem dX4_distanceOf_15 : decode cX4_distanceOf 15 = .ok (.iconst 1, 1) := by decide +kernel
theorem dX4_distanceOf_16 : decode cX4_distanceOf 16 = .ok (.invokevirtual 56, 3) := by decide +kernel
theorem dX4_distanceOf_19 : decode cX4_distanceOf 19 = .ok (.aload_n 0, 1) := by decide +kernel
theorem dX4_distanceOf_20 : decode cX4_distanceOf 20 = .ok (.iload_n 2, 1) := by decide +kernel
theorem dX4_distanceOf_21 : decode cX4_distanceOf 21 = .ok (.iconst 1, 1) := by decide +kernel
theorem dX4_distanceOf_22 : decode cX4_distanceOf 22 = .ok (.invokevirtual 56, 3) := by decide +kernel
theorem dX4_distanceOf_25 : decode cX4_distanceOf 25 = .ok (.lsub, 1) := by decide +kernel
theorem dX4_distanceOf_26 : decode cX4_distanceOf 26 = .ok (.invokestatic 60, 3) := by decide +kernel
theorem dX4_distanceOf_29 : decode cX4_distanceOf 29 = .ok (.lreturn, 1) := by decide +kernel
theorem dX4_move_0 : decode cX4_move 0 = .ok (.aload_n 0, 1) := by decide +kernel
theorem dX4_move_1 : decode cX4_move 1 = .ok (.aload_n 0, 1) := by decide +kernel
theorem dX4_move_2 : decode cX4_move 2 = .ok (.iload_n 1, 1) := by decide +kernel
theorem dX4_move_3 : decode cX4_move 3 = .ok (.invokevirtual 64, 3) := by decide +kernel
theorem dX4_move_6 : decode cX4_move 6 = .ok (.iload_n 2, 1) := by decide +kernel
theorem dX4_move_7 : decode cX4_move 7 = .ok (.invokestatic 31, 3) := by decide +kernel
theorem dX4_move_10 : decode cX4_move 10 = .ok (.ifCond .eq 14, 3) := by decide +kernel
theorem dX4_move_13 : decode cX4_move 13 = .ok (.iload_n 3, 1) := by decide +kernel
theorem dX4_move_14 : decode cX4_move 14 = .ok (.invokestatic 31, 3) := by decide +kernel
theorem dX4_move_17 : decode cX4_move 17 = .ok (.ifCond .eq 7, 3) := by decide +kernel
theorem dX4_move_20 : decode cX4_move 20 = .ok (.iconst 1, 1) := by decide +kernel
theorem dX4_move_21 : decode cX4_move 21 = .ok (.goto 4, 3) := by decide +kernel
theorem dX4_move_24 : decode cX4_move 24 = .ok (.iconst 0, 1) := by decide +kernel
theorem dX4_move_25 : decode cX4_move 25 = .ok (.iconst 1, 1) := by decide +kernel
theorem dX4_move_26 : decode cX4_move 26 = .ok (.invokevirtual 45, 3) := by decide +kernel
theorem dX4_move_29 : decode cX4_move 29 = .ok (.ifCond .ne 5, 3) := by decide +kernel
theorem dX4_move_32 : decode cX4_move 32 = .ok (.iconst 0, 1) := by decide +kernel
theorem dX4_move_33 : decode cX4_move 33 = .ok (.ireturn, 1) := by decide +kernel
theorem dX4_move_34 : decode cX4_move 34 = .ok (.aload_n 0, 1) := by decide +kernel
theorem dX4_move_35 : decode cX4_move 35 = .ok (.invokevirtual 49, 3) := by decide +kernel
theorem dX4_move_38 : decode cX4_move 38 = .ok (.aload_n 0, 1) := by decide +kernel
theorem dX4_move_39 : decode cX4_move 39 = .ok (.iload_n 1, 1) := by decide +kernel
theorem dX4_move_40 : decode cX4_move 40 = .ok (.iconst 0, 1) := by decide +kernel
theorem dX4_move_41 : decode cX4_move 41 = .ok (.invokevirtual 56, 3) := by decide +kernel
theorem dX4_move_44 : decode cX4_move 44 = .ok (.iload_n 2, 1) := by decide +kernel
theorem dX4_move_45 : decode cX4_move 45 = .ok (.i2l, 1) := by decide +kernel
theorem dX4_move_46 : decode cX4_move 46 = .ok (.lsub, 1) := by decide +kernel
theorem dX4_move_47 : decode cX4_move 47 = .ok (.aload_n 0, 1) := by decide +kernel
theorem dX4_move_48 : decode cX4_move 48 = .ok (.iload_n 1, 1) := by decide +kernel
theorem dX4_move_49 : decode cX4_move 49 = .ok (.iconst 1, 1) := by decide +kernel
theorem dX4_move_50 : decode cX4_move 50 = .ok (.invokevirtual 56, 3) := by decide +kernel
theorem dX4_move_53 : decode cX4_move 53 = .ok (.iload_n 3, 1) := by decide +kernel
theorem dX4_move_54 : decode cX4_move 54 = .ok (.i2l, 1) := by decide +kernel
theorem dX4_move_55 : decode cX4_move 55 = .ok (.lsub, 1) := by decide +kernel
theorem dX4_move_56 : decode cX4_move 56 = .ok (.invokestatic 60, 3) := by decide +kernel
theorem dX4_move_59 : decode cX4_move 59 = .ok (.lstore 4, 2) := by decide +kernel
theorem dX4_move_61 : decode cX4_move 61 = .ok (.aload_n 0, 1) := by decide +kernel
theorem dX4_move_62 : decode cX4_move 62 = .ok (.getfield 7, 3) := by decide +kernel
theorem dX4_move_65 : decode cX4_move 65 = .ok (.iconst 2, 1) := by decide +kernel
theorem dX4_move_66 : decode cX4_move 66 = .ok (.bipush 6, 2) := by decide +kernel
theorem dX4_move_68 : decode cX4_move 68 = .ok (.iload_n 1, 1) := by decide +kernel
theorem dX4_move_69 : decode cX4_move 69 = .ok (.imul, 1) := by decide +kernel
theorem dX4_move_70 : decode cX4_move 70 = .ok (.iadd, 1) := by decide +kernel
theorem dX4_move_71 : decode cX4_move 71 = .ok (.iconst 0, 1) := by decide +kernel
theorem dX4_move_72 : decode cX4_move 72 = .ok (.iadd, 1) := by decide +kernel
theorem dX4_move_73 : decode cX4_move 73 = .ok (.iload_n 2, 1) := by decide +kernel
theorem dX4_move_74 : decode cX4_move 74 = .ok (.i2l, 1) := by decide +kernel
theorem dX4_move_75 : decode cX4_move 75 = .ok (.lastore, 1) := by decide +kernel
theorem dX4_move_76 : decode cX4_move 76 = .ok (.aload_n 0, 1) := by decide +kernel
theorem dX4_move_77 : decode cX4_move 77 = .ok (.getfield 7, 3) := by decide +kernel
theorem dX4_move_80 : decode cX4_move 80 = .ok (.iconst 2, 1) := by decide +kernel
theorem dX4_move_81 : decode cX4_move 81 = .ok (.bipush 6, 2) := by decide +kernel
theorem dX4_move_83 : decode cX4_move 83 = .ok (.iload_n 1, 1) := by decide +kernel
theorem dX4_move_84 : decode cX4_move 84 = .ok (.imul, 1) := by decide +kernel
theorem dX4_move_85 : decode cX4_move 85 = .ok (.iadd, 1) := by decide +kernel
theorem dX4_move_86 : decode cX4_move 86 = .ok (.iconst 1, 1) := by decide +kernel
theorem dX4_move_87 : decode cX4_move 87 = .ok (.iadd, 1) := by decide +kernel
theorem dX4_move_88 : decode cX4_move 88 = .ok (.iload_n 3, 1) := by decide +kernel
theorem dX4_move_89 : decode cX4_move 89 = .ok (.i2l, 1) := by decide +kernel
theorem dX4_move_90 : decode cX4_move 90 = .ok (.lastore, 1) := by decide +kernel
theorem dX4_move_91 : decode cX4_move 91 = .ok (.lload 4, 2) := by decide +kernel
theorem dX4_move_93 : decode cX4_move 93 = .ok (.l2i, 1) := by decide +kernel
theorem dX4_move_94 : decode cX4_move 94 = .ok (.ireturn, 1) := by decide +kernel
theorem dX4_assume_0 : decode cX4_assume 0 = .ok (.aload_n 0, 1) := by decide +kernel
theorem dX4_assume_1 : decode cX4_assume 1 = .ok (.aload_n 0, 1) := by decide +kernel
theorem dX4_assume_2 : decode cX4_assume 2 = .ok (.iload_n 1, 1) := by decide +kernel
theorem dX4_assume_3 : decode cX4_assume 3 = .ok (.invokevirtual 64, 3) := by decide +kernel
theorem dX4_assume_6 : decode cX4_assume 6 = .ok (.iload_n 2, 1) := by decide +kernel
theorem dX4_assume_7 : decode cX4_assume 7 = .ok (.i2l, 1) := by decide +kernel
theorem dX4_assume_8 : decode cX4_assume 8 = .ok (.ldc2_w 27, 3) := by decide +kernel
theorem dX4_assume_11 : decode cX4_assume 11 = .ok (.ldc2_w 29, 3) := by decide +kernel
theorem dX4_assume_14 : decode cX4_assume 14 = .ok (.invokestatic 23, 3) := by decide +kernel
theorem dX4_assume_17 : decode cX4_assume 17 = .ok (.iconst 1, 1) := by decide +kernel
theorem dX4_assume_18 : decode cX4_assume 18 = .ok (.invokevirtual 45, 3) := by decide +kernel
theorem dX4_assume_21 : decode cX4_assume 21 = .ok (.ifCond .ne 5, 3) := by decide +kernel
theorem dX4_assume_24 : decode cX4_assume 24 = .ok (.iconst 0, 1) := by decide +kernel
theorem dX4_assume_25 : decode cX4_assume 25 = .ok (.ireturn, 1) := by decide +kernel
theorem dX4_assume_26 : decode cX4_assume 26 = .ok (.aload_n 0, 1) := by decide +kernel
theorem dX4_assume_27 : decode cX4_assume 27 = .ok (.invokevirtual 49, 3) := by decide +kernel
theorem dX4_assume_30 : decode cX4_assume 30 = .ok (.aload_n 0, 1) := by decide +kernel
theorem dX4_assume_31 : decode cX4_assume 31 = .ok (.iload_n 1, 1) := by decide +kernel
theorem dX4_assume_32 : decode cX4_assume 32 = .ok (.iconst 5, 1) := by decide +kernel
theorem dX4_assume_33 : decode cX4_assume 33 = .ok (.invokevirtual 56, 3) := by decide +kernel
theorem dX4_assume_36 : decode cX4_assume 36 = .ok (.lstore_n 3, 1) := by decide +kernel
theorem dX4_assume_37 : decode cX4_assume 37 = .ok (.aload_n 0, 1) := by decide +kernel
theorem dX4_assume_38 : decode cX4_assume 38 = .ok (.getfield 7, 3) := by decide +kernel
theorem dX4_assume_41 : decode cX4_assume 41 = .ok (.iconst 2, 1) := by decide +kernel
theorem dX4_assume_42 : decode cX4_assume 42 = .ok (.bipush 6, 2) := by decide +kernel
theorem dX4_assume_44 : decode cX4_assume 44 = .ok (.iload_n 1, 1) := by decide +kernel
theorem dX4_assume_45 : decode cX4_assume 45 = .ok (.imul, 1) := by decide +kernel
theorem dX4_assume_46 : decode cX4_assume 46 = .ok (.iadd, 1) := by decide +kernel
theorem dX4_assume_47 : decode cX4_assume 47 = .ok (.iconst 5, 1) := by decide +kernel
theorem dX4_assume_48 : decode cX4_assume 48 = .ok (.iadd, 1) := by decide +kernel
theorem dX4_assume_49 : decode cX4_assume 49 = .ok (.iload_n 2, 1) := by decide +kernel
theorem dX4_assume_50 : decode cX4_assume 50 = .ok (.i2l, 1) := by decide +kernel
theorem dX4_assume_51 : decode cX4_assume 51 = .ok (.lastore, 1) := by decide +kernel
theorem dX4_assume_52 : decode cX4_assume 52 = .ok (.lload_n 3, 1) := by decide +kernel
theorem dX4_assume_53 : decode cX4_assume 53 = .ok (.l2i, 1) := by decide +kernel
theorem dX4_assume_54 : decode cX4_assume 54 = .ok (.ireturn, 1) := by decide +kernel
theorem dX4_assumed_0 : decode cX4_assumed 0 = .ok (.aload_n 0, 1) := by decide +kernel
theorem dX4_assumed_1 : decode cX4_assumed 1 = .ok (.aload_n 0, 1) := by decide +kernel
theorem dX4_assumed_2 : decode cX4_assumed 2 = .ok (.iload_n 1, 1) := by decide +kernel
theorem dX4_assumed_3 : decode cX4_assumed 3 = .ok (.invokevirtual 64, 3) := by decide +kernel
theorem dX4_assumed_6 : decode cX4_assumed 6 = .ok (.iconst 1, 1) := by decide +kernel
theorem dX4_assumed_7 : decode cX4_assumed 7 = .ok (.iconst 1, 1) := by decide +kernel
theorem dX4_assumed_8 : decode cX4_assumed 8 = .ok (.invokevirtual 45, 3) := by decide +kernel
theorem dX4_assumed_11 : decode cX4_assumed 11 = .ok (.ifCond .eq 13, 3) := by decide +kernel
theorem dX4_assumed_14 : decode cX4_assumed 14 = .ok (.aload_n 0, 1) := by decide +kernel
theorem dX4_assumed_15 : decode cX4_assumed 15 = .ok (.iload_n 1, 1) := by decide +kernel
theorem dX4_assumed_16 : decode cX4_assumed 16 = .ok (.iconst 5, 1) := by decide +kernel
theorem dX4_assumed_17 : decode cX4_assumed 17 = .ok (.invokevirtual 56, 3) := by decide +kernel
theorem dX4_assumed_20 : decode cX4_assumed 20 = .ok (.l2i, 1) := by decide +kernel
theorem dX4_assumed_21 : decode cX4_assumed 21 = .ok (.goto 4, 3) := by decide +kernel
theorem dX4_assumed_24 : decode cX4_assumed 24 = .ok (.iconst 0, 1) := by decide +kernel
theorem dX4_assumed_25 : decode cX4_assumed 25 = .ok (.ireturn, 1) := by decide +kernel
theorem dX4_distance_0 : decode cX4_distance 0 = .ok (.aload_n 0, 1) := by decide +kernel
theorem dX4_distance_1 : decode cX4_distance 1 = .ok (.aload_n 0, 1) := by decide +kernel
theorem dX4_distance_2 : decode cX4_distance 2 = .ok (.iload_n 1, 1) := by decide +kernel
theorem dX4_distance_3 : decode cX4_distance 3 = .ok (.invokevirtual 64, 3) := by decide +kernel
theorem dX4_distance_6 : decode cX4_distance 6 = .ok (.ifCond .eq 15, 3) := by decide +kernel
theorem dX4_distance_9 : decode cX4_distance 9 = .ok (.aload_n 0, 1) := by decide +kernel
theorem dX4_distance_10 : decode cX4_distance 10 = .ok (.iload_n 2, 1) := by decide +kernel
theorem dX4_distance_11 : decode cX4_distance 11 = .ok (.invokevirtual 64, 3) := by decide +kernel
theorem dX4_distance_14 : decode cX4_distance 14 = .ok (.ifCond .eq 7, 3) := by decide +kernel
theorem dX4_distance_17 : decode cX4_distance 17 = .ok (.iconst 1, 1) := by decide +kernel
theorem dX4_distance_18 : decode cX4_distance 18 = .ok (.goto 4, 3) := by decide +kernel
theorem dX4_distance_21 : decode cX4_distance 21 = .ok (.iconst 0, 1) := by decide +kernel
theorem dX4_distance_22 : decode cX4_distance 22 = .ok (.iconst 1, 1) := by decide +kernel
theorem dX4_distance_23 : decode cX4_distance 23 = .ok (.iconst 1, 1) := by decide +kernel
theorem dX4_distance_24 : decode cX4_distance 24 = .ok (.invokevirtual 45, 3) := by decide +kernel
theorem dX4_distance_27 : decode cX4_distance 27 = .ok (.ifCond .eq 13, 3) := by decide +kernel
theorem dX4_distance_30 : decode cX4_distance 30 = .ok (.aload_n 0, 1) := by decide +kernel
theorem dX4_distance_31 : decode cX4_distance 31 = .ok (.iload_n 1, 1) := by decide +kernel
theorem dX4_distance_32 : decode cX4_distance 32 = .ok (.iload_n 2, 1) := by decide +kernel
theorem dX4_distance_33 : decode cX4_distance 33 = .ok (.invokevirtual 67, 3) := by decide +kernel
theorem dX4_distance_36 : decode cX4_distance 36 = .ok (.l2i, 1) := by decide +kernel
theorem dX4_distance_37 : decode cX4_distance 37 = .ok (.goto 4, 3) := by decide +kernel
theorem dX4_distance_40 : decode cX4_distance 40 = .ok (.iconst 0, 1) := by decide +kernel
theorem dX4_distance_41 : decode cX4_distance 41 = .ok (.ireturn, 1) := by decide +kernel
theorem dX4_counterAt_0 : decode cX4_counterAt 0 = .ok (.lload_n 2, 1) := by decide +kernel
theorem dX4_counterAt_1 : decode cX4_counterAt 1 = .ok (.ldc2_w 70, 3) := by decide +kernel
theorem dX4_counterAt_4 : decode cX4_counterAt 4 = .ok (.aload_n 0, 1) := by decide +kernel
theorem dX4_counterAt_5 : decode cX4_counterAt 5 = .ok (.iload_n 1, 1) := by decide +kernel
theorem dX4_counterAt_6 : decode cX4_counterAt 6 = .ok (.iconst 2, 1) := by decide +kernel
theorem dX4_counterAt_7 : decode cX4_counterAt 7 = .ok (.invokevirtual 56, 3) := by decide +kernel
theorem dX4_counterAt_10 : decode cX4_counterAt 10 = .ok (.ladd, 1) := by decide +kernel
theorem dX4_counterAt_11 : decode cX4_counterAt 11 = .ok (.lmul, 1) := by decide +kernel
theorem dX4_counterAt_12 : decode cX4_counterAt 12 = .ok (.ldc2_w 70, 3) := by decide +kernel
theorem dX4_counterAt_15 : decode cX4_counterAt 15 = .ok (.ldiv, 1) := by decide +kernel
theorem dX4_counterAt_16 : decode cX4_counterAt 16 = .ok (.aload_n 0, 1) := by decide +kernel
theorem dX4_counterAt_17 : decode cX4_counterAt 17 = .ok (.iload_n 1, 1) := by decide +kernel
theorem dX4_counterAt_18 : decode cX4_counterAt 18 = .ok (.iconst 3, 1) := by decide +kernel
theorem dX4_counterAt_19 : decode cX4_counterAt 19 = .ok (.invokevirtual 56, 3) := by decide +kernel
theorem dX4_counterAt_22 : decode cX4_counterAt 22 = .ok (.ladd, 1) := by decide +kernel
theorem dX4_counterAt_23 : decode cX4_counterAt 23 = .ok (.ldc2_w 72, 3) := by decide +kernel
theorem dX4_counterAt_26 : decode cX4_counterAt 26 = .ok (.lrem, 1) := by decide +kernel
theorem dX4_counterAt_27 : decode cX4_counterAt 27 = .ok (.lreturn, 1) := by decide +kernel
theorem dX4_counter_0 : decode cX4_counter 0 = .ok (.aload_n 0, 1) := by decide +kernel
theorem dX4_counter_1 : decode cX4_counter 1 = .ok (.aload_n 0, 1) := by decide +kernel
theorem dX4_counter_2 : decode cX4_counter 2 = .ok (.iload_n 1, 1) := by decide +kernel
theorem dX4_counter_3 : decode cX4_counter 3 = .ok (.invokevirtual 64, 3) := by decide +kernel
theorem dX4_counter_6 : decode cX4_counter 6 = .ok (.iload_n 2, 1) := by decide +kernel
theorem dX4_counter_7 : decode cX4_counter 7 = .ok (.i2l, 1) := by decide +kernel
theorem dX4_counter_8 : decode cX4_counter 8 = .ok (.lconst 0, 1) := by decide +kernel
theorem dX4_counter_9 : decode cX4_counter 9 = .ok (.ldc2_w 74, 3) := by decide +kernel
theorem dX4_counter_12 : decode cX4_counter 12 = .ok (.invokestatic 23, 3) := by decide +kernel
theorem dX4_counter_15 : decode cX4_counter 15 = .ok (.iconst 1, 1) := by decide +kernel
theorem dX4_counter_16 : decode cX4_counter 16 = .ok (.invokevirtual 45, 3) := by decide +kernel
theorem dX4_counter_19 : decode cX4_counter 19 = .ok (.ifCond .eq 14, 3) := by decide +kernel
theorem dX4_counter_22 : decode cX4_counter 22 = .ok (.aload_n 0, 1) := by decide +kernel
theorem dX4_counter_23 : decode cX4_counter 23 = .ok (.iload_n 1, 1) := by decide +kernel
theorem dX4_counter_24 : decode cX4_counter 24 = .ok (.iload_n 2, 1) := by decide +kernel
theorem dX4_counter_25 : decode cX4_counter 25 = .ok (.i2l, 1) := by decide +kernel
theorem dX4_counter_26 : decode cX4_counter 26 = .ok (.invokevirtual 76, 3) := by decide +kernel
theorem dX4_counter_29 : decode cX4_counter 29 = .ok (.l2i, 1) := by decide +kernel
theorem dX4_counter_30 : decode cX4_counter 30 = .ok (.goto 4, 3) := by decide +kernel
theorem dX4_counter_33 : decode cX4_counter 33 = .ok (.iconst 0, 1) := by decide +kernel
theorem dX4_counter_34 : decode cX4_counter 34 = .ok (.ireturn, 1) := by decide +kernel
theorem dX4_carriesOut_0 : decode cX4_carriesOut 0 = .ok (.aload_n 0, 1) := by decide +kernel
theorem dX4_carriesOut_1 : decode cX4_carriesOut 1 = .ok (.iload_n 3, 1) := by decide +kernel
theorem dX4_carriesOut_2 : decode cX4_carriesOut 2 = .ok (.iconst 4, 1) := by decide +kernel
theorem dX4_carriesOut_3 : decode cX4_carriesOut 3 = .ok (.invokevirtual 56, 3) := by decide +kernel
theorem dX4_carriesOut_6 : decode cX4_carriesOut 6 = .ok (.aload_n 0, 1) := by decide +kernel
theorem dX4_carriesOut_7 : decode cX4_carriesOut 7 = .ok (.iload_n 3, 1) := by decide +kernel
theorem dX4_carriesOut_8 : decode cX4_carriesOut 8 = .ok (.iload 4, 2) := by decide +kernel
theorem dX4_carriesOut_10 : decode cX4_carriesOut 10 = .ok (.invokevirtual 67, 3) := by decide +kernel
theorem dX4_carriesOut_13 : decode cX4_carriesOut 13 = .ok (.ladd, 1) := by decide +kernel
theorem dX4_carriesOut_14 : decode cX4_carriesOut 14 = .ok (.aload_n 0, 1) := by decide +kernel
theorem dX4_carriesOut_15 : decode cX4_carriesOut 15 = .ok (.iload 4, 2) := by decide +kernel
theorem dX4_carriesOut_17 : decode cX4_carriesOut 17 = .ok (.iconst 4, 1) := by decide +kernel
theorem dX4_carriesOut_18 : decode cX4_carriesOut 18 = .ok (.invokevirtual 56, 3) := by decide +kernel
theorem dX4_carriesOut_21 : decode cX4_carriesOut 21 = .ok (.ladd, 1) := by decide +kernel
theorem dX4_carriesOut_22 : decode cX4_carriesOut 22 = .ok (.lstore 9, 2) := by decide +kernel
theorem dX4_carriesOut_24 : decode cX4_carriesOut 24 = .ok (.bipush 39, 2) := by decide +kernel
theorem dX4_carriesOut_26 : decode cX4_carriesOut 26 = .ok (.bipush 8, 2) := by decide +kernel
theorem dX4_carriesOut_28 : decode cX4_carriesOut 28 = .ok (.aload_n 0, 1) := by decide +kernel
theorem dX4_carriesOut_29 : decode cX4_carriesOut 29 = .ok (.getfield 7, 3) := by decide +kernel
theorem dX4_carriesOut_32 : decode cX4_carriesOut 32 = .ok (.bipush 38, 2) := by decide +kernel
theorem dX4_carriesOut_34 : decode cX4_carriesOut 34 = .ok (.laload, 1) := by decide +kernel
theorem dX4_carriesOut_35 : decode cX4_carriesOut 35 = .ok (.l2i, 1) := by decide +kernel
theorem dX4_carriesOut_36 : decode cX4_carriesOut 36 = .ok (.imul, 1) := by decide +kernel
theorem dX4_carriesOut_37 : decode cX4_carriesOut 37 = .ok (.iadd, 1) := by decide +kernel
theorem dX4_carriesOut_38 : decode cX4_carriesOut 38 = .ok (.istore 11, 2) := by decide +kernel
theorem dX4_carriesOut_40 : decode cX4_carriesOut 40 = .ok (.lload_n 1, 1) := by decide +kernel
theorem dX4_carriesOut_41 : decode cX4_carriesOut 41 = .ok (.lstore 12, 2) := by decide +kernel
theorem dX4_carriesOut_43 : decode cX4_carriesOut 43 = .ok (.aload_n 0, 1) := by decide +kernel
theorem dX4_carriesOut_44 : decode cX4_carriesOut 44 = .ok (.getfield 7, 3) := by decide +kernel
theorem dX4_carriesOut_47 : decode cX4_carriesOut 47 = .ok (.iload 11, 2) := by decide +kernel
theorem dX4_carriesOut_49 : decode cX4_carriesOut 49 = .ok (.iload_n 3, 1) := by decide +kernel
theorem dX4_carriesOut_50 : decode cX4_carriesOut 50 = .ok (.i2l, 1) := by decide +kernel
theorem dX4_carriesOut_51 : decode cX4_carriesOut 51 = .ok (.lastore, 1) := by decide +kernel
theorem dX4_carriesOut_52 : decode cX4_carriesOut 52 = .ok (.aload_n 0, 1) := by decide +kernel
theorem dX4_carriesOut_53 : decode cX4_carriesOut 53 = .ok (.getfield 7, 3) := by decide +kernel
theorem dX4_carriesOut_56 : decode cX4_carriesOut 56 = .ok (.iload 11, 2) := by decide +kernel
theorem dX4_carriesOut_58 : decode cX4_carriesOut 58 = .ok (.iconst 1, 1) := by decide +kernel
theorem dX4_carriesOut_59 : decode cX4_carriesOut 59 = .ok (.iadd, 1) := by decide +kernel
theorem dX4_carriesOut_60 : decode cX4_carriesOut 60 = .ok (.iload 4, 2) := by decide +kernel
theorem dX4_carriesOut_62 : decode cX4_carriesOut 62 = .ok (.i2l, 1) := by decide +kernel
theorem dX4_carriesOut_63 : decode cX4_carriesOut 63 = .ok (.lastore, 1) := by decide +kernel
theorem dX4_carriesOut_64 : decode cX4_carriesOut 64 = .ok (.aload_n 0, 1) := by decide +kernel
theorem dX4_carriesOut_65 : decode cX4_carriesOut 65 = .ok (.getfield 7, 3) := by decide +kernel
theorem dX4_carriesOut_68 : decode cX4_carriesOut 68 = .ok (.iload 11, 2) := by decide +kernel
theorem dX4_carriesOut_70 : decode cX4_carriesOut 70 = .ok (.iconst 2, 1) := by decide +kernel
theorem dX4_carriesOut_71 : decode cX4_carriesOut 71 = .ok (.iadd, 1) := by decide +kernel
theorem dX4_carriesOut_72 : decode cX4_carriesOut 72 = .ok (.aload_n 0, 1) := by decide +kernel
theorem dX4_carriesOut_73 : decode cX4_carriesOut 73 = .ok (.iload_n 3, 1) := by decide +kernel
theorem dX4_carriesOut_74 : decode cX4_carriesOut 74 = .ok (.lload 12, 2) := by decide +kernel
theorem dX4_carriesOut_76 : decode cX4_carriesOut 76 = .ok (.invokevirtual 76, 3) := by decide +kernel
theorem dX4_carriesOut_79 : decode cX4_carriesOut 79 = .ok (.lastore, 1) := by decide +kernel
theorem dX4_carriesOut_80 : decode cX4_carriesOut 80 = .ok (.lload 12, 2) := by decide +kernel
theorem dX4_carriesOut_82 : decode cX4_carriesOut 82 = .ok (.lload 9, 2) := by decide +kernel
theorem dX4_carriesOut_84 : decode cX4_carriesOut 84 = .ok (.ladd, 1) := by decide +kernel
theorem dX4_carriesOut_85 : decode cX4_carriesOut 85 = .ok (.lstore 12, 2) := by decide +kernel
theorem dX4_carriesOut_87 : decode cX4_carriesOut 87 = .ok (.aload_n 0, 1) := by decide +kernel
theorem dX4_carriesOut_88 : decode cX4_carriesOut 88 = .ok (.getfield 7, 3) := by decide +kernel
theorem dX4_carriesOut_91 : decode cX4_carriesOut 91 = .ok (.iload 11, 2) := by decide +kernel
theorem dX4_carriesOut_93 : decode cX4_carriesOut 93 = .ok (.iconst 3, 1) := by decide +kernel
theorem dX4_carriesOut_94 : decode cX4_carriesOut 94 = .ok (.iadd, 1) := by decide +kernel
theorem dX4_carriesOut_95 : decode cX4_carriesOut 95 = .ok (.aload_n 0, 1) := by decide +kernel
theorem dX4_carriesOut_96 : decode cX4_carriesOut 96 = .ok (.iload 4, 2) := by decide +kernel
theorem dX4_carriesOut_98 : decode cX4_carriesOut 98 = .ok (.lload 12, 2) := by decide +kernel
theorem dX4_carriesOut_100 : decode cX4_carriesOut 100 = .ok (.invokevirtual 76, 3) := by decide +kernel
theorem dX4_carriesOut_103 : decode cX4_carriesOut 103 = .ok (.lastore, 1) := by decide +kernel
theorem dX4_carriesOut_104 : decode cX4_carriesOut 104 = .ok (.lload 12, 2) := by decide +kernel
theorem dX4_carriesOut_106 : decode cX4_carriesOut 106 = .ok (.lload 5, 2) := by decide +kernel
theorem dX4_carriesOut_108 : decode cX4_carriesOut 108 = .ok (.ladd, 1) := by decide +kernel
theorem dX4_carriesOut_109 : decode cX4_carriesOut 109 = .ok (.lstore 12, 2) := by decide +kernel
theorem dX4_carriesOut_111 : decode cX4_carriesOut 111 = .ok (.aload_n 0, 1) := by decide +kernel
theorem dX4_carriesOut_112 : decode cX4_carriesOut 112 = .ok (.getfield 7, 3) := by decide +kernel
theorem dX4_carriesOut_115 : decode cX4_carriesOut 115 = .ok (.iload 11, 2) := by decide +kernel
theorem dX4_carriesOut_117 : decode cX4_carriesOut 117 = .ok (.iconst 4, 1) := by decide +kernel
theorem dX4_carriesOut_118 : decode cX4_carriesOut 118 = .ok (.iadd, 1) := by decide +kernel
theorem dX4_carriesOut_119 : decode cX4_carriesOut 119 = .ok (.aload_n 0, 1) := by decide +kernel
theorem dX4_carriesOut_120 : decode cX4_carriesOut 120 = .ok (.iload 4, 2) := by decide +kernel
theorem dX4_carriesOut_122 : decode cX4_carriesOut 122 = .ok (.lload 12, 2) := by decide +kernel
theorem dX4_carriesOut_124 : decode cX4_carriesOut 124 = .ok (.invokevirtual 76, 3) := by decide +kernel
theorem dX4_carriesOut_127 : decode cX4_carriesOut 127 = .ok (.lastore, 1) := by decide +kernel
theorem dX4_carriesOut_128 : decode cX4_carriesOut 128 = .ok (.lload 12, 2) := by decide +kernel
theorem dX4_carriesOut_130 : decode cX4_carriesOut 130 = .ok (.lload 9, 2) := by decide +kernel
theorem dX4_carriesOut_132 : decode cX4_carriesOut 132 = .ok (.ladd, 1) := by decide +kernel
theorem dX4_carriesOut_133 : decode cX4_carriesOut 133 = .ok (.lstore 12, 2) := by decide +kernel
theorem dX4_carriesOut_135 : decode cX4_carriesOut 135 = .ok (.aload_n 0, 1) := by decide +kernel
theorem dX4_carriesOut_136 : decode cX4_carriesOut 136 = .ok (.getfield 7, 3) := by decide +kernel
theorem dX4_carriesOut_139 : decode cX4_carriesOut 139 = .ok (.iload 11, 2) := by decide +kernel
theorem dX4_carriesOut_141 : decode cX4_carriesOut 141 = .ok (.iconst 5, 1) := by decide +kernel
theorem dX4_carriesOut_142 : decode cX4_carriesOut 142 = .ok (.iadd, 1) := by decide +kernel
theorem dX4_carriesOut_143 : decode cX4_carriesOut 143 = .ok (.aload_n 0, 1) := by decide +kernel
theorem dX4_carriesOut_144 : decode cX4_carriesOut 144 = .ok (.iload_n 3, 1) := by decide +kernel
theorem dX4_carriesOut_145 : decode cX4_carriesOut 145 = .ok (.lload 12, 2) := by decide +kernel
theorem dX4_carriesOut_147 : decode cX4_carriesOut 147 = .ok (.invokevirtual 76, 3) := by decide +kernel
theorem dX4_carriesOut_150 : decode cX4_carriesOut 150 = .ok (.lastore, 1) := by decide +kernel
theorem dX4_carriesOut_151 : decode cX4_carriesOut 151 = .ok (.lload 12, 2) := by decide +kernel
theorem dX4_carriesOut_153 : decode cX4_carriesOut 153 = .ok (.lload 7, 2) := by decide +kernel
theorem dX4_carriesOut_155 : decode cX4_carriesOut 155 = .ok (.ladd, 1) := by decide +kernel
theorem dX4_carriesOut_156 : decode cX4_carriesOut 156 = .ok (.lstore 12, 2) := by decide +kernel
theorem dX4_carriesOut_158 : decode cX4_carriesOut 158 = .ok (.aload_n 0, 1) := by decide +kernel
theorem dX4_carriesOut_159 : decode cX4_carriesOut 159 = .ok (.getfield 7, 3) := by decide +kernel
theorem dX4_carriesOut_162 : decode cX4_carriesOut 162 = .ok (.iload 11, 2) := by decide +kernel
theorem dX4_carriesOut_164 : decode cX4_carriesOut 164 = .ok (.bipush 6, 2) := by decide +kernel
theorem dX4_carriesOut_166 : decode cX4_carriesOut 166 = .ok (.iadd, 1) := by decide +kernel
theorem dX4_carriesOut_167 : decode cX4_carriesOut 167 = .ok (.aload_n 0, 1) := by decide +kernel
theorem dX4_carriesOut_168 : decode cX4_carriesOut 168 = .ok (.iload_n 3, 1) := by decide +kernel
theorem dX4_carriesOut_169 : decode cX4_carriesOut 169 = .ok (.lload 12, 2) := by decide +kernel
theorem dX4_carriesOut_171 : decode cX4_carriesOut 171 = .ok (.invokevirtual 76, 3) := by decide +kernel
theorem dX4_carriesOut_174 : decode cX4_carriesOut 174 = .ok (.lastore, 1) := by decide +kernel
theorem dX4_carriesOut_175 : decode cX4_carriesOut 175 = .ok (.lload 12, 2) := by decide +kernel
theorem dX4_carriesOut_177 : decode cX4_carriesOut 177 = .ok (.lload 9, 2) := by decide +kernel
theorem dX4_carriesOut_179 : decode cX4_carriesOut 179 = .ok (.ladd, 1) := by decide +kernel
theorem dX4_carriesOut_180 : decode cX4_carriesOut 180 = .ok (.lstore 12, 2) := by decide +kernel
theorem dX4_carriesOut_182 : decode cX4_carriesOut 182 = .ok (.aload_n 0, 1) := by decide +kernel
theorem dX4_carriesOut_183 : decode cX4_carriesOut 183 = .ok (.getfield 7, 3) := by decide +kernel
theorem dX4_carriesOut_186 : decode cX4_carriesOut 186 = .ok (.iload 11, 2) := by decide +kernel
theorem dX4_carriesOut_188 : decode cX4_carriesOut 188 = .ok (.bipush 7, 2) := by decide +kernel
theorem dX4_carriesOut_190 : decode cX4_carriesOut 190 = .ok (.iadd, 1) := by decide +kernel
theorem dX4_carriesOut_191 : decode cX4_carriesOut 191 = .ok (.aload_n 0, 1) := by decide +kernel
theorem dX4_carriesOut_192 : decode cX4_carriesOut 192 = .ok (.iload 4, 2) := by decide +kernel
theorem dX4_carriesOut_194 : decode cX4_carriesOut 194 = .ok (.lload 12, 2) := by decide +kernel
theorem dX4_carriesOut_196 : decode cX4_carriesOut 196 = .ok (.invokevirtual 76, 3) := by decide +kernel
theorem dX4_carriesOut_199 : decode cX4_carriesOut 199 = .ok (.lastore, 1) := by decide +kernel
theorem dX4_carriesOut_200 : decode cX4_carriesOut 200 = .ok (.aload_n 0, 1) := by decide +kernel
theorem dX4_carriesOut_201 : decode cX4_carriesOut 201 = .ok (.getfield 7, 3) := by decide +kernel
theorem dX4_carriesOut_204 : decode cX4_carriesOut 204 = .ok (.bipush 38, 2) := by decide +kernel
theorem dX4_carriesOut_206 : decode cX4_carriesOut 206 = .ok (.dup2, 1) := by decide +kernel
theorem dX4_carriesOut_207 : decode cX4_carriesOut 207 = .ok (.laload, 1) := by decide +kernel
theorem dX4_carriesOut_208 : decode cX4_carriesOut 208 = .ok (.lconst 1, 1) := by decide +kernel
theorem dX4_carriesOut_209 : decode cX4_carriesOut 209 = .ok (.ladd, 1) := by decide +kernel
theorem dX4_carriesOut_210 : decode cX4_carriesOut 210 = .ok (.lastore, 1) := by decide +kernel
theorem dX4_carriesOut_211 : decode cX4_carriesOut 211 = .ok (.aload_n 0, 1) := by decide +kernel
theorem dX4_carriesOut_212 : decode cX4_carriesOut 212 = .ok (.getfield 7, 3) := by decide +kernel
theorem dX4_carriesOut_215 : decode cX4_carriesOut 215 = .ok (.iconst 0, 1) := by decide +kernel
theorem dX4_carriesOut_216 : decode cX4_carriesOut 216 = .ok (.lload 12, 2) := by decide +kernel
theorem dX4_carriesOut_218 : decode cX4_carriesOut 218 = .ok (.lastore, 1) := by decide +kernel
theorem dX4_carriesOut_219 : decode cX4_carriesOut 219 = .ok (.return_, 1) := by decide +kernel
theorem dX4_areReplies_0 : decode cX4_areReplies 0 = .ok (.iload_n 0, 1) := by decide +kernel
theorem dX4_areReplies_1 : decode cX4_areReplies 1 = .ok (.iload_n 1, 1) := by decide +kernel
theorem dX4_areReplies_2 : decode cX4_areReplies 2 = .ok (.if_icmp .eq 31, 3) := by decide +kernel
theorem dX4_areReplies_5 : decode cX4_areReplies 5 = .ok (.iload_n 2, 1) := by decide +kernel
theorem dX4_areReplies_6 : decode cX4_areReplies 6 = .ok (.i2l, 1) := by decide +kernel
theorem dX4_areReplies_7 : decode cX4_areReplies 7 = .ok (.lconst 0, 1) := by decide +kernel
theorem dX4_areReplies_8 : decode cX4_areReplies 8 = .ok (.ldc2_w 80, 3) := by decide +kernel
theorem dX4_areReplies_11 : decode cX4_areReplies 11 = .ok (.invokestatic 23, 3) := by decide +kernel
theorem dX4_areReplies_14 : decode cX4_areReplies 14 = .ok (.ifCond .eq 19, 3) := by decide +kernel
theorem dX4_areReplies_17 : decode cX4_areReplies 17 = .ok (.iload_n 3, 1) := by decide +kernel
theorem dX4_areReplies_18 : decode cX4_areReplies 18 = .ok (.i2l, 1) := by decide +kernel
theorem dX4_areReplies_19 : decode cX4_areReplies 19 = .ok (.lconst 0, 1) := by decide +kernel
theorem dX4_areReplies_20 : decode cX4_areReplies 20 = .ok (.ldc2_w 80, 3) := by decide +kernel
theorem dX4_areReplies_23 : decode cX4_areReplies 23 = .ok (.invokestatic 23, 3) := by decide +kernel
theorem dX4_areReplies_26 : decode cX4_areReplies 26 = .ok (.ifCond .eq 7, 3) := by decide +kernel
theorem dX4_areReplies_29 : decode cX4_areReplies 29 = .ok (.iconst 1, 1) := by decide +kernel
theorem dX4_areReplies_30 : decode cX4_areReplies 30 = .ok (.goto 4, 3) := by decide +kernel
theorem dX4_areReplies_33 : decode cX4_areReplies 33 = .ok (.iconst 0, 1) := by decide +kernel
theorem dX4_areReplies_34 : decode cX4_areReplies 34 = .ok (.ireturn, 1) := by decide +kernel
theorem dX4_exchange_0 : decode cX4_exchange 0 = .ok (.aload_n 0, 1) := by decide +kernel
theorem dX4_exchange_1 : decode cX4_exchange 1 = .ok (.aload_n 0, 1) := by decide +kernel
theorem dX4_exchange_2 : decode cX4_exchange 2 = .ok (.iload_n 1, 1) := by decide +kernel
theorem dX4_exchange_3 : decode cX4_exchange 3 = .ok (.invokevirtual 64, 3) := by decide +kernel
theorem dX4_exchange_6 : decode cX4_exchange 6 = .ok (.ifCond .eq 15, 3) := by decide +kernel
theorem dX4_exchange_9 : decode cX4_exchange 9 = .ok (.aload_n 0, 1) := by decide +kernel
theorem dX4_exchange_10 : decode cX4_exchange 10 = .ok (.iload_n 2, 1) := by decide +kernel
theorem dX4_exchange_11 : decode cX4_exchange 11 = .ok (.invokevirtual 64, 3) := by decide +kernel
theorem dX4_exchange_14 : decode cX4_exchange 14 = .ok (.ifCond .eq 7, 3) := by decide +kernel
theorem dX4_exchange_17 : decode cX4_exchange 17 = .ok (.iconst 1, 1) := by decide +kernel
theorem dX4_exchange_18 : decode cX4_exchange 18 = .ok (.goto 4, 3) := by decide +kernel
theorem dX4_exchange_21 : decode cX4_exchange 21 = .ok (.iconst 0, 1) := by decide +kernel
theorem dX4_exchange_22 : decode cX4_exchange 22 = .ok (.iload_n 1, 1) := by decide +kernel
theorem dX4_exchange_23 : decode cX4_exchange 23 = .ok (.iload_n 2, 1) := by decide +kernel
theorem dX4_exchange_24 : decode cX4_exchange 24 = .ok (.iload_n 3, 1) := by decide +kernel
theorem dX4_exchange_25 : decode cX4_exchange 25 = .ok (.iload 4, 2) := by decide +kernel
theorem dX4_exchange_27 : decode cX4_exchange 27 = .ok (.invokestatic 82, 3) := by decide +kernel
theorem dX4_exchange_30 : decode cX4_exchange 30 = .ok (.aload_n 0, 1) := by decide +kernel
theorem dX4_exchange_31 : decode cX4_exchange 31 = .ok (.getfield 7, 3) := by decide +kernel
theorem dX4_exchange_34 : decode cX4_exchange 34 = .ok (.bipush 38, 2) := by decide +kernel
theorem dX4_exchange_36 : decode cX4_exchange 36 = .ok (.laload, 1) := by decide +kernel
theorem dX4_exchange_37 : decode cX4_exchange 37 = .ok (.ldc2_w 86, 3) := by decide +kernel
theorem dX4_exchange_40 : decode cX4_exchange 40 = .ok (.lcmp, 1) := by decide +kernel
theorem dX4_exchange_41 : decode cX4_exchange 41 = .ok (.ifCond .ge 7, 3) := by decide +kernel
theorem dX4_exchange_44 : decode cX4_exchange 44 = .ok (.iconst 1, 1) := by decide +kernel
theorem dX4_exchange_45 : decode cX4_exchange 45 = .ok (.goto 4, 3) := by decide +kernel
theorem dX4_exchange_48 : decode cX4_exchange 48 = .ok (.iconst 0, 1) := by decide +kernel
theorem dX4_exchange_49 : decode cX4_exchange 49 = .ok (.invokevirtual 45, 3) := by decide +kernel
theorem dX4_exchange_52 : decode cX4_exchange 52 = .ok (.ifCond .ne 5, 3) := by decide +kernel
theorem dX4_exchange_55 : decode cX4_exchange 55 = .ok (.iconst 0, 1) := by decide +kernel
theorem dX4_exchange_56 : decode cX4_exchange 56 = .ok (.ireturn, 1) := by decide +kernel
theorem dX4_exchange_57 : decode cX4_exchange 57 = .ok (.aload_n 0, 1) := by decide +kernel
theorem dX4_exchange_58 : decode cX4_exchange 58 = .ok (.invokevirtual 49, 3) := by decide +kernel
theorem dX4_exchange_61 : decode cX4_exchange 61 = .ok (.aload_n 0, 1) := by decide +kernel
theorem dX4_exchange_62 : decode cX4_exchange 62 = .ok (.aload_n 0, 1) := by decide +kernel
theorem dX4_exchange_63 : decode cX4_exchange 63 = .ok (.getfield 7, 3) := by decide +kernel
theorem dX4_exchange_66 : decode cX4_exchange 66 = .ok (.iconst 0, 1) := by decide +kernel
theorem dX4_exchange_67 : decode cX4_exchange 67 = .ok (.laload, 1) := by decide +kernel
theorem dX4_exchange_68 : decode cX4_exchange 68 = .ok (.iload_n 1, 1) := by decide +kernel
theorem dX4_exchange_69 : decode cX4_exchange 69 = .ok (.iload_n 2, 1) := by decide +kernel
theorem dX4_exchange_70 : decode cX4_exchange 70 = .ok (.iload_n 3, 1) := by decide +kernel
theorem dX4_exchange_71 : decode cX4_exchange 71 = .ok (.i2l, 1) := by decide +kernel
theorem dX4_exchange_72 : decode cX4_exchange 72 = .ok (.iload 4, 2) := by decide +kernel
theorem dX4_exchange_74 : decode cX4_exchange 74 = .ok (.i2l, 1) := by decide +kernel
theorem dX4_exchange_75 : decode cX4_exchange 75 = .ok (.invokevirtual 88, 3) := by decide +kernel
theorem dX4_exchange_78 : decode cX4_exchange 78 = .ok (.aload_n 0, 1) := by decide +kernel
theorem dX4_exchange_79 : decode cX4_exchange 79 = .ok (.getfield 7, 3) := by decide +kernel
theorem dX4_exchange_82 : decode cX4_exchange 82 = .ok (.bipush 38, 2) := by decide +kernel
theorem dX4_exchange_84 : decode cX4_exchange 84 = .ok (.laload, 1) := by decide +kernel
theorem dX4_exchange_85 : decode cX4_exchange 85 = .ok (.l2i, 1) := by decide +kernel
theorem dX4_exchange_86 : decode cX4_exchange 86 = .ok (.iconst 1, 1) := by decide +kernel
theorem dX4_exchange_87 : decode cX4_exchange 87 = .ok (.isub, 1) := by decide +kernel
theorem dX4_exchange_88 : decode cX4_exchange 88 = .ok (.ireturn, 1) := by decide +kernel
theorem dX4_plan_0 : decode cX4_plan 0 = .ok (.aload_n 0, 1) := by decide +kernel
theorem dX4_plan_1 : decode cX4_plan 1 = .ok (.aload_n 0, 1) := by decide +kernel
theorem dX4_plan_2 : decode cX4_plan 2 = .ok (.iload_n 2, 1) := by decide +kernel
theorem dX4_plan_3 : decode cX4_plan 3 = .ok (.invokevirtual 64, 3) := by decide +kernel
theorem dX4_plan_6 : decode cX4_plan 6 = .ok (.ifCond .eq 15, 3) := by decide +kernel
theorem dX4_plan_9 : decode cX4_plan 9 = .ok (.aload_n 0, 1) := by decide +kernel
theorem dX4_plan_10 : decode cX4_plan 10 = .ok (.iload_n 3, 1) := by decide +kernel
theorem dX4_plan_11 : decode cX4_plan 11 = .ok (.invokevirtual 64, 3) := by decide +kernel
theorem dX4_plan_14 : decode cX4_plan 14 = .ok (.ifCond .eq 7, 3) := by decide +kernel
theorem dX4_plan_17 : decode cX4_plan 17 = .ok (.iconst 1, 1) := by decide +kernel
theorem dX4_plan_18 : decode cX4_plan 18 = .ok (.goto 4, 3) := by decide +kernel
theorem dX4_plan_21 : decode cX4_plan 21 = .ok (.iconst 0, 1) := by decide +kernel
theorem dX4_plan_22 : decode cX4_plan 22 = .ok (.iload_n 2, 1) := by decide +kernel
theorem dX4_plan_23 : decode cX4_plan 23 = .ok (.iload_n 3, 1) := by decide +kernel
theorem dX4_plan_24 : decode cX4_plan 24 = .ok (.iload 4, 2) := by decide +kernel
theorem dX4_plan_26 : decode cX4_plan 26 = .ok (.iload 5, 2) := by decide +kernel
theorem dX4_plan_28 : decode cX4_plan 28 = .ok (.invokestatic 82, 3) := by decide +kernel
theorem dX4_plan_31 : decode cX4_plan 31 = .ok (.ifCond .eq 19, 3) := by decide +kernel
theorem dX4_plan_34 : decode cX4_plan 34 = .ok (.iload_n 1, 1) := by decide +kernel
theorem dX4_plan_35 : decode cX4_plan 35 = .ok (.i2l, 1) := by decide +kernel
theorem dX4_plan_36 : decode cX4_plan 36 = .ok (.lconst 0, 1) := by decide +kernel
theorem dX4_plan_37 : decode cX4_plan 37 = .ok (.ldc2_w 92, 3) := by decide +kernel
theorem dX4_plan_40 : decode cX4_plan 40 = .ok (.invokestatic 23, 3) := by decide +kernel
theorem dX4_plan_43 : decode cX4_plan 43 = .ok (.ifCond .eq 7, 3) := by decide +kernel
theorem dX4_plan_46 : decode cX4_plan 46 = .ok (.iconst 1, 1) := by decide +kernel
theorem dX4_plan_47 : decode cX4_plan 47 = .ok (.goto 4, 3) := by decide +kernel
theorem dX4_plan_50 : decode cX4_plan 50 = .ok (.iconst 0, 1) := by decide +kernel
theorem dX4_plan_51 : decode cX4_plan 51 = .ok (.aload_n 0, 1) := by decide +kernel
theorem dX4_plan_52 : decode cX4_plan 52 = .ok (.getfield 7, 3) := by decide +kernel
theorem dX4_plan_55 : decode cX4_plan 55 = .ok (.sipush 359, 3) := by decide +kernel
theorem dX4_plan_58 : decode cX4_plan 58 = .ok (.laload, 1) := by decide +kernel
theorem dX4_plan_59 : decode cX4_plan 59 = .ok (.ldc2_w 94, 3) := by decide +kernel
theorem dX4_plan_62 : decode cX4_plan 62 = .ok (.lcmp, 1) := by decide +kernel
theorem dX4_plan_63 : decode cX4_plan 63 = .ok (.ifCond .ge 7, 3) := by decide +kernel
theorem dX4_plan_66 : decode cX4_plan 66 = .ok (.iconst 1, 1) := by decide +kernel
theorem dX4_plan_67 : decode cX4_plan 67 = .ok (.goto 4, 3) := by decide +kernel
theorem dX4_plan_70 : decode cX4_plan 70 = .ok (.iconst 0, 1) := by decide +kernel
theorem dX4_plan_71 : decode cX4_plan 71 = .ok (.invokevirtual 45, 3) := by decide +kernel
theorem dX4_plan_74 : decode cX4_plan 74 = .ok (.ifCond .ne 5, 3) := by decide +kernel
theorem dX4_plan_77 : decode cX4_plan 77 = .ok (.iconst 0, 1) := by decide +kernel
theorem dX4_plan_78 : decode cX4_plan 78 = .ok (.ireturn, 1) := by decide +kernel
theorem dX4_plan_79 : decode cX4_plan 79 = .ok (.aload_n 0, 1) := by decide +kernel
theorem dX4_plan_80 : decode cX4_plan 80 = .ok (.invokevirtual 49, 3) := by decide +kernel
theorem dX4_plan_83 : decode cX4_plan 83 = .ok (.sipush 360, 3) := by decide +kernel
theorem dX4_plan_86 : decode cX4_plan 86 = .ok (.iconst 5, 1) := by decide +kernel
theorem dX4_plan_87 : decode cX4_plan 87 = .ok (.aload_n 0, 1) := by decide +kernel
theorem dX4_plan_88 : decode cX4_plan 88 = .ok (.getfield 7, 3) := by decide +kernel
theorem dX4_plan_91 : decode cX4_plan 91 = .ok (.sipush 359, 3) := by decide +kernel
theorem dX4_plan_94 : decode cX4_plan 94 = .ok (.laload, 1) := by decide +kernel
theorem dX4_plan_95 : decode cX4_plan 95 = .ok (.l2i, 1) := by decide +kernel
theorem dX4_plan_96 : decode cX4_plan 96 = .ok (.imul, 1) := by decide +kernel
theorem dX4_plan_97 : decode cX4_plan 97 = .ok (.iadd, 1) := by decide +kernel
theorem dX4_plan_98 : decode cX4_plan 98 = .ok (.istore 6, 2) := by decide +kernel
theorem dX4_plan_100 : decode cX4_plan 100 = .ok (.aload_n 0, 1) := by decide +kernel
theorem dX4_plan_101 : decode cX4_plan 101 = .ok (.getfield 7, 3) := by decide +kernel
theorem dX4_plan_104 : decode cX4_plan 104 = .ok (.iload 6, 2) := by decide +kernel
theorem dX4_plan_106 : decode cX4_plan 106 = .ok (.iload_n 1, 1) := by decide +kernel
theorem dX4_plan_107 : decode cX4_plan 107 = .ok (.i2l, 1) := by decide +kernel
theorem dX4_plan_108 : decode cX4_plan 108 = .ok (.lastore, 1) := by decide +kernel
theorem dX4_plan_109 : decode cX4_plan 109 = .ok (.aload_n 0, 1) := by decide +kernel
theorem dX4_plan_110 : decode cX4_plan 110 = .ok (.getfield 7, 3) := by decide +kernel
theorem dX4_plan_113 : decode cX4_plan 113 = .ok (.iload 6, 2) := by decide +kernel
theorem dX4_plan_115 : decode cX4_plan 115 = .ok (.iconst 1, 1) := by decide +kernel
theorem dX4_plan_116 : decode cX4_plan 116 = .ok (.iadd, 1) := by decide +kernel
theorem dX4_plan_117 : decode cX4_plan 117 = .ok (.iload_n 2, 1) := by decide +kernel
theorem dX4_plan_118 : decode cX4_plan 118 = .ok (.i2l, 1) := by decide +kernel
theorem dX4_plan_119 : decode cX4_plan 119 = .ok (.lastore, 1) := by decide +kernel
theorem dX4_plan_120 : decode cX4_plan 120 = .ok (.aload_n 0, 1) := by decide +kernel
theorem dX4_plan_121 : decode cX4_plan 121 = .ok (.getfield 7, 3) := by decide +kernel
theorem dX4_plan_124 : decode cX4_plan 124 = .ok (.iload 6, 2) := by decide +kernel
theorem dX4_plan_126 : decode cX4_plan 126 = .ok (.iconst 2, 1) := by decide +kernel
theorem dX4_plan_127 : decode cX4_plan 127 = .ok (.iadd, 1) := by decide +kernel
theorem dX4_plan_128 : decode cX4_plan 128 = .ok (.iload_n 3, 1) := by decide +kernel
theorem dX4_plan_129 : decode cX4_plan 129 = .ok (.i2l, 1) := by decide +kernel
theorem dX4_plan_130 : decode cX4_plan 130 = .ok (.lastore, 1) := by decide +kernel
theorem dX4_plan_131 : decode cX4_plan 131 = .ok (.aload_n 0, 1) := by decide +kernel
theorem dX4_plan_132 : decode cX4_plan 132 = .ok (.getfield 7, 3) := by decide +kernel
theorem dX4_plan_135 : decode cX4_plan 135 = .ok (.iload 6, 2) := by decide +kernel
theorem dX4_plan_137 : decode cX4_plan 137 = .ok (.iconst 3, 1) := by decide +kernel
theorem dX4_plan_138 : decode cX4_plan 138 = .ok (.iadd, 1) := by decide +kernel
theorem dX4_plan_139 : decode cX4_plan 139 = .ok (.iload 4, 2) := by decide +kernel
theorem dX4_plan_141 : decode cX4_plan 141 = .ok (.i2l, 1) := by decide +kernel
theorem dX4_plan_142 : decode cX4_plan 142 = .ok (.lastore, 1) := by decide +kernel
theorem dX4_plan_143 : decode cX4_plan 143 = .ok (.aload_n 0, 1) := by decide +kernel
theorem dX4_plan_144 : decode cX4_plan 144 = .ok (.getfield 7, 3) := by decide +kernel
theorem dX4_plan_147 : decode cX4_plan 147 = .ok (.iload 6, 2) := by decide +kernel
theorem dX4_plan_149 : decode cX4_plan 149 = .ok (.iconst 4, 1) := by decide +kernel
theorem dX4_plan_150 : decode cX4_plan 150 = .ok (.iadd, 1) := by decide +kernel
theorem dX4_plan_151 : decode cX4_plan 151 = .ok (.iload 5, 2) := by decide +kernel
theorem dX4_plan_153 : decode cX4_plan 153 = .ok (.i2l, 1) := by decide +kernel
theorem dX4_plan_154 : decode cX4_plan 154 = .ok (.lastore, 1) := by decide +kernel
theorem dX4_plan_155 : decode cX4_plan 155 = .ok (.aload_n 0, 1) := by decide +kernel
theorem dX4_plan_156 : decode cX4_plan 156 = .ok (.getfield 7, 3) := by decide +kernel
theorem dX4_plan_159 : decode cX4_plan 159 = .ok (.sipush 359, 3) := by decide +kernel
theorem dX4_plan_162 : decode cX4_plan 162 = .ok (.dup2, 1) := by decide +kernel
theorem dX4_plan_163 : decode cX4_plan 163 = .ok (.laload, 1) := by decide +kernel
theorem dX4_plan_164 : decode cX4_plan 164 = .ok (.lconst 1, 1) := by decide +kernel
theorem dX4_plan_165 : decode cX4_plan 165 = .ok (.ladd, 1) := by decide +kernel
theorem dX4_plan_166 : decode cX4_plan 166 = .ok (.lastore, 1) := by decide +kernel
theorem dX4_plan_167 : decode cX4_plan 167 = .ok (.aload_n 0, 1) := by decide +kernel
theorem dX4_plan_168 : decode cX4_plan 168 = .ok (.getfield 7, 3) := by decide +kernel
theorem dX4_plan_171 : decode cX4_plan 171 = .ok (.sipush 359, 3) := by decide +kernel
theorem dX4_plan_174 : decode cX4_plan 174 = .ok (.laload, 1) := by decide +kernel
theorem dX4_plan_175 : decode cX4_plan 175 = .ok (.l2i, 1) := by decide +kernel
theorem dX4_plan_176 : decode cX4_plan 176 = .ok (.ireturn, 1) := by decide +kernel
theorem dX4_waiting_0 : decode cX4_waiting 0 = .ok (.aload_n 0, 1) := by decide +kernel
theorem dX4_waiting_1 : decode cX4_waiting 1 = .ok (.getfield 7, 3) := by decide +kernel
theorem dX4_waiting_4 : decode cX4_waiting 4 = .ok (.sipush 359, 3) := by decide +kernel
theorem dX4_waiting_7 : decode cX4_waiting 7 = .ok (.laload, 1) := by decide +kernel
theorem dX4_waiting_8 : decode cX4_waiting 8 = .ok (.l2i, 1) := by decide +kernel
theorem dX4_waiting_9 : decode cX4_waiting 9 = .ok (.istore_n 2, 1) := by decide +kernel
theorem dX4_waiting_10 : decode cX4_waiting 10 = .ok (.iconst 0, 1) := by decide +kernel
theorem dX4_waiting_11 : decode cX4_waiting 11 = .ok (.istore_n 3, 1) := by decide +kernel
theorem dX4_waiting_12 : decode cX4_waiting 12 = .ok (.iload_n 3, 1) := by decide +kernel
theorem dX4_waiting_13 : decode cX4_waiting 13 = .ok (.iload_n 2, 1) := by decide +kernel
theorem dX4_waiting_14 : decode cX4_waiting 14 = .ok (.if_icmp .ge 96, 3) := by decide +kernel
theorem dX4_waiting_17 : decode cX4_waiting 17 = .ok (.iconst 0, 1) := by decide +kernel
theorem dX4_waiting_18 : decode cX4_waiting 18 = .ok (.istore 4, 2) := by decide +kernel
theorem dX4_waiting_20 : decode cX4_waiting 20 = .ok (.iconst 0, 1) := by decide +kernel
theorem dX4_waiting_21 : decode cX4_waiting 21 = .ok (.istore 5, 2) := by decide +kernel
theorem dX4_waiting_23 : decode cX4_waiting 23 = .ok (.iload 5, 2) := by decide +kernel
theorem dX4_waiting_25 : decode cX4_waiting 25 = .ok (.iload_n 2, 1) := by decide +kernel
theorem dX4_waiting_26 : decode cX4_waiting 26 = .ok (.if_icmp .ge 70, 3) := by decide +kernel
theorem dX4_waiting_29 : decode cX4_waiting 29 = .ok (.aload_n 0, 1) := by decide +kernel
theorem dX4_waiting_30 : decode cX4_waiting 30 = .ok (.getfield 7, 3) := by decide +kernel
theorem dX4_waiting_33 : decode cX4_waiting 33 = .ok (.sipush 360, 3) := by decide +kernel
theorem dX4_waiting_36 : decode cX4_waiting 36 = .ok (.iconst 5, 1) := by decide +kernel
theorem dX4_waiting_37 : decode cX4_waiting 37 = .ok (.iload 5, 2) := by decide +kernel
theorem dX4_waiting_39 : decode cX4_waiting 39 = .ok (.imul, 1) := by decide +kernel
theorem dX4_waiting_40 : decode cX4_waiting 40 = .ok (.iadd, 1) := by decide +kernel
theorem dX4_waiting_41 : decode cX4_waiting 41 = .ok (.laload, 1) := by decide +kernel
theorem dX4_waiting_42 : decode cX4_waiting 42 = .ok (.lstore 6, 2) := by decide +kernel
theorem dX4_waiting_44 : decode cX4_waiting 44 = .ok (.aload_n 0, 1) := by decide +kernel
theorem dX4_waiting_45 : decode cX4_waiting 45 = .ok (.getfield 7, 3) := by decide +kernel
theorem dX4_waiting_48 : decode cX4_waiting 48 = .ok (.sipush 360, 3) := by decide +kernel
theorem dX4_waiting_51 : decode cX4_waiting 51 = .ok (.iconst 5, 1) := by decide +kernel
theorem dX4_waiting_52 : decode cX4_waiting 52 = .ok (.iload_n 3, 1) := by decide +kernel
theorem dX4_waiting_53 : decode cX4_waiting 53 = .ok (.imul, 1) := by decide +kernel
theorem dX4_waiting_54 : decode cX4_waiting 54 = .ok (.iadd, 1) := by decide +kernel
theorem dX4_waiting_55 : decode cX4_waiting 55 = .ok (.laload, 1) := by decide +kernel
theorem dX4_waiting_56 : decode cX4_waiting 56 = .ok (.lstore 8, 2) := by decide +kernel
theorem dX4_waiting_58 : decode cX4_waiting 58 = .ok (.iload 4, 2) := by decide +kernel
theorem dX4_waiting_60 : decode cX4_waiting 60 = .ok (.lload 6, 2) := by decide +kernel
theorem dX4_waiting_62 : decode cX4_waiting 62 = .ok (.lload 8, 2) := by decide +kernel
theorem dX4_waiting_64 : decode cX4_waiting 64 = .ok (.lcmp, 1) := by decide +kernel
theorem dX4_waiting_65 : decode cX4_waiting 65 = .ok (.ifCond .lt 17, 3) := by decide +kernel
theorem dX4_waiting_68 : decode cX4_waiting 68 = .ok (.lload 6, 2) := by decide +kernel
theorem dX4_waiting_70 : decode cX4_waiting 70 = .ok (.lload 8, 2) := by decide +kernel
theorem dX4_waiting_72 : decode cX4_waiting 72 = .ok (.lcmp, 1) := by decide +kernel
theorem dX4_waiting_73 : decode cX4_waiting 73 = .ok (.ifCond .ne 13, 3) := by decide +kernel
theorem dX4_waiting_76 : decode cX4_waiting 76 = .ok (.iload 5, 2) := by decide +kernel
theorem dX4_waiting_78 : decode cX4_waiting 78 = .ok (.iload_n 3, 1) := by decide +kernel
theorem dX4_waiting_79 : decode cX4_waiting 79 = .ok (.if_icmp .ge 7, 3) := by decide +kernel
theorem dX4_waiting_82 : decode cX4_waiting 82 = .ok (.iconst 1, 1) := by decide +kernel
theorem dX4_waiting_83 : decode cX4_waiting 83 = .ok (.goto 4, 3) := by decide +kernel
theorem dX4_waiting_86 : decode cX4_waiting 86 = .ok (.iconst 0, 1) := by decide +kernel
theorem dX4_waiting_87 : decode cX4_waiting 87 = .ok (.iadd, 1) := by decide +kernel
theorem dX4_waiting_88 : decode cX4_waiting 88 = .ok (.istore 4, 2) := by decide +kernel
theorem dX4_waiting_90 : decode cX4_waiting 90 = .ok (.iinc 5 1, 3) := by decide +kernel
theorem dX4_waiting_93 : decode cX4_waiting 93 = .ok (.goto (-70), 3) := by decide +kernel
theorem dX4_waiting_96 : decode cX4_waiting 96 = .ok (.iload 4, 2) := by decide +kernel
theorem dX4_waiting_98 : decode cX4_waiting 98 = .ok (.iload_n 1, 1) := by decide +kernel
theorem dX4_waiting_99 : decode cX4_waiting 99 = .ok (.if_icmp .ne 5, 3) := by decide +kernel
theorem dX4_waiting_102 : decode cX4_waiting 102 = .ok (.iload_n 3, 1) := by decide +kernel
theorem dX4_waiting_103 : decode cX4_waiting 103 = .ok (.ireturn, 1) := by decide +kernel
theorem dX4_waiting_104 : decode cX4_waiting 104 = .ok (.iinc 3 1, 3) := by decide +kernel
theorem dX4_waiting_107 : decode cX4_waiting 107 = .ok (.goto (-95), 3) := by decide +kernel
theorem dX4_waiting_110 : decode cX4_waiting 110 = .ok (.iconst (-1), 1) := by decide +kernel
theorem dX4_waiting_111 : decode cX4_waiting 111 = .ok (.ireturn, 1) := by decide +kernel
theorem dX4_nextPlanned_0 : decode cX4_nextPlanned 0 = .ok (.aload_n 0, 1) := by decide +kernel
theorem dX4_nextPlanned_1 : decode cX4_nextPlanned 1 = .ok (.iconst 0, 1) := by decide +kernel
theorem dX4_nextPlanned_2 : decode cX4_nextPlanned 2 = .ok (.putfield 16, 3) := by decide +kernel
theorem dX4_nextPlanned_5 : decode cX4_nextPlanned 5 = .ok (.aload_n 0, 1) := by decide +kernel
theorem dX4_nextPlanned_6 : decode cX4_nextPlanned 6 = .ok (.iconst 0, 1) := by decide +kernel
theorem dX4_nextPlanned_7 : decode cX4_nextPlanned 7 = .ok (.invokevirtual 96, 3) := by decide +kernel
theorem dX4_nextPlanned_10 : decode cX4_nextPlanned 10 = .ok (.istore_n 1, 1) := by decide +kernel
theorem dX4_nextPlanned_11 : decode cX4_nextPlanned 11 = .ok (.iload_n 1, 1) := by decide +kernel
theorem dX4_nextPlanned_12 : decode cX4_nextPlanned 12 = .ok (.iconst (-1), 1) := by decide +kernel
theorem dX4_nextPlanned_13 : decode cX4_nextPlanned 13 = .ok (.if_icmp .ne 7, 3) := by decide +kernel
theorem dX4_nextPlanned_16 : decode cX4_nextPlanned 16 = .ok (.iconst (-1), 1) := by decide +kernel
theorem dX4_nextPlanned_17 : decode cX4_nextPlanned 17 = .ok (.goto 16, 3) := by decide +kernel
theorem dX4_nextPlanned_20 : decode cX4_nextPlanned 20 = .ok (.aload_n 0, 1) := by decide +kernel
theorem dX4_nextPlanned_21 : decode cX4_nextPlanned 21 = .ok (.getfield 7, 3) := by decide +kernel
theorem dX4_nextPlanned_24 : decode cX4_nextPlanned 24 = .ok (.sipush 360, 3) := by decide +kernel
theorem dX4_nextPlanned_27 : decode cX4_nextPlanned 27 = .ok (.iconst 5, 1) := by decide +kernel
theorem dX4_nextPlanned_28 : decode cX4_nextPlanned 28 = .ok (.iload_n 1, 1) := by decide +kernel
theorem dX4_nextPlanned_29 : decode cX4_nextPlanned 29 = .ok (.imul, 1) := by decide +kernel
theorem dX4_nextPlanned_30 : decode cX4_nextPlanned 30 = .ok (.iadd, 1) := by decide +kernel
theorem dX4_nextPlanned_31 : decode cX4_nextPlanned 31 = .ok (.laload, 1) := by decide +kernel
theorem dX4_nextPlanned_32 : decode cX4_nextPlanned 32 = .ok (.l2i, 1) := by decide +kernel
theorem dX4_nextPlanned_33 : decode cX4_nextPlanned 33 = .ok (.ireturn, 1) := by decide +kernel
theorem dX4_removes_0 : decode cX4_removes 0 = .ok (.sipush 360, 3) := by decide +kernel
theorem dX4_removes_3 : decode cX4_removes 3 = .ok (.iconst 5, 1) := by decide +kernel
theorem dX4_removes_4 : decode cX4_removes 4 = .ok (.iload_n 1, 1) := by decide +kernel
theorem dX4_removes_5 : decode cX4_removes 5 = .ok (.imul, 1) := by decide +kernel
theorem dX4_removes_6 : decode cX4_removes 6 = .ok (.iadd, 1) := by decide +kernel
theorem dX4_removes_7 : decode cX4_removes 7 = .ok (.istore_n 2, 1) := by decide +kernel
theorem dX4_removes_8 : decode cX4_removes 8 = .ok (.iload_n 2, 1) := by decide +kernel
theorem dX4_removes_9 : decode cX4_removes 9 = .ok (.sipush 455, 3) := by decide +kernel
theorem dX4_removes_12 : decode cX4_removes 12 = .ok (.if_icmp .ge 23, 3) := by decide +kernel
theorem dX4_removes_15 : decode cX4_removes 15 = .ok (.aload_n 0, 1) := by decide +kernel
theorem dX4_removes_16 : decode cX4_removes 16 = .ok (.getfield 7, 3) := by decide +kernel
theorem dX4_removes_19 : decode cX4_removes 19 = .ok (.iload_n 2, 1) := by decide +kernel
theorem dX4_removes_20 : decode cX4_removes 20 = .ok (.aload_n 0, 1) := by decide +kernel
theorem dX4_removes_21 : decode cX4_removes 21 = .ok (.getfield 7, 3) := by decide +kernel
theorem dX4_removes_24 : decode cX4_removes 24 = .ok (.iload_n 2, 1) := by decide +kernel
theorem dX4_removes_25 : decode cX4_removes 25 = .ok (.iconst 5, 1) := by decide +kernel
theorem dX4_removes_26 : decode cX4_removes 26 = .ok (.iadd, 1) := by decide +kernel
theorem dX4_removes_27 : decode cX4_removes 27 = .ok (.laload, 1) := by decide +kernel
theorem dX4_removes_28 : decode cX4_removes 28 = .ok (.lastore, 1) := by decide +kernel
theorem dX4_removes_29 : decode cX4_removes 29 = .ok (.iinc 2 1, 3) := by decide +kernel
theorem dX4_removes_32 : decode cX4_removes 32 = .ok (.goto (-24), 3) := by decide +kernel
theorem dX4_removes_35 : decode cX4_removes 35 = .ok (.aload_n 0, 1) := by decide +kernel
theorem dX4_removes_36 : decode cX4_removes 36 = .ok (.getfield 7, 3) := by decide +kernel
theorem dX4_removes_39 : decode cX4_removes 39 = .ok (.sipush 359, 3) := by decide +kernel
theorem dX4_removes_42 : decode cX4_removes 42 = .ok (.dup2, 1) := by decide +kernel
theorem dX4_removes_43 : decode cX4_removes 43 = .ok (.laload, 1) := by decide +kernel
theorem dX4_removes_44 : decode cX4_removes 44 = .ok (.lconst 1, 1) := by decide +kernel
theorem dX4_removes_45 : decode cX4_removes 45 = .ok (.lsub, 1) := by decide +kernel
theorem dX4_removes_46 : decode cX4_removes 46 = .ok (.lastore, 1) := by decide +kernel
theorem dX4_removes_47 : decode cX4_removes 47 = .ok (.return_, 1) := by decide +kernel
theorem dX4_run_0 : decode cX4_run 0 = .ok (.aload_n 0, 1) := by decide +kernel
theorem dX4_run_1 : decode cX4_run 1 = .ok (.iload_n 1, 1) := by decide +kernel
theorem dX4_run_2 : decode cX4_run 2 = .ok (.i2l, 1) := by decide +kernel
theorem dX4_run_3 : decode cX4_run 3 = .ok (.lconst 0, 1) := by decide +kernel
theorem dX4_run_4 : decode cX4_run 4 = .ok (.ldc2_w 92, 3) := by decide +kernel
theorem dX4_run_7 : decode cX4_run 7 = .ok (.invokestatic 23, 3) := by decide +kernel
theorem dX4_run_10 : decode cX4_run 10 = .ok (.iconst 1, 1) := by decide +kernel
theorem dX4_run_11 : decode cX4_run 11 = .ok (.iconst 1, 1) := by decide +kernel
theorem dX4_run_12 : decode cX4_run 12 = .ok (.invokevirtual 45, 3) := by decide +kernel
theorem dX4_run_15 : decode cX4_run 15 = .ok (.ifCond .ne 5, 3) := by decide +kernel
theorem dX4_run_18 : decode cX4_run 18 = .ok (.iconst 0, 1) := by decide +kernel
theorem dX4_run_19 : decode cX4_run 19 = .ok (.ireturn, 1) := by decide +kernel
theorem dX4_run_20 : decode cX4_run 20 = .ok (.aload_n 0, 1) := by decide +kernel
theorem dX4_run_21 : decode cX4_run 21 = .ok (.invokevirtual 49, 3) := by decide +kernel
theorem dX4_run_24 : decode cX4_run 24 = .ok (.iconst 0, 1) := by decide +kernel
theorem dX4_run_25 : decode cX4_run 25 = .ok (.istore_n 2, 1) := by decide +kernel
theorem dX4_run_26 : decode cX4_run 26 = .ok (.aload_n 0, 1) := by decide +kernel
theorem dX4_run_27 : decode cX4_run 27 = .ok (.iconst 0, 1) := by decide +kernel
theorem dX4_run_28 : decode cX4_run 28 = .ok (.invokevirtual 96, 3) := by decide +kernel
theorem dX4_run_31 : decode cX4_run 31 = .ok (.istore_n 3, 1) := by decide +kernel
theorem dX4_run_32 : decode cX4_run 32 = .ok (.iload_n 3, 1) := by decide +kernel
theorem dX4_run_33 : decode cX4_run 33 = .ok (.iconst (-1), 1) := by decide +kernel
theorem dX4_run_34 : decode cX4_run 34 = .ok (.if_icmp .eq 140, 3) := by decide +kernel
theorem dX4_run_37 : decode cX4_run 37 = .ok (.aload_n 0, 1) := by decide +kernel
theorem dX4_run_38 : decode cX4_run 38 = .ok (.getfield 7, 3) := by decide +kernel
theorem dX4_run_41 : decode cX4_run 41 = .ok (.sipush 360, 3) := by decide +kernel
theorem dX4_run_44 : decode cX4_run 44 = .ok (.iconst 5, 1) := by decide +kernel
theorem dX4_run_45 : decode cX4_run 45 = .ok (.iload_n 3, 1) := by decide +kernel
theorem dX4_run_46 : decode cX4_run 46 = .ok (.imul, 1) := by decide +kernel
theorem dX4_run_47 : decode cX4_run 47 = .ok (.iadd, 1) := by decide +kernel
theorem dX4_run_48 : decode cX4_run 48 = .ok (.laload, 1) := by decide +kernel
theorem dX4_run_49 : decode cX4_run 49 = .ok (.iload_n 1, 1) := by decide +kernel
theorem dX4_run_50 : decode cX4_run 50 = .ok (.i2l, 1) := by decide +kernel
theorem dX4_run_51 : decode cX4_run 51 = .ok (.lcmp, 1) := by decide +kernel
theorem dX4_run_52 : decode cX4_run 52 = .ok (.ifCond .gt 122, 3) := by decide +kernel
theorem dX4_run_55 : decode cX4_run 55 = .ok (.sipush 360, 3) := by decide +kernel
theorem dX4_run_58 : decode cX4_run 58 = .ok (.iconst 5, 1) := by decide +kernel
theorem dX4_run_59 : decode cX4_run 59 = .ok (.iload_n 3, 1) := by decide +kernel
theorem dX4_run_60 : decode cX4_run 60 = .ok (.imul, 1) := by decide +kernel
theorem dX4_run_61 : decode cX4_run 61 = .ok (.iadd, 1) := by decide +kernel
theorem dX4_run_62 : decode cX4_run 62 = .ok (.istore 4, 2) := by decide +kernel
theorem dX4_run_64 : decode cX4_run 64 = .ok (.aload_n 0, 1) := by decide +kernel
theorem dX4_run_65 : decode cX4_run 65 = .ok (.getfield 7, 3) := by decide +kernel
theorem dX4_run_68 : decode cX4_run 68 = .ok (.iload 4, 2) := by decide +kernel
theorem dX4_run_70 : decode cX4_run 70 = .ok (.laload, 1) := by decide +kernel
theorem dX4_run_71 : decode cX4_run 71 = .ok (.aload_n 0, 1) := by decide +kernel
theorem dX4_run_72 : decode cX4_run 72 = .ok (.getfield 7, 3) := by decide +kernel
theorem dX4_run_75 : decode cX4_run 75 = .ok (.iconst 0, 1) := by decide +kernel
theorem dX4_run_76 : decode cX4_run 76 = .ok (.laload, 1) := by decide +kernel
theorem dX4_run_77 : decode cX4_run 77 = .ok (.lcmp, 1) := by decide +kernel
theorem dX4_run_78 : decode cX4_run 78 = .ok (.ifCond .le 13, 3) := by decide +kernel
theorem dX4_run_81 : decode cX4_run 81 = .ok (.aload_n 0, 1) := by decide +kernel
theorem dX4_run_82 : decode cX4_run 82 = .ok (.getfield 7, 3) := by decide +kernel
theorem dX4_run_85 : decode cX4_run 85 = .ok (.iload 4, 2) := by decide +kernel
theorem dX4_run_87 : decode cX4_run 87 = .ok (.laload, 1) := by decide +kernel
theorem dX4_run_88 : decode cX4_run 88 = .ok (.goto 9, 3) := by decide +kernel
theorem dX4_run_91 : decode cX4_run 91 = .ok (.aload_n 0, 1) := by decide +kernel
theorem dX4_run_92 : decode cX4_run 92 = .ok (.getfield 7, 3) := by decide +kernel
theorem dX4_run_95 : decode cX4_run 95 = .ok (.iconst 0, 1) := by decide +kernel
theorem dX4_run_96 : decode cX4_run 96 = .ok (.laload, 1) := by decide +kernel
theorem dX4_run_97 : decode cX4_run 97 = .ok (.lstore 5, 2) := by decide +kernel
theorem dX4_run_99 : decode cX4_run 99 = .ok (.aload_n 0, 1) := by decide +kernel
theorem dX4_run_100 : decode cX4_run 100 = .ok (.getfield 7, 3) := by decide +kernel
theorem dX4_run_103 : decode cX4_run 103 = .ok (.bipush 38, 2) := by decide +kernel
theorem dX4_run_105 : decode cX4_run 105 = .ok (.laload, 1) := by decide +kernel
theorem dX4_run_106 : decode cX4_run 106 = .ok (.ldc2_w 86, 3) := by decide +kernel
theorem dX4_run_109 : decode cX4_run 109 = .ok (.lcmp, 1) := by decide +kernel
theorem dX4_run_110 : decode cX4_run 110 = .ok (.ifCond .ge 50, 3) := by decide +kernel
theorem dX4_run_113 : decode cX4_run 113 = .ok (.aload_n 0, 1) := by decide +kernel
theorem dX4_run_114 : decode cX4_run 114 = .ok (.lload 5, 2) := by decide +kernel
theorem dX4_run_116 : decode cX4_run 116 = .ok (.aload_n 0, 1) := by decide +kernel
theorem dX4_run_117 : decode cX4_run 117 = .ok (.getfield 7, 3) := by decide +kernel
theorem dX4_run_120 : decode cX4_run 120 = .ok (.iload 4, 2) := by decide +kernel
theorem dX4_run_122 : decode cX4_run 122 = .ok (.iconst 1, 1) := by decide +kernel
theorem dX4_run_123 : decode cX4_run 123 = .ok (.iadd, 1) := by decide +kernel
theorem dX4_run_124 : decode cX4_run 124 = .ok (.laload, 1) := by decide +kernel
theorem dX4_run_125 : decode cX4_run 125 = .ok (.l2i, 1) := by decide +kernel
theorem dX4_run_126 : decode cX4_run 126 = .ok (.aload_n 0, 1) := by decide +kernel
theorem dX4_run_127 : decode cX4_run 127 = .ok (.getfield 7, 3) := by decide +kernel
theorem dX4_run_130 : decode cX4_run 130 = .ok (.iload 4, 2) := by decide +kernel
theorem dX4_run_132 : decode cX4_run 132 = .ok (.iconst 2, 1) := by decide +kernel
theorem dX4_run_133 : decode cX4_run 133 = .ok (.iadd, 1) := by decide +kernel
theorem dX4_run_134 : decode cX4_run 134 = .ok (.laload, 1) := by decide +kernel
theorem dX4_run_135 : decode cX4_run 135 = .ok (.l2i, 1) := by decide +kernel
theorem dX4_run_136 : decode cX4_run 136 = .ok (.aload_n 0, 1) := by decide +kernel
theorem dX4_run_137 : decode cX4_run 137 = .ok (.getfield 7, 3) := by decide +kernel
theorem dX4_run_140 : decode cX4_run 140 = .ok (.iload 4, 2) := by decide +kernel
theorem dX4_run_142 : decode cX4_run 142 = .ok (.iconst 3, 1) := by decide +kernel
theorem dX4_run_143 : decode cX4_run 143 = .ok (.iadd, 1) := by decide +kernel
theorem dX4_run_144 : decode cX4_run 144 = .ok (.laload, 1) := by decide +kernel
theorem dX4_run_145 : decode cX4_run 145 = .ok (.aload_n 0, 1) := by decide +kernel
theorem dX4_run_146 : decode cX4_run 146 = .ok (.getfield 7, 3) := by decide +kernel
theorem dX4_run_149 : decode cX4_run 149 = .ok (.iload 4, 2) := by decide +kernel
theorem dX4_run_151 : decode cX4_run 151 = .ok (.iconst 4, 1) := by decide +kernel
theorem dX4_run_152 : decode cX4_run 152 = .ok (.iadd, 1) := by decide +kernel
theorem dX4_run_153 : decode cX4_run 153 = .ok (.laload, 1) := by decide +kernel
theorem dX4_run_154 : decode cX4_run 154 = .ok (.invokevirtual 88, 3) := by decide +kernel
theorem dX4_run_157 : decode cX4_run 157 = .ok (.iinc 2 1, 3) := by decide +kernel
theorem dX4_run_160 : decode cX4_run 160 = .ok (.aload_n 0, 1) := by decide +kernel
theorem dX4_run_161 : decode cX4_run 161 = .ok (.iload_n 3, 1) := by decide +kernel
theorem dX4_run_162 : decode cX4_run 162 = .ok (.invokevirtual 100, 3) := by decide +kernel
theorem dX4_run_165 : decode cX4_run 165 = .ok (.aload_n 0, 1) := by decide +kernel
theorem dX4_run_166 : decode cX4_run 166 = .ok (.iconst 0, 1) := by decide +kernel
theorem dX4_run_167 : decode cX4_run 167 = .ok (.invokevirtual 96, 3) := by decide +kernel
theorem dX4_run_170 : decode cX4_run 170 = .ok (.istore_n 3, 1) := by decide +kernel
theorem dX4_run_171 : decode cX4_run 171 = .ok (.goto (-139), 3) := by decide +kernel
theorem dX4_run_174 : decode cX4_run 174 = .ok (.aload_n 0, 1) := by decide +kernel
theorem dX4_run_175 : decode cX4_run 175 = .ok (.getfield 7, 3) := by decide +kernel
theorem dX4_run_178 : decode cX4_run 178 = .ok (.iconst 0, 1) := by decide +kernel
theorem dX4_run_179 : decode cX4_run 179 = .ok (.aload_n 0, 1) := by decide +kernel
theorem dX4_run_180 : decode cX4_run 180 = .ok (.getfield 7, 3) := by decide +kernel
theorem dX4_run_183 : decode cX4_run 183 = .ok (.iconst 0, 1) := by decide +kernel
theorem dX4_run_184 : decode cX4_run 184 = .ok (.laload, 1) := by decide +kernel
theorem dX4_run_185 : decode cX4_run 185 = .ok (.iload_n 1, 1) := by decide +kernel
theorem dX4_run_186 : decode cX4_run 186 = .ok (.i2l, 1) := by decide +kernel
theorem dX4_run_187 : decode cX4_run 187 = .ok (.lcmp, 1) := by decide +kernel
theorem dX4_run_188 : decode cX4_run 188 = .ok (.ifCond .ge 8, 3) := by decide +kernel
theorem dX4_run_191 : decode cX4_run 191 = .ok (.iload_n 1, 1) := by decide +kernel
theorem dX4_run_192 : decode cX4_run 192 = .ok (.i2l, 1) := by decide +kernel
theorem dX4_run_193 : decode cX4_run 193 = .ok (.goto 9, 3) := by decide +kernel
theorem dX4_run_196 : decode cX4_run 196 = .ok (.aload_n 0, 1) := by decide +kernel
theorem dX4_run_197 : decode cX4_run 197 = .ok (.getfield 7, 3) := by decide +kernel
theorem dX4_run_200 : decode cX4_run 200 = .ok (.iconst 0, 1) := by decide +kernel
theorem dX4_run_201 : decode cX4_run 201 = .ok (.laload, 1) := by decide +kernel
theorem dX4_run_202 : decode cX4_run 202 = .ok (.lastore, 1) := by decide +kernel
theorem dX4_run_203 : decode cX4_run 203 = .ok (.iload_n 2, 1) := by decide +kernel
theorem dX4_run_204 : decode cX4_run 204 = .ok (.ireturn, 1) := by decide +kernel
theorem dX4_now_0 : decode cX4_now 0 = .ok (.aload_n 0, 1) := by decide +kernel
theorem dX4_now_1 : decode cX4_now 1 = .ok (.iconst 0, 1) := by decide +kernel
theorem dX4_now_2 : decode cX4_now 2 = .ok (.putfield 16, 3) := by decide +kernel
theorem dX4_now_5 : decode cX4_now 5 = .ok (.aload_n 0, 1) := by decide +kernel
theorem dX4_now_6 : decode cX4_now 6 = .ok (.getfield 7, 3) := by decide +kernel
theorem dX4_now_9 : decode cX4_now 9 = .ok (.iconst 0, 1) := by decide +kernel
theorem dX4_now_10 : decode cX4_now 10 = .ok (.laload, 1) := by decide +kernel
theorem dX4_now_11 : decode cX4_now 11 = .ok (.lreturn, 1) := by decide +kernel
theorem dX4_exchanges_0 : decode cX4_exchanges 0 = .ok (.aload_n 0, 1) := by decide +kernel
theorem dX4_exchanges_1 : decode cX4_exchanges 1 = .ok (.iconst 0, 1) := by decide +kernel
theorem dX4_exchanges_2 : decode cX4_exchanges 2 = .ok (.putfield 16, 3) := by decide +kernel
theorem dX4_exchanges_5 : decode cX4_exchanges 5 = .ok (.aload_n 0, 1) := by decide +kernel
theorem dX4_exchanges_6 : decode cX4_exchanges 6 = .ok (.getfield 7, 3) := by decide +kernel
theorem dX4_exchanges_9 : decode cX4_exchanges 9 = .ok (.bipush 38, 2) := by decide +kernel
theorem dX4_exchanges_11 : decode cX4_exchanges 11 = .ok (.laload, 1) := by decide +kernel
theorem dX4_exchanges_12 : decode cX4_exchanges 12 = .ok (.l2i, 1) := by decide +kernel
theorem dX4_exchanges_13 : decode cX4_exchanges 13 = .ok (.ireturn, 1) := by decide +kernel
theorem dX4_isExchange_0 : decode cX4_isExchange 0 = .ok (.iload_n 1, 1) := by decide +kernel
theorem dX4_isExchange_1 : decode cX4_isExchange 1 = .ok (.i2l, 1) := by decide +kernel
theorem dX4_isExchange_2 : decode cX4_isExchange 2 = .ok (.lconst 0, 1) := by decide +kernel
theorem dX4_isExchange_3 : decode cX4_isExchange 3 = .ok (.aload_n 0, 1) := by decide +kernel
theorem dX4_isExchange_4 : decode cX4_isExchange 4 = .ok (.getfield 7, 3) := by decide +kernel
theorem dX4_isExchange_7 : decode cX4_isExchange 7 = .ok (.bipush 38, 2) := by decide +kernel
theorem dX4_isExchange_9 : decode cX4_isExchange 9 = .ok (.laload, 1) := by decide +kernel
theorem dX4_isExchange_10 : decode cX4_isExchange 10 = .ok (.lconst 1, 1) := by decide +kernel
theorem dX4_isExchange_11 : decode cX4_isExchange 11 = .ok (.lsub, 1) := by decide +kernel
theorem dX4_isExchange_12 : decode cX4_isExchange 12 = .ok (.invokestatic 23, 3) := by decide +kernel
theorem dX4_isExchange_15 : decode cX4_isExchange 15 = .ok (.ireturn, 1) := by decide +kernel
theorem dX4_inExchange_0 : decode cX4_inExchange 0 = .ok (.aload_n 0, 1) := by decide +kernel
theorem dX4_inExchange_1 : decode cX4_inExchange 1 = .ok (.getfield 7, 3) := by decide +kernel
theorem dX4_inExchange_4 : decode cX4_inExchange 4 = .ok (.bipush 39, 2) := by decide +kernel
theorem dX4_inExchange_6 : decode cX4_inExchange 6 = .ok (.bipush 8, 2) := by decide +kernel
theorem dX4_inExchange_8 : decode cX4_inExchange 8 = .ok (.iload_n 1, 1) := by decide +kernel
theorem dX4_inExchange_9 : decode cX4_inExchange 9 = .ok (.imul, 1) := by decide +kernel
theorem dX4_inExchange_10 : decode cX4_inExchange 10 = .ok (.iadd, 1) := by decide +kernel
theorem dX4_inExchange_11 : decode cX4_inExchange 11 = .ok (.iload_n 2, 1) := by decide +kernel
theorem dX4_inExchange_12 : decode cX4_inExchange 12 = .ok (.iadd, 1) := by decide +kernel
theorem dX4_inExchange_13 : decode cX4_inExchange 13 = .ok (.laload, 1) := by decide +kernel
theorem dX4_inExchange_14 : decode cX4_inExchange 14 = .ok (.lreturn, 1) := by decide +kernel
theorem dX4_stamp_0 : decode cX4_stamp 0 = .ok (.aload_n 0, 1) := by decide +kernel
theorem dX4_stamp_1 : decode cX4_stamp 1 = .ok (.aload_n 0, 1) := by decide +kernel
theorem dX4_stamp_2 : decode cX4_stamp 2 = .ok (.iload_n 1, 1) := by decide +kernel
theorem dX4_stamp_3 : decode cX4_stamp 3 = .ok (.invokevirtual 104, 3) := by decide +kernel
theorem dX4_stamp_6 : decode cX4_stamp 6 = .ok (.iload_n 2, 1) := by decide +kernel
theorem dX4_stamp_7 : decode cX4_stamp 7 = .ok (.i2l, 1) := by decide +kernel
theorem dX4_stamp_8 : decode cX4_stamp 8 = .ok (.lconst 1, 1) := by decide +kernel
theorem dX4_stamp_9 : decode cX4_stamp 9 = .ok (.ldc2_w 43, 3) := by decide +kernel
theorem dX4_stamp_12 : decode cX4_stamp 12 = .ok (.invokestatic 23, 3) := by decide +kernel
theorem dX4_stamp_15 : decode cX4_stamp 15 = .ok (.iconst 1, 1) := by decide +kernel
theorem dX4_stamp_16 : decode cX4_stamp 16 = .ok (.invokevirtual 45, 3) := by decide +kernel
theorem dX4_stamp_19 : decode cX4_stamp 19 = .ok (.ifCond .eq 15, 3) := by decide +kernel
theorem dX4_stamp_22 : decode cX4_stamp 22 = .ok (.aload_n 0, 1) := by decide +kernel
theorem dX4_stamp_23 : decode cX4_stamp 23 = .ok (.iload_n 1, 1) := by decide +kernel
theorem dX4_stamp_24 : decode cX4_stamp 24 = .ok (.iconst 1, 1) := by decide +kernel
theorem dX4_stamp_25 : decode cX4_stamp 25 = .ok (.iload_n 2, 1) := by decide +kernel
theorem dX4_stamp_26 : decode cX4_stamp 26 = .ok (.iadd, 1) := by decide +kernel
theorem dX4_stamp_27 : decode cX4_stamp 27 = .ok (.invokevirtual 107, 3) := by decide +kernel
theorem dX4_stamp_30 : decode cX4_stamp 30 = .ok (.l2i, 1) := by decide +kernel
theorem dX4_stamp_31 : decode cX4_stamp 31 = .ok (.goto 4, 3) := by decide +kernel
theorem dX4_stamp_34 : decode cX4_stamp 34 = .ok (.iconst 0, 1) := by decide +kernel
theorem dX4_stamp_35 : decode cX4_stamp 35 = .ok (.ireturn, 1) := by decide +kernel
theorem dX4_party_0 : decode cX4_party 0 = .ok (.aload_n 0, 1) := by decide +kernel
theorem dX4_party_1 : decode cX4_party 1 = .ok (.aload_n 0, 1) := by decide +kernel
theorem dX4_party_2 : decode cX4_party 2 = .ok (.iload_n 1, 1) := by decide +kernel
theorem dX4_party_3 : decode cX4_party 3 = .ok (.invokevirtual 104, 3) := by decide +kernel
theorem dX4_party_6 : decode cX4_party 6 = .ok (.iload_n 2, 1) := by decide +kernel
theorem dX4_party_7 : decode cX4_party 7 = .ok (.i2l, 1) := by decide +kernel
theorem dX4_party_8 : decode cX4_party 8 = .ok (.lconst 0, 1) := by decide +kernel
theorem dX4_party_9 : decode cX4_party 9 = .ok (.lconst 1, 1) := by decide +kernel
theorem dX4_party_10 : decode cX4_party 10 = .ok (.invokestatic 23, 3) := by decide +kernel
theorem dX4_party_13 : decode cX4_party 13 = .ok (.iconst 1, 1) := by decide +kernel
theorem dX4_party_14 : decode cX4_party 14 = .ok (.invokevirtual 45, 3) := by decide +kernel
theorem dX4_party_17 : decode cX4_party 17 = .ok (.ifCond .eq 13, 3) := by decide +kernel
theorem dX4_party_20 : decode cX4_party 20 = .ok (.aload_n 0, 1) := by decide +kernel
theorem dX4_party_21 : decode cX4_party 21 = .ok (.iload_n 1, 1) := by decide +kernel
theorem dX4_party_22 : decode cX4_party 22 = .ok (.iload_n 2, 1) := by decide +kernel
theorem dX4_party_23 : decode cX4_party 23 = .ok (.invokevirtual 107, 3) := by decide +kernel
theorem dX4_party_26 : decode cX4_party 26 = .ok (.l2i, 1) := by decide +kernel
theorem dX4_party_27 : decode cX4_party 27 = .ok (.goto 4, 3) := by decide +kernel
theorem dX4_party_30 : decode cX4_party 30 = .ok (.iconst 0, 1) := by decide +kernel
theorem dX4_party_31 : decode cX4_party 31 = .ok (.ireturn, 1) := by decide +kernel
theorem dX4_floor_0 : decode cX4_floor 0 = .ok (.lload_n 0, 1) := by decide +kernel
theorem dX4_floor_1 : decode cX4_floor 1 = .ok (.lload_n 2, 1) := by decide +kernel
theorem dX4_floor_2 : decode cX4_floor 2 = .ok (.ldiv, 1) := by decide +kernel
theorem dX4_floor_3 : decode cX4_floor 3 = .ok (.lstore 4, 2) := by decide +kernel
theorem dX4_floor_5 : decode cX4_floor 5 = .ok (.lload_n 0, 1) := by decide +kernel
theorem dX4_floor_6 : decode cX4_floor 6 = .ok (.lload_n 2, 1) := by decide +kernel
theorem dX4_floor_7 : decode cX4_floor 7 = .ok (.lrem, 1) := by decide +kernel
theorem dX4_floor_8 : decode cX4_floor 8 = .ok (.lconst 0, 1) := by decide +kernel
theorem dX4_floor_9 : decode cX4_floor 9 = .ok (.lcmp, 1) := by decide +kernel
theorem dX4_floor_10 : decode cX4_floor 10 = .ok (.ifCond .eq 35, 3) := by decide +kernel
theorem dX4_floor_13 : decode cX4_floor 13 = .ok (.lload_n 0, 1) := by decide +kernel
theorem dX4_floor_14 : decode cX4_floor 14 = .ok (.lconst 0, 1) := by decide +kernel
theorem dX4_floor_15 : decode cX4_floor 15 = .ok (.lcmp, 1) := by decide +kernel
theorem dX4_floor_16 : decode cX4_floor 16 = .ok (.ifCond .ge 7, 3) := by decide +kernel
theorem dX4_floor_19 : decode cX4_floor 19 = .ok (.iconst 1, 1) := by decide +kernel
theorem dX4_floor_20 : decode cX4_floor 20 = .ok (.goto 4, 3) := by decide +kernel
theorem dX4_floor_23 : decode cX4_floor 23 = .ok (.iconst 0, 1) := by decide +kernel
theorem dX4_floor_24 : decode cX4_floor 24 = .ok (.lload_n 2, 1) := by decide +kernel
theorem dX4_floor_25 : decode cX4_floor 25 = .ok (.lconst 0, 1) := by decide +kernel
theorem dX4_floor_26 : decode cX4_floor 26 = .ok (.lcmp, 1) := by decide +kernel
theorem dX4_floor_27 : decode cX4_floor 27 = .ok (.ifCond .ge 7, 3) := by decide +kernel
theorem dX4_floor_30 : decode cX4_floor 30 = .ok (.iconst 1, 1) := by decide +kernel
theorem dX4_floor_31 : decode cX4_floor 31 = .ok (.goto 4, 3) := by decide +kernel
theorem dX4_floor_34 : decode cX4_floor 34 = .ok (.iconst 0, 1) := by decide +kernel
theorem dX4_floor_35 : decode cX4_floor 35 = .ok (.if_icmp .eq 10, 3) := by decide +kernel
theorem dX4_floor_38 : decode cX4_floor 38 = .ok (.lload 4, 2) := by decide +kernel
theorem dX4_floor_40 : decode cX4_floor 40 = .ok (.lconst 1, 1) := by decide +kernel
theorem dX4_floor_41 : decode cX4_floor 41 = .ok (.lsub, 1) := by decide +kernel
theorem dX4_floor_42 : decode cX4_floor 42 = .ok (.goto 5, 3) := by decide +kernel
theorem dX4_floor_45 : decode cX4_floor 45 = .ok (.lload 4, 2) := by decide +kernel
theorem dX4_floor_47 : decode cX4_floor 47 = .ok (.lreturn, 1) := by decide +kernel
theorem dX4_span_0 : decode cX4_span 0 = .ok (.aload_n 0, 1) := by decide +kernel
theorem dX4_span_1 : decode cX4_span 1 = .ok (.iload_n 1, 1) := by decide +kernel
theorem dX4_span_2 : decode cX4_span 2 = .ok (.iconst 1, 1) := by decide +kernel
theorem dX4_span_3 : decode cX4_span 3 = .ok (.iload_n 3, 1) := by decide +kernel
theorem dX4_span_4 : decode cX4_span 4 = .ok (.iadd, 1) := by decide +kernel
theorem dX4_span_5 : decode cX4_span 5 = .ok (.invokevirtual 107, 3) := by decide +kernel
theorem dX4_span_8 : decode cX4_span 8 = .ok (.aload_n 0, 1) := by decide +kernel
theorem dX4_span_9 : decode cX4_span 9 = .ok (.iload_n 1, 1) := by decide +kernel
theorem dX4_span_10 : decode cX4_span 10 = .ok (.iconst 1, 1) := by decide +kernel
theorem dX4_span_11 : decode cX4_span 11 = .ok (.iload_n 2, 1) := by decide +kernel
theorem dX4_span_12 : decode cX4_span 12 = .ok (.iadd, 1) := by decide +kernel
theorem dX4_span_13 : decode cX4_span 13 = .ok (.invokevirtual 107, 3) := by decide +kernel
theorem dX4_span_16 : decode cX4_span 16 = .ok (.lsub, 1) := by decide +kernel
theorem dX4_span_17 : decode cX4_span 17 = .ok (.ldc2_w 72, 3) := by decide +kernel
theorem dX4_span_20 : decode cX4_span 20 = .ok (.ladd, 1) := by decide +kernel
theorem dX4_span_21 : decode cX4_span 21 = .ok (.ldc2_w 72, 3) := by decide +kernel
theorem dX4_span_24 : decode cX4_span 24 = .ok (.lrem, 1) := by decide +kernel
theorem dX4_span_25 : decode cX4_span 25 = .ok (.lreturn, 1) := by decide +kernel
theorem dX4_rawOf_0 : decode cX4_rawOf 0 = .ok (.aload_n 0, 1) := by decide +kernel
theorem dX4_rawOf_1 : decode cX4_rawOf 1 = .ok (.iload_n 1, 1) := by decide +kernel
theorem dX4_rawOf_2 : decode cX4_rawOf 2 = .ok (.iconst 1, 1) := by decide +kernel
theorem dX4_rawOf_3 : decode cX4_rawOf 3 = .ok (.iconst 4, 1) := by decide +kernel
theorem dX4_rawOf_4 : decode cX4_rawOf 4 = .ok (.invokevirtual 110, 3) := by decide +kernel
theorem dX4_rawOf_7 : decode cX4_rawOf 7 = .ok (.lstore_n 3, 1) := by decide +kernel
theorem dX4_rawOf_8 : decode cX4_rawOf 8 = .ok (.aload_n 0, 1) := by decide +kernel
theorem dX4_rawOf_9 : decode cX4_rawOf 9 = .ok (.iload_n 1, 1) := by decide +kernel
theorem dX4_rawOf_10 : decode cX4_rawOf 10 = .ok (.iconst 2, 1) := by decide +kernel
theorem dX4_rawOf_11 : decode cX4_rawOf 11 = .ok (.iconst 3, 1) := by decide +kernel
theorem dX4_rawOf_12 : decode cX4_rawOf 12 = .ok (.invokevirtual 110, 3) := by decide +kernel
theorem dX4_rawOf_15 : decode cX4_rawOf 15 = .ok (.lstore 5, 2) := by decide +kernel
theorem dX4_rawOf_17 : decode cX4_rawOf 17 = .ok (.aload_n 0, 1) := by decide +kernel
theorem dX4_rawOf_18 : decode cX4_rawOf 18 = .ok (.iload_n 1, 1) := by decide +kernel
theorem dX4_rawOf_19 : decode cX4_rawOf 19 = .ok (.iconst 3, 1) := by decide +kernel
theorem dX4_rawOf_20 : decode cX4_rawOf 20 = .ok (.bipush 6, 2) := by decide +kernel
theorem dX4_rawOf_22 : decode cX4_rawOf 22 = .ok (.invokevirtual 110, 3) := by decide +kernel
theorem dX4_rawOf_25 : decode cX4_rawOf 25 = .ok (.lstore 7, 2) := by decide +kernel
theorem dX4_rawOf_27 : decode cX4_rawOf 27 = .ok (.aload_n 0, 1) := by decide +kernel
theorem dX4_rawOf_28 : decode cX4_rawOf 28 = .ok (.iload_n 1, 1) := by decide +kernel
theorem dX4_rawOf_29 : decode cX4_rawOf 29 = .ok (.iconst 4, 1) := by decide +kernel
theorem dX4_rawOf_30 : decode cX4_rawOf 30 = .ok (.iconst 5, 1) := by decide +kernel
theorem dX4_rawOf_31 : decode cX4_rawOf 31 = .ok (.invokevirtual 110, 3) := by decide +kernel
theorem dX4_rawOf_34 : decode cX4_rawOf 34 = .ok (.lstore 9, 2) := by decide +kernel
theorem dX4_rawOf_36 : decode cX4_rawOf 36 = .ok (.iload_n 2, 1) := by decide +kernel
theorem dX4_rawOf_37 : decode cX4_rawOf 37 = .ok (.ifCond .ne 14, 3) := by decide +kernel
theorem dX4_rawOf_40 : decode cX4_rawOf 40 = .ok (.lload_n 3, 1) := by decide +kernel
theorem dX4_rawOf_41 : decode cX4_rawOf 41 = .ok (.lload 5, 2) := by decide +kernel
theorem dX4_rawOf_43 : decode cX4_rawOf 43 = .ok (.lsub, 1) := by decide +kernel
theorem dX4_rawOf_44 : decode cX4_rawOf 44 = .ok (.ldc2_w 54, 3) := by decide +kernel
theorem dX4_rawOf_47 : decode cX4_rawOf 47 = .ok (.invokestatic 114, 3) := by decide +kernel
theorem dX4_rawOf_50 : decode cX4_rawOf 50 = .ok (.lreturn, 1) := by decide +kernel
theorem dX4_rawOf_51 : decode cX4_rawOf 51 = .ok (.iload_n 2, 1) := by decide +kernel
theorem dX4_rawOf_52 : decode cX4_rawOf 52 = .ok (.iconst 1, 1) := by decide +kernel
theorem dX4_rawOf_53 : decode cX4_rawOf 53 = .ok (.if_icmp .ne 20, 3) := by decide +kernel
theorem dX4_rawOf_56 : decode cX4_rawOf 56 = .ok (.lload_n 3, 1) := by decide +kernel
theorem dX4_rawOf_57 : decode cX4_rawOf 57 = .ok (.lload 5, 2) := by decide +kernel
theorem dX4_rawOf_59 : decode cX4_rawOf 59 = .ok (.lsub, 1) := by decide +kernel
theorem dX4_rawOf_60 : decode cX4_rawOf 60 = .ok (.lload 7, 2) := by decide +kernel
theorem dX4_rawOf_62 : decode cX4_rawOf 62 = .ok (.ladd, 1) := by decide +kernel
theorem dX4_rawOf_63 : decode cX4_rawOf 63 = .ok (.lload 9, 2) := by decide +kernel
theorem dX4_rawOf_65 : decode cX4_rawOf 65 = .ok (.lsub, 1) := by decide +kernel
theorem dX4_rawOf_66 : decode cX4_rawOf 66 = .ok (.ldc2_w 117, 3) := by decide +kernel
theorem dX4_rawOf_69 : decode cX4_rawOf 69 = .ok (.invokestatic 114, 3) := by decide +kernel
theorem dX4_rawOf_72 : decode cX4_rawOf 72 = .ok (.lreturn, 1) := by decide +kernel
theorem dX4_rawOf_73 : decode cX4_rawOf 73 = .ok (.lload_n 3, 1) := by decide +kernel
theorem dX4_rawOf_74 : decode cX4_rawOf 74 = .ok (.lload 7, 2) := by decide +kernel
theorem dX4_rawOf_76 : decode cX4_rawOf 76 = .ok (.ladd, 1) := by decide +kernel
theorem dX4_rawOf_77 : decode cX4_rawOf 77 = .ok (.lload 9, 2) := by decide +kernel
theorem dX4_rawOf_79 : decode cX4_rawOf 79 = .ok (.ladd, 1) := by decide +kernel
theorem dX4_rawOf_80 : decode cX4_rawOf 80 = .ok (.lload 5, 2) := by decide +kernel
theorem dX4_rawOf_82 : decode cX4_rawOf 82 = .ok (.ladd, 1) := by decide +kernel
theorem dX4_rawOf_83 : decode cX4_rawOf 83 = .ok (.lstore 11, 2) := by decide +kernel
theorem dX4_rawOf_85 : decode cX4_rawOf 85 = .ok (.lload 11, 2) := by decide +kernel
theorem dX4_rawOf_87 : decode cX4_rawOf 87 = .ok (.lconst 0, 1) := by decide +kernel
theorem dX4_rawOf_88 : decode cX4_rawOf 88 = .ok (.lcmp, 1) := by decide +kernel
theorem dX4_rawOf_89 : decode cX4_rawOf 89 = .ok (.ifCond .ne 7, 3) := by decide +kernel
theorem dX4_rawOf_92 : decode cX4_rawOf 92 = .ok (.lconst 0, 1) := by decide +kernel
theorem dX4_rawOf_93 : decode cX4_rawOf 93 = .ok (.goto 18, 3) := by decide +kernel
theorem dX4_rawOf_96 : decode cX4_rawOf 96 = .ok (.lload_n 3, 1) := by decide +kernel
theorem dX4_rawOf_97 : decode cX4_rawOf 97 = .ok (.lload 7, 2) := by decide +kernel
theorem dX4_rawOf_99 : decode cX4_rawOf 99 = .ok (.lmul, 1) := by decide +kernel
theorem dX4_rawOf_100 : decode cX4_rawOf 100 = .ok (.lload 9, 2) := by decide +kernel
theorem dX4_rawOf_102 : decode cX4_rawOf 102 = .ok (.lload 5, 2) := by decide +kernel
theorem dX4_rawOf_104 : decode cX4_rawOf 104 = .ok (.lmul, 1) := by decide +kernel
theorem dX4_rawOf_105 : decode cX4_rawOf 105 = .ok (.lsub, 1) := by decide +kernel
theorem dX4_rawOf_106 : decode cX4_rawOf 106 = .ok (.lload 11, 2) := by decide +kernel
theorem dX4_rawOf_108 : decode cX4_rawOf 108 = .ok (.invokestatic 114, 3) := by decide +kernel
theorem dX4_rawOf_111 : decode cX4_rawOf 111 = .ok (.lreturn, 1) := by decide +kernel
theorem dX4_first_0 : decode cX4_first 0 = .ok (.aload_n 0, 1) := by decide +kernel
theorem dX4_first_1 : decode cX4_first 1 = .ok (.iload_n 1, 1) := by decide +kernel
theorem dX4_first_2 : decode cX4_first 2 = .ok (.iconst 0, 1) := by decide +kernel
theorem dX4_first_3 : decode cX4_first 3 = .ok (.invokevirtual 107, 3) := by decide +kernel
theorem dX4_first_6 : decode cX4_first 6 = .ok (.l2i, 1) := by decide +kernel
theorem dX4_first_7 : decode cX4_first 7 = .ok (.ireturn, 1) := by decide +kernel
theorem dX4_second_0 : decode cX4_second 0 = .ok (.aload_n 0, 1) := by decide +kernel
theorem dX4_second_1 : decode cX4_second 1 = .ok (.iload_n 1, 1) := by decide +kernel
theorem dX4_second_2 : decode cX4_second 2 = .ok (.iconst 1, 1) := by decide +kernel
theorem dX4_second_3 : decode cX4_second 3 = .ok (.invokevirtual 107, 3) := by decide +kernel
theorem dX4_second_6 : decode cX4_second 6 = .ok (.l2i, 1) := by decide +kernel
theorem dX4_second_7 : decode cX4_second 7 = .ok (.ireturn, 1) := by decide +kernel
theorem dX4_rangeOf_0 : decode cX4_rangeOf 0 = .ok (.aload_n 0, 1) := by decide +kernel
theorem dX4_rangeOf_1 : decode cX4_rangeOf 1 = .ok (.iload_n 1, 1) := by decide +kernel
theorem dX4_rangeOf_2 : decode cX4_rangeOf 2 = .ok (.iload_n 2, 1) := by decide +kernel
theorem dX4_rangeOf_3 : decode cX4_rangeOf 3 = .ok (.invokevirtual 119, 3) := by decide +kernel
theorem dX4_rangeOf_6 : decode cX4_rangeOf 6 = .ok (.aload_n 0, 1) := by decide +kernel
theorem dX4_rangeOf_7 : decode cX4_rangeOf 7 = .ok (.aload_n 0, 1) := by decide +kernel
theorem dX4_rangeOf_8 : decode cX4_rangeOf 8 = .ok (.iload_n 1, 1) := by decide +kernel
theorem dX4_rangeOf_9 : decode cX4_rangeOf 9 = .ok (.invokevirtual 122, 3) := by decide +kernel
theorem dX4_rangeOf_12 : decode cX4_rangeOf 12 = .ok (.iconst 5, 1) := by decide +kernel
theorem dX4_rangeOf_13 : decode cX4_rangeOf 13 = .ok (.invokevirtual 56, 3) := by decide +kernel
theorem dX4_rangeOf_16 : decode cX4_rangeOf 16 = .ok (.lsub, 1) := by decide +kernel
theorem dX4_rangeOf_17 : decode cX4_rangeOf 17 = .ok (.aload_n 0, 1) := by decide +kernel
theorem dX4_rangeOf_18 : decode cX4_rangeOf 18 = .ok (.aload_n 0, 1) := by decide +kernel
theorem dX4_rangeOf_19 : decode cX4_rangeOf 19 = .ok (.iload_n 1, 1) := by decide +kernel
theorem dX4_rangeOf_20 : decode cX4_rangeOf 20 = .ok (.invokevirtual 125, 3) := by decide +kernel
theorem dX4_rangeOf_23 : decode cX4_rangeOf 23 = .ok (.iconst 5, 1) := by decide +kernel
theorem dX4_rangeOf_24 : decode cX4_rangeOf 24 = .ok (.invokevirtual 56, 3) := by decide +kernel
theorem dX4_rangeOf_27 : decode cX4_rangeOf 27 = .ok (.lsub, 1) := by decide +kernel
theorem dX4_rangeOf_28 : decode cX4_rangeOf 28 = .ok (.lreturn, 1) := by decide +kernel
theorem dX4_isMethod_0 : decode cX4_isMethod 0 = .ok (.iload_n 0, 1) := by decide +kernel
theorem dX4_isMethod_1 : decode cX4_isMethod 1 = .ok (.i2l, 1) := by decide +kernel
theorem dX4_isMethod_2 : decode cX4_isMethod 2 = .ok (.lconst 0, 1) := by decide +kernel
theorem dX4_isMethod_3 : decode cX4_isMethod 3 = .ok (.ldc2_w 54, 3) := by decide +kernel
theorem dX4_isMethod_6 : decode cX4_isMethod 6 = .ok (.invokestatic 23, 3) := by decide +kernel
theorem dX4_isMethod_9 : decode cX4_isMethod 9 = .ok (.ireturn, 1) := by decide +kernel
theorem dX4_range_0 : decode cX4_range 0 = .ok (.aload_n 0, 1) := by decide +kernel
theorem dX4_range_1 : decode cX4_range 1 = .ok (.aload_n 0, 1) := by decide +kernel
theorem dX4_range_2 : decode cX4_range 2 = .ok (.iload_n 1, 1) := by decide +kernel
theorem dX4_range_3 : decode cX4_range 3 = .ok (.invokevirtual 104, 3) := by decide +kernel
theorem dX4_range_6 : decode cX4_range 6 = .ok (.iload_n 2, 1) := by decide +kernel
theorem dX4_range_7 : decode cX4_range 7 = .ok (.invokestatic 128, 3) := by decide +kernel
theorem dX4_range_10 : decode cX4_range 10 = .ok (.iconst 1, 1) := by decide +kernel
theorem dX4_range_11 : decode cX4_range 11 = .ok (.invokevirtual 45, 3) := by decide +kernel
theorem dX4_range_14 : decode cX4_range 14 = .ok (.ifCond .eq 13, 3) := by decide +kernel
theorem dX4_range_17 : decode cX4_range 17 = .ok (.aload_n 0, 1) := by decide +kernel
theorem dX4_range_18 : decode cX4_range 18 = .ok (.iload_n 1, 1) := by decide +kernel
theorem dX4_range_19 : decode cX4_range 19 = .ok (.iload_n 2, 1) := by decide +kernel
theorem dX4_range_20 : decode cX4_range 20 = .ok (.invokevirtual 131, 3) := by decide +kernel
theorem dX4_range_23 : decode cX4_range 23 = .ok (.l2i, 1) := by decide +kernel
theorem dX4_range_24 : decode cX4_range 24 = .ok (.goto 4, 3) := by decide +kernel
theorem dX4_range_27 : decode cX4_range 27 = .ok (.iconst 0, 1) := by decide +kernel
theorem dX4_range_28 : decode cX4_range 28 = .ok (.ireturn, 1) := by decide +kernel
theorem dX4_latestOf_0 : decode cX4_latestOf 0 = .ok (.iconst (-1), 1) := by decide +kernel
theorem dX4_latestOf_1 : decode cX4_latestOf 1 = .ok (.istore_n 3, 1) := by decide +kernel
theorem dX4_latestOf_2 : decode cX4_latestOf 2 = .ok (.iconst 0, 1) := by decide +kernel
theorem dX4_latestOf_3 : decode cX4_latestOf 3 = .ok (.istore 4, 2) := by decide +kernel
theorem dX4_latestOf_5 : decode cX4_latestOf 5 = .ok (.iload 4, 2) := by decide +kernel
theorem dX4_latestOf_7 : decode cX4_latestOf 7 = .ok (.i2l, 1) := by decide +kernel
theorem dX4_latestOf_8 : decode cX4_latestOf 8 = .ok (.aload_n 0, 1) := by decide +kernel
theorem dX4_latestOf_9 : decode cX4_latestOf 9 = .ok (.getfield 7, 3) := by decide +kernel
theorem dX4_latestOf_12 : decode cX4_latestOf 12 = .ok (.bipush 38, 2) := by decide +kernel
theorem dX4_latestOf_14 : decode cX4_latestOf 14 = .ok (.laload, 1) := by decide +kernel
theorem dX4_latestOf_15 : decode cX4_latestOf 15 = .ok (.lcmp, 1) := by decide +kernel
theorem dX4_latestOf_16 : decode cX4_latestOf 16 = .ok (.ifCond .ge 56, 3) := by decide +kernel
theorem dX4_latestOf_19 : decode cX4_latestOf 19 = .ok (.aload_n 0, 1) := by decide +kernel
theorem dX4_latestOf_20 : decode cX4_latestOf 20 = .ok (.iload 4, 2) := by decide +kernel
theorem dX4_latestOf_22 : decode cX4_latestOf 22 = .ok (.invokevirtual 122, 3) := by decide +kernel
theorem dX4_latestOf_25 : decode cX4_latestOf 25 = .ok (.iload_n 1, 1) := by decide +kernel
theorem dX4_latestOf_26 : decode cX4_latestOf 26 = .ok (.if_icmp .ne 13, 3) := by decide +kernel
theorem dX4_latestOf_29 : decode cX4_latestOf 29 = .ok (.aload_n 0, 1) := by decide +kernel
theorem dX4_latestOf_30 : decode cX4_latestOf 30 = .ok (.iload 4, 2) := by decide +kernel
theorem dX4_latestOf_32 : decode cX4_latestOf 32 = .ok (.invokevirtual 125, 3) := by decide +kernel
theorem dX4_latestOf_35 : decode cX4_latestOf 35 = .ok (.iload_n 2, 1) := by decide +kernel
theorem dX4_latestOf_36 : decode cX4_latestOf 36 = .ok (.if_icmp .eq 23, 3) := by decide +kernel
theorem dX4_latestOf_39 : decode cX4_latestOf 39 = .ok (.aload_n 0, 1) := by decide +kernel
theorem dX4_latestOf_40 : decode cX4_latestOf 40 = .ok (.iload 4, 2) := by decide +kernel
theorem dX4_latestOf_42 : decode cX4_latestOf 42 = .ok (.invokevirtual 122, 3) := by decide +kernel
theorem dX4_latestOf_45 : decode cX4_latestOf 45 = .ok (.iload_n 2, 1) := by decide +kernel
theorem dX4_latestOf_46 : decode cX4_latestOf 46 = .ok (.if_icmp .ne 18, 3) := by decide +kernel
theorem dX4_latestOf_49 : decode cX4_latestOf 49 = .ok (.aload_n 0, 1) := by decide +kernel
theorem dX4_latestOf_50 : decode cX4_latestOf 50 = .ok (.iload 4, 2) := by decide +kernel
theorem dX4_latestOf_52 : decode cX4_latestOf 52 = .ok (.invokevirtual 125, 3) := by decide +kernel
theorem dX4_latestOf_55 : decode cX4_latestOf 55 = .ok (.iload_n 1, 1) := by decide +kernel
theorem dX4_latestOf_56 : decode cX4_latestOf 56 = .ok (.if_icmp .ne 8, 3) := by decide +kernel
theorem dX4_latestOf_59 : decode cX4_latestOf 59 = .ok (.iload 4, 2) := by decide +kernel
theorem dX4_latestOf_61 : decode cX4_latestOf 61 = .ok (.goto 4, 3) := by decide +kernel
theorem dX4_latestOf_64 : decode cX4_latestOf 64 = .ok (.iload_n 3, 1) := by decide +kernel
theorem dX4_latestOf_65 : decode cX4_latestOf 65 = .ok (.istore_n 3, 1) := by decide +kernel
theorem dX4_latestOf_66 : decode cX4_latestOf 66 = .ok (.iinc 4 1, 3) := by decide +kernel
theorem dX4_latestOf_69 : decode cX4_latestOf 69 = .ok (.goto (-64), 3) := by decide +kernel
theorem dX4_latestOf_72 : decode cX4_latestOf 72 = .ok (.iload_n 3, 1) := by decide +kernel
theorem dX4_latestOf_73 : decode cX4_latestOf 73 = .ok (.ireturn, 1) := by decide +kernel
theorem dX4_latestRange_0 : decode cX4_latestRange 0 = .ok (.aload_n 0, 1) := by decide +kernel
theorem dX4_latestRange_1 : decode cX4_latestRange 1 = .ok (.aload_n 0, 1) := by decide +kernel
theorem dX4_latestRange_2 : decode cX4_latestRange 2 = .ok (.iload_n 1, 1) := by decide +kernel
theorem dX4_latestRange_3 : decode cX4_latestRange 3 = .ok (.invokevirtual 64, 3) := by decide +kernel
theorem dX4_latestRange_6 : decode cX4_latestRange 6 = .ok (.ifCond .eq 15, 3) := by decide +kernel
theorem dX4_latestRange_9 : decode cX4_latestRange 9 = .ok (.aload_n 0, 1) := by decide +kernel
theorem dX4_latestRange_10 : decode cX4_latestRange 10 = .ok (.iload_n 2, 1) := by decide +kernel
theorem dX4_latestRange_11 : decode cX4_latestRange 11 = .ok (.invokevirtual 64, 3) := by decide +kernel
theorem dX4_latestRange_14 : decode cX4_latestRange 14 = .ok (.ifCond .eq 7, 3) := by decide +kernel
theorem dX4_latestRange_17 : decode cX4_latestRange 17 = .ok (.iconst 1, 1) := by decide +kernel
theorem dX4_latestRange_18 : decode cX4_latestRange 18 = .ok (.goto 4, 3) := by decide +kernel
theorem dX4_latestRange_21 : decode cX4_latestRange 21 = .ok (.iconst 0, 1) := by decide +kernel
theorem dX4_latestRange_22 : decode cX4_latestRange 22 = .ok (.iload_n 3, 1) := by decide +kernel
theorem dX4_latestRange_23 : decode cX4_latestRange 23 = .ok (.invokestatic 128, 3) := by decide +kernel
theorem dX4_latestRange_26 : decode cX4_latestRange 26 = .ok (.aload_n 0, 1) := by decide +kernel
theorem dX4_latestRange_27 : decode cX4_latestRange 27 = .ok (.iload_n 1, 1) := by decide +kernel
theorem dX4_latestRange_28 : decode cX4_latestRange 28 = .ok (.iload_n 2, 1) := by decide +kernel
theorem dX4_latestRange_29 : decode cX4_latestRange 29 = .ok (.invokevirtual 134, 3) := by decide +kernel
theorem dX4_latestRange_32 : decode cX4_latestRange 32 = .ok (.iconst (-1), 1) := by decide +kernel
theorem dX4_latestRange_33 : decode cX4_latestRange 33 = .ok (.if_icmp .eq 7, 3) := by decide +kernel
theorem dX4_latestRange_36 : decode cX4_latestRange 36 = .ok (.iconst 1, 1) := by decide +kernel
theorem dX4_latestRange_37 : decode cX4_latestRange 37 = .ok (.goto 4, 3) := by decide +kernel
theorem dX4_latestRange_40 : decode cX4_latestRange 40 = .ok (.iconst 0, 1) := by decide +kernel
theorem dX4_latestRange_41 : decode cX4_latestRange 41 = .ok (.invokevirtual 45, 3) := by decide +kernel
theorem dX4_latestRange_44 : decode cX4_latestRange 44 = .ok (.ifCond .eq 18, 3) := by decide +kernel
theorem dX4_latestRange_47 : decode cX4_latestRange 47 = .ok (.aload_n 0, 1) := by decide +kernel
theorem dX4_latestRange_48 : decode cX4_latestRange 48 = .ok (.aload_n 0, 1) := by decide +kernel
theorem dX4_latestRange_49 : decode cX4_latestRange 49 = .ok (.iload_n 1, 1) := by decide +kernel
theorem dX4_latestRange_50 : decode cX4_latestRange 50 = .ok (.iload_n 2, 1) := by decide +kernel
theorem dX4_latestRange_51 : decode cX4_latestRange 51 = .ok (.invokevirtual 134, 3) := by decide +kernel
theorem dX4_latestRange_54 : decode cX4_latestRange 54 = .ok (.iload_n 3, 1) := by decide +kernel
theorem dX4_latestRange_55 : decode cX4_latestRange 55 = .ok (.invokevirtual 131, 3) := by decide +kernel
theorem dX4_latestRange_58 : decode cX4_latestRange 58 = .ok (.l2i, 1) := by decide +kernel
theorem dX4_latestRange_59 : decode cX4_latestRange 59 = .ok (.goto 4, 3) := by decide +kernel
theorem dX4_latestRange_62 : decode cX4_latestRange 62 = .ok (.iconst 0, 1) := by decide +kernel
theorem dX4_latestRange_63 : decode cX4_latestRange 63 = .ok (.ireturn, 1) := by decide +kernel
theorem dX4_errorOf_0 : decode cX4_errorOf 0 = .ok (.aload_n 0, 1) := by decide +kernel
theorem dX4_errorOf_1 : decode cX4_errorOf 1 = .ok (.iload_n 1, 1) := by decide +kernel
theorem dX4_errorOf_2 : decode cX4_errorOf 2 = .ok (.iload_n 2, 1) := by decide +kernel
theorem dX4_errorOf_3 : decode cX4_errorOf 3 = .ok (.invokevirtual 131, 3) := by decide +kernel
theorem dX4_errorOf_6 : decode cX4_errorOf 6 = .ok (.aload_n 0, 1) := by decide +kernel
theorem dX4_errorOf_7 : decode cX4_errorOf 7 = .ok (.aload_n 0, 1) := by decide +kernel
theorem dX4_errorOf_8 : decode cX4_errorOf 8 = .ok (.iload_n 1, 1) := by decide +kernel
theorem dX4_errorOf_9 : decode cX4_errorOf 9 = .ok (.invokevirtual 122, 3) := by decide +kernel
theorem dX4_errorOf_12 : decode cX4_errorOf 12 = .ok (.aload_n 0, 1) := by decide +kernel
theorem dX4_errorOf_13 : decode cX4_errorOf 13 = .ok (.iload_n 1, 1) := by decide +kernel
theorem dX4_errorOf_14 : decode cX4_errorOf 14 = .ok (.invokevirtual 125, 3) := by decide +kernel
theorem dX4_errorOf_17 : decode cX4_errorOf 17 = .ok (.invokevirtual 67, 3) := by decide +kernel
theorem dX4_errorOf_20 : decode cX4_errorOf 20 = .ok (.lsub, 1) := by decide +kernel
theorem dX4_errorOf_21 : decode cX4_errorOf 21 = .ok (.lreturn, 1) := by decide +kernel
theorem dX4_worstError_0 : decode cX4_worstError 0 = .ok (.aload_n 0, 1) := by decide +kernel
theorem dX4_worstError_1 : decode cX4_worstError 1 = .ok (.iload_n 1, 1) := by decide +kernel
theorem dX4_worstError_2 : decode cX4_worstError 2 = .ok (.invokestatic 128, 3) := by decide +kernel
theorem dX4_worstError_5 : decode cX4_worstError 5 = .ok (.iconst 1, 1) := by decide +kernel
theorem dX4_worstError_6 : decode cX4_worstError 6 = .ok (.iconst 1, 1) := by decide +kernel
theorem dX4_worstError_7 : decode cX4_worstError 7 = .ok (.invokevirtual 45, 3) := by decide +kernel
theorem dX4_worstError_10 : decode cX4_worstError 10 = .ok (.ifCond .ne 5, 3) := by decide +kernel
theorem dX4_worstError_13 : decode cX4_worstError 13 = .ok (.iconst 0, 1) := by decide +kernel
theorem dX4_worstError_14 : decode cX4_worstError 14 = .ok (.ireturn, 1) := by decide +kernel
theorem dX4_worstError_15 : decode cX4_worstError 15 = .ok (.ldc2_w 138, 3) := by decide +kernel
theorem dX4_worstError_18 : decode cX4_worstError 18 = .ok (.lstore_n 2, 1) := by decide +kernel
theorem dX4_worstError_19 : decode cX4_worstError 19 = .ok (.iconst 0, 1) := by decide +kernel
theorem dX4_worstError_20 : decode cX4_worstError 20 = .ok (.istore 4, 2) := by decide +kernel
theorem dX4_worstError_22 : decode cX4_worstError 22 = .ok (.iload 4, 2) := by decide +kernel
theorem dX4_worstError_24 : decode cX4_worstError 24 = .ok (.i2l, 1) := by decide +kernel
theorem dX4_worstError_25 : decode cX4_worstError 25 = .ok (.aload_n 0, 1) := by decide +kernel
theorem dX4_worstError_26 : decode cX4_worstError 26 = .ok (.getfield 7, 3) := by decide +kernel
theorem dX4_worstError_29 : decode cX4_worstError 29 = .ok (.bipush 38, 2) := by decide +kernel
theorem dX4_worstError_31 : decode cX4_worstError 31 = .ok (.laload, 1) := by decide +kernel
theorem dX4_worstError_32 : decode cX4_worstError 32 = .ok (.lcmp, 1) := by decide +kernel
theorem dX4_worstError_33 : decode cX4_worstError 33 = .ok (.ifCond .ge 49, 3) := by decide +kernel
theorem dX4_worstError_36 : decode cX4_worstError 36 = .ok (.aload_n 0, 1) := by decide +kernel
theorem dX4_worstError_37 : decode cX4_worstError 37 = .ok (.iload 4, 2) := by decide +kernel
theorem dX4_worstError_39 : decode cX4_worstError 39 = .ok (.iload_n 1, 1) := by decide +kernel
theorem dX4_worstError_40 : decode cX4_worstError 40 = .ok (.invokevirtual 140, 3) := by decide +kernel
theorem dX4_worstError_43 : decode cX4_worstError 43 = .ok (.lstore 5, 2) := by decide +kernel
theorem dX4_worstError_45 : decode cX4_worstError 45 = .ok (.lload 5, 2) := by decide +kernel
theorem dX4_worstError_47 : decode cX4_worstError 47 = .ok (.lconst 0, 1) := by decide +kernel
theorem dX4_worstError_48 : decode cX4_worstError 48 = .ok (.lcmp, 1) := by decide +kernel
theorem dX4_worstError_49 : decode cX4_worstError 49 = .ok (.ifCond .ge 9, 3) := by decide +kernel
theorem dX4_worstError_52 : decode cX4_worstError 52 = .ok (.lload 5, 2) := by decide +kernel
theorem dX4_worstError_54 : decode cX4_worstError 54 = .ok (.lneg, 1) := by decide +kernel
theorem dX4_worstError_55 : decode cX4_worstError 55 = .ok (.goto 5, 3) := by decide +kernel
theorem dX4_worstError_58 : decode cX4_worstError 58 = .ok (.lload 5, 2) := by decide +kernel
theorem dX4_worstError_60 : decode cX4_worstError 60 = .ok (.lstore 7, 2) := by decide +kernel
theorem dX4_worstError_62 : decode cX4_worstError 62 = .ok (.lload 7, 2) := by decide +kernel
theorem dX4_worstError_64 : decode cX4_worstError 64 = .ok (.lload_n 2, 1) := by decide +kernel
theorem dX4_worstError_65 : decode cX4_worstError 65 = .ok (.lcmp, 1) := by decide +kernel
theorem dX4_worstError_66 : decode cX4_worstError 66 = .ok (.ifCond .le 8, 3) := by decide +kernel
theorem dX4_worstError_69 : decode cX4_worstError 69 = .ok (.lload 7, 2) := by decide +kernel
theorem dX4_worstError_71 : decode cX4_worstError 71 = .ok (.goto 4, 3) := by decide +kernel
theorem dX4_worstError_74 : decode cX4_worstError 74 = .ok (.lload_n 2, 1) := by decide +kernel
theorem dX4_worstError_75 : decode cX4_worstError 75 = .ok (.lstore_n 2, 1) := by decide +kernel
theorem dX4_worstError_76 : decode cX4_worstError 76 = .ok (.iinc 4 1, 3) := by decide +kernel
theorem dX4_worstError_79 : decode cX4_worstError 79 = .ok (.goto (-57), 3) := by decide +kernel
theorem dX4_worstError_82 : decode cX4_worstError 82 = .ok (.lload_n 2, 1) := by decide +kernel
theorem dX4_worstError_83 : decode cX4_worstError 83 = .ok (.l2i, 1) := by decide +kernel
theorem dX4_worstError_84 : decode cX4_worstError 84 = .ok (.ireturn, 1) := by decide +kernel
theorem dX4_meanError_0 : decode cX4_meanError 0 = .ok (.aload_n 0, 1) := by decide +kernel
theorem dX4_meanError_1 : decode cX4_meanError 1 = .ok (.iload_n 1, 1) := by decide +kernel
theorem dX4_meanError_2 : decode cX4_meanError 2 = .ok (.invokestatic 128, 3) := by decide +kernel
theorem dX4_meanError_5 : decode cX4_meanError 5 = .ok (.iconst 1, 1) := by decide +kernel
theorem dX4_meanError_6 : decode cX4_meanError 6 = .ok (.iconst 1, 1) := by decide +kernel
theorem dX4_meanError_7 : decode cX4_meanError 7 = .ok (.invokevirtual 45, 3) := by decide +kernel
theorem dX4_meanError_10 : decode cX4_meanError 10 = .ok (.ifCond .eq 15, 3) := by decide +kernel
theorem dX4_meanError_13 : decode cX4_meanError 13 = .ok (.aload_n 0, 1) := by decide +kernel
theorem dX4_meanError_14 : decode cX4_meanError 14 = .ok (.getfield 7, 3) := by decide +kernel
theorem dX4_meanError_17 : decode cX4_meanError 17 = .ok (.bipush 38, 2) := by decide +kernel
theorem dX4_meanError_19 : decode cX4_meanError 19 = .ok (.laload, 1) := by decide +kernel
theorem dX4_meanError_20 : decode cX4_meanError 20 = .ok (.lconst 0, 1) := by decide +kernel
theorem dX4_meanError_21 : decode cX4_meanError 21 = .ok (.lcmp, 1) := by decide +kernel
theorem dX4_meanError_22 : decode cX4_meanError 22 = .ok (.ifCond .ne 5, 3) := by decide +kernel
theorem dX4_meanError_25 : decode cX4_meanError 25 = .ok (.dconst 0, 1) := by decide +kernel
theorem dX4_meanError_26 : decode cX4_meanError 26 = .ok (.dreturn, 1) := by decide +kernel
theorem dX4_meanError_27 : decode cX4_meanError 27 = .ok (.lconst 0, 1) := by decide +kernel
theorem dX4_meanError_28 : decode cX4_meanError 28 = .ok (.lstore_n 2, 1) := by decide +kernel
theorem dX4_meanError_29 : decode cX4_meanError 29 = .ok (.iconst 0, 1) := by decide +kernel
theorem dX4_meanError_30 : decode cX4_meanError 30 = .ok (.istore 4, 2) := by decide +kernel
theorem dX4_meanError_32 : decode cX4_meanError 32 = .ok (.iload 4, 2) := by decide +kernel
theorem dX4_meanError_34 : decode cX4_meanError 34 = .ok (.i2l, 1) := by decide +kernel
theorem dX4_meanError_35 : decode cX4_meanError 35 = .ok (.aload_n 0, 1) := by decide +kernel
theorem dX4_meanError_36 : decode cX4_meanError 36 = .ok (.getfield 7, 3) := by decide +kernel
theorem dX4_meanError_39 : decode cX4_meanError 39 = .ok (.bipush 38, 2) := by decide +kernel
theorem dX4_meanError_41 : decode cX4_meanError 41 = .ok (.laload, 1) := by decide +kernel
theorem dX4_meanError_42 : decode cX4_meanError 42 = .ok (.lcmp, 1) := by decide +kernel
theorem dX4_meanError_43 : decode cX4_meanError 43 = .ok (.ifCond .ge 19, 3) := by decide +kernel
theorem dX4_meanError_46 : decode cX4_meanError 46 = .ok (.lload_n 2, 1) := by decide +kernel
theorem dX4_meanError_47 : decode cX4_meanError 47 = .ok (.aload_n 0, 1) := by decide +kernel
theorem dX4_meanError_48 : decode cX4_meanError 48 = .ok (.iload 4, 2) := by decide +kernel
theorem dX4_meanError_50 : decode cX4_meanError 50 = .ok (.iload_n 1, 1) := by decide +kernel
theorem dX4_meanError_51 : decode cX4_meanError 51 = .ok (.invokevirtual 140, 3) := by decide +kernel
theorem dX4_meanError_54 : decode cX4_meanError 54 = .ok (.ladd, 1) := by decide +kernel
theorem dX4_meanError_55 : decode cX4_meanError 55 = .ok (.lstore_n 2, 1) := by decide +kernel
theorem dX4_meanError_56 : decode cX4_meanError 56 = .ok (.iinc 4 1, 3) := by decide +kernel
theorem dX4_meanError_59 : decode cX4_meanError 59 = .ok (.goto (-27), 3) := by decide +kernel
theorem dX4_meanError_62 : decode cX4_meanError 62 = .ok (.lload_n 2, 1) := by decide +kernel
theorem dX4_meanError_63 : decode cX4_meanError 63 = .ok (.l2d, 1) := by decide +kernel
theorem dX4_meanError_64 : decode cX4_meanError 64 = .ok (.dstore 4, 2) := by decide +kernel
theorem dX4_meanError_66 : decode cX4_meanError 66 = .ok (.aload_n 0, 1) := by decide +kernel
theorem dX4_meanError_67 : decode cX4_meanError 67 = .ok (.getfield 7, 3) := by decide +kernel
theorem dX4_meanError_70 : decode cX4_meanError 70 = .ok (.bipush 38, 2) := by decide +kernel
theorem dX4_meanError_72 : decode cX4_meanError 72 = .ok (.laload, 1) := by decide +kernel
theorem dX4_meanError_73 : decode cX4_meanError 73 = .ok (.l2d, 1) := by decide +kernel
theorem dX4_meanError_74 : decode cX4_meanError 74 = .ok (.dstore 6, 2) := by decide +kernel
theorem dX4_meanError_76 : decode cX4_meanError 76 = .ok (.dload 4, 2) := by decide +kernel
theorem dX4_meanError_78 : decode cX4_meanError 78 = .ok (.dload 6, 2) := by decide +kernel
theorem dX4_meanError_80 : decode cX4_meanError 80 = .ok (.ddiv, 1) := by decide +kernel
theorem dX4_meanError_81 : decode cX4_meanError 81 = .ok (.dreturn, 1) := by decide +kernel
theorem dX4_relativeDrift_0 : decode cX4_relativeDrift 0 = .ok (.aload_n 0, 1) := by decide +kernel
theorem dX4_relativeDrift_1 : decode cX4_relativeDrift 1 = .ok (.iload_n 1, 1) := by decide +kernel
theorem dX4_relativeDrift_2 : decode cX4_relativeDrift 2 = .ok (.invokevirtual 104, 3) := by decide +kernel
theorem dX4_relativeDrift_5 : decode cX4_relativeDrift 5 = .ok (.istore_n 2, 1) := by decide +kernel
theorem dX4_relativeDrift_6 : decode cX4_relativeDrift 6 = .ok (.iload_n 2, 1) := by decide +kernel
theorem dX4_relativeDrift_7 : decode cX4_relativeDrift 7 = .ok (.ifCond .eq 22, 3) := by decide +kernel
theorem dX4_relativeDrift_10 : decode cX4_relativeDrift 10 = .ok (.aload_n 0, 1) := by decide +kernel
theorem dX4_relativeDrift_11 : decode cX4_relativeDrift 11 = .ok (.iload_n 1, 1) := by decide +kernel
theorem dX4_relativeDrift_12 : decode cX4_relativeDrift 12 = .ok (.iconst 3, 1) := by decide +kernel
theorem dX4_relativeDrift_13 : decode cX4_relativeDrift 13 = .ok (.bipush 6, 2) := by decide +kernel
theorem dX4_relativeDrift_15 : decode cX4_relativeDrift 15 = .ok (.invokevirtual 110, 3) := by decide +kernel
theorem dX4_relativeDrift_18 : decode cX4_relativeDrift 18 = .ok (.aload_n 0, 1) := by decide +kernel
theorem dX4_relativeDrift_19 : decode cX4_relativeDrift 19 = .ok (.iload_n 1, 1) := by decide +kernel
theorem dX4_relativeDrift_20 : decode cX4_relativeDrift 20 = .ok (.iconst 2, 1) := by decide +kernel
theorem dX4_relativeDrift_21 : decode cX4_relativeDrift 21 = .ok (.iconst 3, 1) := by decide +kernel
theorem dX4_relativeDrift_22 : decode cX4_relativeDrift 22 = .ok (.invokevirtual 110, 3) := by decide +kernel
theorem dX4_relativeDrift_25 : decode cX4_relativeDrift 25 = .ok (.ladd, 1) := by decide +kernel
theorem dX4_relativeDrift_26 : decode cX4_relativeDrift 26 = .ok (.goto 4, 3) := by decide +kernel
theorem dX4_relativeDrift_29 : decode cX4_relativeDrift 29 = .ok (.lconst 0, 1) := by decide +kernel
theorem dX4_relativeDrift_30 : decode cX4_relativeDrift 30 = .ok (.lstore_n 3, 1) := by decide +kernel
theorem dX4_relativeDrift_31 : decode cX4_relativeDrift 31 = .ok (.aload_n 0, 1) := by decide +kernel
theorem dX4_relativeDrift_32 : decode cX4_relativeDrift 32 = .ok (.iload_n 2, 1) := by decide +kernel
theorem dX4_relativeDrift_33 : decode cX4_relativeDrift 33 = .ok (.lload_n 3, 1) := by decide +kernel
theorem dX4_relativeDrift_34 : decode cX4_relativeDrift 34 = .ok (.lconst 0, 1) := by decide +kernel
theorem dX4_relativeDrift_35 : decode cX4_relativeDrift 35 = .ok (.lcmp, 1) := by decide +kernel
theorem dX4_relativeDrift_36 : decode cX4_relativeDrift 36 = .ok (.ifCond .eq 7, 3) := by decide +kernel
theorem dX4_relativeDrift_39 : decode cX4_relativeDrift 39 = .ok (.iconst 1, 1) := by decide +kernel
theorem dX4_relativeDrift_40 : decode cX4_relativeDrift 40 = .ok (.goto 4, 3) := by decide +kernel
theorem dX4_relativeDrift_43 : decode cX4_relativeDrift 43 = .ok (.iconst 0, 1) := by decide +kernel
theorem dX4_relativeDrift_44 : decode cX4_relativeDrift 44 = .ok (.iconst 1, 1) := by decide +kernel
theorem dX4_relativeDrift_45 : decode cX4_relativeDrift 45 = .ok (.invokevirtual 45, 3) := by decide +kernel
theorem dX4_relativeDrift_48 : decode cX4_relativeDrift 48 = .ok (.ifCond .ne 5, 3) := by decide +kernel
theorem dX4_relativeDrift_51 : decode cX4_relativeDrift 51 = .ok (.dconst 0, 1) := by decide +kernel
theorem dX4_relativeDrift_52 : decode cX4_relativeDrift 52 = .ok (.dreturn, 1) := by decide +kernel
theorem dX4_relativeDrift_53 : decode cX4_relativeDrift 53 = .ok (.aload_n 0, 1) := by decide +kernel
theorem dX4_relativeDrift_54 : decode cX4_relativeDrift 54 = .ok (.iload_n 1, 1) := by decide +kernel
theorem dX4_relativeDrift_55 : decode cX4_relativeDrift 55 = .ok (.iconst 1, 1) := by decide +kernel
theorem dX4_relativeDrift_56 : decode cX4_relativeDrift 56 = .ok (.iconst 4, 1) := by decide +kernel
theorem dX4_relativeDrift_57 : decode cX4_relativeDrift 57 = .ok (.invokevirtual 110, 3) := by decide +kernel
theorem dX4_relativeDrift_60 : decode cX4_relativeDrift 60 = .ok (.aload_n 0, 1) := by decide +kernel
theorem dX4_relativeDrift_61 : decode cX4_relativeDrift 61 = .ok (.iload_n 1, 1) := by decide +kernel
theorem dX4_relativeDrift_62 : decode cX4_relativeDrift 62 = .ok (.iconst 4, 1) := by decide +kernel
theorem dX4_relativeDrift_63 : decode cX4_relativeDrift 63 = .ok (.iconst 5, 1) := by decide +kernel
theorem dX4_relativeDrift_64 : decode cX4_relativeDrift 64 = .ok (.invokevirtual 110, 3) := by decide +kernel
theorem dX4_relativeDrift_67 : decode cX4_relativeDrift 67 = .ok (.ladd, 1) := by decide +kernel
theorem dX4_relativeDrift_68 : decode cX4_relativeDrift 68 = .ok (.l2d, 1) := by decide +kernel
theorem dX4_relativeDrift_69 : decode cX4_relativeDrift 69 = .ok (.dstore 5, 2) := by decide +kernel
theorem dX4_relativeDrift_71 : decode cX4_relativeDrift 71 = .ok (.lload_n 3, 1) := by decide +kernel
theorem dX4_relativeDrift_72 : decode cX4_relativeDrift 72 = .ok (.l2d, 1) := by decide +kernel
theorem dX4_relativeDrift_73 : decode cX4_relativeDrift 73 = .ok (.dstore 7, 2) := by decide +kernel
theorem dX4_relativeDrift_75 : decode cX4_relativeDrift 75 = .ok (.dload 5, 2) := by decide +kernel
theorem dX4_relativeDrift_77 : decode cX4_relativeDrift 77 = .ok (.dload 7, 2) := by decide +kernel
theorem dX4_relativeDrift_79 : decode cX4_relativeDrift 79 = .ok (.ddiv, 1) := by decide +kernel
theorem dX4_relativeDrift_80 : decode cX4_relativeDrift 80 = .ok (.dconst 1, 1) := by decide +kernel
theorem dX4_relativeDrift_81 : decode cX4_relativeDrift 81 = .ok (.dsub, 1) := by decide +kernel
theorem dX4_relativeDrift_82 : decode cX4_relativeDrift 82 = .ok (.ldc2_w 143, 3) := by decide +kernel
theorem dX4_relativeDrift_85 : decode cX4_relativeDrift 85 = .ok (.dmul, 1) := by decide +kernel
theorem dX4_relativeDrift_86 : decode cX4_relativeDrift 86 = .ok (.dreturn, 1) := by decide +kernel
theorem dX4_excess_0 : decode cX4_excess 0 = .ok (.aload_n 0, 1) := by decide +kernel
theorem dX4_excess_1 : decode cX4_excess 1 = .ok (.aload_n 0, 1) := by decide +kernel
theorem dX4_excess_2 : decode cX4_excess 2 = .ok (.iload_n 1, 1) := by decide +kernel
theorem dX4_excess_3 : decode cX4_excess 3 = .ok (.iload_n 2, 1) := by decide +kernel
theorem dX4_excess_4 : decode cX4_excess 4 = .ok (.invokevirtual 134, 3) := by decide +kernel
theorem dX4_excess_7 : decode cX4_excess 7 = .ok (.iconst 2, 1) := by decide +kernel
theorem dX4_excess_8 : decode cX4_excess 8 = .ok (.invokevirtual 119, 3) := by decide +kernel
theorem dX4_excess_11 : decode cX4_excess 11 = .ok (.aload_n 0, 1) := by decide +kernel
theorem dX4_excess_12 : decode cX4_excess 12 = .ok (.iload_n 1, 1) := by decide +kernel
theorem dX4_excess_13 : decode cX4_excess 13 = .ok (.iload_n 2, 1) := by decide +kernel
theorem dX4_excess_14 : decode cX4_excess 14 = .ok (.invokevirtual 67, 3) := by decide +kernel
theorem dX4_excess_17 : decode cX4_excess 17 = .ok (.lsub, 1) := by decide +kernel
theorem dX4_excess_18 : decode cX4_excess 18 = .ok (.lreturn, 1) := by decide +kernel
theorem dX4_calibrate_0 : decode cX4_calibrate 0 = .ok (.aload_n 0, 1) := by decide +kernel
theorem dX4_calibrate_1 : decode cX4_calibrate 1 = .ok (.iload_n 1, 1) := by decide +kernel
theorem dX4_calibrate_2 : decode cX4_calibrate 2 = .ok (.invokevirtual 64, 3) := by decide +kernel
theorem dX4_calibrate_5 : decode cX4_calibrate 5 = .ok (.ifCond .eq 23, 3) := by decide +kernel
theorem dX4_calibrate_8 : decode cX4_calibrate 8 = .ok (.aload_n 0, 1) := by decide +kernel
theorem dX4_calibrate_9 : decode cX4_calibrate 9 = .ok (.iload_n 2, 1) := by decide +kernel
theorem dX4_calibrate_10 : decode cX4_calibrate 10 = .ok (.invokevirtual 64, 3) := by decide +kernel
theorem dX4_calibrate_13 : decode cX4_calibrate 13 = .ok (.ifCond .eq 15, 3) := by decide +kernel
theorem dX4_calibrate_16 : decode cX4_calibrate 16 = .ok (.aload_n 0, 1) := by decide +kernel
theorem dX4_calibrate_17 : decode cX4_calibrate 17 = .ok (.iload_n 3, 1) := by decide +kernel
theorem dX4_calibrate_18 : decode cX4_calibrate 18 = .ok (.invokevirtual 64, 3) := by decide +kernel
theorem dX4_calibrate_21 : decode cX4_calibrate 21 = .ok (.ifCond .eq 7, 3) := by decide +kernel
theorem dX4_calibrate_24 : decode cX4_calibrate 24 = .ok (.iconst 1, 1) := by decide +kernel
theorem dX4_calibrate_25 : decode cX4_calibrate 25 = .ok (.goto 4, 3) := by decide +kernel
theorem dX4_calibrate_28 : decode cX4_calibrate 28 = .ok (.iconst 0, 1) := by decide +kernel
theorem dX4_calibrate_29 : decode cX4_calibrate 29 = .ok (.istore 4, 2) := by decide +kernel
theorem dX4_calibrate_31 : decode cX4_calibrate 31 = .ok (.iload 4, 2) := by decide +kernel
theorem dX4_calibrate_33 : decode cX4_calibrate 33 = .ok (.ifCond .eq 37, 3) := by decide +kernel
theorem dX4_calibrate_36 : decode cX4_calibrate 36 = .ok (.aload_n 0, 1) := by decide +kernel
theorem dX4_calibrate_37 : decode cX4_calibrate 37 = .ok (.iload_n 1, 1) := by decide +kernel
theorem dX4_calibrate_38 : decode cX4_calibrate 38 = .ok (.iload_n 2, 1) := by decide +kernel
theorem dX4_calibrate_39 : decode cX4_calibrate 39 = .ok (.invokevirtual 134, 3) := by decide +kernel
theorem dX4_calibrate_42 : decode cX4_calibrate 42 = .ok (.iconst (-1), 1) := by decide +kernel
theorem dX4_calibrate_43 : decode cX4_calibrate 43 = .ok (.if_icmp .eq 27, 3) := by decide +kernel
theorem dX4_calibrate_46 : decode cX4_calibrate 46 = .ok (.aload_n 0, 1) := by decide +kernel
theorem dX4_calibrate_47 : decode cX4_calibrate 47 = .ok (.iload_n 1, 1) := by decide +kernel
theorem dX4_calibrate_48 : decode cX4_calibrate 48 = .ok (.iload_n 3, 1) := by decide +kernel
theorem dX4_calibrate_49 : decode cX4_calibrate 49 = .ok (.invokevirtual 134, 3) := by decide +kernel
theorem dX4_calibrate_52 : decode cX4_calibrate 52 = .ok (.iconst (-1), 1) := by decide +kernel
theorem dX4_calibrate_53 : decode cX4_calibrate 53 = .ok (.if_icmp .eq 17, 3) := by decide +kernel
theorem dX4_calibrate_56 : decode cX4_calibrate 56 = .ok (.aload_n 0, 1) := by decide +kernel
theorem dX4_calibrate_57 : decode cX4_calibrate 57 = .ok (.iload_n 2, 1) := by decide +kernel
theorem dX4_calibrate_58 : decode cX4_calibrate 58 = .ok (.iload_n 3, 1) := by decide +kernel
theorem dX4_calibrate_59 : decode cX4_calibrate 59 = .ok (.invokevirtual 134, 3) := by decide +kernel
theorem dX4_calibrate_62 : decode cX4_calibrate 62 = .ok (.iconst (-1), 1) := by decide +kernel
theorem dX4_calibrate_63 : decode cX4_calibrate 63 = .ok (.if_icmp .eq 7, 3) := by decide +kernel
theorem dX4_calibrate_66 : decode cX4_calibrate 66 = .ok (.iconst 1, 1) := by decide +kernel
theorem dX4_calibrate_67 : decode cX4_calibrate 67 = .ok (.goto 4, 3) := by decide +kernel
theorem dX4_calibrate_70 : decode cX4_calibrate 70 = .ok (.iconst 0, 1) := by decide +kernel
theorem dX4_calibrate_71 : decode cX4_calibrate 71 = .ok (.istore 5, 2) := by decide +kernel
theorem dX4_calibrate_73 : decode cX4_calibrate 73 = .ok (.aload_n 0, 1) := by decide +kernel
theorem dX4_calibrate_74 : decode cX4_calibrate 74 = .ok (.iload 4, 2) := by decide +kernel
theorem dX4_calibrate_76 : decode cX4_calibrate 76 = .ok (.iload_n 1, 1) := by decide +kernel
theorem dX4_calibrate_77 : decode cX4_calibrate 77 = .ok (.iload_n 2, 1) := by decide +kernel
theorem dX4_calibrate_78 : decode cX4_calibrate 78 = .ok (.if_icmp .eq 17, 3) := by decide +kernel
theorem dX4_calibrate_81 : decode cX4_calibrate 81 = .ok (.iload_n 1, 1) := by decide +kernel
theorem dX4_calibrate_82 : decode cX4_calibrate 82 = .ok (.iload_n 3, 1) := by decide +kernel
theorem dX4_calibrate_83 : decode cX4_calibrate 83 = .ok (.if_icmp .eq 12, 3) := by decide +kernel
theorem dX4_calibrate_86 : decode cX4_calibrate 86 = .ok (.iload_n 2, 1) := by decide +kernel
theorem dX4_calibrate_87 : decode cX4_calibrate 87 = .ok (.iload_n 3, 1) := by decide +kernel
theorem dX4_calibrate_88 : decode cX4_calibrate 88 = .ok (.if_icmp .eq 7, 3) := by decide +kernel
theorem dX4_calibrate_91 : decode cX4_calibrate 91 = .ok (.iconst 1, 1) := by decide +kernel
theorem dX4_calibrate_92 : decode cX4_calibrate 92 = .ok (.goto 4, 3) := by decide +kernel
theorem dX4_calibrate_95 : decode cX4_calibrate 95 = .ok (.iconst 0, 1) := by decide +kernel
theorem dX4_calibrate_96 : decode cX4_calibrate 96 = .ok (.iload 5, 2) := by decide +kernel
theorem dX4_calibrate_98 : decode cX4_calibrate 98 = .ok (.invokevirtual 45, 3) := by decide +kernel
theorem dX4_calibrate_101 : decode cX4_calibrate 101 = .ok (.ifCond .ne 5, 3) := by decide +kernel
theorem dX4_calibrate_104 : decode cX4_calibrate 104 = .ok (.iconst 0, 1) := by decide +kernel
theorem dX4_calibrate_105 : decode cX4_calibrate 105 = .ok (.ireturn, 1) := by decide +kernel
theorem dX4_calibrate_106 : decode cX4_calibrate 106 = .ok (.aload_n 0, 1) := by decide +kernel
theorem dX4_calibrate_107 : decode cX4_calibrate 107 = .ok (.invokevirtual 49, 3) := by decide +kernel
theorem dX4_calibrate_110 : decode cX4_calibrate 110 = .ok (.aload_n 0, 1) := by decide +kernel
theorem dX4_calibrate_111 : decode cX4_calibrate 111 = .ok (.iload_n 1, 1) := by decide +kernel
theorem dX4_calibrate_112 : decode cX4_calibrate 112 = .ok (.iload_n 2, 1) := by decide +kernel
theorem dX4_calibrate_113 : decode cX4_calibrate 113 = .ok (.invokevirtual 145, 3) := by decide +kernel
theorem dX4_calibrate_116 : decode cX4_calibrate 116 = .ok (.lstore 6, 2) := by decide +kernel
theorem dX4_calibrate_118 : decode cX4_calibrate 118 = .ok (.aload_n 0, 1) := by decide +kernel
theorem dX4_calibrate_119 : decode cX4_calibrate 119 = .ok (.iload_n 1, 1) := by decide +kernel
theorem dX4_calibrate_120 : decode cX4_calibrate 120 = .ok (.iload_n 3, 1) := by decide +kernel
theorem dX4_calibrate_121 : decode cX4_calibrate 121 = .ok (.invokevirtual 145, 3) := by decide +kernel
theorem dX4_calibrate_124 : decode cX4_calibrate 124 = .ok (.lstore 8, 2) := by decide +kernel
theorem dX4_calibrate_126 : decode cX4_calibrate 126 = .ok (.aload_n 0, 1) := by decide +kernel
theorem dX4_calibrate_127 : decode cX4_calibrate 127 = .ok (.iload_n 2, 1) := by decide +kernel
theorem dX4_calibrate_128 : decode cX4_calibrate 128 = .ok (.iload_n 3, 1) := by decide +kernel
theorem dX4_calibrate_129 : decode cX4_calibrate 129 = .ok (.invokevirtual 145, 3) := by decide +kernel
theorem dX4_calibrate_132 : decode cX4_calibrate 132 = .ok (.lstore 10, 2) := by decide +kernel
theorem dX4_calibrate_134 : decode cX4_calibrate 134 = .ok (.aload_n 0, 1) := by decide +kernel
theorem dX4_calibrate_135 : decode cX4_calibrate 135 = .ok (.getfield 7, 3) := by decide +kernel
theorem dX4_calibrate_138 : decode cX4_calibrate 138 = .ok (.iconst 2, 1) := by decide +kernel
theorem dX4_calibrate_139 : decode cX4_calibrate 139 = .ok (.bipush 6, 2) := by decide +kernel
theorem dX4_calibrate_141 : decode cX4_calibrate 141 = .ok (.iload_n 1, 1) := by decide +kernel
theorem dX4_calibrate_142 : decode cX4_calibrate 142 = .ok (.imul, 1) := by decide +kernel
theorem dX4_calibrate_143 : decode cX4_calibrate 143 = .ok (.iadd, 1) := by decide +kernel
theorem dX4_calibrate_144 : decode cX4_calibrate 144 = .ok (.iconst 5, 1) := by decide +kernel
theorem dX4_calibrate_145 : decode cX4_calibrate 145 = .ok (.iadd, 1) := by decide +kernel
theorem dX4_calibrate_146 : decode cX4_calibrate 146 = .ok (.lload 6, 2) := by decide +kernel
theorem dX4_calibrate_148 : decode cX4_calibrate 148 = .ok (.lload 8, 2) := by decide +kernel
theorem dX4_calibrate_150 : decode cX4_calibrate 150 = .ok (.ladd, 1) := by decide +kernel
theorem dX4_calibrate_151 : decode cX4_calibrate 151 = .ok (.lload 10, 2) := by decide +kernel
theorem dX4_calibrate_153 : decode cX4_calibrate 153 = .ok (.lsub, 1) := by decide +kernel
theorem dX4_calibrate_154 : decode cX4_calibrate 154 = .ok (.ldc2_w 54, 3) := by decide +kernel
theorem dX4_calibrate_157 : decode cX4_calibrate 157 = .ok (.invokestatic 114, 3) := by decide +kernel
theorem dX4_calibrate_160 : decode cX4_calibrate 160 = .ok (.lastore, 1) := by decide +kernel
theorem dX4_calibrate_161 : decode cX4_calibrate 161 = .ok (.aload_n 0, 1) := by decide +kernel
theorem dX4_calibrate_162 : decode cX4_calibrate 162 = .ok (.getfield 7, 3) := by decide +kernel
theorem dX4_calibrate_165 : decode cX4_calibrate 165 = .ok (.iconst 2, 1) := by decide +kernel
theorem dX4_calibrate_166 : decode cX4_calibrate 166 = .ok (.bipush 6, 2) := by decide +kernel
theorem dX4_calibrate_168 : decode cX4_calibrate 168 = .ok (.iload_n 2, 1) := by decide +kernel
theorem dX4_calibrate_169 : decode cX4_calibrate 169 = .ok (.imul, 1) := by decide +kernel
theorem dX4_calibrate_170 : decode cX4_calibrate 170 = .ok (.iadd, 1) := by decide +kernel
theorem dX4_calibrate_171 : decode cX4_calibrate 171 = .ok (.iconst 5, 1) := by decide +kernel
theorem dX4_calibrate_172 : decode cX4_calibrate 172 = .ok (.iadd, 1) := by decide +kernel
theorem dX4_calibrate_173 : decode cX4_calibrate 173 = .ok (.lload 6, 2) := by decide +kernel
theorem dX4_calibrate_175 : decode cX4_calibrate 175 = .ok (.lload 10, 2) := by decide +kernel
theorem dX4_calibrate_177 : decode cX4_calibrate 177 = .ok (.ladd, 1) := by decide +kernel
theorem dX4_calibrate_178 : decode cX4_calibrate 178 = .ok (.lload 8, 2) := by decide +kernel
theorem dX4_calibrate_180 : decode cX4_calibrate 180 = .ok (.lsub, 1) := by decide +kernel
theorem dX4_calibrate_181 : decode cX4_calibrate 181 = .ok (.ldc2_w 54, 3) := by decide +kernel
theorem dX4_calibrate_184 : decode cX4_calibrate 184 = .ok (.invokestatic 114, 3) := by decide +kernel
theorem dX4_calibrate_187 : decode cX4_calibrate 187 = .ok (.lastore, 1) := by decide +kernel
theorem dX4_calibrate_188 : decode cX4_calibrate 188 = .ok (.aload_n 0, 1) := by decide +kernel
theorem dX4_calibrate_189 : decode cX4_calibrate 189 = .ok (.getfield 7, 3) := by decide +kernel
theorem dX4_calibrate_192 : decode cX4_calibrate 192 = .ok (.iconst 2, 1) := by decide +kernel
theorem dX4_calibrate_193 : decode cX4_calibrate 193 = .ok (.bipush 6, 2) := by decide +kernel
theorem dX4_calibrate_195 : decode cX4_calibrate 195 = .ok (.iload_n 3, 1) := by decide +kernel
theorem dX4_calibrate_196 : decode cX4_calibrate 196 = .ok (.imul, 1) := by decide +kernel
theorem dX4_calibrate_197 : decode cX4_calibrate 197 = .ok (.iadd, 1) := by decide +kernel
theorem dX4_calibrate_198 : decode cX4_calibrate 198 = .ok (.iconst 5, 1) := by decide +kernel
theorem dX4_calibrate_199 : decode cX4_calibrate 199 = .ok (.iadd, 1) := by decide +kernel
theorem dX4_calibrate_200 : decode cX4_calibrate 200 = .ok (.lload 8, 2) := by decide +kernel
theorem dX4_calibrate_202 : decode cX4_calibrate 202 = .ok (.lload 10, 2) := by decide +kernel
theorem dX4_calibrate_204 : decode cX4_calibrate 204 = .ok (.ladd, 1) := by decide +kernel
theorem dX4_calibrate_205 : decode cX4_calibrate 205 = .ok (.lload 6, 2) := by decide +kernel
theorem dX4_calibrate_207 : decode cX4_calibrate 207 = .ok (.lsub, 1) := by decide +kernel
theorem dX4_calibrate_208 : decode cX4_calibrate 208 = .ok (.ldc2_w 54, 3) := by decide +kernel
theorem dX4_calibrate_211 : decode cX4_calibrate 211 = .ok (.invokestatic 114, 3) := by decide +kernel
theorem dX4_calibrate_214 : decode cX4_calibrate 214 = .ok (.lastore, 1) := by decide +kernel
theorem dX4_calibrate_215 : decode cX4_calibrate 215 = .ok (.aload_n 0, 1) := by decide +kernel
theorem dX4_calibrate_216 : decode cX4_calibrate 216 = .ok (.iload_n 1, 1) := by decide +kernel
theorem dX4_calibrate_217 : decode cX4_calibrate 217 = .ok (.iconst 5, 1) := by decide +kernel
theorem dX4_calibrate_218 : decode cX4_calibrate 218 = .ok (.invokevirtual 56, 3) := by decide +kernel
theorem dX4_calibrate_221 : decode cX4_calibrate 221 = .ok (.aload_n 0, 1) := by decide +kernel
theorem dX4_calibrate_222 : decode cX4_calibrate 222 = .ok (.iload_n 2, 1) := by decide +kernel
theorem dX4_calibrate_223 : decode cX4_calibrate 223 = .ok (.iconst 5, 1) := by decide +kernel
theorem dX4_calibrate_224 : decode cX4_calibrate 224 = .ok (.invokevirtual 56, 3) := by decide +kernel
theorem dX4_calibrate_227 : decode cX4_calibrate 227 = .ok (.ladd, 1) := by decide +kernel
theorem dX4_calibrate_228 : decode cX4_calibrate 228 = .ok (.aload_n 0, 1) := by decide +kernel
theorem dX4_calibrate_229 : decode cX4_calibrate 229 = .ok (.iload_n 3, 1) := by decide +kernel
theorem dX4_calibrate_230 : decode cX4_calibrate 230 = .ok (.iconst 5, 1) := by decide +kernel
theorem dX4_calibrate_231 : decode cX4_calibrate 231 = .ok (.invokevirtual 56, 3) := by decide +kernel
theorem dX4_calibrate_234 : decode cX4_calibrate 234 = .ok (.ladd, 1) := by decide +kernel
theorem dX4_calibrate_235 : decode cX4_calibrate 235 = .ok (.l2i, 1) := by decide +kernel
theorem dX4_calibrate_236 : decode cX4_calibrate 236 = .ok (.ireturn, 1) := by decide +kernel
theorem dX4_right_0 : decode cX4_right 0 = .ok (.aload_n 0, 1) := by decide +kernel
theorem dX4_right_1 : decode cX4_right 1 = .ok (.aload_n 0, 1) := by decide +kernel
theorem dX4_right_2 : decode cX4_right 2 = .ok (.iload_n 1, 1) := by decide +kernel
theorem dX4_right_3 : decode cX4_right 3 = .ok (.iload_n 2, 1) := by decide +kernel
theorem dX4_right_4 : decode cX4_right 4 = .ok (.invokevirtual 134, 3) := by decide +kernel
theorem dX4_right_7 : decode cX4_right 7 = .ok (.iload 4, 2) := by decide +kernel
theorem dX4_right_9 : decode cX4_right 9 = .ok (.invokevirtual 131, 3) := by decide +kernel
theorem dX4_right_12 : decode cX4_right 12 = .ok (.lstore 5, 2) := by decide +kernel
theorem dX4_right_14 : decode cX4_right 14 = .ok (.aload_n 0, 1) := by decide +kernel
theorem dX4_right_15 : decode cX4_right 15 = .ok (.aload_n 0, 1) := by decide +kernel
theorem dX4_right_16 : decode cX4_right 16 = .ok (.iload_n 1, 1) := by decide +kernel
theorem dX4_right_17 : decode cX4_right 17 = .ok (.iload_n 3, 1) := by decide +kernel
theorem dX4_right_18 : decode cX4_right 18 = .ok (.invokevirtual 134, 3) := by decide +kernel
theorem dX4_right_21 : decode cX4_right 21 = .ok (.iload 4, 2) := by decide +kernel
theorem dX4_right_23 : decode cX4_right 23 = .ok (.invokevirtual 131, 3) := by decide +kernel
theorem dX4_right_26 : decode cX4_right 26 = .ok (.lstore 7, 2) := by decide +kernel
theorem dX4_right_28 : decode cX4_right 28 = .ok (.lload 5, 2) := by decide +kernel
theorem dX4_right_30 : decode cX4_right 30 = .ok (.lload 5, 2) := by decide +kernel
theorem dX4_right_32 : decode cX4_right 32 = .ok (.lmul, 1) := by decide +kernel
theorem dX4_right_33 : decode cX4_right 33 = .ok (.lload 7, 2) := by decide +kernel
theorem dX4_right_35 : decode cX4_right 35 = .ok (.lload 7, 2) := by decide +kernel
theorem dX4_right_37 : decode cX4_right 37 = .ok (.lmul, 1) := by decide +kernel
theorem dX4_right_38 : decode cX4_right 38 = .ok (.lsub, 1) := by decide +kernel
theorem dX4_right_39 : decode cX4_right 39 = .ok (.aload_n 0, 1) := by decide +kernel
theorem dX4_right_40 : decode cX4_right 40 = .ok (.iload_n 3, 1) := by decide +kernel
theorem dX4_right_41 : decode cX4_right 41 = .ok (.iconst 0, 1) := by decide +kernel
theorem dX4_right_42 : decode cX4_right 42 = .ok (.invokevirtual 56, 3) := by decide +kernel
theorem dX4_right_45 : decode cX4_right 45 = .ok (.aload_n 0, 1) := by decide +kernel
theorem dX4_right_46 : decode cX4_right 46 = .ok (.iload_n 3, 1) := by decide +kernel
theorem dX4_right_47 : decode cX4_right 47 = .ok (.iconst 0, 1) := by decide +kernel
theorem dX4_right_48 : decode cX4_right 48 = .ok (.invokevirtual 56, 3) := by decide +kernel
theorem dX4_right_51 : decode cX4_right 51 = .ok (.lmul, 1) := by decide +kernel
theorem dX4_right_52 : decode cX4_right 52 = .ok (.ladd, 1) := by decide +kernel
theorem dX4_right_53 : decode cX4_right 53 = .ok (.aload_n 0, 1) := by decide +kernel
theorem dX4_right_54 : decode cX4_right 54 = .ok (.iload_n 2, 1) := by decide +kernel
theorem dX4_right_55 : decode cX4_right 55 = .ok (.iconst 0, 1) := by decide +kernel
theorem dX4_right_56 : decode cX4_right 56 = .ok (.invokevirtual 56, 3) := by decide +kernel
theorem dX4_right_59 : decode cX4_right 59 = .ok (.aload_n 0, 1) := by decide +kernel
theorem dX4_right_60 : decode cX4_right 60 = .ok (.iload_n 2, 1) := by decide +kernel
theorem dX4_right_61 : decode cX4_right 61 = .ok (.iconst 0, 1) := by decide +kernel
theorem dX4_right_62 : decode cX4_right 62 = .ok (.invokevirtual 56, 3) := by decide +kernel
theorem dX4_right_65 : decode cX4_right 65 = .ok (.lmul, 1) := by decide +kernel
theorem dX4_right_66 : decode cX4_right 66 = .ok (.lsub, 1) := by decide +kernel
theorem dX4_right_67 : decode cX4_right 67 = .ok (.aload_n 0, 1) := by decide +kernel
theorem dX4_right_68 : decode cX4_right 68 = .ok (.iload_n 3, 1) := by decide +kernel
theorem dX4_right_69 : decode cX4_right 69 = .ok (.iconst 1, 1) := by decide +kernel
theorem dX4_right_70 : decode cX4_right 70 = .ok (.invokevirtual 56, 3) := by decide +kernel
theorem dX4_right_73 : decode cX4_right 73 = .ok (.aload_n 0, 1) := by decide +kernel
theorem dX4_right_74 : decode cX4_right 74 = .ok (.iload_n 3, 1) := by decide +kernel
theorem dX4_right_75 : decode cX4_right 75 = .ok (.iconst 1, 1) := by decide +kernel
theorem dX4_right_76 : decode cX4_right 76 = .ok (.invokevirtual 56, 3) := by decide +kernel
theorem dX4_right_79 : decode cX4_right 79 = .ok (.lmul, 1) := by decide +kernel
theorem dX4_right_80 : decode cX4_right 80 = .ok (.ladd, 1) := by decide +kernel
theorem dX4_right_81 : decode cX4_right 81 = .ok (.aload_n 0, 1) := by decide +kernel
theorem dX4_right_82 : decode cX4_right 82 = .ok (.iload_n 2, 1) := by decide +kernel
theorem dX4_right_83 : decode cX4_right 83 = .ok (.iconst 1, 1) := by decide +kernel
theorem dX4_right_84 : decode cX4_right 84 = .ok (.invokevirtual 56, 3) := by decide +kernel
theorem dX4_right_87 : decode cX4_right 87 = .ok (.aload_n 0, 1) := by decide +kernel
theorem dX4_right_88 : decode cX4_right 88 = .ok (.iload_n 2, 1) := by decide +kernel
theorem dX4_right_89 : decode cX4_right 89 = .ok (.iconst 1, 1) := by decide +kernel
theorem dX4_right_90 : decode cX4_right 90 = .ok (.invokevirtual 56, 3) := by decide +kernel
theorem dX4_right_93 : decode cX4_right 93 = .ok (.lmul, 1) := by decide +kernel
theorem dX4_right_94 : decode cX4_right 94 = .ok (.lsub, 1) := by decide +kernel
theorem dX4_right_95 : decode cX4_right 95 = .ok (.lreturn, 1) := by decide +kernel
theorem dX4_fix_0 : decode cX4_fix 0 = .ok (.iload_n 2, 1) := by decide +kernel
theorem dX4_fix_1 : decode cX4_fix 1 = .ok (.bipush 100, 2) := by decide +kernel
theorem dX4_fix_3 : decode cX4_fix 3 = .ok (.idiv, 1) := by decide +kernel
theorem dX4_fix_4 : decode cX4_fix 4 = .ok (.istore 5, 2) := by decide +kernel
theorem dX4_fix_6 : decode cX4_fix 6 = .ok (.iload_n 2, 1) := by decide +kernel
theorem dX4_fix_7 : decode cX4_fix 7 = .ok (.bipush 10, 2) := by decide +kernel
theorem dX4_fix_9 : decode cX4_fix 9 = .ok (.idiv, 1) := by decide +kernel
theorem dX4_fix_10 : decode cX4_fix 10 = .ok (.bipush 10, 2) := by decide +kernel
theorem dX4_fix_12 : decode cX4_fix 12 = .ok (.irem, 1) := by decide +kernel
theorem dX4_fix_13 : decode cX4_fix 13 = .ok (.istore 6, 2) := by decide +kernel
theorem dX4_fix_15 : decode cX4_fix 15 = .ok (.iload_n 2, 1) := by decide +kernel
theorem dX4_fix_16 : decode cX4_fix 16 = .ok (.bipush 10, 2) := by decide +kernel
theorem dX4_fix_18 : decode cX4_fix 18 = .ok (.irem, 1) := by decide +kernel
theorem dX4_fix_19 : decode cX4_fix 19 = .ok (.istore 7, 2) := by decide +kernel
theorem dX4_fix_21 : decode cX4_fix 21 = .ok (.aload_n 0, 1) := by decide +kernel
theorem dX4_fix_22 : decode cX4_fix 22 = .ok (.iload_n 1, 1) := by decide +kernel
theorem dX4_fix_23 : decode cX4_fix 23 = .ok (.invokevirtual 64, 3) := by decide +kernel
theorem dX4_fix_26 : decode cX4_fix 26 = .ok (.ifCond .eq 46, 3) := by decide +kernel
theorem dX4_fix_29 : decode cX4_fix 29 = .ok (.iload_n 2, 1) := by decide +kernel
theorem dX4_fix_30 : decode cX4_fix 30 = .ok (.i2l, 1) := by decide +kernel
theorem dX4_fix_31 : decode cX4_fix 31 = .ok (.lconst 0, 1) := by decide +kernel
theorem dX4_fix_32 : decode cX4_fix 32 = .ok (.ldc2_w 148, 3) := by decide +kernel
theorem dX4_fix_35 : decode cX4_fix 35 = .ok (.invokestatic 23, 3) := by decide +kernel
theorem dX4_fix_38 : decode cX4_fix 38 = .ok (.ifCond .eq 34, 3) := by decide +kernel
theorem dX4_fix_41 : decode cX4_fix 41 = .ok (.aload_n 0, 1) := by decide +kernel
theorem dX4_fix_42 : decode cX4_fix 42 = .ok (.iload 5, 2) := by decide +kernel
theorem dX4_fix_44 : decode cX4_fix 44 = .ok (.invokevirtual 64, 3) := by decide +kernel
theorem dX4_fix_47 : decode cX4_fix 47 = .ok (.ifCond .eq 25, 3) := by decide +kernel
theorem dX4_fix_50 : decode cX4_fix 50 = .ok (.aload_n 0, 1) := by decide +kernel
theorem dX4_fix_51 : decode cX4_fix 51 = .ok (.iload 6, 2) := by decide +kernel
theorem dX4_fix_53 : decode cX4_fix 53 = .ok (.invokevirtual 64, 3) := by decide +kernel
theorem dX4_fix_56 : decode cX4_fix 56 = .ok (.ifCond .eq 16, 3) := by decide +kernel
theorem dX4_fix_59 : decode cX4_fix 59 = .ok (.aload_n 0, 1) := by decide +kernel
theorem dX4_fix_60 : decode cX4_fix 60 = .ok (.iload 7, 2) := by decide +kernel
theorem dX4_fix_62 : decode cX4_fix 62 = .ok (.invokevirtual 64, 3) := by decide +kernel
theorem dX4_fix_65 : decode cX4_fix 65 = .ok (.ifCond .eq 7, 3) := by decide +kernel
theorem dX4_fix_68 : decode cX4_fix 68 = .ok (.iconst 1, 1) := by decide +kernel
theorem dX4_fix_69 : decode cX4_fix 69 = .ok (.goto 4, 3) := by decide +kernel
theorem dX4_fix_72 : decode cX4_fix 72 = .ok (.iconst 0, 1) := by decide +kernel
theorem dX4_fix_73 : decode cX4_fix 73 = .ok (.istore 8, 2) := by decide +kernel
theorem dX4_fix_75 : decode cX4_fix 75 = .ok (.iload 5, 2) := by decide +kernel
theorem dX4_fix_77 : decode cX4_fix 77 = .ok (.iload 6, 2) := by decide +kernel
theorem dX4_fix_79 : decode cX4_fix 79 = .ok (.if_icmp .eq 39, 3) := by decide +kernel
theorem dX4_fix_82 : decode cX4_fix 82 = .ok (.iload 5, 2) := by decide +kernel
theorem dX4_fix_84 : decode cX4_fix 84 = .ok (.iload 7, 2) := by decide +kernel
theorem dX4_fix_86 : decode cX4_fix 86 = .ok (.if_icmp .eq 32, 3) := by decide +kernel
theorem dX4_fix_89 : decode cX4_fix 89 = .ok (.iload 6, 2) := by decide +kernel
theorem dX4_fix_91 : decode cX4_fix 91 = .ok (.iload 7, 2) := by decide +kernel
theorem dX4_fix_93 : decode cX4_fix 93 = .ok (.if_icmp .eq 25, 3) := by decide +kernel
theorem dX4_fix_96 : decode cX4_fix 96 = .ok (.iload_n 1, 1) := by decide +kernel
theorem dX4_fix_97 : decode cX4_fix 97 = .ok (.iload 5, 2) := by decide +kernel
theorem dX4_fix_99 : decode cX4_fix 99 = .ok (.if_icmp .eq 19, 3) := by decide +kernel
theorem dX4_fix_102 : decode cX4_fix 102 = .ok (.iload_n 1, 1) := by decide +kernel
theorem dX4_fix_103 : decode cX4_fix 103 = .ok (.iload 6, 2) := by decide +kernel
theorem dX4_fix_105 : decode cX4_fix 105 = .ok (.if_icmp .eq 13, 3) := by decide +kernel
theorem dX4_fix_108 : decode cX4_fix 108 = .ok (.iload_n 1, 1) := by decide +kernel
theorem dX4_fix_109 : decode cX4_fix 109 = .ok (.iload 7, 2) := by decide +kernel
theorem dX4_fix_111 : decode cX4_fix 111 = .ok (.if_icmp .eq 7, 3) := by decide +kernel
theorem dX4_fix_114 : decode cX4_fix 114 = .ok (.iconst 1, 1) := by decide +kernel
theorem dX4_fix_115 : decode cX4_fix 115 = .ok (.goto 4, 3) := by decide +kernel
theorem dX4_fix_118 : decode cX4_fix 118 = .ok (.iconst 0, 1) := by decide +kernel
theorem dX4_fix_119 : decode cX4_fix 119 = .ok (.istore 9, 2) := by decide +kernel
theorem dX4_fix_121 : decode cX4_fix 121 = .ok (.iload 8, 2) := by decide +kernel
theorem dX4_fix_123 : decode cX4_fix 123 = .ok (.ifCond .eq 40, 3) := by decide +kernel
theorem dX4_fix_126 : decode cX4_fix 126 = .ok (.aload_n 0, 1) := by decide +kernel
theorem dX4_fix_127 : decode cX4_fix 127 = .ok (.iload_n 1, 1) := by decide +kernel
theorem dX4_fix_128 : decode cX4_fix 128 = .ok (.iload 5, 2) := by decide +kernel
theorem dX4_fix_130 : decode cX4_fix 130 = .ok (.invokevirtual 134, 3) := by decide +kernel
theorem dX4_fix_133 : decode cX4_fix 133 = .ok (.iconst (-1), 1) := by decide +kernel
theorem dX4_fix_134 : decode cX4_fix 134 = .ok (.if_icmp .eq 29, 3) := by decide +kernel
theorem dX4_fix_137 : decode cX4_fix 137 = .ok (.aload_n 0, 1) := by decide +kernel
theorem dX4_fix_138 : decode cX4_fix 138 = .ok (.iload_n 1, 1) := by decide +kernel
theorem dX4_fix_139 : decode cX4_fix 139 = .ok (.iload 6, 2) := by decide +kernel
theorem dX4_fix_141 : decode cX4_fix 141 = .ok (.invokevirtual 134, 3) := by decide +kernel
theorem dX4_fix_144 : decode cX4_fix 144 = .ok (.iconst (-1), 1) := by decide +kernel
theorem dX4_fix_145 : decode cX4_fix 145 = .ok (.if_icmp .eq 18, 3) := by decide +kernel
theorem dX4_fix_148 : decode cX4_fix 148 = .ok (.aload_n 0, 1) := by decide +kernel
theorem dX4_fix_149 : decode cX4_fix 149 = .ok (.iload_n 1, 1) := by decide +kernel
theorem dX4_fix_150 : decode cX4_fix 150 = .ok (.iload 7, 2) := by decide +kernel
theorem dX4_fix_152 : decode cX4_fix 152 = .ok (.invokevirtual 134, 3) := by decide +kernel
theorem dX4_fix_155 : decode cX4_fix 155 = .ok (.iconst (-1), 1) := by decide +kernel
theorem dX4_fix_156 : decode cX4_fix 156 = .ok (.if_icmp .eq 7, 3) := by decide +kernel
theorem dX4_fix_159 : decode cX4_fix 159 = .ok (.iconst 1, 1) := by decide +kernel
theorem dX4_fix_160 : decode cX4_fix 160 = .ok (.goto 4, 3) := by decide +kernel
theorem dX4_fix_163 : decode cX4_fix 163 = .ok (.iconst 0, 1) := by decide +kernel
theorem dX4_fix_164 : decode cX4_fix 164 = .ok (.istore 10, 2) := by decide +kernel
theorem dX4_fix_166 : decode cX4_fix 166 = .ok (.aload_n 0, 1) := by decide +kernel
theorem dX4_fix_167 : decode cX4_fix 167 = .ok (.iload 8, 2) := by decide +kernel
theorem dX4_fix_169 : decode cX4_fix 169 = .ok (.iload 9, 2) := by decide +kernel
theorem dX4_fix_171 : decode cX4_fix 171 = .ok (.ifCond .eq 25, 3) := by decide +kernel
theorem dX4_fix_174 : decode cX4_fix 174 = .ok (.iload_n 3, 1) := by decide +kernel
theorem dX4_fix_175 : decode cX4_fix 175 = .ok (.invokestatic 128, 3) := by decide +kernel
theorem dX4_fix_178 : decode cX4_fix 178 = .ok (.ifCond .eq 18, 3) := by decide +kernel
theorem dX4_fix_181 : decode cX4_fix 181 = .ok (.iload 4, 2) := by decide +kernel
theorem dX4_fix_183 : decode cX4_fix 183 = .ok (.i2l, 1) := by decide +kernel
theorem dX4_fix_184 : decode cX4_fix 184 = .ok (.lconst 0, 1) := by decide +kernel
theorem dX4_fix_185 : decode cX4_fix 185 = .ok (.lconst 1, 1) := by decide +kernel
theorem dX4_fix_186 : decode cX4_fix 186 = .ok (.invokestatic 23, 3) := by decide +kernel
theorem dX4_fix_189 : decode cX4_fix 189 = .ok (.ifCond .eq 7, 3) := by decide +kernel
theorem dX4_fix_192 : decode cX4_fix 192 = .ok (.iconst 1, 1) := by decide +kernel
theorem dX4_fix_193 : decode cX4_fix 193 = .ok (.goto 4, 3) := by decide +kernel
theorem dX4_fix_196 : decode cX4_fix 196 = .ok (.iconst 0, 1) := by decide +kernel
theorem dX4_fix_197 : decode cX4_fix 197 = .ok (.iload 10, 2) := by decide +kernel
theorem dX4_fix_199 : decode cX4_fix 199 = .ok (.invokevirtual 45, 3) := by decide +kernel
theorem dX4_fix_202 : decode cX4_fix 202 = .ok (.ifCond .ne 5, 3) := by decide +kernel
theorem dX4_fix_205 : decode cX4_fix 205 = .ok (.iconst 0, 1) := by decide +kernel
theorem dX4_fix_206 : decode cX4_fix 206 = .ok (.ireturn, 1) := by decide +kernel
theorem dX4_fix_207 : decode cX4_fix 207 = .ok (.ldc2_w 54, 3) := by decide +kernel
theorem dX4_fix_210 : decode cX4_fix 210 = .ok (.aload_n 0, 1) := by decide +kernel
theorem dX4_fix_211 : decode cX4_fix 211 = .ok (.iload 6, 2) := by decide +kernel
theorem dX4_fix_213 : decode cX4_fix 213 = .ok (.iconst 0, 1) := by decide +kernel
theorem dX4_fix_214 : decode cX4_fix 214 = .ok (.invokevirtual 56, 3) := by decide +kernel
theorem dX4_fix_217 : decode cX4_fix 217 = .ok (.aload_n 0, 1) := by decide +kernel
theorem dX4_fix_218 : decode cX4_fix 218 = .ok (.iload 5, 2) := by decide +kernel
theorem dX4_fix_220 : decode cX4_fix 220 = .ok (.iconst 0, 1) := by decide +kernel
theorem dX4_fix_221 : decode cX4_fix 221 = .ok (.invokevirtual 56, 3) := by decide +kernel
theorem dX4_fix_224 : decode cX4_fix 224 = .ok (.lsub, 1) := by decide +kernel
theorem dX4_fix_225 : decode cX4_fix 225 = .ok (.lmul, 1) := by decide +kernel
theorem dX4_fix_226 : decode cX4_fix 226 = .ok (.lstore 11, 2) := by decide +kernel
theorem dX4_fix_228 : decode cX4_fix 228 = .ok (.ldc2_w 54, 3) := by decide +kernel
theorem dX4_fix_231 : decode cX4_fix 231 = .ok (.aload_n 0, 1) := by decide +kernel
theorem dX4_fix_232 : decode cX4_fix 232 = .ok (.iload 6, 2) := by decide +kernel
theorem dX4_fix_234 : decode cX4_fix 234 = .ok (.iconst 1, 1) := by decide +kernel
theorem dX4_fix_235 : decode cX4_fix 235 = .ok (.invokevirtual 56, 3) := by decide +kernel
theorem dX4_fix_238 : decode cX4_fix 238 = .ok (.aload_n 0, 1) := by decide +kernel
theorem dX4_fix_239 : decode cX4_fix 239 = .ok (.iload 5, 2) := by decide +kernel
theorem dX4_fix_241 : decode cX4_fix 241 = .ok (.iconst 1, 1) := by decide +kernel
theorem dX4_fix_242 : decode cX4_fix 242 = .ok (.invokevirtual 56, 3) := by decide +kernel
theorem dX4_fix_245 : decode cX4_fix 245 = .ok (.lsub, 1) := by decide +kernel
theorem dX4_fix_246 : decode cX4_fix 246 = .ok (.lmul, 1) := by decide +kernel
theorem dX4_fix_247 : decode cX4_fix 247 = .ok (.lstore 13, 2) := by decide +kernel
theorem dX4_fix_249 : decode cX4_fix 249 = .ok (.aload_n 0, 1) := by decide +kernel
theorem dX4_fix_250 : decode cX4_fix 250 = .ok (.iload_n 1, 1) := by decide +kernel
theorem dX4_fix_251 : decode cX4_fix 251 = .ok (.iload 5, 2) := by decide +kernel
theorem dX4_fix_253 : decode cX4_fix 253 = .ok (.iload 6, 2) := by decide +kernel
theorem dX4_fix_255 : decode cX4_fix 255 = .ok (.iload_n 3, 1) := by decide +kernel
theorem dX4_fix_256 : decode cX4_fix 256 = .ok (.invokevirtual 150, 3) := by decide +kernel
theorem dX4_fix_259 : decode cX4_fix 259 = .ok (.lstore 15, 2) := by decide +kernel
theorem dX4_fix_261 : decode cX4_fix 261 = .ok (.ldc2_w 54, 3) := by decide +kernel
theorem dX4_fix_264 : decode cX4_fix 264 = .ok (.aload_n 0, 1) := by decide +kernel
theorem dX4_fix_265 : decode cX4_fix 265 = .ok (.iload 7, 2) := by decide +kernel
theorem dX4_fix_267 : decode cX4_fix 267 = .ok (.iconst 0, 1) := by decide +kernel
theorem dX4_fix_268 : decode cX4_fix 268 = .ok (.invokevirtual 56, 3) := by decide +kernel
theorem dX4_fix_271 : decode cX4_fix 271 = .ok (.aload_n 0, 1) := by decide +kernel
theorem dX4_fix_272 : decode cX4_fix 272 = .ok (.iload 5, 2) := by decide +kernel
theorem dX4_fix_274 : decode cX4_fix 274 = .ok (.iconst 0, 1) := by decide +kernel
theorem dX4_fix_275 : decode cX4_fix 275 = .ok (.invokevirtual 56, 3) := by decide +kernel
theorem dX4_fix_278 : decode cX4_fix 278 = .ok (.lsub, 1) := by decide +kernel
theorem dX4_fix_279 : decode cX4_fix 279 = .ok (.lmul, 1) := by decide +kernel
theorem dX4_fix_280 : decode cX4_fix 280 = .ok (.lstore 17, 2) := by decide +kernel
theorem dX4_fix_282 : decode cX4_fix 282 = .ok (.ldc2_w 54, 3) := by decide +kernel
theorem dX4_fix_285 : decode cX4_fix 285 = .ok (.aload_n 0, 1) := by decide +kernel
theorem dX4_fix_286 : decode cX4_fix 286 = .ok (.iload 7, 2) := by decide +kernel
theorem dX4_fix_288 : decode cX4_fix 288 = .ok (.iconst 1, 1) := by decide +kernel
theorem dX4_fix_289 : decode cX4_fix 289 = .ok (.invokevirtual 56, 3) := by decide +kernel
theorem dX4_fix_292 : decode cX4_fix 292 = .ok (.aload_n 0, 1) := by decide +kernel
theorem dX4_fix_293 : decode cX4_fix 293 = .ok (.iload 5, 2) := by decide +kernel
theorem dX4_fix_295 : decode cX4_fix 295 = .ok (.iconst 1, 1) := by decide +kernel
theorem dX4_fix_296 : decode cX4_fix 296 = .ok (.invokevirtual 56, 3) := by decide +kernel
theorem dX4_fix_299 : decode cX4_fix 299 = .ok (.lsub, 1) := by decide +kernel
theorem dX4_fix_300 : decode cX4_fix 300 = .ok (.lmul, 1) := by decide +kernel
theorem dX4_fix_301 : decode cX4_fix 301 = .ok (.lstore 19, 2) := by decide +kernel
theorem dX4_fix_303 : decode cX4_fix 303 = .ok (.aload_n 0, 1) := by decide +kernel
theorem dX4_fix_304 : decode cX4_fix 304 = .ok (.iload_n 1, 1) := by decide +kernel
theorem dX4_fix_305 : decode cX4_fix 305 = .ok (.iload 5, 2) := by decide +kernel
theorem dX4_fix_307 : decode cX4_fix 307 = .ok (.iload 7, 2) := by decide +kernel
theorem dX4_fix_309 : decode cX4_fix 309 = .ok (.iload_n 3, 1) := by decide +kernel
theorem dX4_fix_310 : decode cX4_fix 310 = .ok (.invokevirtual 150, 3) := by decide +kernel
theorem dX4_fix_313 : decode cX4_fix 313 = .ok (.lstore 21, 2) := by decide +kernel
theorem dX4_fix_315 : decode cX4_fix 315 = .ok (.lload 11, 2) := by decide +kernel
theorem dX4_fix_317 : decode cX4_fix 317 = .ok (.lload 19, 2) := by decide +kernel
theorem dX4_fix_319 : decode cX4_fix 319 = .ok (.lmul, 1) := by decide +kernel
theorem dX4_fix_320 : decode cX4_fix 320 = .ok (.lload 17, 2) := by decide +kernel
theorem dX4_fix_322 : decode cX4_fix 322 = .ok (.lload 13, 2) := by decide +kernel
theorem dX4_fix_324 : decode cX4_fix 324 = .ok (.lmul, 1) := by decide +kernel
theorem dX4_fix_325 : decode cX4_fix 325 = .ok (.lsub, 1) := by decide +kernel
theorem dX4_fix_326 : decode cX4_fix 326 = .ok (.lstore 23, 2) := by decide +kernel
theorem dX4_fix_328 : decode cX4_fix 328 = .ok (.iload 4, 2) := by decide +kernel
theorem dX4_fix_330 : decode cX4_fix 330 = .ok (.ifCond .ne 17, 3) := by decide +kernel
theorem dX4_fix_333 : decode cX4_fix 333 = .ok (.lload 15, 2) := by decide +kernel
theorem dX4_fix_335 : decode cX4_fix 335 = .ok (.lload 19, 2) := by decide +kernel
theorem dX4_fix_337 : decode cX4_fix 337 = .ok (.lmul, 1) := by decide +kernel
theorem dX4_fix_338 : decode cX4_fix 338 = .ok (.lload 21, 2) := by decide +kernel
theorem dX4_fix_340 : decode cX4_fix 340 = .ok (.lload 13, 2) := by decide +kernel
theorem dX4_fix_342 : decode cX4_fix 342 = .ok (.lmul, 1) := by decide +kernel
theorem dX4_fix_343 : decode cX4_fix 343 = .ok (.lsub, 1) := by decide +kernel
theorem dX4_fix_344 : decode cX4_fix 344 = .ok (.goto 14, 3) := by decide +kernel
theorem dX4_fix_347 : decode cX4_fix 347 = .ok (.lload 11, 2) := by decide +kernel
theorem dX4_fix_349 : decode cX4_fix 349 = .ok (.lload 21, 2) := by decide +kernel
theorem dX4_fix_351 : decode cX4_fix 351 = .ok (.lmul, 1) := by decide +kernel
theorem dX4_fix_352 : decode cX4_fix 352 = .ok (.lload 17, 2) := by decide +kernel
theorem dX4_fix_354 : decode cX4_fix 354 = .ok (.lload 15, 2) := by decide +kernel
theorem dX4_fix_356 : decode cX4_fix 356 = .ok (.lmul, 1) := by decide +kernel
theorem dX4_fix_357 : decode cX4_fix 357 = .ok (.lsub, 1) := by decide +kernel
theorem dX4_fix_358 : decode cX4_fix 358 = .ok (.lstore 25, 2) := by decide +kernel
theorem dX4_fix_360 : decode cX4_fix 360 = .ok (.lload 23, 2) := by decide +kernel
theorem dX4_fix_362 : decode cX4_fix 362 = .ok (.lconst 0, 1) := by decide +kernel
theorem dX4_fix_363 : decode cX4_fix 363 = .ok (.lcmp, 1) := by decide +kernel
theorem dX4_fix_364 : decode cX4_fix 364 = .ok (.ifCond .ne 7, 3) := by decide +kernel
theorem dX4_fix_367 : decode cX4_fix 367 = .ok (.lconst 0, 1) := by decide +kernel
theorem dX4_fix_368 : decode cX4_fix 368 = .ok (.goto 10, 3) := by decide +kernel
theorem dX4_fix_371 : decode cX4_fix 371 = .ok (.lload 25, 2) := by decide +kernel
theorem dX4_fix_373 : decode cX4_fix 373 = .ok (.lload 23, 2) := by decide +kernel
theorem dX4_fix_375 : decode cX4_fix 375 = .ok (.invokestatic 114, 3) := by decide +kernel
theorem dX4_fix_378 : decode cX4_fix 378 = .ok (.lstore 27, 2) := by decide +kernel
theorem dX4_fix_380 : decode cX4_fix 380 = .ok (.aload_n 0, 1) := by decide +kernel
theorem dX4_fix_381 : decode cX4_fix 381 = .ok (.lload 23, 2) := by decide +kernel
theorem dX4_fix_383 : decode cX4_fix 383 = .ok (.lconst 0, 1) := by decide +kernel
theorem dX4_fix_384 : decode cX4_fix 384 = .ok (.lcmp, 1) := by decide +kernel
theorem dX4_fix_385 : decode cX4_fix 385 = .ok (.ifCond .eq 17, 3) := by decide +kernel
theorem dX4_fix_388 : decode cX4_fix 388 = .ok (.lload 27, 2) := by decide +kernel
theorem dX4_fix_390 : decode cX4_fix 390 = .ok (.ldc2_w 154, 3) := by decide +kernel
theorem dX4_fix_393 : decode cX4_fix 393 = .ok (.ldc2_w 156, 3) := by decide +kernel
theorem dX4_fix_396 : decode cX4_fix 396 = .ok (.invokestatic 23, 3) := by decide +kernel
theorem dX4_fix_399 : decode cX4_fix 399 = .ok (.ifCond .ne 7, 3) := by decide +kernel
theorem dX4_fix_402 : decode cX4_fix 402 = .ok (.iconst 4, 1) := by decide +kernel
theorem dX4_fix_403 : decode cX4_fix 403 = .ok (.goto 4, 3) := by decide +kernel
theorem dX4_fix_406 : decode cX4_fix 406 = .ok (.iconst 0, 1) := by decide +kernel
theorem dX4_fix_407 : decode cX4_fix 407 = .ok (.putfield 16, 3) := by decide +kernel
theorem dX4_fix_410 : decode cX4_fix 410 = .ok (.aload_n 0, 1) := by decide +kernel
theorem dX4_fix_411 : decode cX4_fix 411 = .ok (.getfield 16, 3) := by decide +kernel
theorem dX4_fix_414 : decode cX4_fix 414 = .ok (.ifCond .ne 9, 3) := by decide +kernel
theorem dX4_fix_417 : decode cX4_fix 417 = .ok (.lload 27, 2) := by decide +kernel
theorem dX4_fix_419 : decode cX4_fix 419 = .ok (.l2i, 1) := by decide +kernel
theorem dX4_fix_420 : decode cX4_fix 420 = .ok (.goto 4, 3) := by decide +kernel
theorem dX4_fix_423 : decode cX4_fix 423 = .ok (.iconst 0, 1) := by decide +kernel
theorem dX4_fix_424 : decode cX4_fix 424 = .ok (.ireturn, 1) := by decide +kernel
theorem dX4_undo_0 : decode cX4_undo 0 = .ok (.aload_n 0, 1) := by decide +kernel
theorem dX4_undo_1 : decode cX4_undo 1 = .ok (.aload_n 0, 1) := by decide +kernel
theorem dX4_undo_2 : decode cX4_undo 2 = .ok (.getfield 20, 3) := by decide +kernel
theorem dX4_undo_5 : decode cX4_undo 5 = .ok (.ifCond .le 7, 3) := by decide +kernel
theorem dX4_undo_8 : decode cX4_undo 8 = .ok (.iconst 1, 1) := by decide +kernel
theorem dX4_undo_9 : decode cX4_undo 9 = .ok (.goto 4, 3) := by decide +kernel
theorem dX4_undo_12 : decode cX4_undo 12 = .ok (.iconst 0, 1) := by decide +kernel
theorem dX4_undo_13 : decode cX4_undo 13 = .ok (.iconst 1, 1) := by decide +kernel
theorem dX4_undo_14 : decode cX4_undo 14 = .ok (.iconst 1, 1) := by decide +kernel
theorem dX4_undo_15 : decode cX4_undo 15 = .ok (.invokevirtual 45, 3) := by decide +kernel
theorem dX4_undo_18 : decode cX4_undo 18 = .ok (.ifCond .ne 5, 3) := by decide +kernel
theorem dX4_undo_21 : decode cX4_undo 21 = .ok (.iconst 0, 1) := by decide +kernel
theorem dX4_undo_22 : decode cX4_undo 22 = .ok (.ireturn, 1) := by decide +kernel
theorem dX4_undo_23 : decode cX4_undo 23 = .ok (.aload_n 0, 1) := by decide +kernel
theorem dX4_undo_24 : decode cX4_undo 24 = .ok (.dup, 1) := by decide +kernel
theorem dX4_undo_25 : decode cX4_undo 25 = .ok (.getfield 20, 3) := by decide +kernel
theorem dX4_undo_28 : decode cX4_undo 28 = .ok (.iconst 1, 1) := by decide +kernel
theorem dX4_undo_29 : decode cX4_undo 29 = .ok (.isub, 1) := by decide +kernel
theorem dX4_undo_30 : decode cX4_undo 30 = .ok (.putfield 20, 3) := by decide +kernel
theorem dX4_undo_33 : decode cX4_undo 33 = .ok (.iconst 0, 1) := by decide +kernel
theorem dX4_undo_34 : decode cX4_undo 34 = .ok (.istore_n 1, 1) := by decide +kernel
theorem dX4_undo_35 : decode cX4_undo 35 = .ok (.iload_n 1, 1) := by decide +kernel
theorem dX4_undo_36 : decode cX4_undo 36 = .ok (.sipush 460, 3) := by decide +kernel
theorem dX4_undo_39 : decode cX4_undo 39 = .ok (.if_icmp .ge 30, 3) := by decide +kernel
theorem dX4_undo_42 : decode cX4_undo 42 = .ok (.aload_n 0, 1) := by decide +kernel
theorem dX4_undo_43 : decode cX4_undo 43 = .ok (.getfield 7, 3) := by decide +kernel
theorem dX4_undo_46 : decode cX4_undo 46 = .ok (.iload_n 1, 1) := by decide +kernel
theorem dX4_undo_47 : decode cX4_undo 47 = .ok (.aload_n 0, 1) := by decide +kernel
theorem dX4_undo_48 : decode cX4_undo 48 = .ok (.getfield 13, 3) := by decide +kernel
theorem dX4_undo_51 : decode cX4_undo 51 = .ok (.sipush 460, 3) := by decide +kernel
theorem dX4_undo_54 : decode cX4_undo 54 = .ok (.aload_n 0, 1) := by decide +kernel
theorem dX4_undo_55 : decode cX4_undo 55 = .ok (.getfield 20, 3) := by decide +kernel
theorem dX4_undo_58 : decode cX4_undo 58 = .ok (.imul, 1) := by decide +kernel
theorem dX4_undo_59 : decode cX4_undo 59 = .ok (.iload_n 1, 1) := by decide +kernel
theorem dX4_undo_60 : decode cX4_undo 60 = .ok (.iadd, 1) := by decide +kernel
theorem dX4_undo_61 : decode cX4_undo 61 = .ok (.laload, 1) := by decide +kernel
theorem dX4_undo_62 : decode cX4_undo 62 = .ok (.lastore, 1) := by decide +kernel
theorem dX4_undo_63 : decode cX4_undo 63 = .ok (.iinc 1 1, 3) := by decide +kernel
theorem dX4_undo_66 : decode cX4_undo 66 = .ok (.goto (-31), 3) := by decide +kernel
theorem dX4_undo_69 : decode cX4_undo 69 = .ok (.aload_n 0, 1) := by decide +kernel
theorem dX4_undo_70 : decode cX4_undo 70 = .ok (.getfield 20, 3) := by decide +kernel
theorem dX4_undo_73 : decode cX4_undo 73 = .ok (.ireturn, 1) := by decide +kernel
theorem dX4_sums_0 : decode cX4_sums 0 = .ok (.lload_n 1, 1) := by decide +kernel
theorem dX4_sums_1 : decode cX4_sums 1 = .ok (.lstore 5, 2) := by decide +kernel
theorem dX4_sums_3 : decode cX4_sums 3 = .ok (.iconst 0, 1) := by decide +kernel
theorem dX4_sums_4 : decode cX4_sums 4 = .ok (.istore 7, 2) := by decide +kernel
theorem dX4_sums_6 : decode cX4_sums 6 = .ok (.iload 7, 2) := by decide +kernel
theorem dX4_sums_8 : decode cX4_sums 8 = .ok (.iload 4, 2) := by decide +kernel
theorem dX4_sums_10 : decode cX4_sums 10 = .ok (.if_icmp .ge 27, 3) := by decide +kernel
theorem dX4_sums_13 : decode cX4_sums 13 = .ok (.ldc2_w 158, 3) := by decide +kernel
theorem dX4_sums_16 : decode cX4_sums 16 = .ok (.lload 5, 2) := by decide +kernel
theorem dX4_sums_18 : decode cX4_sums 18 = .ok (.lmul, 1) := by decide +kernel
theorem dX4_sums_19 : decode cX4_sums 19 = .ok (.aload_n 0, 1) := by decide +kernel
theorem dX4_sums_20 : decode cX4_sums 20 = .ok (.getfield 7, 3) := by decide +kernel
theorem dX4_sums_23 : decode cX4_sums 23 = .ok (.iload_n 3, 1) := by decide +kernel
theorem dX4_sums_24 : decode cX4_sums 24 = .ok (.iload 7, 2) := by decide +kernel
theorem dX4_sums_26 : decode cX4_sums 26 = .ok (.iadd, 1) := by decide +kernel
theorem dX4_sums_27 : decode cX4_sums 27 = .ok (.laload, 1) := by decide +kernel
theorem dX4_sums_28 : decode cX4_sums 28 = .ok (.ladd, 1) := by decide +kernel
theorem dX4_sums_29 : decode cX4_sums 29 = .ok (.lstore 5, 2) := by decide +kernel
theorem dX4_sums_31 : decode cX4_sums 31 = .ok (.iinc 7 1, 3) := by decide +kernel
theorem dX4_sums_34 : decode cX4_sums 34 = .ok (.goto (-28), 3) := by decide +kernel
theorem dX4_sums_37 : decode cX4_sums 37 = .ok (.lload 5, 2) := by decide +kernel
theorem dX4_sums_39 : decode cX4_sums 39 = .ok (.lreturn, 1) := by decide +kernel
theorem dX4_digest_0 : decode cX4_digest 0 = .ok (.aload_n 0, 1) := by decide +kernel
theorem dX4_digest_1 : decode cX4_digest 1 = .ok (.iconst 0, 1) := by decide +kernel
theorem dX4_digest_2 : decode cX4_digest 2 = .ok (.putfield 16, 3) := by decide +kernel
theorem dX4_digest_5 : decode cX4_digest 5 = .ok (.aload_n 0, 1) := by decide +kernel
theorem dX4_digest_6 : decode cX4_digest 6 = .ok (.ldc2_w 160, 3) := by decide +kernel
theorem dX4_digest_9 : decode cX4_digest 9 = .ok (.iconst 0, 1) := by decide +kernel
theorem dX4_digest_10 : decode cX4_digest 10 = .ok (.iconst 2, 1) := by decide +kernel
theorem dX4_digest_11 : decode cX4_digest 11 = .ok (.invokevirtual 162, 3) := by decide +kernel
theorem dX4_digest_14 : decode cX4_digest 14 = .ok (.lstore_n 1, 1) := by decide +kernel
theorem dX4_digest_15 : decode cX4_digest 15 = .ok (.iconst 0, 1) := by decide +kernel
theorem dX4_digest_16 : decode cX4_digest 16 = .ok (.istore_n 3, 1) := by decide +kernel
theorem dX4_digest_17 : decode cX4_digest 17 = .ok (.iload_n 3, 1) := by decide +kernel
theorem dX4_digest_18 : decode cX4_digest 18 = .ok (.i2l, 1) := by decide +kernel
theorem dX4_digest_19 : decode cX4_digest 19 = .ok (.aload_n 0, 1) := by decide +kernel
theorem dX4_digest_20 : decode cX4_digest 20 = .ok (.getfield 7, 3) := by decide +kernel
theorem dX4_digest_23 : decode cX4_digest 23 = .ok (.iconst 1, 1) := by decide +kernel
theorem dX4_digest_24 : decode cX4_digest 24 = .ok (.laload, 1) := by decide +kernel
theorem dX4_digest_25 : decode cX4_digest 25 = .ok (.lcmp, 1) := by decide +kernel
theorem dX4_digest_26 : decode cX4_digest 26 = .ok (.ifCond .ge 39, 3) := by decide +kernel
theorem dX4_digest_29 : decode cX4_digest 29 = .ok (.ldc2_w 158, 3) := by decide +kernel
theorem dX4_digest_32 : decode cX4_digest 32 = .ok (.aload_n 0, 1) := by decide +kernel
theorem dX4_digest_33 : decode cX4_digest 33 = .ok (.lload_n 1, 1) := by decide +kernel
theorem dX4_digest_34 : decode cX4_digest 34 = .ok (.iconst 2, 1) := by decide +kernel
theorem dX4_digest_35 : decode cX4_digest 35 = .ok (.bipush 6, 2) := by decide +kernel
theorem dX4_digest_37 : decode cX4_digest 37 = .ok (.iload_n 3, 1) := by decide +kernel
theorem dX4_digest_38 : decode cX4_digest 38 = .ok (.imul, 1) := by decide +kernel
theorem dX4_digest_39 : decode cX4_digest 39 = .ok (.iadd, 1) := by decide +kernel
theorem dX4_digest_40 : decode cX4_digest 40 = .ok (.bipush 6, 2) := by decide +kernel
theorem dX4_digest_42 : decode cX4_digest 42 = .ok (.invokevirtual 162, 3) := by decide +kernel
theorem dX4_digest_45 : decode cX4_digest 45 = .ok (.lmul, 1) := by decide +kernel
theorem dX4_digest_46 : decode cX4_digest 46 = .ok (.aload_n 0, 1) := by decide +kernel
theorem dX4_digest_47 : decode cX4_digest 47 = .ok (.iload_n 3, 1) := by decide +kernel
theorem dX4_digest_48 : decode cX4_digest 48 = .ok (.aload_n 0, 1) := by decide +kernel
theorem dX4_digest_49 : decode cX4_digest 49 = .ok (.getfield 7, 3) := by decide +kernel
theorem dX4_digest_52 : decode cX4_digest 52 = .ok (.iconst 0, 1) := by decide +kernel
theorem dX4_digest_53 : decode cX4_digest 53 = .ok (.laload, 1) := by decide +kernel
theorem dX4_digest_54 : decode cX4_digest 54 = .ok (.invokevirtual 76, 3) := by decide +kernel
theorem dX4_digest_57 : decode cX4_digest 57 = .ok (.ladd, 1) := by decide +kernel
theorem dX4_digest_58 : decode cX4_digest 58 = .ok (.lstore_n 1, 1) := by decide +kernel
theorem dX4_digest_59 : decode cX4_digest 59 = .ok (.iinc 3 1, 3) := by decide +kernel
theorem dX4_digest_62 : decode cX4_digest 62 = .ok (.goto (-45), 3) := by decide +kernel
theorem dX4_digest_65 : decode cX4_digest 65 = .ok (.ldc2_w 158, 3) := by decide +kernel
theorem dX4_digest_68 : decode cX4_digest 68 = .ok (.lload_n 1, 1) := by decide +kernel
theorem dX4_digest_69 : decode cX4_digest 69 = .ok (.lmul, 1) := by decide +kernel
theorem dX4_digest_70 : decode cX4_digest 70 = .ok (.aload_n 0, 1) := by decide +kernel
theorem dX4_digest_71 : decode cX4_digest 71 = .ok (.getfield 7, 3) := by decide +kernel
theorem dX4_digest_74 : decode cX4_digest 74 = .ok (.bipush 38, 2) := by decide +kernel
theorem dX4_digest_76 : decode cX4_digest 76 = .ok (.laload, 1) := by decide +kernel
theorem dX4_digest_77 : decode cX4_digest 77 = .ok (.ladd, 1) := by decide +kernel
theorem dX4_digest_78 : decode cX4_digest 78 = .ok (.lstore_n 1, 1) := by decide +kernel
theorem dX4_digest_79 : decode cX4_digest 79 = .ok (.iconst 0, 1) := by decide +kernel
theorem dX4_digest_80 : decode cX4_digest 80 = .ok (.istore_n 3, 1) := by decide +kernel
theorem dX4_digest_81 : decode cX4_digest 81 = .ok (.iload_n 3, 1) := by decide +kernel
theorem dX4_digest_82 : decode cX4_digest 82 = .ok (.i2l, 1) := by decide +kernel
theorem dX4_digest_83 : decode cX4_digest 83 = .ok (.aload_n 0, 1) := by decide +kernel
theorem dX4_digest_84 : decode cX4_digest 84 = .ok (.getfield 7, 3) := by decide +kernel
theorem dX4_digest_87 : decode cX4_digest 87 = .ok (.bipush 38, 2) := by decide +kernel
theorem dX4_digest_89 : decode cX4_digest 89 = .ok (.laload, 1) := by decide +kernel
theorem dX4_digest_90 : decode cX4_digest 90 = .ok (.lcmp, 1) := by decide +kernel
theorem dX4_digest_91 : decode cX4_digest 91 = .ok (.ifCond .ge 53, 3) := by decide +kernel
theorem dX4_digest_94 : decode cX4_digest 94 = .ok (.aload_n 0, 1) := by decide +kernel
theorem dX4_digest_95 : decode cX4_digest 95 = .ok (.lload_n 1, 1) := by decide +kernel
theorem dX4_digest_96 : decode cX4_digest 96 = .ok (.bipush 39, 2) := by decide +kernel
theorem dX4_digest_98 : decode cX4_digest 98 = .ok (.bipush 8, 2) := by decide +kernel
theorem dX4_digest_100 : decode cX4_digest 100 = .ok (.iload_n 3, 1) := by decide +kernel
theorem dX4_digest_101 : decode cX4_digest 101 = .ok (.imul, 1) := by decide +kernel
theorem dX4_digest_102 : decode cX4_digest 102 = .ok (.iadd, 1) := by decide +kernel
theorem dX4_digest_103 : decode cX4_digest 103 = .ok (.bipush 8, 2) := by decide +kernel
theorem dX4_digest_105 : decode cX4_digest 105 = .ok (.invokevirtual 162, 3) := by decide +kernel
theorem dX4_digest_108 : decode cX4_digest 108 = .ok (.lstore_n 1, 1) := by decide +kernel
theorem dX4_digest_109 : decode cX4_digest 109 = .ok (.iconst 0, 1) := by decide +kernel
theorem dX4_digest_110 : decode cX4_digest 110 = .ok (.istore 4, 2) := by decide +kernel
theorem dX4_digest_112 : decode cX4_digest 112 = .ok (.iload 4, 2) := by decide +kernel
theorem dX4_digest_114 : decode cX4_digest 114 = .ok (.iconst 3, 1) := by decide +kernel
theorem dX4_digest_115 : decode cX4_digest 115 = .ok (.if_icmp .ge 23, 3) := by decide +kernel
theorem dX4_digest_118 : decode cX4_digest 118 = .ok (.ldc2_w 158, 3) := by decide +kernel
theorem dX4_digest_121 : decode cX4_digest 121 = .ok (.lload_n 1, 1) := by decide +kernel
theorem dX4_digest_122 : decode cX4_digest 122 = .ok (.lmul, 1) := by decide +kernel
theorem dX4_digest_123 : decode cX4_digest 123 = .ok (.aload_n 0, 1) := by decide +kernel
theorem dX4_digest_124 : decode cX4_digest 124 = .ok (.iload_n 3, 1) := by decide +kernel
theorem dX4_digest_125 : decode cX4_digest 125 = .ok (.iload 4, 2) := by decide +kernel
theorem dX4_digest_127 : decode cX4_digest 127 = .ok (.invokevirtual 131, 3) := by decide +kernel
theorem dX4_digest_130 : decode cX4_digest 130 = .ok (.ladd, 1) := by decide +kernel
theorem dX4_digest_131 : decode cX4_digest 131 = .ok (.lstore_n 1, 1) := by decide +kernel
theorem dX4_digest_132 : decode cX4_digest 132 = .ok (.iinc 4 1, 3) := by decide +kernel
theorem dX4_digest_135 : decode cX4_digest 135 = .ok (.goto (-23), 3) := by decide +kernel
theorem dX4_digest_138 : decode cX4_digest 138 = .ok (.iinc 3 1, 3) := by decide +kernel
theorem dX4_digest_141 : decode cX4_digest 141 = .ok (.goto (-60), 3) := by decide +kernel
theorem dX4_digest_144 : decode cX4_digest 144 = .ok (.ldc2_w 158, 3) := by decide +kernel
theorem dX4_digest_147 : decode cX4_digest 147 = .ok (.lload_n 1, 1) := by decide +kernel
theorem dX4_digest_148 : decode cX4_digest 148 = .ok (.lmul, 1) := by decide +kernel
theorem dX4_digest_149 : decode cX4_digest 149 = .ok (.aload_n 0, 1) := by decide +kernel
theorem dX4_digest_150 : decode cX4_digest 150 = .ok (.getfield 7, 3) := by decide +kernel
theorem dX4_digest_153 : decode cX4_digest 153 = .ok (.sipush 359, 3) := by decide +kernel
theorem dX4_digest_156 : decode cX4_digest 156 = .ok (.laload, 1) := by decide +kernel
theorem dX4_digest_157 : decode cX4_digest 157 = .ok (.ladd, 1) := by decide +kernel
theorem dX4_digest_158 : decode cX4_digest 158 = .ok (.lstore_n 1, 1) := by decide +kernel
theorem dX4_digest_159 : decode cX4_digest 159 = .ok (.iconst 0, 1) := by decide +kernel
theorem dX4_digest_160 : decode cX4_digest 160 = .ok (.istore_n 3, 1) := by decide +kernel
theorem dX4_digest_161 : decode cX4_digest 161 = .ok (.iload_n 3, 1) := by decide +kernel
theorem dX4_digest_162 : decode cX4_digest 162 = .ok (.i2l, 1) := by decide +kernel
theorem dX4_digest_163 : decode cX4_digest 163 = .ok (.aload_n 0, 1) := by decide +kernel
theorem dX4_digest_164 : decode cX4_digest 164 = .ok (.getfield 7, 3) := by decide +kernel
theorem dX4_digest_167 : decode cX4_digest 167 = .ok (.sipush 359, 3) := by decide +kernel
theorem dX4_digest_170 : decode cX4_digest 170 = .ok (.laload, 1) := by decide +kernel
theorem dX4_digest_171 : decode cX4_digest 171 = .ok (.lcmp, 1) := by decide +kernel
theorem dX4_digest_172 : decode cX4_digest 172 = .ok (.ifCond .ge 27, 3) := by decide +kernel
theorem dX4_digest_175 : decode cX4_digest 175 = .ok (.aload_n 0, 1) := by decide +kernel
theorem dX4_digest_176 : decode cX4_digest 176 = .ok (.lload_n 1, 1) := by decide +kernel
theorem dX4_digest_177 : decode cX4_digest 177 = .ok (.sipush 360, 3) := by decide +kernel
theorem dX4_digest_180 : decode cX4_digest 180 = .ok (.iconst 5, 1) := by decide +kernel
theorem dX4_digest_181 : decode cX4_digest 181 = .ok (.aload_n 0, 1) := by decide +kernel
theorem dX4_digest_182 : decode cX4_digest 182 = .ok (.iload_n 3, 1) := by decide +kernel
theorem dX4_digest_183 : decode cX4_digest 183 = .ok (.invokevirtual 96, 3) := by decide +kernel
theorem dX4_digest_186 : decode cX4_digest 186 = .ok (.imul, 1) := by decide +kernel
theorem dX4_digest_187 : decode cX4_digest 187 = .ok (.iadd, 1) := by decide +kernel
theorem dX4_digest_188 : decode cX4_digest 188 = .ok (.iconst 5, 1) := by decide +kernel
theorem dX4_digest_189 : decode cX4_digest 189 = .ok (.invokevirtual 162, 3) := by decide +kernel
theorem dX4_digest_192 : decode cX4_digest 192 = .ok (.lstore_n 1, 1) := by decide +kernel
theorem dX4_digest_193 : decode cX4_digest 193 = .ok (.iinc 3 1, 3) := by decide +kernel
theorem dX4_digest_196 : decode cX4_digest 196 = .ok (.goto (-35), 3) := by decide +kernel
theorem dX4_digest_199 : decode cX4_digest 199 = .ok (.ldc2_w 158, 3) := by decide +kernel
theorem dX4_digest_202 : decode cX4_digest 202 = .ok (.lload_n 1, 1) := by decide +kernel
theorem dX4_digest_203 : decode cX4_digest 203 = .ok (.lmul, 1) := by decide +kernel
theorem dX4_digest_204 : decode cX4_digest 204 = .ok (.aload_n 0, 1) := by decide +kernel
theorem dX4_digest_205 : decode cX4_digest 205 = .ok (.getfield 20, 3) := by decide +kernel
theorem dX4_digest_208 : decode cX4_digest 208 = .ok (.i2l, 1) := by decide +kernel
theorem dX4_digest_209 : decode cX4_digest 209 = .ok (.ladd, 1) := by decide +kernel
theorem dX4_digest_210 : decode cX4_digest 210 = .ok (.lreturn, 1) := by decide +kernel
