theorem dX6_init_0 : decode cX6_init 0 = .ok (.aload_n 0, 1) := by decide +kernel
theorem dX6_init_1 : decode cX6_init 1 = .ok (.invokespecial 1, 3) := by decide +kernel
theorem dX6_init_4 : decode cX6_init 4 = .ok (.aload_n 0, 1) := by decide +kernel
theorem dX6_init_5 : decode cX6_init 5 = .ok (.bipush 57, 2) := by decide +kernel
theorem dX6_init_7 : decode cX6_init 7 = .ok (.newarray .int, 2) := by decide +kernel
theorem dX6_init_9 : decode cX6_init 9 = .ok (.putfield 7, 3) := by decide +kernel
theorem dX6_init_12 : decode cX6_init 12 = .ok (.aload_n 0, 1) := by decide +kernel
theorem dX6_init_13 : decode cX6_init 13 = .ok (.bipush 114, 2) := by decide +kernel
theorem dX6_init_15 : decode cX6_init 15 = .ok (.newarray .int, 2) := by decide +kernel
theorem dX6_init_17 : decode cX6_init 17 = .ok (.putfield 13, 3) := by decide +kernel
theorem dX6_init_20 : decode cX6_init 20 = .ok (.aload_n 0, 1) := by decide +kernel
theorem dX6_init_21 : decode cX6_init 21 = .ok (.iconst 2, 1) := by decide +kernel
theorem dX6_init_22 : decode cX6_init 22 = .ok (.newarray .boolean, 2) := by decide +kernel
theorem dX6_init_24 : decode cX6_init 24 = .ok (.putfield 16, 3) := by decide +kernel
theorem dX6_init_27 : decode cX6_init 27 = .ok (.aload_n 0, 1) := by decide +kernel
theorem dX6_init_28 : decode cX6_init 28 = .ok (.iconst 3, 1) := by decide +kernel
theorem dX6_init_29 : decode cX6_init 29 = .ok (.newarray .int, 2) := by decide +kernel
theorem dX6_init_31 : decode cX6_init 31 = .ok (.putfield 20, 3) := by decide +kernel
theorem dX6_init_34 : decode cX6_init 34 = .ok (.aload_n 0, 1) := by decide +kernel
theorem dX6_init_35 : decode cX6_init 35 = .ok (.lconst 1, 1) := by decide +kernel
theorem dX6_init_36 : decode cX6_init 36 = .ok (.putfield 23, 3) := by decide +kernel
theorem dX6_init_39 : decode cX6_init 39 = .ok (.aload_n 0, 1) := by decide +kernel
theorem dX6_init_40 : decode cX6_init 40 = .ok (.bipush 7, 2) := by decide +kernel
theorem dX6_init_42 : decode cX6_init 42 = .ok (.newarray .int, 2) := by decide +kernel
theorem dX6_init_44 : decode cX6_init 44 = .ok (.putfield 27, 3) := by decide +kernel
theorem dX6_init_47 : decode cX6_init 47 = .ok (.aload_n 0, 1) := by decide +kernel
theorem dX6_init_48 : decode cX6_init 48 = .ok (.bipush 7, 2) := by decide +kernel
theorem dX6_init_50 : decode cX6_init 50 = .ok (.newarray .int, 2) := by decide +kernel
theorem dX6_init_52 : decode cX6_init 52 = .ok (.putfield 30, 3) := by decide +kernel
theorem dX6_init_55 : decode cX6_init 55 = .ok (.aload_n 0, 1) := by decide +kernel
theorem dX6_init_56 : decode cX6_init 56 = .ok (.bipush 7, 2) := by decide +kernel
theorem dX6_init_58 : decode cX6_init 58 = .ok (.newarray .int, 2) := by decide +kernel
theorem dX6_init_60 : decode cX6_init 60 = .ok (.putfield 33, 3) := by decide +kernel
theorem dX6_init_63 : decode cX6_init 63 = .ok (.aload_n 0, 1) := by decide +kernel
theorem dX6_init_64 : decode cX6_init 64 = .ok (.bipush 7, 2) := by decide +kernel
theorem dX6_init_66 : decode cX6_init 66 = .ok (.newarray .int, 2) := by decide +kernel
theorem dX6_init_68 : decode cX6_init 68 = .ok (.putfield 36, 3) := by decide +kernel
theorem dX6_init_71 : decode cX6_init 71 = .ok (.aload_n 0, 1) := by decide +kernel
theorem dX6_init_72 : decode cX6_init 72 = .ok (.sipush 5040, 3) := by decide +kernel
theorem dX6_init_75 : decode cX6_init 75 = .ok (.newarray .int, 2) := by decide +kernel
theorem dX6_init_77 : decode cX6_init 77 = .ok (.putfield 39, 3) := by decide +kernel
theorem dX6_init_80 : decode cX6_init 80 = .ok (.aload_n 0, 1) := by decide +kernel
theorem dX6_init_81 : decode cX6_init 81 = .ok (.sipush 5040, 3) := by decide +kernel
theorem dX6_init_84 : decode cX6_init 84 = .ok (.newarray .int, 2) := by decide +kernel
theorem dX6_init_86 : decode cX6_init 86 = .ok (.putfield 42, 3) := by decide +kernel
theorem dX6_init_89 : decode cX6_init 89 = .ok (.aload_n 0, 1) := by decide +kernel
theorem dX6_init_90 : decode cX6_init 90 = .ok (.sipush 5040, 3) := by decide +kernel
theorem dX6_init_93 : decode cX6_init 93 = .ok (.newarray .boolean, 2) := by decide +kernel
theorem dX6_init_95 : decode cX6_init 95 = .ok (.putfield 45, 3) := by decide +kernel
theorem dX6_init_98 : decode cX6_init 98 = .ok (.aload_n 0, 1) := by decide +kernel
theorem dX6_init_99 : decode cX6_init 99 = .ok (.bipush 49, 2) := by decide +kernel
theorem dX6_init_101 : decode cX6_init 101 = .ok (.newarray .int, 2) := by decide +kernel
theorem dX6_init_103 : decode cX6_init 103 = .ok (.putfield 48, 3) := by decide +kernel
theorem dX6_init_106 : decode cX6_init 106 = .ok (.aload_n 0, 1) := by decide +kernel
theorem dX6_init_107 : decode cX6_init 107 = .ok (.bipush 6, 2) := by decide +kernel
theorem dX6_init_109 : decode cX6_init 109 = .ok (.newarray .int, 2) := by decide +kernel
theorem dX6_init_111 : decode cX6_init 111 = .ok (.putfield 51, 3) := by decide +kernel
theorem dX6_init_114 : decode cX6_init 114 = .ok (.aload_n 0, 1) := by decide +kernel
theorem dX6_init_115 : decode cX6_init 115 = .ok (.bipush 7, 2) := by decide +kernel
theorem dX6_init_117 : decode cX6_init 117 = .ok (.newarray .int, 2) := by decide +kernel
theorem dX6_init_119 : decode cX6_init 119 = .ok (.putfield 54, 3) := by decide +kernel
theorem dX6_init_122 : decode cX6_init 122 = .ok (.aload_n 0, 1) := by decide +kernel
theorem dX6_init_123 : decode cX6_init 123 = .ok (.bipush 7, 2) := by decide +kernel
theorem dX6_init_125 : decode cX6_init 125 = .ok (.newarray .int, 2) := by decide +kernel
theorem dX6_init_127 : decode cX6_init 127 = .ok (.putfield 57, 3) := by decide +kernel
theorem dX6_init_130 : decode cX6_init 130 = .ok (.aload_n 0, 1) := by decide +kernel
theorem dX6_init_131 : decode cX6_init 131 = .ok (.sipush 150, 3) := by decide +kernel
theorem dX6_init_134 : decode cX6_init 134 = .ok (.newarray .int, 2) := by decide +kernel
theorem dX6_init_136 : decode cX6_init 136 = .ok (.putfield 60, 3) := by decide +kernel
theorem dX6_init_139 : decode cX6_init 139 = .ok (.aload_n 0, 1) := by decide +kernel
theorem dX6_init_140 : decode cX6_init 140 = .ok (.bipush 47, 2) := by decide +kernel
theorem dX6_init_142 : decode cX6_init 142 = .ok (.newarray .int, 2) := by decide +kernel
theorem dX6_init_144 : decode cX6_init 144 = .ok (.putfield 63, 3) := by decide +kernel
theorem dX6_init_147 : decode cX6_init 147 = .ok (.aload_n 0, 1) := by decide +kernel
theorem dX6_init_148 : decode cX6_init 148 = .ok (.iconst 2, 1) := by decide +kernel
theorem dX6_init_149 : decode cX6_init 149 = .ok (.newarray .int, 2) := by decide +kernel
theorem dX6_init_151 : decode cX6_init 151 = .ok (.putfield 66, 3) := by decide +kernel
theorem dX6_init_154 : decode cX6_init 154 = .ok (.aload_n 0, 1) := by decide +kernel
theorem dX6_init_155 : decode cX6_init 155 = .ok (.getfield 7, 3) := by decide +kernel
theorem dX6_init_158 : decode cX6_init 158 = .ok (.iconst 5, 1) := by decide +kernel
theorem dX6_init_159 : decode cX6_init 159 = .ok (.invokestatic 69, 3) := by decide +kernel
theorem dX6_init_162 : decode cX6_init 162 = .ok (.return_, 1) := by decide +kernel
theorem dX6_in_0 : decode cX6_in 0 = .ok (.lload_n 0, 1) := by decide +kernel
theorem dX6_in_1 : decode cX6_in 1 = .ok (.lload_n 2, 1) := by decide +kernel
theorem dX6_in_2 : decode cX6_in 2 = .ok (.lcmp, 1) := by decide +kernel
theorem dX6_in_3 : decode cX6_in 3 = .ok (.ifCond .lt 14, 3) := by decide +kernel
theorem dX6_in_6 : decode cX6_in 6 = .ok (.lload_n 0, 1) := by decide +kernel
theorem dX6_in_7 : decode cX6_in 7 = .ok (.lload 4, 2) := by decide +kernel
theorem dX6_in_9 : decode cX6_in 9 = .ok (.lcmp, 1) := by decide +kernel
theorem dX6_in_10 : decode cX6_in 10 = .ok (.ifCond .gt 7, 3) := by decide +kernel
theorem dX6_in_13 : decode cX6_in 13 = .ok (.iconst 1, 1) := by decide +kernel
theorem dX6_in_14 : decode cX6_in 14 = .ok (.goto 4, 3) := by decide +kernel
theorem dX6_in_17 : decode cX6_in 17 = .ok (.iconst 0, 1) := by decide +kernel
theorem dX6_in_18 : decode cX6_in 18 = .ok (.ireturn, 1) := by decide +kernel
theorem dX6_bad_0 : decode cX6_bad 0 = .ok (.aload_n 0, 1) := by decide +kernel
theorem dX6_bad_1 : decode cX6_bad 1 = .ok (.getfield 20, 3) := by decide +kernel
theorem dX6_bad_4 : decode cX6_bad 4 = .ok (.iconst 0, 1) := by decide +kernel
theorem dX6_bad_5 : decode cX6_bad 5 = .ok (.dup2, 1) := by decide +kernel
theorem dX6_bad_6 : decode cX6_bad 6 = .ok (.iaload, 1) := by decide +kernel
theorem dX6_bad_7 : decode cX6_bad 7 = .ok (.iconst 1, 1) := by decide +kernel
theorem dX6_bad_8 : decode cX6_bad 8 = .ok (.iadd, 1) := by decide +kernel
theorem dX6_bad_9 : decode cX6_bad 9 = .ok (.iastore, 1) := by decide +kernel
theorem dX6_bad_10 : decode cX6_bad 10 = .ok (.iload_n 1, 1) := by decide +kernel
theorem dX6_bad_11 : decode cX6_bad 11 = .ok (.ireturn, 1) := by decide +kernel
theorem dX6_no_0 : decode cX6_no 0 = .ok (.aload_n 0, 1) := by decide +kernel
theorem dX6_no_1 : decode cX6_no 1 = .ok (.getfield 20, 3) := by decide +kernel
theorem dX6_no_4 : decode cX6_no 4 = .ok (.iconst 1, 1) := by decide +kernel
theorem dX6_no_5 : decode cX6_no 5 = .ok (.dup2, 1) := by decide +kernel
theorem dX6_no_6 : decode cX6_no 6 = .ok (.iaload, 1) := by decide +kernel
theorem dX6_no_7 : decode cX6_no 7 = .ok (.iconst 1, 1) := by decide +kernel
theorem dX6_no_8 : decode cX6_no 8 = .ok (.iadd, 1) := by decide +kernel
theorem dX6_no_9 : decode cX6_no 9 = .ok (.iastore, 1) := by decide +kernel
theorem dX6_no_10 : decode cX6_no 10 = .ok (.bipush (-3), 2) := by decide +kernel
theorem dX6_no_12 : decode cX6_no 12 = .ok (.ireturn, 1) := by decide +kernel
theorem dX6_full_0 : decode cX6_full 0 = .ok (.aload_n 0, 1) := by decide +kernel
theorem dX6_full_1 : decode cX6_full 1 = .ok (.getfield 20, 3) := by decide +kernel
theorem dX6_full_4 : decode cX6_full 4 = .ok (.iconst 2, 1) := by decide +kernel
theorem dX6_full_5 : decode cX6_full 5 = .ok (.dup2, 1) := by decide +kernel
theorem dX6_full_6 : decode cX6_full 6 = .ok (.iaload, 1) := by decide +kernel
theorem dX6_full_7 : decode cX6_full 7 = .ok (.iconst 1, 1) := by decide +kernel
theorem dX6_full_8 : decode cX6_full 8 = .ok (.iadd, 1) := by decide +kernel
theorem dX6_full_9 : decode cX6_full 9 = .ok (.iastore, 1) := by decide +kernel
theorem dX6_full_10 : decode cX6_full 10 = .ok (.bipush (-4), 2) := by decide +kernel
theorem dX6_full_12 : decode cX6_full 12 = .ok (.ireturn, 1) := by decide +kernel
theorem dX6_bits_0 : decode cX6_bits 0 = .ok (.iconst 0, 1) := by decide +kernel
theorem dX6_bits_1 : decode cX6_bits 1 = .ok (.istore_n 1, 1) := by decide +kernel
theorem dX6_bits_2 : decode cX6_bits 2 = .ok (.iload_n 0, 1) := by decide +kernel
theorem dX6_bits_3 : decode cX6_bits 3 = .ok (.istore_n 2, 1) := by decide +kernel
theorem dX6_bits_4 : decode cX6_bits 4 = .ok (.iload_n 2, 1) := by decide +kernel
theorem dX6_bits_5 : decode cX6_bits 5 = .ok (.ifCond .le 16, 3) := by decide +kernel
theorem dX6_bits_8 : decode cX6_bits 8 = .ok (.iload_n 1, 1) := by decide +kernel
theorem dX6_bits_9 : decode cX6_bits 9 = .ok (.iload_n 2, 1) := by decide +kernel
theorem dX6_bits_10 : decode cX6_bits 10 = .ok (.iconst 1, 1) := by decide +kernel
theorem dX6_bits_11 : decode cX6_bits 11 = .ok (.iand, 1) := by decide +kernel
theorem dX6_bits_12 : decode cX6_bits 12 = .ok (.iadd, 1) := by decide +kernel
theorem dX6_bits_13 : decode cX6_bits 13 = .ok (.istore_n 1, 1) := by decide +kernel
theorem dX6_bits_14 : decode cX6_bits 14 = .ok (.iload_n 2, 1) := by decide +kernel
theorem dX6_bits_15 : decode cX6_bits 15 = .ok (.iconst 1, 1) := by decide +kernel
theorem dX6_bits_16 : decode cX6_bits 16 = .ok (.ishr, 1) := by decide +kernel
theorem dX6_bits_17 : decode cX6_bits 17 = .ok (.istore_n 2, 1) := by decide +kernel
theorem dX6_bits_18 : decode cX6_bits 18 = .ok (.goto (-14), 3) := by decide +kernel
theorem dX6_bits_21 : decode cX6_bits 21 = .ok (.iload_n 1, 1) := by decide +kernel
theorem dX6_bits_22 : decode cX6_bits 22 = .ok (.ireturn, 1) := by decide +kernel
theorem dX6_begin_0 : decode cX6_begin 0 = .ok (.aload_n 0, 1) := by decide +kernel
theorem dX6_begin_1 : decode cX6_begin 1 = .ok (.iconst 0, 1) := by decide +kernel
theorem dX6_begin_2 : decode cX6_begin 2 = .ok (.iload_n 1, 1) := by decide +kernel
theorem dX6_begin_3 : decode cX6_begin 3 = .ok (.iastore, 1) := by decide +kernel
theorem dX6_begin_4 : decode cX6_begin 4 = .ok (.aload_n 0, 1) := by decide +kernel
theorem dX6_begin_5 : decode cX6_begin 5 = .ok (.iconst 1, 1) := by decide +kernel
theorem dX6_begin_6 : decode cX6_begin 6 = .ok (.iconst 2, 1) := by decide +kernel
theorem dX6_begin_7 : decode cX6_begin 7 = .ok (.iastore, 1) := by decide +kernel
theorem dX6_begin_8 : decode cX6_begin 8 = .ok (.aload_n 0, 1) := by decide +kernel
theorem dX6_begin_9 : decode cX6_begin 9 = .ok (.iconst 2, 1) := by decide +kernel
theorem dX6_begin_10 : decode cX6_begin 10 = .ok (.iconst 1, 1) := by decide +kernel
theorem dX6_begin_11 : decode cX6_begin 11 = .ok (.iastore, 1) := by decide +kernel
theorem dX6_begin_12 : decode cX6_begin 12 = .ok (.iconst 0, 1) := by decide +kernel
theorem dX6_begin_13 : decode cX6_begin 13 = .ok (.istore_n 2, 1) := by decide +kernel
theorem dX6_begin_14 : decode cX6_begin 14 = .ok (.iload_n 2, 1) := by decide +kernel
theorem dX6_begin_15 : decode cX6_begin 15 = .ok (.bipush 7, 2) := by decide +kernel
theorem dX6_begin_17 : decode cX6_begin 17 = .ok (.if_icmp .ge 29, 3) := by decide +kernel
theorem dX6_begin_20 : decode cX6_begin 20 = .ok (.aload_n 0, 1) := by decide +kernel
theorem dX6_begin_21 : decode cX6_begin 21 = .ok (.iconst 3, 1) := by decide +kernel
theorem dX6_begin_22 : decode cX6_begin 22 = .ok (.iload_n 2, 1) := by decide +kernel
theorem dX6_begin_23 : decode cX6_begin 23 = .ok (.iadd, 1) := by decide +kernel
theorem dX6_begin_24 : decode cX6_begin 24 = .ok (.iload_n 2, 1) := by decide +kernel
theorem dX6_begin_25 : decode cX6_begin 25 = .ok (.iastore, 1) := by decide +kernel
theorem dX6_begin_26 : decode cX6_begin 26 = .ok (.aload_n 0, 1) := by decide +kernel
theorem dX6_begin_27 : decode cX6_begin 27 = .ok (.bipush 10, 2) := by decide +kernel
theorem dX6_begin_29 : decode cX6_begin 29 = .ok (.iload_n 2, 1) := by decide +kernel
theorem dX6_begin_30 : decode cX6_begin 30 = .ok (.iadd, 1) := by decide +kernel
theorem dX6_begin_31 : decode cX6_begin 31 = .ok (.iconst 0, 1) := by decide +kernel
theorem dX6_begin_32 : decode cX6_begin 32 = .ok (.iastore, 1) := by decide +kernel
theorem dX6_begin_33 : decode cX6_begin 33 = .ok (.aload_n 0, 1) := by decide +kernel
theorem dX6_begin_34 : decode cX6_begin 34 = .ok (.bipush 17, 2) := by decide +kernel
theorem dX6_begin_36 : decode cX6_begin 36 = .ok (.iload_n 2, 1) := by decide +kernel
theorem dX6_begin_37 : decode cX6_begin 37 = .ok (.iadd, 1) := by decide +kernel
theorem dX6_begin_38 : decode cX6_begin 38 = .ok (.iconst (-1), 1) := by decide +kernel
theorem dX6_begin_39 : decode cX6_begin 39 = .ok (.iastore, 1) := by decide +kernel
theorem dX6_begin_40 : decode cX6_begin 40 = .ok (.iinc 2 1, 3) := by decide +kernel
theorem dX6_begin_43 : decode cX6_begin 43 = .ok (.goto (-29), 3) := by decide +kernel
theorem dX6_begin_46 : decode cX6_begin 46 = .ok (.aload_n 0, 1) := by decide +kernel
theorem dX6_begin_47 : decode cX6_begin 47 = .ok (.bipush 24, 2) := by decide +kernel
theorem dX6_begin_49 : decode cX6_begin 49 = .ok (.iconst 0, 1) := by decide +kernel
theorem dX6_begin_50 : decode cX6_begin 50 = .ok (.iastore, 1) := by decide +kernel
theorem dX6_begin_51 : decode cX6_begin 51 = .ok (.aload_n 0, 1) := by decide +kernel
theorem dX6_begin_52 : decode cX6_begin 52 = .ok (.bipush 41, 2) := by decide +kernel
theorem dX6_begin_54 : decode cX6_begin 54 = .ok (.iconst 0, 1) := by decide +kernel
theorem dX6_begin_55 : decode cX6_begin 55 = .ok (.iastore, 1) := by decide +kernel
theorem dX6_begin_56 : decode cX6_begin 56 = .ok (.aload_n 0, 1) := by decide +kernel
theorem dX6_begin_57 : decode cX6_begin 57 = .ok (.bipush 46, 2) := by decide +kernel
theorem dX6_begin_59 : decode cX6_begin 59 = .ok (.iconst 0, 1) := by decide +kernel
theorem dX6_begin_60 : decode cX6_begin 60 = .ok (.iastore, 1) := by decide +kernel
theorem dX6_begin_61 : decode cX6_begin 61 = .ok (.return_, 1) := by decide +kernel
theorem dX6_n_0 : decode cX6_n 0 = .ok (.aload_n 0, 1) := by decide +kernel
theorem dX6_n_1 : decode cX6_n 1 = .ok (.getfield 7, 3) := by decide +kernel
theorem dX6_n_4 : decode cX6_n 4 = .ok (.iconst 0, 1) := by decide +kernel
theorem dX6_n_5 : decode cX6_n 5 = .ok (.iaload, 1) := by decide +kernel
theorem dX6_n_6 : decode cX6_n 6 = .ok (.ireturn, 1) := by decide +kernel
theorem dX6_isBox_0 : decode cX6_isBox 0 = .ok (.iload_n 1, 1) := by decide +kernel
theorem dX6_isBox_1 : decode cX6_isBox 1 = .ok (.i2l, 1) := by decide +kernel
theorem dX6_isBox_2 : decode cX6_isBox 2 = .ok (.lconst 0, 1) := by decide +kernel
theorem dX6_isBox_3 : decode cX6_isBox 3 = .ok (.aload_n 0, 1) := by decide +kernel
theorem dX6_isBox_4 : decode cX6_isBox 4 = .ok (.invokevirtual 73, 3) := by decide +kernel
theorem dX6_isBox_7 : decode cX6_isBox 7 = .ok (.iconst 1, 1) := by decide +kernel
theorem dX6_isBox_8 : decode cX6_isBox 8 = .ok (.isub, 1) := by decide +kernel
theorem dX6_isBox_9 : decode cX6_isBox 9 = .ok (.i2l, 1) := by decide +kernel
theorem dX6_isBox_10 : decode cX6_isBox 10 = .ok (.invokestatic 77, 3) := by decide +kernel
theorem dX6_isBox_13 : decode cX6_isBox 13 = .ok (.ireturn, 1) := by decide +kernel
theorem dX6_boxes_0 : decode cX6_boxes 0 = .ok (.iload_n 1, 1) := by decide +kernel
theorem dX6_boxes_1 : decode cX6_boxes 1 = .ok (.i2l, 1) := by decide +kernel
theorem dX6_boxes_2 : decode cX6_boxes 2 = .ok (.ldc2_w 81, 3) := by decide +kernel
theorem dX6_boxes_5 : decode cX6_boxes 5 = .ok (.ldc2_w 83, 3) := by decide +kernel
theorem dX6_boxes_8 : decode cX6_boxes 8 = .ok (.invokestatic 77, 3) := by decide +kernel
theorem dX6_boxes_11 : decode cX6_boxes 11 = .ok (.ifCond .ne 10, 3) := by decide +kernel
theorem dX6_boxes_14 : decode cX6_boxes 14 = .ok (.aload_n 0, 1) := by decide +kernel
theorem dX6_boxes_15 : decode cX6_boxes 15 = .ok (.bipush (-2), 2) := by decide +kernel
theorem dX6_boxes_17 : decode cX6_boxes 17 = .ok (.invokevirtual 85, 3) := by decide +kernel
theorem dX6_boxes_20 : decode cX6_boxes 20 = .ok (.ireturn, 1) := by decide +kernel
theorem dX6_boxes_21 : decode cX6_boxes 21 = .ok (.aload_n 0, 1) := by decide +kernel
theorem dX6_boxes_22 : decode cX6_boxes 22 = .ok (.invokevirtual 73, 3) := by decide +kernel
theorem dX6_boxes_25 : decode cX6_boxes 25 = .ok (.istore_n 2, 1) := by decide +kernel
theorem dX6_boxes_26 : decode cX6_boxes 26 = .ok (.aload_n 0, 1) := by decide +kernel
theorem dX6_boxes_27 : decode cX6_boxes 27 = .ok (.getfield 7, 3) := by decide +kernel
theorem dX6_boxes_30 : decode cX6_boxes 30 = .ok (.iload_n 1, 1) := by decide +kernel
theorem dX6_boxes_31 : decode cX6_boxes 31 = .ok (.invokestatic 69, 3) := by decide +kernel
theorem dX6_boxes_34 : decode cX6_boxes 34 = .ok (.iload_n 2, 1) := by decide +kernel
theorem dX6_boxes_35 : decode cX6_boxes 35 = .ok (.ireturn, 1) := by decide +kernel
theorem dX6_put_0 : decode cX6_put 0 = .ok (.iload_n 1, 1) := by decide +kernel
theorem dX6_put_1 : decode cX6_put 1 = .ok (.ifCond .ne 17, 3) := by decide +kernel
theorem dX6_put_4 : decode cX6_put 4 = .ok (.iload_n 2, 1) := by decide +kernel
theorem dX6_put_5 : decode cX6_put 5 = .ok (.i2l, 1) := by decide +kernel
theorem dX6_put_6 : decode cX6_put 6 = .ok (.lconst 1, 1) := by decide +kernel
theorem dX6_put_7 : decode cX6_put 7 = .ok (.aload_n 0, 1) := by decide +kernel
theorem dX6_put_8 : decode cX6_put 8 = .ok (.invokevirtual 73, 3) := by decide +kernel
theorem dX6_put_11 : decode cX6_put 11 = .ok (.i2l, 1) := by decide +kernel
theorem dX6_put_12 : decode cX6_put 12 = .ok (.invokestatic 77, 3) := by decide +kernel
theorem dX6_put_15 : decode cX6_put 15 = .ok (.goto 25, 3) := by decide +kernel
theorem dX6_put_18 : decode cX6_put 18 = .ok (.iload_n 1, 1) := by decide +kernel
theorem dX6_put_19 : decode cX6_put 19 = .ok (.iconst 1, 1) := by decide +kernel
theorem dX6_put_20 : decode cX6_put 20 = .ok (.if_icmp .ne 19, 3) := by decide +kernel
theorem dX6_put_23 : decode cX6_put 23 = .ok (.iload_n 2, 1) := by decide +kernel
theorem dX6_put_24 : decode cX6_put 24 = .ok (.i2l, 1) := by decide +kernel
theorem dX6_put_25 : decode cX6_put 25 = .ok (.lconst 0, 1) := by decide +kernel
theorem dX6_put_26 : decode cX6_put 26 = .ok (.ldc2_w 89, 3) := by decide +kernel
theorem dX6_put_29 : decode cX6_put 29 = .ok (.invokestatic 77, 3) := by decide +kernel
theorem dX6_put_32 : decode cX6_put 32 = .ok (.ifCond .eq 7, 3) := by decide +kernel
theorem dX6_put_35 : decode cX6_put 35 = .ok (.iconst 1, 1) := by decide +kernel
theorem dX6_put_36 : decode cX6_put 36 = .ok (.goto 4, 3) := by decide +kernel
theorem dX6_put_39 : decode cX6_put 39 = .ok (.iconst 0, 1) := by decide +kernel
theorem dX6_put_40 : decode cX6_put 40 = .ok (.istore_n 3, 1) := by decide +kernel
theorem dX6_put_41 : decode cX6_put 41 = .ok (.iload_n 3, 1) := by decide +kernel
theorem dX6_put_42 : decode cX6_put 42 = .ok (.ifCond .ne 10, 3) := by decide +kernel
theorem dX6_put_45 : decode cX6_put 45 = .ok (.aload_n 0, 1) := by decide +kernel
theorem dX6_put_46 : decode cX6_put 46 = .ok (.bipush (-2), 2) := by decide +kernel
theorem dX6_put_48 : decode cX6_put 48 = .ok (.invokevirtual 85, 3) := by decide +kernel
theorem dX6_put_51 : decode cX6_put 51 = .ok (.ireturn, 1) := by decide +kernel
theorem dX6_put_52 : decode cX6_put 52 = .ok (.aload_n 0, 1) := by decide +kernel
theorem dX6_put_53 : decode cX6_put 53 = .ok (.getfield 7, 3) := by decide +kernel
theorem dX6_put_56 : decode cX6_put 56 = .ok (.iconst 1, 1) := by decide +kernel
theorem dX6_put_57 : decode cX6_put 57 = .ok (.iload_n 1, 1) := by decide +kernel
theorem dX6_put_58 : decode cX6_put 58 = .ok (.iadd, 1) := by decide +kernel
theorem dX6_put_59 : decode cX6_put 59 = .ok (.iaload, 1) := by decide +kernel
theorem dX6_put_60 : decode cX6_put 60 = .ok (.istore 4, 2) := by decide +kernel
theorem dX6_put_62 : decode cX6_put 62 = .ok (.aload_n 0, 1) := by decide +kernel
theorem dX6_put_63 : decode cX6_put 63 = .ok (.getfield 7, 3) := by decide +kernel
theorem dX6_put_66 : decode cX6_put 66 = .ok (.iconst 1, 1) := by decide +kernel
theorem dX6_put_67 : decode cX6_put 67 = .ok (.iload_n 1, 1) := by decide +kernel
theorem dX6_put_68 : decode cX6_put 68 = .ok (.iadd, 1) := by decide +kernel
theorem dX6_put_69 : decode cX6_put 69 = .ok (.iload_n 2, 1) := by decide +kernel
theorem dX6_put_70 : decode cX6_put 70 = .ok (.iastore, 1) := by decide +kernel
theorem dX6_put_71 : decode cX6_put 71 = .ok (.iload 4, 2) := by decide +kernel
theorem dX6_put_73 : decode cX6_put 73 = .ok (.ireturn, 1) := by decide +kernel
theorem dX6_rule_0 : decode cX6_rule 0 = .ok (.aload_n 0, 1) := by decide +kernel
theorem dX6_rule_1 : decode cX6_rule 1 = .ok (.iload_n 1, 1) := by decide +kernel
theorem dX6_rule_2 : decode cX6_rule 2 = .ok (.invokevirtual 91, 3) := by decide +kernel
theorem dX6_rule_5 : decode cX6_rule 5 = .ok (.ifCond .eq 15, 3) := by decide +kernel
theorem dX6_rule_8 : decode cX6_rule 8 = .ok (.iload_n 2, 1) := by decide +kernel
theorem dX6_rule_9 : decode cX6_rule 9 = .ok (.i2l, 1) := by decide +kernel
theorem dX6_rule_10 : decode cX6_rule 10 = .ok (.lconst 0, 1) := by decide +kernel
theorem dX6_rule_11 : decode cX6_rule 11 = .ok (.ldc2_w 95, 3) := by decide +kernel
theorem dX6_rule_14 : decode cX6_rule 14 = .ok (.invokestatic 77, 3) := by decide +kernel
theorem dX6_rule_17 : decode cX6_rule 17 = .ok (.ifCond .ne 10, 3) := by decide +kernel
theorem dX6_rule_20 : decode cX6_rule 20 = .ok (.aload_n 0, 1) := by decide +kernel
theorem dX6_rule_21 : decode cX6_rule 21 = .ok (.bipush (-2), 2) := by decide +kernel
theorem dX6_rule_23 : decode cX6_rule 23 = .ok (.invokevirtual 85, 3) := by decide +kernel
theorem dX6_rule_26 : decode cX6_rule 26 = .ok (.ireturn, 1) := by decide +kernel
theorem dX6_rule_27 : decode cX6_rule 27 = .ok (.aload_n 0, 1) := by decide +kernel
theorem dX6_rule_28 : decode cX6_rule 28 = .ok (.getfield 7, 3) := by decide +kernel
theorem dX6_rule_31 : decode cX6_rule 31 = .ok (.bipush 10, 2) := by decide +kernel
theorem dX6_rule_33 : decode cX6_rule 33 = .ok (.iload_n 1, 1) := by decide +kernel
theorem dX6_rule_34 : decode cX6_rule 34 = .ok (.iadd, 1) := by decide +kernel
theorem dX6_rule_35 : decode cX6_rule 35 = .ok (.iaload, 1) := by decide +kernel
theorem dX6_rule_36 : decode cX6_rule 36 = .ok (.istore_n 3, 1) := by decide +kernel
theorem dX6_rule_37 : decode cX6_rule 37 = .ok (.aload_n 0, 1) := by decide +kernel
theorem dX6_rule_38 : decode cX6_rule 38 = .ok (.getfield 7, 3) := by decide +kernel
theorem dX6_rule_41 : decode cX6_rule 41 = .ok (.bipush 10, 2) := by decide +kernel
theorem dX6_rule_43 : decode cX6_rule 43 = .ok (.iload_n 1, 1) := by decide +kernel
theorem dX6_rule_44 : decode cX6_rule 44 = .ok (.iadd, 1) := by decide +kernel
theorem dX6_rule_45 : decode cX6_rule 45 = .ok (.iload_n 2, 1) := by decide +kernel
theorem dX6_rule_46 : decode cX6_rule 46 = .ok (.iastore, 1) := by decide +kernel
theorem dX6_rule_47 : decode cX6_rule 47 = .ok (.iload_n 3, 1) := by decide +kernel
theorem dX6_rule_48 : decode cX6_rule 48 = .ok (.ireturn, 1) := by decide +kernel
theorem dX6_takeNow_0 : decode cX6_takeNow 0 = .ok (.iconst 0, 1) := by decide +kernel
theorem dX6_takeNow_1 : decode cX6_takeNow 1 = .ok (.istore_n 1, 1) := by decide +kernel
theorem dX6_takeNow_2 : decode cX6_takeNow 2 = .ok (.iload_n 1, 1) := by decide +kernel
theorem dX6_takeNow_3 : decode cX6_takeNow 3 = .ok (.aload_n 0, 1) := by decide +kernel
theorem dX6_takeNow_4 : decode cX6_takeNow 4 = .ok (.invokevirtual 73, 3) := by decide +kernel
theorem dX6_takeNow_7 : decode cX6_takeNow 7 = .ok (.if_icmp .ge 23, 3) := by decide +kernel
theorem dX6_takeNow_10 : decode cX6_takeNow 10 = .ok (.aload_n 0, 1) := by decide +kernel
theorem dX6_takeNow_11 : decode cX6_takeNow 11 = .ok (.getfield 27, 3) := by decide +kernel
theorem dX6_takeNow_14 : decode cX6_takeNow 14 = .ok (.iload_n 1, 1) := by decide +kernel
theorem dX6_takeNow_15 : decode cX6_takeNow 15 = .ok (.aload_n 0, 1) := by decide +kernel
theorem dX6_takeNow_16 : decode cX6_takeNow 16 = .ok (.getfield 7, 3) := by decide +kernel
theorem dX6_takeNow_19 : decode cX6_takeNow 19 = .ok (.iconst 3, 1) := by decide +kernel
theorem dX6_takeNow_20 : decode cX6_takeNow 20 = .ok (.iload_n 1, 1) := by decide +kernel
theorem dX6_takeNow_21 : decode cX6_takeNow 21 = .ok (.iadd, 1) := by decide +kernel
theorem dX6_takeNow_22 : decode cX6_takeNow 22 = .ok (.iaload, 1) := by decide +kernel
theorem dX6_takeNow_23 : decode cX6_takeNow 23 = .ok (.iastore, 1) := by decide +kernel
theorem dX6_takeNow_24 : decode cX6_takeNow 24 = .ok (.iinc 1 1, 3) := by decide +kernel
theorem dX6_takeNow_27 : decode cX6_takeNow 27 = .ok (.goto (-25), 3) := by decide +kernel
theorem dX6_takeNow_30 : decode cX6_takeNow 30 = .ok (.return_, 1) := by decide +kernel
theorem dX6_factorial_0 : decode cX6_factorial 0 = .ok (.iconst 1, 1) := by decide +kernel
theorem dX6_factorial_1 : decode cX6_factorial 1 = .ok (.istore_n 1, 1) := by decide +kernel
theorem dX6_factorial_2 : decode cX6_factorial 2 = .ok (.iconst 2, 1) := by decide +kernel
theorem dX6_factorial_3 : decode cX6_factorial 3 = .ok (.istore_n 2, 1) := by decide +kernel
theorem dX6_factorial_4 : decode cX6_factorial 4 = .ok (.iload_n 2, 1) := by decide +kernel
theorem dX6_factorial_5 : decode cX6_factorial 5 = .ok (.iload_n 0, 1) := by decide +kernel
theorem dX6_factorial_6 : decode cX6_factorial 6 = .ok (.if_icmp .gt 13, 3) := by decide +kernel
theorem dX6_factorial_9 : decode cX6_factorial 9 = .ok (.iload_n 1, 1) := by decide +kernel
theorem dX6_factorial_10 : decode cX6_factorial 10 = .ok (.iload_n 2, 1) := by decide +kernel
theorem dX6_factorial_11 : decode cX6_factorial 11 = .ok (.imul, 1) := by decide +kernel
theorem dX6_factorial_12 : decode cX6_factorial 12 = .ok (.istore_n 1, 1) := by decide +kernel
theorem dX6_factorial_13 : decode cX6_factorial 13 = .ok (.iinc 2 1, 3) := by decide +kernel
theorem dX6_factorial_16 : decode cX6_factorial 16 = .ok (.goto (-12), 3) := by decide +kernel
theorem dX6_factorial_19 : decode cX6_factorial 19 = .ok (.iload_n 1, 1) := by decide +kernel
theorem dX6_factorial_20 : decode cX6_factorial 20 = .ok (.ireturn, 1) := by decide +kernel
theorem dX6_ways_0 : decode cX6_ways 0 = .ok (.aload_n 0, 1) := by decide +kernel
theorem dX6_ways_1 : decode cX6_ways 1 = .ok (.invokevirtual 73, 3) := by decide +kernel
theorem dX6_ways_4 : decode cX6_ways 4 = .ok (.invokestatic 97, 3) := by decide +kernel
theorem dX6_ways_7 : decode cX6_ways 7 = .ok (.ireturn, 1) := by decide +kernel
theorem dX6_rankOf_0 : decode cX6_rankOf 0 = .ok (.iconst 0, 1) := by decide +kernel
theorem dX6_rankOf_1 : decode cX6_rankOf 1 = .ok (.istore_n 1, 1) := by decide +kernel
theorem dX6_rankOf_2 : decode cX6_rankOf 2 = .ok (.iconst 0, 1) := by decide +kernel
theorem dX6_rankOf_3 : decode cX6_rankOf 3 = .ok (.istore_n 2, 1) := by decide +kernel
theorem dX6_rankOf_4 : decode cX6_rankOf 4 = .ok (.iload_n 2, 1) := by decide +kernel
theorem dX6_rankOf_5 : decode cX6_rankOf 5 = .ok (.aload_n 0, 1) := by decide +kernel
theorem dX6_rankOf_6 : decode cX6_rankOf 6 = .ok (.invokevirtual 73, 3) := by decide +kernel
theorem dX6_rankOf_9 : decode cX6_rankOf 9 = .ok (.if_icmp .ge 71, 3) := by decide +kernel
theorem dX6_rankOf_12 : decode cX6_rankOf 12 = .ok (.iconst 0, 1) := by decide +kernel
theorem dX6_rankOf_13 : decode cX6_rankOf 13 = .ok (.istore_n 3, 1) := by decide +kernel
theorem dX6_rankOf_14 : decode cX6_rankOf 14 = .ok (.iload_n 2, 1) := by decide +kernel
theorem dX6_rankOf_15 : decode cX6_rankOf 15 = .ok (.iconst 1, 1) := by decide +kernel
theorem dX6_rankOf_16 : decode cX6_rankOf 16 = .ok (.iadd, 1) := by decide +kernel
theorem dX6_rankOf_17 : decode cX6_rankOf 17 = .ok (.istore 4, 2) := by decide +kernel
theorem dX6_rankOf_19 : decode cX6_rankOf 19 = .ok (.iload 4, 2) := by decide +kernel
theorem dX6_rankOf_21 : decode cX6_rankOf 21 = .ok (.aload_n 0, 1) := by decide +kernel
theorem dX6_rankOf_22 : decode cX6_rankOf 22 = .ok (.invokevirtual 73, 3) := by decide +kernel
theorem dX6_rankOf_25 : decode cX6_rankOf 25 = .ok (.if_icmp .ge 33, 3) := by decide +kernel
theorem dX6_rankOf_28 : decode cX6_rankOf 28 = .ok (.iload_n 3, 1) := by decide +kernel
theorem dX6_rankOf_29 : decode cX6_rankOf 29 = .ok (.aload_n 0, 1) := by decide +kernel
theorem dX6_rankOf_30 : decode cX6_rankOf 30 = .ok (.getfield 27, 3) := by decide +kernel
theorem dX6_rankOf_33 : decode cX6_rankOf 33 = .ok (.iload 4, 2) := by decide +kernel
theorem dX6_rankOf_35 : decode cX6_rankOf 35 = .ok (.iaload, 1) := by decide +kernel
theorem dX6_rankOf_36 : decode cX6_rankOf 36 = .ok (.aload_n 0, 1) := by decide +kernel
theorem dX6_rankOf_37 : decode cX6_rankOf 37 = .ok (.getfield 27, 3) := by decide +kernel
theorem dX6_rankOf_40 : decode cX6_rankOf 40 = .ok (.iload_n 2, 1) := by decide +kernel
theorem dX6_rankOf_41 : decode cX6_rankOf 41 = .ok (.iaload, 1) := by decide +kernel
theorem dX6_rankOf_42 : decode cX6_rankOf 42 = .ok (.if_icmp .ge 7, 3) := by decide +kernel
theorem dX6_rankOf_45 : decode cX6_rankOf 45 = .ok (.iconst 1, 1) := by decide +kernel
theorem dX6_rankOf_46 : decode cX6_rankOf 46 = .ok (.goto 4, 3) := by decide +kernel
theorem dX6_rankOf_49 : decode cX6_rankOf 49 = .ok (.iconst 0, 1) := by decide +kernel
theorem dX6_rankOf_50 : decode cX6_rankOf 50 = .ok (.iadd, 1) := by decide +kernel
theorem dX6_rankOf_51 : decode cX6_rankOf 51 = .ok (.istore_n 3, 1) := by decide +kernel
theorem dX6_rankOf_52 : decode cX6_rankOf 52 = .ok (.iinc 4 1, 3) := by decide +kernel
theorem dX6_rankOf_55 : decode cX6_rankOf 55 = .ok (.goto (-36), 3) := by decide +kernel
theorem dX6_rankOf_58 : decode cX6_rankOf 58 = .ok (.iload_n 1, 1) := by decide +kernel
theorem dX6_rankOf_59 : decode cX6_rankOf 59 = .ok (.iload_n 3, 1) := by decide +kernel
theorem dX6_rankOf_60 : decode cX6_rankOf 60 = .ok (.aload_n 0, 1) := by decide +kernel
theorem dX6_rankOf_61 : decode cX6_rankOf 61 = .ok (.invokevirtual 73, 3) := by decide +kernel
theorem dX6_rankOf_64 : decode cX6_rankOf 64 = .ok (.iconst 1, 1) := by decide +kernel
theorem dX6_rankOf_65 : decode cX6_rankOf 65 = .ok (.isub, 1) := by decide +kernel
theorem dX6_rankOf_66 : decode cX6_rankOf 66 = .ok (.iload_n 2, 1) := by decide +kernel
theorem dX6_rankOf_67 : decode cX6_rankOf 67 = .ok (.isub, 1) := by decide +kernel
theorem dX6_rankOf_68 : decode cX6_rankOf 68 = .ok (.invokestatic 97, 3) := by decide +kernel
theorem dX6_rankOf_71 : decode cX6_rankOf 71 = .ok (.imul, 1) := by decide +kernel
theorem dX6_rankOf_72 : decode cX6_rankOf 72 = .ok (.iadd, 1) := by decide +kernel
theorem dX6_rankOf_73 : decode cX6_rankOf 73 = .ok (.istore_n 1, 1) := by decide +kernel
theorem dX6_rankOf_74 : decode cX6_rankOf 74 = .ok (.iinc 2 1, 3) := by decide +kernel
theorem dX6_rankOf_77 : decode cX6_rankOf 77 = .ok (.goto (-73), 3) := by decide +kernel
theorem dX6_rankOf_80 : decode cX6_rankOf 80 = .ok (.iload_n 1, 1) := by decide +kernel
theorem dX6_rankOf_81 : decode cX6_rankOf 81 = .ok (.ireturn, 1) := by decide +kernel
theorem dX6_takeRank_0 : decode cX6_takeRank 0 = .ok (.iconst 0, 1) := by decide +kernel
theorem dX6_takeRank_1 : decode cX6_takeRank 1 = .ok (.istore_n 2, 1) := by decide +kernel
theorem dX6_takeRank_2 : decode cX6_takeRank 2 = .ok (.iload_n 1, 1) := by decide +kernel
theorem dX6_takeRank_3 : decode cX6_takeRank 3 = .ok (.istore_n 3, 1) := by decide +kernel
theorem dX6_takeRank_4 : decode cX6_takeRank 4 = .ok (.iconst 0, 1) := by decide +kernel
theorem dX6_takeRank_5 : decode cX6_takeRank 5 = .ok (.istore 4, 2) := by decide +kernel
theorem dX6_takeRank_7 : decode cX6_takeRank 7 = .ok (.iload 4, 2) := by decide +kernel
theorem dX6_takeRank_9 : decode cX6_takeRank 9 = .ok (.aload_n 0, 1) := by decide +kernel
theorem dX6_takeRank_10 : decode cX6_takeRank 10 = .ok (.invokevirtual 73, 3) := by decide +kernel
theorem dX6_takeRank_13 : decode cX6_takeRank 13 = .ok (.if_icmp .ge 93, 3) := by decide +kernel
theorem dX6_takeRank_16 : decode cX6_takeRank 16 = .ok (.aload_n 0, 1) := by decide +kernel
theorem dX6_takeRank_17 : decode cX6_takeRank 17 = .ok (.invokevirtual 73, 3) := by decide +kernel
theorem dX6_takeRank_20 : decode cX6_takeRank 20 = .ok (.iconst 1, 1) := by decide +kernel
theorem dX6_takeRank_21 : decode cX6_takeRank 21 = .ok (.isub, 1) := by decide +kernel
theorem dX6_takeRank_22 : decode cX6_takeRank 22 = .ok (.iload 4, 2) := by decide +kernel
theorem dX6_takeRank_24 : decode cX6_takeRank 24 = .ok (.isub, 1) := by decide +kernel
theorem dX6_takeRank_25 : decode cX6_takeRank 25 = .ok (.invokestatic 97, 3) := by decide +kernel
theorem dX6_takeRank_28 : decode cX6_takeRank 28 = .ok (.istore 5, 2) := by decide +kernel
theorem dX6_takeRank_30 : decode cX6_takeRank 30 = .ok (.iload_n 3, 1) := by decide +kernel
theorem dX6_takeRank_31 : decode cX6_takeRank 31 = .ok (.iload 5, 2) := by decide +kernel
theorem dX6_takeRank_33 : decode cX6_takeRank 33 = .ok (.idiv, 1) := by decide +kernel
theorem dX6_takeRank_34 : decode cX6_takeRank 34 = .ok (.istore 6, 2) := by decide +kernel
theorem dX6_takeRank_36 : decode cX6_takeRank 36 = .ok (.iload_n 3, 1) := by decide +kernel
theorem dX6_takeRank_37 : decode cX6_takeRank 37 = .ok (.iload 5, 2) := by decide +kernel
theorem dX6_takeRank_39 : decode cX6_takeRank 39 = .ok (.irem, 1) := by decide +kernel
theorem dX6_takeRank_40 : decode cX6_takeRank 40 = .ok (.istore_n 3, 1) := by decide +kernel
theorem dX6_takeRank_41 : decode cX6_takeRank 41 = .ok (.iconst 0, 1) := by decide +kernel
theorem dX6_takeRank_42 : decode cX6_takeRank 42 = .ok (.istore 7, 2) := by decide +kernel
theorem dX6_takeRank_44 : decode cX6_takeRank 44 = .ok (.iload_n 2, 1) := by decide +kernel
theorem dX6_takeRank_45 : decode cX6_takeRank 45 = .ok (.iload 7, 2) := by decide +kernel
theorem dX6_takeRank_47 : decode cX6_takeRank 47 = .ok (.ishr, 1) := by decide +kernel
theorem dX6_takeRank_48 : decode cX6_takeRank 48 = .ok (.iconst 1, 1) := by decide +kernel
theorem dX6_takeRank_49 : decode cX6_takeRank 49 = .ok (.iand, 1) := by decide +kernel
theorem dX6_takeRank_50 : decode cX6_takeRank 50 = .ok (.iconst 1, 1) := by decide +kernel
theorem dX6_takeRank_51 : decode cX6_takeRank 51 = .ok (.if_icmp .eq 8, 3) := by decide +kernel
theorem dX6_takeRank_54 : decode cX6_takeRank 54 = .ok (.iload 6, 2) := by decide +kernel
theorem dX6_takeRank_56 : decode cX6_takeRank 56 = .ok (.ifCond .le 28, 3) := by decide +kernel
theorem dX6_takeRank_59 : decode cX6_takeRank 59 = .ok (.iload 6, 2) := by decide +kernel
theorem dX6_takeRank_61 : decode cX6_takeRank 61 = .ok (.iload_n 2, 1) := by decide +kernel
theorem dX6_takeRank_62 : decode cX6_takeRank 62 = .ok (.iload 7, 2) := by decide +kernel
theorem dX6_takeRank_64 : decode cX6_takeRank 64 = .ok (.ishr, 1) := by decide +kernel
theorem dX6_takeRank_65 : decode cX6_takeRank 65 = .ok (.iconst 1, 1) := by decide +kernel
theorem dX6_takeRank_66 : decode cX6_takeRank 66 = .ok (.iand, 1) := by decide +kernel
theorem dX6_takeRank_67 : decode cX6_takeRank 67 = .ok (.ifCond .ne 7, 3) := by decide +kernel
theorem dX6_takeRank_70 : decode cX6_takeRank 70 = .ok (.iconst 1, 1) := by decide +kernel
theorem dX6_takeRank_71 : decode cX6_takeRank 71 = .ok (.goto 4, 3) := by decide +kernel
theorem dX6_takeRank_74 : decode cX6_takeRank 74 = .ok (.iconst 0, 1) := by decide +kernel
theorem dX6_takeRank_75 : decode cX6_takeRank 75 = .ok (.isub, 1) := by decide +kernel
theorem dX6_takeRank_76 : decode cX6_takeRank 76 = .ok (.istore 6, 2) := by decide +kernel
theorem dX6_takeRank_78 : decode cX6_takeRank 78 = .ok (.iinc 7 1, 3) := by decide +kernel
theorem dX6_takeRank_81 : decode cX6_takeRank 81 = .ok (.goto (-37), 3) := by decide +kernel
theorem dX6_takeRank_84 : decode cX6_takeRank 84 = .ok (.aload_n 0, 1) := by decide +kernel
theorem dX6_takeRank_85 : decode cX6_takeRank 85 = .ok (.getfield 27, 3) := by decide +kernel
theorem dX6_takeRank_88 : decode cX6_takeRank 88 = .ok (.iload 4, 2) := by decide +kernel
theorem dX6_takeRank_90 : decode cX6_takeRank 90 = .ok (.iload 7, 2) := by decide +kernel
theorem dX6_takeRank_92 : decode cX6_takeRank 92 = .ok (.iastore, 1) := by decide +kernel
theorem dX6_takeRank_93 : decode cX6_takeRank 93 = .ok (.iload_n 2, 1) := by decide +kernel
theorem dX6_takeRank_94 : decode cX6_takeRank 94 = .ok (.iconst 1, 1) := by decide +kernel
theorem dX6_takeRank_95 : decode cX6_takeRank 95 = .ok (.iload 7, 2) := by decide +kernel
theorem dX6_takeRank_97 : decode cX6_takeRank 97 = .ok (.ishl, 1) := by decide +kernel
theorem dX6_takeRank_98 : decode cX6_takeRank 98 = .ok (.ior, 1) := by decide +kernel
theorem dX6_takeRank_99 : decode cX6_takeRank 99 = .ok (.istore_n 2, 1) := by decide +kernel
theorem dX6_takeRank_100 : decode cX6_takeRank 100 = .ok (.iinc 4 1, 3) := by decide +kernel
theorem dX6_takeRank_103 : decode cX6_takeRank 103 = .ok (.goto (-96), 3) := by decide +kernel
theorem dX6_takeRank_106 : decode cX6_takeRank 106 = .ok (.return_, 1) := by decide +kernel
theorem dX6_rankNow_0 : decode cX6_rankNow 0 = .ok (.aload_n 0, 1) := by decide +kernel
theorem dX6_rankNow_1 : decode cX6_rankNow 1 = .ok (.invokevirtual 100, 3) := by decide +kernel
theorem dX6_rankNow_4 : decode cX6_rankNow 4 = .ok (.aload_n 0, 1) := by decide +kernel
theorem dX6_rankNow_5 : decode cX6_rankNow 5 = .ok (.invokevirtual 103, 3) := by decide +kernel
theorem dX6_rankNow_8 : decode cX6_rankNow 8 = .ok (.ireturn, 1) := by decide +kernel
theorem dX6_putWay_0 : decode cX6_putWay 0 = .ok (.aload_n 0, 1) := by decide +kernel
theorem dX6_putWay_1 : decode cX6_putWay 1 = .ok (.getfield 7, 3) := by decide +kernel
theorem dX6_putWay_4 : decode cX6_putWay 4 = .ok (.bipush 46, 2) := by decide +kernel
theorem dX6_putWay_6 : decode cX6_putWay 6 = .ok (.iaload, 1) := by decide +kernel
theorem dX6_putWay_7 : decode cX6_putWay 7 = .ok (.bipush 10, 2) := by decide +kernel
theorem dX6_putWay_9 : decode cX6_putWay 9 = .ok (.if_icmp .ne 46, 3) := by decide +kernel
theorem dX6_putWay_12 : decode cX6_putWay 12 = .ok (.iconst 0, 1) := by decide +kernel
theorem dX6_putWay_13 : decode cX6_putWay 13 = .ok (.istore_n 1, 1) := by decide +kernel
theorem dX6_putWay_14 : decode cX6_putWay 14 = .ok (.iload_n 1, 1) := by decide +kernel
theorem dX6_putWay_15 : decode cX6_putWay 15 = .ok (.bipush 9, 2) := by decide +kernel
theorem dX6_putWay_17 : decode cX6_putWay 17 = .ok (.if_icmp .ge 29, 3) := by decide +kernel
theorem dX6_putWay_20 : decode cX6_putWay 20 = .ok (.aload_n 0, 1) := by decide +kernel
theorem dX6_putWay_21 : decode cX6_putWay 21 = .ok (.getfield 7, 3) := by decide +kernel
theorem dX6_putWay_24 : decode cX6_putWay 24 = .ok (.bipush 47, 2) := by decide +kernel
theorem dX6_putWay_26 : decode cX6_putWay 26 = .ok (.iload_n 1, 1) := by decide +kernel
theorem dX6_putWay_27 : decode cX6_putWay 27 = .ok (.iadd, 1) := by decide +kernel
theorem dX6_putWay_28 : decode cX6_putWay 28 = .ok (.aload_n 0, 1) := by decide +kernel
theorem dX6_putWay_29 : decode cX6_putWay 29 = .ok (.getfield 7, 3) := by decide +kernel
theorem dX6_putWay_32 : decode cX6_putWay 32 = .ok (.bipush 47, 2) := by decide +kernel
theorem dX6_putWay_34 : decode cX6_putWay 34 = .ok (.iload_n 1, 1) := by decide +kernel
theorem dX6_putWay_35 : decode cX6_putWay 35 = .ok (.iadd, 1) := by decide +kernel
theorem dX6_putWay_36 : decode cX6_putWay 36 = .ok (.iconst 1, 1) := by decide +kernel
theorem dX6_putWay_37 : decode cX6_putWay 37 = .ok (.iadd, 1) := by decide +kernel
theorem dX6_putWay_38 : decode cX6_putWay 38 = .ok (.iaload, 1) := by decide +kernel
theorem dX6_putWay_39 : decode cX6_putWay 39 = .ok (.iastore, 1) := by decide +kernel
theorem dX6_putWay_40 : decode cX6_putWay 40 = .ok (.iinc 1 1, 3) := by decide +kernel
theorem dX6_putWay_43 : decode cX6_putWay 43 = .ok (.goto (-29), 3) := by decide +kernel
theorem dX6_putWay_46 : decode cX6_putWay 46 = .ok (.aload_n 0, 1) := by decide +kernel
theorem dX6_putWay_47 : decode cX6_putWay 47 = .ok (.getfield 7, 3) := by decide +kernel
theorem dX6_putWay_50 : decode cX6_putWay 50 = .ok (.bipush 46, 2) := by decide +kernel
theorem dX6_putWay_52 : decode cX6_putWay 52 = .ok (.bipush 9, 2) := by decide +kernel
theorem dX6_putWay_54 : decode cX6_putWay 54 = .ok (.iastore, 1) := by decide +kernel
theorem dX6_putWay_55 : decode cX6_putWay 55 = .ok (.aload_n 0, 1) := by decide +kernel
theorem dX6_putWay_56 : decode cX6_putWay 56 = .ok (.getfield 7, 3) := by decide +kernel
theorem dX6_putWay_59 : decode cX6_putWay 59 = .ok (.bipush 47, 2) := by decide +kernel
theorem dX6_putWay_61 : decode cX6_putWay 61 = .ok (.aload_n 0, 1) := by decide +kernel
theorem dX6_putWay_62 : decode cX6_putWay 62 = .ok (.getfield 7, 3) := by decide +kernel
theorem dX6_putWay_65 : decode cX6_putWay 65 = .ok (.bipush 46, 2) := by decide +kernel
theorem dX6_putWay_67 : decode cX6_putWay 67 = .ok (.iaload, 1) := by decide +kernel
theorem dX6_putWay_68 : decode cX6_putWay 68 = .ok (.iadd, 1) := by decide +kernel
theorem dX6_putWay_69 : decode cX6_putWay 69 = .ok (.aload_n 0, 1) := by decide +kernel
theorem dX6_putWay_70 : decode cX6_putWay 70 = .ok (.getfield 106, 3) := by decide +kernel
theorem dX6_putWay_73 : decode cX6_putWay 73 = .ok (.iastore, 1) := by decide +kernel
theorem dX6_putWay_74 : decode cX6_putWay 74 = .ok (.aload_n 0, 1) := by decide +kernel
theorem dX6_putWay_75 : decode cX6_putWay 75 = .ok (.getfield 7, 3) := by decide +kernel
theorem dX6_putWay_78 : decode cX6_putWay 78 = .ok (.bipush 46, 2) := by decide +kernel
theorem dX6_putWay_80 : decode cX6_putWay 80 = .ok (.dup2, 1) := by decide +kernel
theorem dX6_putWay_81 : decode cX6_putWay 81 = .ok (.iaload, 1) := by decide +kernel
theorem dX6_putWay_82 : decode cX6_putWay 82 = .ok (.iconst 1, 1) := by decide +kernel
theorem dX6_putWay_83 : decode cX6_putWay 83 = .ok (.iadd, 1) := by decide +kernel
theorem dX6_putWay_84 : decode cX6_putWay 84 = .ok (.iastore, 1) := by decide +kernel
theorem dX6_putWay_85 : decode cX6_putWay 85 = .ok (.iconst 0, 1) := by decide +kernel
theorem dX6_putWay_86 : decode cX6_putWay 86 = .ok (.istore_n 1, 1) := by decide +kernel
theorem dX6_putWay_87 : decode cX6_putWay 87 = .ok (.iload_n 1, 1) := by decide +kernel
theorem dX6_putWay_88 : decode cX6_putWay 88 = .ok (.aload_n 0, 1) := by decide +kernel
theorem dX6_putWay_89 : decode cX6_putWay 89 = .ok (.invokevirtual 73, 3) := by decide +kernel
theorem dX6_putWay_92 : decode cX6_putWay 92 = .ok (.if_icmp .ge 23, 3) := by decide +kernel
theorem dX6_putWay_95 : decode cX6_putWay 95 = .ok (.aload_n 0, 1) := by decide +kernel
theorem dX6_putWay_96 : decode cX6_putWay 96 = .ok (.getfield 7, 3) := by decide +kernel
theorem dX6_putWay_99 : decode cX6_putWay 99 = .ok (.iconst 3, 1) := by decide +kernel
theorem dX6_putWay_100 : decode cX6_putWay 100 = .ok (.iload_n 1, 1) := by decide +kernel
theorem dX6_putWay_101 : decode cX6_putWay 101 = .ok (.iadd, 1) := by decide +kernel
theorem dX6_putWay_102 : decode cX6_putWay 102 = .ok (.aload_n 0, 1) := by decide +kernel
theorem dX6_putWay_103 : decode cX6_putWay 103 = .ok (.getfield 27, 3) := by decide +kernel
theorem dX6_putWay_106 : decode cX6_putWay 106 = .ok (.iload_n 1, 1) := by decide +kernel
theorem dX6_putWay_107 : decode cX6_putWay 107 = .ok (.iaload, 1) := by decide +kernel
theorem dX6_putWay_108 : decode cX6_putWay 108 = .ok (.iastore, 1) := by decide +kernel
theorem dX6_putWay_109 : decode cX6_putWay 109 = .ok (.iinc 1 1, 3) := by decide +kernel
theorem dX6_putWay_112 : decode cX6_putWay 112 = .ok (.goto (-25), 3) := by decide +kernel
theorem dX6_putWay_115 : decode cX6_putWay 115 = .ok (.return_, 1) := by decide +kernel
theorem dX6_swapHand_0 : decode cX6_swapHand 0 = .ok (.aload_n 0, 1) := by decide +kernel
theorem dX6_swapHand_1 : decode cX6_swapHand 1 = .ok (.getfield 27, 3) := by decide +kernel
theorem dX6_swapHand_4 : decode cX6_swapHand 4 = .ok (.iload_n 1, 1) := by decide +kernel
theorem dX6_swapHand_5 : decode cX6_swapHand 5 = .ok (.iaload, 1) := by decide +kernel
theorem dX6_swapHand_6 : decode cX6_swapHand 6 = .ok (.istore_n 3, 1) := by decide +kernel
theorem dX6_swapHand_7 : decode cX6_swapHand 7 = .ok (.aload_n 0, 1) := by decide +kernel
theorem dX6_swapHand_8 : decode cX6_swapHand 8 = .ok (.getfield 27, 3) := by decide +kernel
theorem dX6_swapHand_11 : decode cX6_swapHand 11 = .ok (.iload_n 1, 1) := by decide +kernel
theorem dX6_swapHand_12 : decode cX6_swapHand 12 = .ok (.aload_n 0, 1) := by decide +kernel
theorem dX6_swapHand_13 : decode cX6_swapHand 13 = .ok (.getfield 27, 3) := by decide +kernel
theorem dX6_swapHand_16 : decode cX6_swapHand 16 = .ok (.iload_n 2, 1) := by decide +kernel
theorem dX6_swapHand_17 : decode cX6_swapHand 17 = .ok (.iaload, 1) := by decide +kernel
theorem dX6_swapHand_18 : decode cX6_swapHand 18 = .ok (.iastore, 1) := by decide +kernel
theorem dX6_swapHand_19 : decode cX6_swapHand 19 = .ok (.aload_n 0, 1) := by decide +kernel
theorem dX6_swapHand_20 : decode cX6_swapHand 20 = .ok (.getfield 27, 3) := by decide +kernel
theorem dX6_swapHand_23 : decode cX6_swapHand 23 = .ok (.iload_n 2, 1) := by decide +kernel
theorem dX6_swapHand_24 : decode cX6_swapHand 24 = .ok (.iload_n 3, 1) := by decide +kernel
theorem dX6_swapHand_25 : decode cX6_swapHand 25 = .ok (.iastore, 1) := by decide +kernel
theorem dX6_swapHand_26 : decode cX6_swapHand 26 = .ok (.return_, 1) := by decide +kernel
theorem dX6_swap_0 : decode cX6_swap 0 = .ok (.aload_n 0, 1) := by decide +kernel
theorem dX6_swap_1 : decode cX6_swap 1 = .ok (.iload_n 1, 1) := by decide +kernel
theorem dX6_swap_2 : decode cX6_swap 2 = .ok (.invokevirtual 91, 3) := by decide +kernel
theorem dX6_swap_5 : decode cX6_swap 5 = .ok (.ifCond .eq 16, 3) := by decide +kernel
theorem dX6_swap_8 : decode cX6_swap 8 = .ok (.aload_n 0, 1) := by decide +kernel
theorem dX6_swap_9 : decode cX6_swap 9 = .ok (.iload_n 2, 1) := by decide +kernel
theorem dX6_swap_10 : decode cX6_swap 10 = .ok (.invokevirtual 91, 3) := by decide +kernel
theorem dX6_swap_13 : decode cX6_swap 13 = .ok (.ifCond .eq 8, 3) := by decide +kernel
theorem dX6_swap_16 : decode cX6_swap 16 = .ok (.iload_n 1, 1) := by decide +kernel
theorem dX6_swap_17 : decode cX6_swap 17 = .ok (.iload_n 2, 1) := by decide +kernel
theorem dX6_swap_18 : decode cX6_swap 18 = .ok (.if_icmp .ne 10, 3) := by decide +kernel
theorem dX6_swap_21 : decode cX6_swap 21 = .ok (.aload_n 0, 1) := by decide +kernel
theorem dX6_swap_22 : decode cX6_swap 22 = .ok (.bipush (-2), 2) := by decide +kernel
theorem dX6_swap_24 : decode cX6_swap 24 = .ok (.invokevirtual 85, 3) := by decide +kernel
theorem dX6_swap_27 : decode cX6_swap 27 = .ok (.ireturn, 1) := by decide +kernel
theorem dX6_swap_28 : decode cX6_swap 28 = .ok (.aload_n 0, 1) := by decide +kernel
theorem dX6_swap_29 : decode cX6_swap 29 = .ok (.aload_n 0, 1) := by decide +kernel
theorem dX6_swap_30 : decode cX6_swap 30 = .ok (.invokevirtual 110, 3) := by decide +kernel
theorem dX6_swap_33 : decode cX6_swap 33 = .ok (.putfield 106, 3) := by decide +kernel
theorem dX6_swap_36 : decode cX6_swap 36 = .ok (.aload_n 0, 1) := by decide +kernel
theorem dX6_swap_37 : decode cX6_swap 37 = .ok (.iload_n 1, 1) := by decide +kernel
theorem dX6_swap_38 : decode cX6_swap 38 = .ok (.iload_n 2, 1) := by decide +kernel
theorem dX6_swap_39 : decode cX6_swap 39 = .ok (.invokevirtual 113, 3) := by decide +kernel
theorem dX6_swap_42 : decode cX6_swap 42 = .ok (.aload_n 0, 1) := by decide +kernel
theorem dX6_swap_43 : decode cX6_swap 43 = .ok (.invokevirtual 117, 3) := by decide +kernel
theorem dX6_swap_46 : decode cX6_swap 46 = .ok (.iconst 1, 1) := by decide +kernel
theorem dX6_swap_47 : decode cX6_swap 47 = .ok (.ireturn, 1) := by decide +kernel
theorem dX6_lay_0 : decode cX6_lay 0 = .ok (.iload_n 1, 1) := by decide +kernel
theorem dX6_lay_1 : decode cX6_lay 1 = .ok (.i2l, 1) := by decide +kernel
theorem dX6_lay_2 : decode cX6_lay 2 = .ok (.lconst 0, 1) := by decide +kernel
theorem dX6_lay_3 : decode cX6_lay 3 = .ok (.aload_n 0, 1) := by decide +kernel
theorem dX6_lay_4 : decode cX6_lay 4 = .ok (.invokevirtual 120, 3) := by decide +kernel
theorem dX6_lay_7 : decode cX6_lay 7 = .ok (.iconst 1, 1) := by decide +kernel
theorem dX6_lay_8 : decode cX6_lay 8 = .ok (.isub, 1) := by decide +kernel
theorem dX6_lay_9 : decode cX6_lay 9 = .ok (.i2l, 1) := by decide +kernel
theorem dX6_lay_10 : decode cX6_lay 10 = .ok (.invokestatic 77, 3) := by decide +kernel
theorem dX6_lay_13 : decode cX6_lay 13 = .ok (.ifCond .ne 10, 3) := by decide +kernel
theorem dX6_lay_16 : decode cX6_lay 16 = .ok (.aload_n 0, 1) := by decide +kernel
theorem dX6_lay_17 : decode cX6_lay 17 = .ok (.bipush (-2), 2) := by decide +kernel
theorem dX6_lay_19 : decode cX6_lay 19 = .ok (.invokevirtual 85, 3) := by decide +kernel
theorem dX6_lay_22 : decode cX6_lay 22 = .ok (.ireturn, 1) := by decide +kernel
theorem dX6_lay_23 : decode cX6_lay 23 = .ok (.aload_n 0, 1) := by decide +kernel
theorem dX6_lay_24 : decode cX6_lay 24 = .ok (.aload_n 0, 1) := by decide +kernel
theorem dX6_lay_25 : decode cX6_lay 25 = .ok (.invokevirtual 110, 3) := by decide +kernel
theorem dX6_lay_28 : decode cX6_lay 28 = .ok (.putfield 106, 3) := by decide +kernel
theorem dX6_lay_31 : decode cX6_lay 31 = .ok (.aload_n 0, 1) := by decide +kernel
theorem dX6_lay_32 : decode cX6_lay 32 = .ok (.iload_n 1, 1) := by decide +kernel
theorem dX6_lay_33 : decode cX6_lay 33 = .ok (.invokevirtual 123, 3) := by decide +kernel
theorem dX6_lay_36 : decode cX6_lay 36 = .ok (.aload_n 0, 1) := by decide +kernel
theorem dX6_lay_37 : decode cX6_lay 37 = .ok (.invokevirtual 117, 3) := by decide +kernel
theorem dX6_lay_40 : decode cX6_lay 40 = .ok (.aload_n 0, 1) := by decide +kernel
theorem dX6_lay_41 : decode cX6_lay 41 = .ok (.getfield 106, 3) := by decide +kernel
theorem dX6_lay_44 : decode cX6_lay 44 = .ok (.ireturn, 1) := by decide +kernel
theorem dX6_undo_0 : decode cX6_undo 0 = .ok (.aload_n 0, 1) := by decide +kernel
theorem dX6_undo_1 : decode cX6_undo 1 = .ok (.getfield 7, 3) := by decide +kernel
theorem dX6_undo_4 : decode cX6_undo 4 = .ok (.bipush 46, 2) := by decide +kernel
theorem dX6_undo_6 : decode cX6_undo 6 = .ok (.iaload, 1) := by decide +kernel
theorem dX6_undo_7 : decode cX6_undo 7 = .ok (.ifCond .ne 8, 3) := by decide +kernel
theorem dX6_undo_10 : decode cX6_undo 10 = .ok (.aload_n 0, 1) := by decide +kernel
theorem dX6_undo_11 : decode cX6_undo 11 = .ok (.invokevirtual 127, 3) := by decide +kernel
theorem dX6_undo_14 : decode cX6_undo 14 = .ok (.ireturn, 1) := by decide +kernel
theorem dX6_undo_15 : decode cX6_undo 15 = .ok (.aload_n 0, 1) := by decide +kernel
theorem dX6_undo_16 : decode cX6_undo 16 = .ok (.getfield 7, 3) := by decide +kernel
theorem dX6_undo_19 : decode cX6_undo 19 = .ok (.bipush 46, 2) := by decide +kernel
theorem dX6_undo_21 : decode cX6_undo 21 = .ok (.dup2, 1) := by decide +kernel
theorem dX6_undo_22 : decode cX6_undo 22 = .ok (.iaload, 1) := by decide +kernel
theorem dX6_undo_23 : decode cX6_undo 23 = .ok (.iconst 1, 1) := by decide +kernel
theorem dX6_undo_24 : decode cX6_undo 24 = .ok (.isub, 1) := by decide +kernel
theorem dX6_undo_25 : decode cX6_undo 25 = .ok (.iastore, 1) := by decide +kernel
theorem dX6_undo_26 : decode cX6_undo 26 = .ok (.aload_n 0, 1) := by decide +kernel
theorem dX6_undo_27 : decode cX6_undo 27 = .ok (.aload_n 0, 1) := by decide +kernel
theorem dX6_undo_28 : decode cX6_undo 28 = .ok (.getfield 7, 3) := by decide +kernel
theorem dX6_undo_31 : decode cX6_undo 31 = .ok (.bipush 47, 2) := by decide +kernel
theorem dX6_undo_33 : decode cX6_undo 33 = .ok (.aload_n 0, 1) := by decide +kernel
theorem dX6_undo_34 : decode cX6_undo 34 = .ok (.getfield 7, 3) := by decide +kernel
theorem dX6_undo_37 : decode cX6_undo 37 = .ok (.bipush 46, 2) := by decide +kernel
theorem dX6_undo_39 : decode cX6_undo 39 = .ok (.iaload, 1) := by decide +kernel
theorem dX6_undo_40 : decode cX6_undo 40 = .ok (.iadd, 1) := by decide +kernel
theorem dX6_undo_41 : decode cX6_undo 41 = .ok (.iaload, 1) := by decide +kernel
theorem dX6_undo_42 : decode cX6_undo 42 = .ok (.invokevirtual 123, 3) := by decide +kernel
theorem dX6_undo_45 : decode cX6_undo 45 = .ok (.iconst 0, 1) := by decide +kernel
theorem dX6_undo_46 : decode cX6_undo 46 = .ok (.istore_n 1, 1) := by decide +kernel
theorem dX6_undo_47 : decode cX6_undo 47 = .ok (.iload_n 1, 1) := by decide +kernel
theorem dX6_undo_48 : decode cX6_undo 48 = .ok (.aload_n 0, 1) := by decide +kernel
theorem dX6_undo_49 : decode cX6_undo 49 = .ok (.invokevirtual 73, 3) := by decide +kernel
theorem dX6_undo_52 : decode cX6_undo 52 = .ok (.if_icmp .ge 23, 3) := by decide +kernel
theorem dX6_undo_55 : decode cX6_undo 55 = .ok (.aload_n 0, 1) := by decide +kernel
theorem dX6_undo_56 : decode cX6_undo 56 = .ok (.getfield 7, 3) := by decide +kernel
theorem dX6_undo_59 : decode cX6_undo 59 = .ok (.iconst 3, 1) := by decide +kernel
theorem dX6_undo_60 : decode cX6_undo 60 = .ok (.iload_n 1, 1) := by decide +kernel
theorem dX6_undo_61 : decode cX6_undo 61 = .ok (.iadd, 1) := by decide +kernel
theorem dX6_undo_62 : decode cX6_undo 62 = .ok (.aload_n 0, 1) := by decide +kernel
theorem dX6_undo_63 : decode cX6_undo 63 = .ok (.getfield 27, 3) := by decide +kernel
theorem dX6_undo_66 : decode cX6_undo 66 = .ok (.iload_n 1, 1) := by decide +kernel
theorem dX6_undo_67 : decode cX6_undo 67 = .ok (.iaload, 1) := by decide +kernel
theorem dX6_undo_68 : decode cX6_undo 68 = .ok (.iastore, 1) := by decide +kernel
theorem dX6_undo_69 : decode cX6_undo 69 = .ok (.iinc 1 1, 3) := by decide +kernel
theorem dX6_undo_72 : decode cX6_undo 72 = .ok (.goto (-25), 3) := by decide +kernel
theorem dX6_undo_75 : decode cX6_undo 75 = .ok (.iconst 1, 1) := by decide +kernel
theorem dX6_undo_76 : decode cX6_undo 76 = .ok (.ireturn, 1) := by decide +kernel
theorem dX6_know_0 : decode cX6_know 0 = .ok (.aload_n 0, 1) := by decide +kernel
theorem dX6_know_1 : decode cX6_know 1 = .ok (.iload_n 1, 1) := by decide +kernel
theorem dX6_know_2 : decode cX6_know 2 = .ok (.invokevirtual 91, 3) := by decide +kernel
theorem dX6_know_5 : decode cX6_know 5 = .ok (.ifCond .eq 11, 3) := by decide +kernel
theorem dX6_know_8 : decode cX6_know 8 = .ok (.aload_n 0, 1) := by decide +kernel
theorem dX6_know_9 : decode cX6_know 9 = .ok (.iload_n 2, 1) := by decide +kernel
theorem dX6_know_10 : decode cX6_know 10 = .ok (.invokevirtual 91, 3) := by decide +kernel
theorem dX6_know_13 : decode cX6_know 13 = .ok (.ifCond .ne 10, 3) := by decide +kernel
theorem dX6_know_16 : decode cX6_know 16 = .ok (.aload_n 0, 1) := by decide +kernel
theorem dX6_know_17 : decode cX6_know 17 = .ok (.bipush (-2), 2) := by decide +kernel
theorem dX6_know_19 : decode cX6_know 19 = .ok (.invokevirtual 85, 3) := by decide +kernel
theorem dX6_know_22 : decode cX6_know 22 = .ok (.ireturn, 1) := by decide +kernel
theorem dX6_know_23 : decode cX6_know 23 = .ok (.aload_n 0, 1) := by decide +kernel
theorem dX6_know_24 : decode cX6_know 24 = .ok (.getfield 7, 3) := by decide +kernel
theorem dX6_know_27 : decode cX6_know 27 = .ok (.bipush 17, 2) := by decide +kernel
theorem dX6_know_29 : decode cX6_know 29 = .ok (.iload_n 1, 1) := by decide +kernel
theorem dX6_know_30 : decode cX6_know 30 = .ok (.iadd, 1) := by decide +kernel
theorem dX6_know_31 : decode cX6_know 31 = .ok (.iaload, 1) := by decide +kernel
theorem dX6_know_32 : decode cX6_know 32 = .ok (.iconst (-1), 1) := by decide +kernel
theorem dX6_know_33 : decode cX6_know 33 = .ok (.if_icmp .ne 14, 3) := by decide +kernel
theorem dX6_know_36 : decode cX6_know 36 = .ok (.aload_n 0, 1) := by decide +kernel
theorem dX6_know_37 : decode cX6_know 37 = .ok (.getfield 7, 3) := by decide +kernel
theorem dX6_know_40 : decode cX6_know 40 = .ok (.iload_n 2, 1) := by decide +kernel
theorem dX6_know_41 : decode cX6_know 41 = .ok (.invokestatic 130, 3) := by decide +kernel
theorem dX6_know_44 : decode cX6_know 44 = .ok (.ifCond .eq 8, 3) := by decide +kernel
theorem dX6_know_47 : decode cX6_know 47 = .ok (.aload_n 0, 1) := by decide +kernel
theorem dX6_know_48 : decode cX6_know 48 = .ok (.invokevirtual 127, 3) := by decide +kernel
theorem dX6_know_51 : decode cX6_know 51 = .ok (.ireturn, 1) := by decide +kernel
theorem dX6_know_52 : decode cX6_know 52 = .ok (.aload_n 0, 1) := by decide +kernel
theorem dX6_know_53 : decode cX6_know 53 = .ok (.getfield 7, 3) := by decide +kernel
theorem dX6_know_56 : decode cX6_know 56 = .ok (.bipush 17, 2) := by decide +kernel
theorem dX6_know_58 : decode cX6_know 58 = .ok (.iload_n 1, 1) := by decide +kernel
theorem dX6_know_59 : decode cX6_know 59 = .ok (.iadd, 1) := by decide +kernel
theorem dX6_know_60 : decode cX6_know 60 = .ok (.iload_n 2, 1) := by decide +kernel
theorem dX6_know_61 : decode cX6_know 61 = .ok (.iastore, 1) := by decide +kernel
theorem dX6_know_62 : decode cX6_know 62 = .ok (.iconst 1, 1) := by decide +kernel
theorem dX6_know_63 : decode cX6_know 63 = .ok (.ireturn, 1) := by decide +kernel
theorem dX6_isKnown_0 : decode cX6_isKnown 0 = .ok (.iconst 0, 1) := by decide +kernel
theorem dX6_isKnown_1 : decode cX6_isKnown 1 = .ok (.istore_n 2, 1) := by decide +kernel
theorem dX6_isKnown_2 : decode cX6_isKnown 2 = .ok (.iconst 0, 1) := by decide +kernel
theorem dX6_isKnown_3 : decode cX6_isKnown 3 = .ok (.istore_n 3, 1) := by decide +kernel
theorem dX6_isKnown_4 : decode cX6_isKnown 4 = .ok (.iload_n 3, 1) := by decide +kernel
theorem dX6_isKnown_5 : decode cX6_isKnown 5 = .ok (.aload_n 0, 1) := by decide +kernel
theorem dX6_isKnown_6 : decode cX6_isKnown 6 = .ok (.iconst 0, 1) := by decide +kernel
theorem dX6_isKnown_7 : decode cX6_isKnown 7 = .ok (.iaload, 1) := by decide +kernel
theorem dX6_isKnown_8 : decode cX6_isKnown 8 = .ok (.if_icmp .ge 29, 3) := by decide +kernel
theorem dX6_isKnown_11 : decode cX6_isKnown 11 = .ok (.iload_n 2, 1) := by decide +kernel
theorem dX6_isKnown_12 : decode cX6_isKnown 12 = .ok (.ifCond .ne 13, 3) := by decide +kernel
theorem dX6_isKnown_15 : decode cX6_isKnown 15 = .ok (.aload_n 0, 1) := by decide +kernel
theorem dX6_isKnown_16 : decode cX6_isKnown 16 = .ok (.bipush 17, 2) := by decide +kernel
theorem dX6_isKnown_18 : decode cX6_isKnown 18 = .ok (.iload_n 3, 1) := by decide +kernel
theorem dX6_isKnown_19 : decode cX6_isKnown 19 = .ok (.iadd, 1) := by decide +kernel
theorem dX6_isKnown_20 : decode cX6_isKnown 20 = .ok (.iaload, 1) := by decide +kernel
theorem dX6_isKnown_21 : decode cX6_isKnown 21 = .ok (.iload_n 1, 1) := by decide +kernel
theorem dX6_isKnown_22 : decode cX6_isKnown 22 = .ok (.if_icmp .ne 7, 3) := by decide +kernel
theorem dX6_isKnown_25 : decode cX6_isKnown 25 = .ok (.iconst 1, 1) := by decide +kernel
theorem dX6_isKnown_26 : decode cX6_isKnown 26 = .ok (.goto 4, 3) := by decide +kernel
theorem dX6_isKnown_29 : decode cX6_isKnown 29 = .ok (.iconst 0, 1) := by decide +kernel
theorem dX6_isKnown_30 : decode cX6_isKnown 30 = .ok (.istore_n 2, 1) := by decide +kernel
theorem dX6_isKnown_31 : decode cX6_isKnown 31 = .ok (.iinc 3 1, 3) := by decide +kernel
theorem dX6_isKnown_34 : decode cX6_isKnown 34 = .ok (.goto (-30), 3) := by decide +kernel
theorem dX6_isKnown_37 : decode cX6_isKnown 37 = .ok (.iload_n 2, 1) := by decide +kernel
theorem dX6_isKnown_38 : decode cX6_isKnown 38 = .ok (.ireturn, 1) := by decide +kernel
theorem dX6_layReport_0 : decode cX6_layReport 0 = .ok (.aload_n 0, 1) := by decide +kernel
theorem dX6_layReport_1 : decode cX6_layReport 1 = .ok (.bipush 25, 2) := by decide +kernel
theorem dX6_layReport_3 : decode cX6_layReport 3 = .ok (.iconst 2, 1) := by decide +kernel
theorem dX6_layReport_4 : decode cX6_layReport 4 = .ok (.aload_n 0, 1) := by decide +kernel
theorem dX6_layReport_5 : decode cX6_layReport 5 = .ok (.bipush 24, 2) := by decide +kernel
theorem dX6_layReport_7 : decode cX6_layReport 7 = .ok (.iaload, 1) := by decide +kernel
theorem dX6_layReport_8 : decode cX6_layReport 8 = .ok (.imul, 1) := by decide +kernel
theorem dX6_layReport_9 : decode cX6_layReport 9 = .ok (.iadd, 1) := by decide +kernel
theorem dX6_layReport_10 : decode cX6_layReport 10 = .ok (.iload_n 1, 1) := by decide +kernel
theorem dX6_layReport_11 : decode cX6_layReport 11 = .ok (.iastore, 1) := by decide +kernel
theorem dX6_layReport_12 : decode cX6_layReport 12 = .ok (.aload_n 0, 1) := by decide +kernel
theorem dX6_layReport_13 : decode cX6_layReport 13 = .ok (.bipush 25, 2) := by decide +kernel
theorem dX6_layReport_15 : decode cX6_layReport 15 = .ok (.iconst 2, 1) := by decide +kernel
theorem dX6_layReport_16 : decode cX6_layReport 16 = .ok (.aload_n 0, 1) := by decide +kernel
theorem dX6_layReport_17 : decode cX6_layReport 17 = .ok (.bipush 24, 2) := by decide +kernel
theorem dX6_layReport_19 : decode cX6_layReport 19 = .ok (.iaload, 1) := by decide +kernel
theorem dX6_layReport_20 : decode cX6_layReport 20 = .ok (.imul, 1) := by decide +kernel
theorem dX6_layReport_21 : decode cX6_layReport 21 = .ok (.iadd, 1) := by decide +kernel
theorem dX6_layReport_22 : decode cX6_layReport 22 = .ok (.iconst 1, 1) := by decide +kernel
theorem dX6_layReport_23 : decode cX6_layReport 23 = .ok (.iadd, 1) := by decide +kernel
theorem dX6_layReport_24 : decode cX6_layReport 24 = .ok (.iload_n 2, 1) := by decide +kernel
theorem dX6_layReport_25 : decode cX6_layReport 25 = .ok (.iastore, 1) := by decide +kernel
theorem dX6_layReport_26 : decode cX6_layReport 26 = .ok (.aload_n 0, 1) := by decide +kernel
theorem dX6_layReport_27 : decode cX6_layReport 27 = .ok (.bipush 24, 2) := by decide +kernel
theorem dX6_layReport_29 : decode cX6_layReport 29 = .ok (.dup2, 1) := by decide +kernel
theorem dX6_layReport_30 : decode cX6_layReport 30 = .ok (.iaload, 1) := by decide +kernel
theorem dX6_layReport_31 : decode cX6_layReport 31 = .ok (.iconst 1, 1) := by decide +kernel
theorem dX6_layReport_32 : decode cX6_layReport 32 = .ok (.iadd, 1) := by decide +kernel
theorem dX6_layReport_33 : decode cX6_layReport 33 = .ok (.iastore, 1) := by decide +kernel
theorem dX6_layReport_34 : decode cX6_layReport 34 = .ok (.return_, 1) := by decide +kernel
theorem dX6_report_0 : decode cX6_report 0 = .ok (.aload_n 0, 1) := by decide +kernel
theorem dX6_report_1 : decode cX6_report 1 = .ok (.iload_n 1, 1) := by decide +kernel
theorem dX6_report_2 : decode cX6_report 2 = .ok (.invokevirtual 91, 3) := by decide +kernel
theorem dX6_report_5 : decode cX6_report 5 = .ok (.ifCond .eq 17, 3) := by decide +kernel
theorem dX6_report_8 : decode cX6_report 8 = .ok (.iload_n 2, 1) := by decide +kernel
theorem dX6_report_9 : decode cX6_report 9 = .ok (.i2l, 1) := by decide +kernel
theorem dX6_report_10 : decode cX6_report 10 = .ok (.lconst 0, 1) := by decide +kernel
theorem dX6_report_11 : decode cX6_report 11 = .ok (.aload_n 0, 1) := by decide +kernel
theorem dX6_report_12 : decode cX6_report 12 = .ok (.invokevirtual 73, 3) := by decide +kernel
theorem dX6_report_15 : decode cX6_report 15 = .ok (.i2l, 1) := by decide +kernel
theorem dX6_report_16 : decode cX6_report 16 = .ok (.invokestatic 77, 3) := by decide +kernel
theorem dX6_report_19 : decode cX6_report 19 = .ok (.ifCond .ne 10, 3) := by decide +kernel
theorem dX6_report_22 : decode cX6_report 22 = .ok (.aload_n 0, 1) := by decide +kernel
theorem dX6_report_23 : decode cX6_report 23 = .ok (.bipush (-2), 2) := by decide +kernel
theorem dX6_report_25 : decode cX6_report 25 = .ok (.invokevirtual 85, 3) := by decide +kernel
theorem dX6_report_28 : decode cX6_report 28 = .ok (.ireturn, 1) := by decide +kernel
theorem dX6_report_29 : decode cX6_report 29 = .ok (.aload_n 0, 1) := by decide +kernel
theorem dX6_report_30 : decode cX6_report 30 = .ok (.getfield 7, 3) := by decide +kernel
theorem dX6_report_33 : decode cX6_report 33 = .ok (.bipush 24, 2) := by decide +kernel
theorem dX6_report_35 : decode cX6_report 35 = .ok (.iaload, 1) := by decide +kernel
theorem dX6_report_36 : decode cX6_report 36 = .ok (.bipush 8, 2) := by decide +kernel
theorem dX6_report_38 : decode cX6_report 38 = .ok (.if_icmp .ne 8, 3) := by decide +kernel
theorem dX6_report_41 : decode cX6_report 41 = .ok (.aload_n 0, 1) := by decide +kernel
theorem dX6_report_42 : decode cX6_report 42 = .ok (.invokevirtual 134, 3) := by decide +kernel
theorem dX6_report_45 : decode cX6_report 45 = .ok (.ireturn, 1) := by decide +kernel
theorem dX6_report_46 : decode cX6_report 46 = .ok (.aload_n 0, 1) := by decide +kernel
theorem dX6_report_47 : decode cX6_report 47 = .ok (.getfield 7, 3) := by decide +kernel
theorem dX6_report_50 : decode cX6_report 50 = .ok (.iload_n 1, 1) := by decide +kernel
theorem dX6_report_51 : decode cX6_report 51 = .ok (.iload_n 2, 1) := by decide +kernel
theorem dX6_report_52 : decode cX6_report 52 = .ok (.invokestatic 137, 3) := by decide +kernel
theorem dX6_report_55 : decode cX6_report 55 = .ok (.aload_n 0, 1) := by decide +kernel
theorem dX6_report_56 : decode cX6_report 56 = .ok (.getfield 7, 3) := by decide +kernel
theorem dX6_report_59 : decode cX6_report 59 = .ok (.bipush 24, 2) := by decide +kernel
theorem dX6_report_61 : decode cX6_report 61 = .ok (.iaload, 1) := by decide +kernel
theorem dX6_report_62 : decode cX6_report 62 = .ok (.iconst 1, 1) := by decide +kernel
theorem dX6_report_63 : decode cX6_report 63 = .ok (.isub, 1) := by decide +kernel
theorem dX6_report_64 : decode cX6_report 64 = .ok (.ireturn, 1) := by decide +kernel
theorem dX6_known_0 : decode cX6_known 0 = .ok (.iconst 0, 1) := by decide +kernel
theorem dX6_known_1 : decode cX6_known 1 = .ok (.istore_n 1, 1) := by decide +kernel
theorem dX6_known_2 : decode cX6_known 2 = .ok (.iconst 0, 1) := by decide +kernel
theorem dX6_known_3 : decode cX6_known 3 = .ok (.istore_n 2, 1) := by decide +kernel
theorem dX6_known_4 : decode cX6_known 4 = .ok (.iload_n 2, 1) := by decide +kernel
theorem dX6_known_5 : decode cX6_known 5 = .ok (.aload_n 0, 1) := by decide +kernel
theorem dX6_known_6 : decode cX6_known 6 = .ok (.invokevirtual 73, 3) := by decide +kernel
theorem dX6_known_9 : decode cX6_known 9 = .ok (.if_icmp .ge 30, 3) := by decide +kernel
theorem dX6_known_12 : decode cX6_known 12 = .ok (.iload_n 1, 1) := by decide +kernel
theorem dX6_known_13 : decode cX6_known 13 = .ok (.aload_n 0, 1) := by decide +kernel
theorem dX6_known_14 : decode cX6_known 14 = .ok (.getfield 7, 3) := by decide +kernel
theorem dX6_known_17 : decode cX6_known 17 = .ok (.bipush 17, 2) := by decide +kernel
theorem dX6_known_19 : decode cX6_known 19 = .ok (.iload_n 2, 1) := by decide +kernel
theorem dX6_known_20 : decode cX6_known 20 = .ok (.iadd, 1) := by decide +kernel
theorem dX6_known_21 : decode cX6_known 21 = .ok (.iaload, 1) := by decide +kernel
theorem dX6_known_22 : decode cX6_known 22 = .ok (.iconst (-1), 1) := by decide +kernel
theorem dX6_known_23 : decode cX6_known 23 = .ok (.if_icmp .ne 7, 3) := by decide +kernel
theorem dX6_known_26 : decode cX6_known 26 = .ok (.iconst 0, 1) := by decide +kernel
theorem dX6_known_27 : decode cX6_known 27 = .ok (.goto 4, 3) := by decide +kernel
theorem dX6_known_30 : decode cX6_known 30 = .ok (.iconst 1, 1) := by decide +kernel
theorem dX6_known_31 : decode cX6_known 31 = .ok (.iadd, 1) := by decide +kernel
theorem dX6_known_32 : decode cX6_known 32 = .ok (.istore_n 1, 1) := by decide +kernel
theorem dX6_known_33 : decode cX6_known 33 = .ok (.iinc 2 1, 3) := by decide +kernel
theorem dX6_known_36 : decode cX6_known 36 = .ok (.goto (-32), 3) := by decide +kernel
theorem dX6_known_39 : decode cX6_known 39 = .ok (.iload_n 1, 1) := by decide +kernel
theorem dX6_known_40 : decode cX6_known 40 = .ok (.ireturn, 1) := by decide +kernel
theorem dX6_forget_0 : decode cX6_forget 0 = .ok (.iload_n 1, 1) := by decide +kernel
theorem dX6_forget_1 : decode cX6_forget 1 = .ok (.i2l, 1) := by decide +kernel
theorem dX6_forget_2 : decode cX6_forget 2 = .ok (.lconst 0, 1) := by decide +kernel
theorem dX6_forget_3 : decode cX6_forget 3 = .ok (.lconst 1, 1) := by decide +kernel
theorem dX6_forget_4 : decode cX6_forget 4 = .ok (.invokestatic 77, 3) := by decide +kernel
theorem dX6_forget_7 : decode cX6_forget 7 = .ok (.ifCond .ne 10, 3) := by decide +kernel
theorem dX6_forget_10 : decode cX6_forget 10 = .ok (.aload_n 0, 1) := by decide +kernel
theorem dX6_forget_11 : decode cX6_forget 11 = .ok (.bipush (-2), 2) := by decide +kernel
theorem dX6_forget_13 : decode cX6_forget 13 = .ok (.invokevirtual 85, 3) := by decide +kernel
theorem dX6_forget_16 : decode cX6_forget 16 = .ok (.ireturn, 1) := by decide +kernel
theorem dX6_forget_17 : decode cX6_forget 17 = .ok (.iload_n 1, 1) := by decide +kernel
theorem dX6_forget_18 : decode cX6_forget 18 = .ok (.ifCond .ne 10, 3) := by decide +kernel
theorem dX6_forget_21 : decode cX6_forget 21 = .ok (.aload_n 0, 1) := by decide +kernel
theorem dX6_forget_22 : decode cX6_forget 22 = .ok (.invokevirtual 141, 3) := by decide +kernel
theorem dX6_forget_25 : decode cX6_forget 25 = .ok (.goto 10, 3) := by decide +kernel
theorem dX6_forget_28 : decode cX6_forget 28 = .ok (.aload_n 0, 1) := by decide +kernel
theorem dX6_forget_29 : decode cX6_forget 29 = .ok (.getfield 7, 3) := by decide +kernel
theorem dX6_forget_32 : decode cX6_forget 32 = .ok (.bipush 24, 2) := by decide +kernel
theorem dX6_forget_34 : decode cX6_forget 34 = .ok (.iaload, 1) := by decide +kernel
theorem dX6_forget_35 : decode cX6_forget 35 = .ok (.istore_n 2, 1) := by decide +kernel
theorem dX6_forget_36 : decode cX6_forget 36 = .ok (.iconst 0, 1) := by decide +kernel
theorem dX6_forget_37 : decode cX6_forget 37 = .ok (.istore_n 3, 1) := by decide +kernel
theorem dX6_forget_38 : decode cX6_forget 38 = .ok (.iload_n 3, 1) := by decide +kernel
theorem dX6_forget_39 : decode cX6_forget 39 = .ok (.bipush 7, 2) := by decide +kernel
theorem dX6_forget_41 : decode cX6_forget 41 = .ok (.if_icmp .ge 23, 3) := by decide +kernel
theorem dX6_forget_44 : decode cX6_forget 44 = .ok (.iload_n 1, 1) := by decide +kernel
theorem dX6_forget_45 : decode cX6_forget 45 = .ok (.ifCond .ne 19, 3) := by decide +kernel
theorem dX6_forget_48 : decode cX6_forget 48 = .ok (.aload_n 0, 1) := by decide +kernel
theorem dX6_forget_49 : decode cX6_forget 49 = .ok (.getfield 7, 3) := by decide +kernel
theorem dX6_forget_52 : decode cX6_forget 52 = .ok (.bipush 17, 2) := by decide +kernel
theorem dX6_forget_54 : decode cX6_forget 54 = .ok (.iload_n 3, 1) := by decide +kernel
theorem dX6_forget_55 : decode cX6_forget 55 = .ok (.iadd, 1) := by decide +kernel
theorem dX6_forget_56 : decode cX6_forget 56 = .ok (.iconst (-1), 1) := by decide +kernel
theorem dX6_forget_57 : decode cX6_forget 57 = .ok (.iastore, 1) := by decide +kernel
theorem dX6_forget_58 : decode cX6_forget 58 = .ok (.iinc 3 1, 3) := by decide +kernel
theorem dX6_forget_61 : decode cX6_forget 61 = .ok (.goto (-23), 3) := by decide +kernel
theorem dX6_forget_64 : decode cX6_forget 64 = .ok (.aload_n 0, 1) := by decide +kernel
theorem dX6_forget_65 : decode cX6_forget 65 = .ok (.getfield 7, 3) := by decide +kernel
theorem dX6_forget_68 : decode cX6_forget 68 = .ok (.bipush 24, 2) := by decide +kernel
theorem dX6_forget_70 : decode cX6_forget 70 = .ok (.iload_n 1, 1) := by decide +kernel
theorem dX6_forget_71 : decode cX6_forget 71 = .ok (.iconst 1, 1) := by decide +kernel
theorem dX6_forget_72 : decode cX6_forget 72 = .ok (.if_icmp .ne 7, 3) := by decide +kernel
theorem dX6_forget_75 : decode cX6_forget 75 = .ok (.iconst 0, 1) := by decide +kernel
theorem dX6_forget_76 : decode cX6_forget 76 = .ok (.goto 10, 3) := by decide +kernel
theorem dX6_forget_79 : decode cX6_forget 79 = .ok (.aload_n 0, 1) := by decide +kernel
theorem dX6_forget_80 : decode cX6_forget 80 = .ok (.getfield 7, 3) := by decide +kernel
theorem dX6_forget_83 : decode cX6_forget 83 = .ok (.bipush 24, 2) := by decide +kernel
theorem dX6_forget_85 : decode cX6_forget 85 = .ok (.iaload, 1) := by decide +kernel
theorem dX6_forget_86 : decode cX6_forget 86 = .ok (.iastore, 1) := by decide +kernel
theorem dX6_forget_87 : decode cX6_forget 87 = .ok (.iload_n 2, 1) := by decide +kernel
theorem dX6_forget_88 : decode cX6_forget 88 = .ok (.ireturn, 1) := by decide +kernel
theorem dX6_free_0 : decode cX6_free 0 = .ok (.iload_n 1, 1) := by decide +kernel
theorem dX6_free_1 : decode cX6_free 1 = .ok (.istore_n 3, 1) := by decide +kernel
theorem dX6_free_2 : decode cX6_free 2 = .ok (.iload_n 2, 1) := by decide +kernel
theorem dX6_free_3 : decode cX6_free 3 = .ok (.iload_n 3, 1) := by decide +kernel
theorem dX6_free_4 : decode cX6_free 4 = .ok (.ishr, 1) := by decide +kernel
theorem dX6_free_5 : decode cX6_free 5 = .ok (.iconst 1, 1) := by decide +kernel
theorem dX6_free_6 : decode cX6_free 6 = .ok (.iand, 1) := by decide +kernel
theorem dX6_free_7 : decode cX6_free 7 = .ok (.iconst 1, 1) := by decide +kernel
theorem dX6_free_8 : decode cX6_free 8 = .ok (.if_icmp .ne 15, 3) := by decide +kernel
theorem dX6_free_11 : decode cX6_free 11 = .ok (.iload_n 3, 1) := by decide +kernel
theorem dX6_free_12 : decode cX6_free 12 = .ok (.iconst 1, 1) := by decide +kernel
theorem dX6_free_13 : decode cX6_free 13 = .ok (.iadd, 1) := by decide +kernel
theorem dX6_free_14 : decode cX6_free 14 = .ok (.aload_n 0, 1) := by decide +kernel
theorem dX6_free_15 : decode cX6_free 15 = .ok (.invokevirtual 73, 3) := by decide +kernel
theorem dX6_free_18 : decode cX6_free 18 = .ok (.irem, 1) := by decide +kernel
theorem dX6_free_19 : decode cX6_free 19 = .ok (.istore_n 3, 1) := by decide +kernel
theorem dX6_free_20 : decode cX6_free 20 = .ok (.goto (-18), 3) := by decide +kernel
theorem dX6_free_23 : decode cX6_free 23 = .ok (.iload_n 3, 1) := by decide +kernel
theorem dX6_free_24 : decode cX6_free 24 = .ok (.ireturn, 1) := by decide +kernel
theorem dX6_evenBox_0 : decode cX6_evenBox 0 = .ok (.aload_n 0, 1) := by decide +kernel
theorem dX6_evenBox_1 : decode cX6_evenBox 1 = .ok (.invokevirtual 73, 3) := by decide +kernel
theorem dX6_evenBox_4 : decode cX6_evenBox 4 = .ok (.iconst 1, 1) := by decide +kernel
theorem dX6_evenBox_5 : decode cX6_evenBox 5 = .ok (.iadd, 1) := by decide +kernel
theorem dX6_evenBox_6 : decode cX6_evenBox 6 = .ok (.iconst 2, 1) := by decide +kernel
theorem dX6_evenBox_7 : decode cX6_evenBox 7 = .ok (.idiv, 1) := by decide +kernel
theorem dX6_evenBox_8 : decode cX6_evenBox 8 = .ok (.istore_n 2, 1) := by decide +kernel
theorem dX6_evenBox_9 : decode cX6_evenBox 9 = .ok (.iload_n 1, 1) := by decide +kernel
theorem dX6_evenBox_10 : decode cX6_evenBox 10 = .ok (.iload_n 2, 1) := by decide +kernel
theorem dX6_evenBox_11 : decode cX6_evenBox 11 = .ok (.if_icmp .ge 9, 3) := by decide +kernel
theorem dX6_evenBox_14 : decode cX6_evenBox 14 = .ok (.iconst 2, 1) := by decide +kernel
theorem dX6_evenBox_15 : decode cX6_evenBox 15 = .ok (.iload_n 1, 1) := by decide +kernel
theorem dX6_evenBox_16 : decode cX6_evenBox 16 = .ok (.imul, 1) := by decide +kernel
theorem dX6_evenBox_17 : decode cX6_evenBox 17 = .ok (.goto 10, 3) := by decide +kernel
theorem dX6_evenBox_20 : decode cX6_evenBox 20 = .ok (.iconst 2, 1) := by decide +kernel
theorem dX6_evenBox_21 : decode cX6_evenBox 21 = .ok (.iload_n 1, 1) := by decide +kernel
theorem dX6_evenBox_22 : decode cX6_evenBox 22 = .ok (.iload_n 2, 1) := by decide +kernel
theorem dX6_evenBox_23 : decode cX6_evenBox 23 = .ok (.isub, 1) := by decide +kernel
theorem dX6_evenBox_24 : decode cX6_evenBox 24 = .ok (.imul, 1) := by decide +kernel
theorem dX6_evenBox_25 : decode cX6_evenBox 25 = .ok (.iconst 1, 1) := by decide +kernel
theorem dX6_evenBox_26 : decode cX6_evenBox 26 = .ok (.iadd, 1) := by decide +kernel
theorem dX6_evenBox_27 : decode cX6_evenBox 27 = .ok (.ireturn, 1) := by decide +kernel
theorem dX6_boxOf_0 : decode cX6_boxOf 0 = .ok (.iload_n 2, 1) := by decide +kernel
theorem dX6_boxOf_1 : decode cX6_boxOf 1 = .ok (.ifCond .ne 7, 3) := by decide +kernel
theorem dX6_boxOf_4 : decode cX6_boxOf 4 = .ok (.iconst 0, 1) := by decide +kernel
theorem dX6_boxOf_5 : decode cX6_boxOf 5 = .ok (.goto 11, 3) := by decide +kernel
theorem dX6_boxOf_8 : decode cX6_boxOf 8 = .ok (.aload_n 0, 1) := by decide +kernel
theorem dX6_boxOf_9 : decode cX6_boxOf 9 = .ok (.getfield 30, 3) := by decide +kernel
theorem dX6_boxOf_12 : decode cX6_boxOf 12 = .ok (.iload_n 2, 1) := by decide +kernel
theorem dX6_boxOf_13 : decode cX6_boxOf 13 = .ok (.iconst 1, 1) := by decide +kernel
theorem dX6_boxOf_14 : decode cX6_boxOf 14 = .ok (.isub, 1) := by decide +kernel
theorem dX6_boxOf_15 : decode cX6_boxOf 15 = .ok (.iaload, 1) := by decide +kernel
theorem dX6_boxOf_16 : decode cX6_boxOf 16 = .ok (.istore 4, 2) := by decide +kernel
theorem dX6_boxOf_18 : decode cX6_boxOf 18 = .ok (.iload_n 2, 1) := by decide +kernel
theorem dX6_boxOf_19 : decode cX6_boxOf 19 = .ok (.ifCond .ne 7, 3) := by decide +kernel
theorem dX6_boxOf_22 : decode cX6_boxOf 22 = .ok (.iload_n 1, 1) := by decide +kernel
theorem dX6_boxOf_23 : decode cX6_boxOf 23 = .ok (.goto 10, 3) := by decide +kernel
theorem dX6_boxOf_26 : decode cX6_boxOf 26 = .ok (.aload_n 0, 1) := by decide +kernel
theorem dX6_boxOf_27 : decode cX6_boxOf 27 = .ok (.getfield 27, 3) := by decide +kernel
theorem dX6_boxOf_30 : decode cX6_boxOf 30 = .ok (.iload 4, 2) := by decide +kernel
theorem dX6_boxOf_32 : decode cX6_boxOf 32 = .ok (.iaload, 1) := by decide +kernel
theorem dX6_boxOf_33 : decode cX6_boxOf 33 = .ok (.istore 5, 2) := by decide +kernel
theorem dX6_boxOf_35 : decode cX6_boxOf 35 = .ok (.aload_n 0, 1) := by decide +kernel
theorem dX6_boxOf_36 : decode cX6_boxOf 36 = .ok (.getfield 7, 3) := by decide +kernel
theorem dX6_boxOf_39 : decode cX6_boxOf 39 = .ok (.bipush 10, 2) := by decide +kernel
theorem dX6_boxOf_41 : decode cX6_boxOf 41 = .ok (.iload_n 1, 1) := by decide +kernel
theorem dX6_boxOf_42 : decode cX6_boxOf 42 = .ok (.iadd, 1) := by decide +kernel
theorem dX6_boxOf_43 : decode cX6_boxOf 43 = .ok (.iaload, 1) := by decide +kernel
theorem dX6_boxOf_44 : decode cX6_boxOf 44 = .ok (.tableswitch 114 1 5 #[36, 38, 47, 53, 73], 36) := by decide +kernel
theorem dX6_boxOf_80 : decode cX6_boxOf 80 = .ok (.iload_n 2, 1) := by decide +kernel
theorem dX6_boxOf_81 : decode cX6_boxOf 81 = .ok (.ireturn, 1) := by decide +kernel
theorem dX6_boxOf_82 : decode cX6_boxOf 82 = .ok (.aload_n 0, 1) := by decide +kernel
theorem dX6_boxOf_83 : decode cX6_boxOf 83 = .ok (.invokevirtual 73, 3) := by decide +kernel
theorem dX6_boxOf_86 : decode cX6_boxOf 86 = .ok (.iconst 1, 1) := by decide +kernel
theorem dX6_boxOf_87 : decode cX6_boxOf 87 = .ok (.isub, 1) := by decide +kernel
theorem dX6_boxOf_88 : decode cX6_boxOf 88 = .ok (.iload_n 2, 1) := by decide +kernel
theorem dX6_boxOf_89 : decode cX6_boxOf 89 = .ok (.isub, 1) := by decide +kernel
theorem dX6_boxOf_90 : decode cX6_boxOf 90 = .ok (.ireturn, 1) := by decide +kernel
theorem dX6_boxOf_91 : decode cX6_boxOf 91 = .ok (.aload_n 0, 1) := by decide +kernel
theorem dX6_boxOf_92 : decode cX6_boxOf 92 = .ok (.iload_n 2, 1) := by decide +kernel
theorem dX6_boxOf_93 : decode cX6_boxOf 93 = .ok (.invokevirtual 144, 3) := by decide +kernel
theorem dX6_boxOf_96 : decode cX6_boxOf 96 = .ok (.ireturn, 1) := by decide +kernel
theorem dX6_boxOf_97 : decode cX6_boxOf 97 = .ok (.aload_n 0, 1) := by decide +kernel
theorem dX6_boxOf_98 : decode cX6_boxOf 98 = .ok (.iload 5, 2) := by decide +kernel
theorem dX6_boxOf_100 : decode cX6_boxOf 100 = .ok (.aload_n 0, 1) := by decide +kernel
theorem dX6_boxOf_101 : decode cX6_boxOf 101 = .ok (.getfield 7, 3) := by decide +kernel
theorem dX6_boxOf_104 : decode cX6_boxOf 104 = .ok (.iconst 2, 1) := by decide +kernel
theorem dX6_boxOf_105 : decode cX6_boxOf 105 = .ok (.iaload, 1) := by decide +kernel
theorem dX6_boxOf_106 : decode cX6_boxOf 106 = .ok (.iadd, 1) := by decide +kernel
theorem dX6_boxOf_107 : decode cX6_boxOf 107 = .ok (.aload_n 0, 1) := by decide +kernel
theorem dX6_boxOf_108 : decode cX6_boxOf 108 = .ok (.invokevirtual 73, 3) := by decide +kernel
theorem dX6_boxOf_111 : decode cX6_boxOf 111 = .ok (.irem, 1) := by decide +kernel
theorem dX6_boxOf_112 : decode cX6_boxOf 112 = .ok (.iload_n 3, 1) := by decide +kernel
theorem dX6_boxOf_113 : decode cX6_boxOf 113 = .ok (.invokevirtual 147, 3) := by decide +kernel
theorem dX6_boxOf_116 : decode cX6_boxOf 116 = .ok (.ireturn, 1) := by decide +kernel
theorem dX6_boxOf_117 : decode cX6_boxOf 117 = .ok (.iload_n 2, 1) := by decide +kernel
theorem dX6_boxOf_118 : decode cX6_boxOf 118 = .ok (.ifCond .ne 7, 3) := by decide +kernel
theorem dX6_boxOf_121 : decode cX6_boxOf 121 = .ok (.iconst 0, 1) := by decide +kernel
theorem dX6_boxOf_122 : decode cX6_boxOf 122 = .ok (.goto 35, 3) := by decide +kernel
theorem dX6_boxOf_125 : decode cX6_boxOf 125 = .ok (.aload_n 0, 1) := by decide +kernel
theorem dX6_boxOf_126 : decode cX6_boxOf 126 = .ok (.iload 4, 2) := by decide +kernel
theorem dX6_boxOf_128 : decode cX6_boxOf 128 = .ok (.aload_n 0, 1) := by decide +kernel
theorem dX6_boxOf_129 : decode cX6_boxOf 129 = .ok (.getfield 7, 3) := by decide +kernel
theorem dX6_boxOf_132 : decode cX6_boxOf 132 = .ok (.iconst 2, 1) := by decide +kernel
theorem dX6_boxOf_133 : decode cX6_boxOf 133 = .ok (.iaload, 1) := by decide +kernel
theorem dX6_boxOf_134 : decode cX6_boxOf 134 = .ok (.ifCond .ne 7, 3) := by decide +kernel
theorem dX6_boxOf_137 : decode cX6_boxOf 137 = .ok (.iconst 1, 1) := by decide +kernel
theorem dX6_boxOf_138 : decode cX6_boxOf 138 = .ok (.goto 9, 3) := by decide +kernel
theorem dX6_boxOf_141 : decode cX6_boxOf 141 = .ok (.aload_n 0, 1) := by decide +kernel
theorem dX6_boxOf_142 : decode cX6_boxOf 142 = .ok (.getfield 7, 3) := by decide +kernel
theorem dX6_boxOf_145 : decode cX6_boxOf 145 = .ok (.iconst 2, 1) := by decide +kernel
theorem dX6_boxOf_146 : decode cX6_boxOf 146 = .ok (.iaload, 1) := by decide +kernel
theorem dX6_boxOf_147 : decode cX6_boxOf 147 = .ok (.iadd, 1) := by decide +kernel
theorem dX6_boxOf_148 : decode cX6_boxOf 148 = .ok (.aload_n 0, 1) := by decide +kernel
theorem dX6_boxOf_149 : decode cX6_boxOf 149 = .ok (.invokevirtual 73, 3) := by decide +kernel
theorem dX6_boxOf_152 : decode cX6_boxOf 152 = .ok (.irem, 1) := by decide +kernel
theorem dX6_boxOf_153 : decode cX6_boxOf 153 = .ok (.iload_n 3, 1) := by decide +kernel
theorem dX6_boxOf_154 : decode cX6_boxOf 154 = .ok (.invokevirtual 147, 3) := by decide +kernel
theorem dX6_boxOf_157 : decode cX6_boxOf 157 = .ok (.ireturn, 1) := by decide +kernel
theorem dX6_boxOf_158 : decode cX6_boxOf 158 = .ok (.iload 5, 2) := by decide +kernel
theorem dX6_boxOf_160 : decode cX6_boxOf 160 = .ok (.ireturn, 1) := by decide +kernel
theorem dX6_seek_0 : decode cX6_seek 0 = .ok (.aload_n 0, 1) := by decide +kernel
theorem dX6_seek_1 : decode cX6_seek 1 = .ok (.iconst 0, 1) := by decide +kernel
theorem dX6_seek_2 : decode cX6_seek 2 = .ok (.putfield 151, 3) := by decide +kernel
theorem dX6_seek_5 : decode cX6_seek 5 = .ok (.aload_n 0, 1) := by decide +kernel
theorem dX6_seek_6 : decode cX6_seek 6 = .ok (.iconst 0, 1) := by decide +kernel
theorem dX6_seek_7 : decode cX6_seek 7 = .ok (.putfield 154, 3) := by decide +kernel
theorem dX6_seek_10 : decode cX6_seek 10 = .ok (.iconst 0, 1) := by decide +kernel
theorem dX6_seek_11 : decode cX6_seek 11 = .ok (.istore_n 2, 1) := by decide +kernel
theorem dX6_seek_12 : decode cX6_seek 12 = .ok (.aload_n 0, 1) := by decide +kernel
theorem dX6_seek_13 : decode cX6_seek 13 = .ok (.getfield 154, 3) := by decide +kernel
theorem dX6_seek_16 : decode cX6_seek 16 = .ok (.ifCond .ne 75, 3) := by decide +kernel
theorem dX6_seek_19 : decode cX6_seek 19 = .ok (.aload_n 0, 1) := by decide +kernel
theorem dX6_seek_20 : decode cX6_seek 20 = .ok (.getfield 151, 3) := by decide +kernel
theorem dX6_seek_23 : decode cX6_seek 23 = .ok (.aload_n 0, 1) := by decide +kernel
theorem dX6_seek_24 : decode cX6_seek 24 = .ok (.getfield 7, 3) := by decide +kernel
theorem dX6_seek_27 : decode cX6_seek 27 = .ok (.iconst 1, 1) := by decide +kernel
theorem dX6_seek_28 : decode cX6_seek 28 = .ok (.iaload, 1) := by decide +kernel
theorem dX6_seek_29 : decode cX6_seek 29 = .ok (.if_icmp .ge 62, 3) := by decide +kernel
theorem dX6_seek_32 : decode cX6_seek 32 = .ok (.aload_n 0, 1) := by decide +kernel
theorem dX6_seek_33 : decode cX6_seek 33 = .ok (.iload_n 1, 1) := by decide +kernel
theorem dX6_seek_34 : decode cX6_seek 34 = .ok (.aload_n 0, 1) := by decide +kernel
theorem dX6_seek_35 : decode cX6_seek 35 = .ok (.getfield 151, 3) := by decide +kernel
theorem dX6_seek_38 : decode cX6_seek 38 = .ok (.iload_n 2, 1) := by decide +kernel
