theorem dX6_isSo_20 : decode cX6_isSo 20 = .ok (.bipush 17, 2) := by decide +kernel
theorem dX6_isSo_22 : decode cX6_isSo 22 = .ok (.iload_n 2, 1) := by decide +kernel
theorem dX6_isSo_23 : decode cX6_isSo 23 = .ok (.iadd, 1) := by decide +kernel
theorem dX6_isSo_24 : decode cX6_isSo 24 = .ok (.iaload, 1) := by decide +kernel
theorem dX6_isSo_25 : decode cX6_isSo 25 = .ok (.iconst (-1), 1) := by decide +kernel
theorem dX6_isSo_26 : decode cX6_isSo 26 = .ok (.if_icmp .eq 21, 3) := by decide +kernel
theorem dX6_isSo_29 : decode cX6_isSo 29 = .ok (.aload_n 0, 1) := by decide +kernel
theorem dX6_isSo_30 : decode cX6_isSo 30 = .ok (.getfield 7, 3) := by decide +kernel
theorem dX6_isSo_33 : decode cX6_isSo 33 = .ok (.bipush 17, 2) := by decide +kernel
theorem dX6_isSo_35 : decode cX6_isSo 35 = .ok (.iload_n 2, 1) := by decide +kernel
theorem dX6_isSo_36 : decode cX6_isSo 36 = .ok (.iadd, 1) := by decide +kernel
theorem dX6_isSo_37 : decode cX6_isSo 37 = .ok (.iaload, 1) := by decide +kernel
theorem dX6_isSo_38 : decode cX6_isSo 38 = .ok (.aload_n 0, 1) := by decide +kernel
theorem dX6_isSo_39 : decode cX6_isSo 39 = .ok (.getfield 27, 3) := by decide +kernel
theorem dX6_isSo_42 : decode cX6_isSo 42 = .ok (.iload_n 2, 1) := by decide +kernel
theorem dX6_isSo_43 : decode cX6_isSo 43 = .ok (.iaload, 1) := by decide +kernel
theorem dX6_isSo_44 : decode cX6_isSo 44 = .ok (.if_icmp .ne 7, 3) := by decide +kernel
theorem dX6_isSo_47 : decode cX6_isSo 47 = .ok (.iconst 1, 1) := by decide +kernel
theorem dX6_isSo_48 : decode cX6_isSo 48 = .ok (.goto 4, 3) := by decide +kernel
theorem dX6_isSo_51 : decode cX6_isSo 51 = .ok (.iconst 0, 1) := by decide +kernel
theorem dX6_isSo_52 : decode cX6_isSo 52 = .ok (.istore_n 1, 1) := by decide +kernel
theorem dX6_isSo_53 : decode cX6_isSo 53 = .ok (.iinc 2 1, 3) := by decide +kernel
theorem dX6_isSo_56 : decode cX6_isSo 56 = .ok (.goto (-52), 3) := by decide +kernel
theorem dX6_isSo_59 : decode cX6_isSo 59 = .ok (.iconst 0, 1) := by decide +kernel
theorem dX6_isSo_60 : decode cX6_isSo 60 = .ok (.istore_n 2, 1) := by decide +kernel
theorem dX6_isSo_61 : decode cX6_isSo 61 = .ok (.iload_n 2, 1) := by decide +kernel
theorem dX6_isSo_62 : decode cX6_isSo 62 = .ok (.aload_n 0, 1) := by decide +kernel
theorem dX6_isSo_63 : decode cX6_isSo 63 = .ok (.getfield 7, 3) := by decide +kernel
theorem dX6_isSo_66 : decode cX6_isSo 66 = .ok (.bipush 24, 2) := by decide +kernel
theorem dX6_isSo_68 : decode cX6_isSo 68 = .ok (.iaload, 1) := by decide +kernel
theorem dX6_isSo_69 : decode cX6_isSo 69 = .ok (.if_icmp .ge 65, 3) := by decide +kernel
theorem dX6_isSo_72 : decode cX6_isSo 72 = .ok (.iload_n 1, 1) := by decide +kernel
theorem dX6_isSo_73 : decode cX6_isSo 73 = .ok (.ifCond .eq 61, 3) := by decide +kernel
theorem dX6_isSo_76 : decode cX6_isSo 76 = .ok (.aload_n 0, 1) := by decide +kernel
theorem dX6_isSo_77 : decode cX6_isSo 77 = .ok (.aload_n 0, 1) := by decide +kernel
theorem dX6_isSo_78 : decode cX6_isSo 78 = .ok (.getfield 7, 3) := by decide +kernel
theorem dX6_isSo_81 : decode cX6_isSo 81 = .ok (.bipush 25, 2) := by decide +kernel
theorem dX6_isSo_83 : decode cX6_isSo 83 = .ok (.iconst 2, 1) := by decide +kernel
theorem dX6_isSo_84 : decode cX6_isSo 84 = .ok (.iload_n 2, 1) := by decide +kernel
theorem dX6_isSo_85 : decode cX6_isSo 85 = .ok (.imul, 1) := by decide +kernel
theorem dX6_isSo_86 : decode cX6_isSo 86 = .ok (.iadd, 1) := by decide +kernel
theorem dX6_isSo_87 : decode cX6_isSo 87 = .ok (.iaload, 1) := by decide +kernel
theorem dX6_isSo_88 : decode cX6_isSo 88 = .ok (.invokevirtual 162, 3) := by decide +kernel
theorem dX6_isSo_91 : decode cX6_isSo 91 = .ok (.aload_n 0, 1) := by decide +kernel
theorem dX6_isSo_92 : decode cX6_isSo 92 = .ok (.getfield 154, 3) := by decide +kernel
theorem dX6_isSo_95 : decode cX6_isSo 95 = .ok (.ifCond .eq 10, 3) := by decide +kernel
theorem dX6_isSo_98 : decode cX6_isSo 98 = .ok (.aload_n 0, 1) := by decide +kernel
theorem dX6_isSo_99 : decode cX6_isSo 99 = .ok (.getfield 151, 3) := by decide +kernel
theorem dX6_isSo_102 : decode cX6_isSo 102 = .ok (.goto 4, 3) := by decide +kernel
theorem dX6_isSo_105 : decode cX6_isSo 105 = .ok (.iconst 0, 1) := by decide +kernel
theorem dX6_isSo_106 : decode cX6_isSo 106 = .ok (.aload_n 0, 1) := by decide +kernel
theorem dX6_isSo_107 : decode cX6_isSo 107 = .ok (.getfield 7, 3) := by decide +kernel
theorem dX6_isSo_110 : decode cX6_isSo 110 = .ok (.bipush 25, 2) := by decide +kernel
theorem dX6_isSo_112 : decode cX6_isSo 112 = .ok (.iconst 2, 1) := by decide +kernel
theorem dX6_isSo_113 : decode cX6_isSo 113 = .ok (.iload_n 2, 1) := by decide +kernel
theorem dX6_isSo_114 : decode cX6_isSo 114 = .ok (.imul, 1) := by decide +kernel
theorem dX6_isSo_115 : decode cX6_isSo 115 = .ok (.iadd, 1) := by decide +kernel
theorem dX6_isSo_116 : decode cX6_isSo 116 = .ok (.iconst 1, 1) := by decide +kernel
theorem dX6_isSo_117 : decode cX6_isSo 117 = .ok (.iadd, 1) := by decide +kernel
theorem dX6_isSo_118 : decode cX6_isSo 118 = .ok (.iaload, 1) := by decide +kernel
theorem dX6_isSo_119 : decode cX6_isSo 119 = .ok (.if_icmp .ne 7, 3) := by decide +kernel
theorem dX6_isSo_122 : decode cX6_isSo 122 = .ok (.iconst 1, 1) := by decide +kernel
theorem dX6_isSo_123 : decode cX6_isSo 123 = .ok (.goto 4, 3) := by decide +kernel
theorem dX6_isSo_126 : decode cX6_isSo 126 = .ok (.iconst 0, 1) := by decide +kernel
theorem dX6_isSo_127 : decode cX6_isSo 127 = .ok (.istore_n 1, 1) := by decide +kernel
theorem dX6_isSo_128 : decode cX6_isSo 128 = .ok (.iinc 2 1, 3) := by decide +kernel
theorem dX6_isSo_131 : decode cX6_isSo 131 = .ok (.goto (-70), 3) := by decide +kernel
theorem dX6_isSo_134 : decode cX6_isSo 134 = .ok (.iload_n 1, 1) := by decide +kernel
theorem dX6_isSo_135 : decode cX6_isSo 135 = .ok (.ireturn, 1) := by decide +kernel
theorem dX6_mayBe_0 : decode cX6_mayBe 0 = .ok (.iload_n 1, 1) := by decide +kernel
theorem dX6_mayBe_1 : decode cX6_mayBe 1 = .ok (.iconst (-1), 1) := by decide +kernel
theorem dX6_mayBe_2 : decode cX6_mayBe 2 = .ok (.if_icmp .ge 10, 3) := by decide +kernel
theorem dX6_mayBe_5 : decode cX6_mayBe 5 = .ok (.aload_n 0, 1) := by decide +kernel
theorem dX6_mayBe_6 : decode cX6_mayBe 6 = .ok (.bipush (-10), 2) := by decide +kernel
theorem dX6_mayBe_8 : decode cX6_mayBe 8 = .ok (.invokevirtual 85, 3) := by decide +kernel
theorem dX6_mayBe_11 : decode cX6_mayBe 11 = .ok (.ireturn, 1) := by decide +kernel
theorem dX6_mayBe_12 : decode cX6_mayBe 12 = .ok (.iconst 0, 1) := by decide +kernel
theorem dX6_mayBe_13 : decode cX6_mayBe 13 = .ok (.istore_n 2, 1) := by decide +kernel
theorem dX6_mayBe_14 : decode cX6_mayBe 14 = .ok (.bipush (-5), 2) := by decide +kernel
theorem dX6_mayBe_16 : decode cX6_mayBe 16 = .ok (.istore_n 3, 1) := by decide +kernel
theorem dX6_mayBe_17 : decode cX6_mayBe 17 = .ok (.iconst 0, 1) := by decide +kernel
theorem dX6_mayBe_18 : decode cX6_mayBe 18 = .ok (.istore 4, 2) := by decide +kernel
theorem dX6_mayBe_20 : decode cX6_mayBe 20 = .ok (.iload 4, 2) := by decide +kernel
theorem dX6_mayBe_22 : decode cX6_mayBe 22 = .ok (.aload_n 0, 1) := by decide +kernel
theorem dX6_mayBe_23 : decode cX6_mayBe 23 = .ok (.invokevirtual 120, 3) := by decide +kernel
theorem dX6_mayBe_26 : decode cX6_mayBe 26 = .ok (.if_icmp .ge 37, 3) := by decide +kernel
theorem dX6_mayBe_29 : decode cX6_mayBe 29 = .ok (.aload_n 0, 1) := by decide +kernel
theorem dX6_mayBe_30 : decode cX6_mayBe 30 = .ok (.iload 4, 2) := by decide +kernel
theorem dX6_mayBe_32 : decode cX6_mayBe 32 = .ok (.invokevirtual 123, 3) := by decide +kernel
theorem dX6_mayBe_35 : decode cX6_mayBe 35 = .ok (.aload_n 0, 1) := by decide +kernel
theorem dX6_mayBe_36 : decode cX6_mayBe 36 = .ok (.invokevirtual 222, 3) := by decide +kernel
theorem dX6_mayBe_39 : decode cX6_mayBe 39 = .ok (.ifCond .eq 18, 3) := by decide +kernel
theorem dX6_mayBe_42 : decode cX6_mayBe 42 = .ok (.iload_n 2, 1) := by decide +kernel
theorem dX6_mayBe_43 : decode cX6_mayBe 43 = .ok (.iload_n 1, 1) := by decide +kernel
theorem dX6_mayBe_44 : decode cX6_mayBe 44 = .ok (.if_icmp .ne 8, 3) := by decide +kernel
theorem dX6_mayBe_47 : decode cX6_mayBe 47 = .ok (.iload 4, 2) := by decide +kernel
theorem dX6_mayBe_49 : decode cX6_mayBe 49 = .ok (.goto 4, 3) := by decide +kernel
theorem dX6_mayBe_52 : decode cX6_mayBe 52 = .ok (.iload_n 3, 1) := by decide +kernel
theorem dX6_mayBe_53 : decode cX6_mayBe 53 = .ok (.istore_n 3, 1) := by decide +kernel
theorem dX6_mayBe_54 : decode cX6_mayBe 54 = .ok (.iinc 2 1, 3) := by decide +kernel
theorem dX6_mayBe_57 : decode cX6_mayBe 57 = .ok (.iinc 4 1, 3) := by decide +kernel
theorem dX6_mayBe_60 : decode cX6_mayBe 60 = .ok (.goto (-40), 3) := by decide +kernel
theorem dX6_mayBe_63 : decode cX6_mayBe 63 = .ok (.iload_n 1, 1) := by decide +kernel
theorem dX6_mayBe_64 : decode cX6_mayBe 64 = .ok (.iconst (-1), 1) := by decide +kernel
theorem dX6_mayBe_65 : decode cX6_mayBe 65 = .ok (.if_icmp .ne 7, 3) := by decide +kernel
theorem dX6_mayBe_68 : decode cX6_mayBe 68 = .ok (.iload_n 2, 1) := by decide +kernel
theorem dX6_mayBe_69 : decode cX6_mayBe 69 = .ok (.goto 4, 3) := by decide +kernel
theorem dX6_mayBe_72 : decode cX6_mayBe 72 = .ok (.iload_n 3, 1) := by decide +kernel
theorem dX6_mayBe_73 : decode cX6_mayBe 73 = .ok (.ireturn, 1) := by decide +kernel
theorem dX6_tell_0 : decode cX6_tell 0 = .ok (.lload_n 1, 1) := by decide +kernel
theorem dX6_tell_1 : decode cX6_tell 1 = .ok (.lstore 5, 2) := by decide +kernel
theorem dX6_tell_3 : decode cX6_tell 3 = .ok (.lload_n 3, 1) := by decide +kernel
theorem dX6_tell_4 : decode cX6_tell 4 = .ok (.lstore 7, 2) := by decide +kernel
theorem dX6_tell_6 : decode cX6_tell 6 = .ok (.lload 7, 2) := by decide +kernel
theorem dX6_tell_8 : decode cX6_tell 8 = .ok (.lconst 0, 1) := by decide +kernel
theorem dX6_tell_9 : decode cX6_tell 9 = .ok (.lcmp, 1) := by decide +kernel
theorem dX6_tell_10 : decode cX6_tell 10 = .ok (.ifCond .eq 21, 3) := by decide +kernel
theorem dX6_tell_13 : decode cX6_tell 13 = .ok (.lload 5, 2) := by decide +kernel
theorem dX6_tell_15 : decode cX6_tell 15 = .ok (.lload 7, 2) := by decide +kernel
theorem dX6_tell_17 : decode cX6_tell 17 = .ok (.lrem, 1) := by decide +kernel
theorem dX6_tell_18 : decode cX6_tell 18 = .ok (.lstore 9, 2) := by decide +kernel
theorem dX6_tell_20 : decode cX6_tell 20 = .ok (.lload 7, 2) := by decide +kernel
theorem dX6_tell_22 : decode cX6_tell 22 = .ok (.lstore 5, 2) := by decide +kernel
theorem dX6_tell_24 : decode cX6_tell 24 = .ok (.lload 9, 2) := by decide +kernel
theorem dX6_tell_26 : decode cX6_tell 26 = .ok (.lstore 7, 2) := by decide +kernel
theorem dX6_tell_28 : decode cX6_tell 28 = .ok (.goto (-22), 3) := by decide +kernel
theorem dX6_tell_31 : decode cX6_tell 31 = .ok (.aload_n 0, 1) := by decide +kernel
theorem dX6_tell_32 : decode cX6_tell 32 = .ok (.lload_n 1, 1) := by decide +kernel
theorem dX6_tell_33 : decode cX6_tell 33 = .ok (.lload 5, 2) := by decide +kernel
theorem dX6_tell_35 : decode cX6_tell 35 = .ok (.ldiv, 1) := by decide +kernel
theorem dX6_tell_36 : decode cX6_tell 36 = .ok (.putfield 226, 3) := by decide +kernel
theorem dX6_tell_39 : decode cX6_tell 39 = .ok (.aload_n 0, 1) := by decide +kernel
theorem dX6_tell_40 : decode cX6_tell 40 = .ok (.lload_n 3, 1) := by decide +kernel
theorem dX6_tell_41 : decode cX6_tell 41 = .ok (.lload 5, 2) := by decide +kernel
theorem dX6_tell_43 : decode cX6_tell 43 = .ok (.ldiv, 1) := by decide +kernel
theorem dX6_tell_44 : decode cX6_tell 44 = .ok (.putfield 23, 3) := by decide +kernel
theorem dX6_tell_47 : decode cX6_tell 47 = .ok (.iconst 1, 1) := by decide +kernel
theorem dX6_tell_48 : decode cX6_tell 48 = .ok (.ireturn, 1) := by decide +kernel
theorem dX6_chance_0 : decode cX6_chance 0 = .ok (.iload_n 1, 1) := by decide +kernel
theorem dX6_chance_1 : decode cX6_chance 1 = .ok (.i2l, 1) := by decide +kernel
theorem dX6_chance_2 : decode cX6_chance 2 = .ok (.lconst 0, 1) := by decide +kernel
theorem dX6_chance_3 : decode cX6_chance 3 = .ok (.aload_n 0, 1) := by decide +kernel
theorem dX6_chance_4 : decode cX6_chance 4 = .ok (.invokevirtual 207, 3) := by decide +kernel
theorem dX6_chance_7 : decode cX6_chance 7 = .ok (.i2l, 1) := by decide +kernel
theorem dX6_chance_8 : decode cX6_chance 8 = .ok (.invokestatic 77, 3) := by decide +kernel
theorem dX6_chance_11 : decode cX6_chance 11 = .ok (.ifCond .ne 10, 3) := by decide +kernel
theorem dX6_chance_14 : decode cX6_chance 14 = .ok (.aload_n 0, 1) := by decide +kernel
theorem dX6_chance_15 : decode cX6_chance 15 = .ok (.bipush (-2), 2) := by decide +kernel
theorem dX6_chance_17 : decode cX6_chance 17 = .ok (.invokevirtual 85, 3) := by decide +kernel
theorem dX6_chance_20 : decode cX6_chance 20 = .ok (.ireturn, 1) := by decide +kernel
theorem dX6_chance_21 : decode cX6_chance 21 = .ok (.iconst 0, 1) := by decide +kernel
theorem dX6_chance_22 : decode cX6_chance 22 = .ok (.istore_n 2, 1) := by decide +kernel
theorem dX6_chance_23 : decode cX6_chance 23 = .ok (.iconst 0, 1) := by decide +kernel
theorem dX6_chance_24 : decode cX6_chance 24 = .ok (.istore_n 3, 1) := by decide +kernel
theorem dX6_chance_25 : decode cX6_chance 25 = .ok (.iconst 0, 1) := by decide +kernel
theorem dX6_chance_26 : decode cX6_chance 26 = .ok (.istore 4, 2) := by decide +kernel
theorem dX6_chance_28 : decode cX6_chance 28 = .ok (.iload 4, 2) := by decide +kernel
theorem dX6_chance_30 : decode cX6_chance 30 = .ok (.aload_n 0, 1) := by decide +kernel
theorem dX6_chance_31 : decode cX6_chance 31 = .ok (.invokevirtual 120, 3) := by decide +kernel
theorem dX6_chance_34 : decode cX6_chance 34 = .ok (.if_icmp .ge 43, 3) := by decide +kernel
theorem dX6_chance_37 : decode cX6_chance 37 = .ok (.aload_n 0, 1) := by decide +kernel
theorem dX6_chance_38 : decode cX6_chance 38 = .ok (.iload 4, 2) := by decide +kernel
theorem dX6_chance_40 : decode cX6_chance 40 = .ok (.invokevirtual 123, 3) := by decide +kernel
theorem dX6_chance_43 : decode cX6_chance 43 = .ok (.aload_n 0, 1) := by decide +kernel
theorem dX6_chance_44 : decode cX6_chance 44 = .ok (.invokevirtual 222, 3) := by decide +kernel
theorem dX6_chance_47 : decode cX6_chance 47 = .ok (.ifCond .eq 24, 3) := by decide +kernel
theorem dX6_chance_50 : decode cX6_chance 50 = .ok (.iinc 2 1, 3) := by decide +kernel
theorem dX6_chance_53 : decode cX6_chance 53 = .ok (.iload_n 3, 1) := by decide +kernel
theorem dX6_chance_54 : decode cX6_chance 54 = .ok (.aload_n 0, 1) := by decide +kernel
theorem dX6_chance_55 : decode cX6_chance 55 = .ok (.invokevirtual 171, 3) := by decide +kernel
theorem dX6_chance_58 : decode cX6_chance 58 = .ok (.iload_n 1, 1) := by decide +kernel
theorem dX6_chance_59 : decode cX6_chance 59 = .ok (.iand, 1) := by decide +kernel
theorem dX6_chance_60 : decode cX6_chance 60 = .ok (.iload_n 1, 1) := by decide +kernel
theorem dX6_chance_61 : decode cX6_chance 61 = .ok (.if_icmp .ne 7, 3) := by decide +kernel
theorem dX6_chance_64 : decode cX6_chance 64 = .ok (.iconst 1, 1) := by decide +kernel
theorem dX6_chance_65 : decode cX6_chance 65 = .ok (.goto 4, 3) := by decide +kernel
theorem dX6_chance_68 : decode cX6_chance 68 = .ok (.iconst 0, 1) := by decide +kernel
theorem dX6_chance_69 : decode cX6_chance 69 = .ok (.iadd, 1) := by decide +kernel
theorem dX6_chance_70 : decode cX6_chance 70 = .ok (.istore_n 3, 1) := by decide +kernel
theorem dX6_chance_71 : decode cX6_chance 71 = .ok (.iinc 4 1, 3) := by decide +kernel
theorem dX6_chance_74 : decode cX6_chance 74 = .ok (.goto (-46), 3) := by decide +kernel
theorem dX6_chance_77 : decode cX6_chance 77 = .ok (.iload_n 2, 1) := by decide +kernel
theorem dX6_chance_78 : decode cX6_chance 78 = .ok (.ifCond .ne 10, 3) := by decide +kernel
theorem dX6_chance_81 : decode cX6_chance 81 = .ok (.aload_n 0, 1) := by decide +kernel
theorem dX6_chance_82 : decode cX6_chance 82 = .ok (.invokevirtual 127, 3) := by decide +kernel
theorem dX6_chance_85 : decode cX6_chance 85 = .ok (.goto 11, 3) := by decide +kernel
theorem dX6_chance_88 : decode cX6_chance 88 = .ok (.aload_n 0, 1) := by decide +kernel
theorem dX6_chance_89 : decode cX6_chance 89 = .ok (.iload_n 3, 1) := by decide +kernel
theorem dX6_chance_90 : decode cX6_chance 90 = .ok (.i2l, 1) := by decide +kernel
theorem dX6_chance_91 : decode cX6_chance 91 = .ok (.iload_n 2, 1) := by decide +kernel
theorem dX6_chance_92 : decode cX6_chance 92 = .ok (.i2l, 1) := by decide +kernel
theorem dX6_chance_93 : decode cX6_chance 93 = .ok (.invokevirtual 229, 3) := by decide +kernel
theorem dX6_chance_96 : decode cX6_chance 96 = .ok (.ireturn, 1) := by decide +kernel
theorem dX6_look_0 : decode cX6_look 0 = .ok (.iconst 0, 1) := by decide +kernel
theorem dX6_look_1 : decode cX6_look 1 = .ok (.istore_n 1, 1) := by decide +kernel
theorem dX6_look_2 : decode cX6_look 2 = .ok (.iload_n 1, 1) := by decide +kernel
theorem dX6_look_3 : decode cX6_look 3 = .ok (.bipush 49, 2) := by decide +kernel
theorem dX6_look_5 : decode cX6_look 5 = .ok (.if_icmp .ge 16, 3) := by decide +kernel
theorem dX6_look_8 : decode cX6_look 8 = .ok (.aload_n 0, 1) := by decide +kernel
theorem dX6_look_9 : decode cX6_look 9 = .ok (.getfield 48, 3) := by decide +kernel
theorem dX6_look_12 : decode cX6_look 12 = .ok (.iload_n 1, 1) := by decide +kernel
theorem dX6_look_13 : decode cX6_look 13 = .ok (.iconst 0, 1) := by decide +kernel
theorem dX6_look_14 : decode cX6_look 14 = .ok (.iastore, 1) := by decide +kernel
theorem dX6_look_15 : decode cX6_look 15 = .ok (.iinc 1 1, 3) := by decide +kernel
theorem dX6_look_18 : decode cX6_look 18 = .ok (.goto (-16), 3) := by decide +kernel
theorem dX6_look_21 : decode cX6_look 21 = .ok (.iconst 0, 1) := by decide +kernel
theorem dX6_look_22 : decode cX6_look 22 = .ok (.istore_n 1, 1) := by decide +kernel
theorem dX6_look_23 : decode cX6_look 23 = .ok (.iconst 0, 1) := by decide +kernel
theorem dX6_look_24 : decode cX6_look 24 = .ok (.istore_n 2, 1) := by decide +kernel
theorem dX6_look_25 : decode cX6_look 25 = .ok (.iload_n 2, 1) := by decide +kernel
theorem dX6_look_26 : decode cX6_look 26 = .ok (.aload_n 0, 1) := by decide +kernel
theorem dX6_look_27 : decode cX6_look 27 = .ok (.invokevirtual 120, 3) := by decide +kernel
theorem dX6_look_30 : decode cX6_look 30 = .ok (.if_icmp .ge 60, 3) := by decide +kernel
theorem dX6_look_33 : decode cX6_look 33 = .ok (.aload_n 0, 1) := by decide +kernel
theorem dX6_look_34 : decode cX6_look 34 = .ok (.iload_n 2, 1) := by decide +kernel
theorem dX6_look_35 : decode cX6_look 35 = .ok (.invokevirtual 123, 3) := by decide +kernel
theorem dX6_look_38 : decode cX6_look 38 = .ok (.aload_n 0, 1) := by decide +kernel
theorem dX6_look_39 : decode cX6_look 39 = .ok (.invokevirtual 222, 3) := by decide +kernel
theorem dX6_look_42 : decode cX6_look 42 = .ok (.ifCond .eq 42, 3) := by decide +kernel
theorem dX6_look_45 : decode cX6_look 45 = .ok (.iinc 1 1, 3) := by decide +kernel
theorem dX6_look_48 : decode cX6_look 48 = .ok (.iconst 0, 1) := by decide +kernel
theorem dX6_look_49 : decode cX6_look 49 = .ok (.istore_n 3, 1) := by decide +kernel
theorem dX6_look_50 : decode cX6_look 50 = .ok (.iload_n 3, 1) := by decide +kernel
theorem dX6_look_51 : decode cX6_look 51 = .ok (.aload_n 0, 1) := by decide +kernel
theorem dX6_look_52 : decode cX6_look 52 = .ok (.invokevirtual 73, 3) := by decide +kernel
theorem dX6_look_55 : decode cX6_look 55 = .ok (.if_icmp .ge 29, 3) := by decide +kernel
theorem dX6_look_58 : decode cX6_look 58 = .ok (.aload_n 0, 1) := by decide +kernel
theorem dX6_look_59 : decode cX6_look 59 = .ok (.getfield 48, 3) := by decide +kernel
theorem dX6_look_62 : decode cX6_look 62 = .ok (.bipush 7, 2) := by decide +kernel
theorem dX6_look_64 : decode cX6_look 64 = .ok (.iload_n 3, 1) := by decide +kernel
theorem dX6_look_65 : decode cX6_look 65 = .ok (.imul, 1) := by decide +kernel
theorem dX6_look_66 : decode cX6_look 66 = .ok (.aload_n 0, 1) := by decide +kernel
theorem dX6_look_67 : decode cX6_look 67 = .ok (.getfield 27, 3) := by decide +kernel
theorem dX6_look_70 : decode cX6_look 70 = .ok (.iload_n 3, 1) := by decide +kernel
theorem dX6_look_71 : decode cX6_look 71 = .ok (.iaload, 1) := by decide +kernel
theorem dX6_look_72 : decode cX6_look 72 = .ok (.iadd, 1) := by decide +kernel
theorem dX6_look_73 : decode cX6_look 73 = .ok (.dup2, 1) := by decide +kernel
theorem dX6_look_74 : decode cX6_look 74 = .ok (.iaload, 1) := by decide +kernel
theorem dX6_look_75 : decode cX6_look 75 = .ok (.iconst 1, 1) := by decide +kernel
theorem dX6_look_76 : decode cX6_look 76 = .ok (.iadd, 1) := by decide +kernel
theorem dX6_look_77 : decode cX6_look 77 = .ok (.iastore, 1) := by decide +kernel
theorem dX6_look_78 : decode cX6_look 78 = .ok (.iinc 3 1, 3) := by decide +kernel
theorem dX6_look_81 : decode cX6_look 81 = .ok (.goto (-31), 3) := by decide +kernel
theorem dX6_look_84 : decode cX6_look 84 = .ok (.iinc 2 1, 3) := by decide +kernel
theorem dX6_look_87 : decode cX6_look 87 = .ok (.goto (-62), 3) := by decide +kernel
theorem dX6_look_90 : decode cX6_look 90 = .ok (.iload_n 1, 1) := by decide +kernel
theorem dX6_look_91 : decode cX6_look 91 = .ok (.ifCond .ne 8, 3) := by decide +kernel
theorem dX6_look_94 : decode cX6_look 94 = .ok (.aload_n 0, 1) := by decide +kernel
theorem dX6_look_95 : decode cX6_look 95 = .ok (.invokevirtual 127, 3) := by decide +kernel
theorem dX6_look_98 : decode cX6_look 98 = .ok (.ireturn, 1) := by decide +kernel
theorem dX6_look_99 : decode cX6_look 99 = .ok (.iconst (-1), 1) := by decide +kernel
theorem dX6_look_100 : decode cX6_look 100 = .ok (.istore_n 2, 1) := by decide +kernel
theorem dX6_look_101 : decode cX6_look 101 = .ok (.ldc2_w 233, 3) := by decide +kernel
theorem dX6_look_104 : decode cX6_look 104 = .ok (.lstore_n 3, 1) := by decide +kernel
theorem dX6_look_105 : decode cX6_look 105 = .ok (.iconst 0, 1) := by decide +kernel
theorem dX6_look_106 : decode cX6_look 106 = .ok (.istore 5, 2) := by decide +kernel
theorem dX6_look_108 : decode cX6_look 108 = .ok (.iload 5, 2) := by decide +kernel
theorem dX6_look_110 : decode cX6_look 110 = .ok (.aload_n 0, 1) := by decide +kernel
theorem dX6_look_111 : decode cX6_look 111 = .ok (.invokevirtual 73, 3) := by decide +kernel
theorem dX6_look_114 : decode cX6_look 114 = .ok (.if_icmp .ge 121, 3) := by decide +kernel
theorem dX6_look_117 : decode cX6_look 117 = .ok (.lconst 0, 1) := by decide +kernel
theorem dX6_look_118 : decode cX6_look 118 = .ok (.lstore 6, 2) := by decide +kernel
theorem dX6_look_120 : decode cX6_look 120 = .ok (.iconst 0, 1) := by decide +kernel
theorem dX6_look_121 : decode cX6_look 121 = .ok (.istore 8, 2) := by decide +kernel
theorem dX6_look_123 : decode cX6_look 123 = .ok (.iload 8, 2) := by decide +kernel
theorem dX6_look_125 : decode cX6_look 125 = .ok (.aload_n 0, 1) := by decide +kernel
theorem dX6_look_126 : decode cX6_look 126 = .ok (.invokevirtual 73, 3) := by decide +kernel
theorem dX6_look_129 : decode cX6_look 129 = .ok (.if_icmp .ge 43, 3) := by decide +kernel
theorem dX6_look_132 : decode cX6_look 132 = .ok (.lload 6, 2) := by decide +kernel
theorem dX6_look_134 : decode cX6_look 134 = .ok (.aload_n 0, 1) := by decide +kernel
theorem dX6_look_135 : decode cX6_look 135 = .ok (.getfield 48, 3) := by decide +kernel
theorem dX6_look_138 : decode cX6_look 138 = .ok (.bipush 7, 2) := by decide +kernel
theorem dX6_look_140 : decode cX6_look 140 = .ok (.iload 5, 2) := by decide +kernel
theorem dX6_look_142 : decode cX6_look 142 = .ok (.imul, 1) := by decide +kernel
theorem dX6_look_143 : decode cX6_look 143 = .ok (.iload 8, 2) := by decide +kernel
theorem dX6_look_145 : decode cX6_look 145 = .ok (.iadd, 1) := by decide +kernel
theorem dX6_look_146 : decode cX6_look 146 = .ok (.iaload, 1) := by decide +kernel
theorem dX6_look_147 : decode cX6_look 147 = .ok (.i2l, 1) := by decide +kernel
theorem dX6_look_148 : decode cX6_look 148 = .ok (.aload_n 0, 1) := by decide +kernel
theorem dX6_look_149 : decode cX6_look 149 = .ok (.getfield 48, 3) := by decide +kernel
theorem dX6_look_152 : decode cX6_look 152 = .ok (.bipush 7, 2) := by decide +kernel
theorem dX6_look_154 : decode cX6_look 154 = .ok (.iload 5, 2) := by decide +kernel
theorem dX6_look_156 : decode cX6_look 156 = .ok (.imul, 1) := by decide +kernel
theorem dX6_look_157 : decode cX6_look 157 = .ok (.iload 8, 2) := by decide +kernel
theorem dX6_look_159 : decode cX6_look 159 = .ok (.iadd, 1) := by decide +kernel
theorem dX6_look_160 : decode cX6_look 160 = .ok (.iaload, 1) := by decide +kernel
theorem dX6_look_161 : decode cX6_look 161 = .ok (.i2l, 1) := by decide +kernel
theorem dX6_look_162 : decode cX6_look 162 = .ok (.lmul, 1) := by decide +kernel
theorem dX6_look_163 : decode cX6_look 163 = .ok (.ladd, 1) := by decide +kernel
theorem dX6_look_164 : decode cX6_look 164 = .ok (.lstore 6, 2) := by decide +kernel
theorem dX6_look_166 : decode cX6_look 166 = .ok (.iinc 8 1, 3) := by decide +kernel
theorem dX6_look_169 : decode cX6_look 169 = .ok (.goto (-46), 3) := by decide +kernel
theorem dX6_look_172 : decode cX6_look 172 = .ok (.aload_n 0, 1) := by decide +kernel
theorem dX6_look_173 : decode cX6_look 173 = .ok (.getfield 7, 3) := by decide +kernel
theorem dX6_look_176 : decode cX6_look 176 = .ok (.bipush 17, 2) := by decide +kernel
theorem dX6_look_178 : decode cX6_look 178 = .ok (.iload 5, 2) := by decide +kernel
theorem dX6_look_180 : decode cX6_look 180 = .ok (.iadd, 1) := by decide +kernel
theorem dX6_look_181 : decode cX6_look 181 = .ok (.iaload, 1) := by decide +kernel
theorem dX6_look_182 : decode cX6_look 182 = .ok (.iconst (-1), 1) := by decide +kernel
theorem dX6_look_183 : decode cX6_look 183 = .ok (.if_icmp .ne 19, 3) := by decide +kernel
theorem dX6_look_186 : decode cX6_look 186 = .ok (.iload_n 2, 1) := by decide +kernel
theorem dX6_look_187 : decode cX6_look 187 = .ok (.iconst (-1), 1) := by decide +kernel
theorem dX6_look_188 : decode cX6_look 188 = .ok (.if_icmp .eq 10, 3) := by decide +kernel
theorem dX6_look_191 : decode cX6_look 191 = .ok (.lload 6, 2) := by decide +kernel
theorem dX6_look_193 : decode cX6_look 193 = .ok (.lload_n 3, 1) := by decide +kernel
theorem dX6_look_194 : decode cX6_look 194 = .ok (.lcmp, 1) := by decide +kernel
theorem dX6_look_195 : decode cX6_look 195 = .ok (.ifCond .ge 7, 3) := by decide +kernel
theorem dX6_look_198 : decode cX6_look 198 = .ok (.iconst 1, 1) := by decide +kernel
theorem dX6_look_199 : decode cX6_look 199 = .ok (.goto 4, 3) := by decide +kernel
theorem dX6_look_202 : decode cX6_look 202 = .ok (.iconst 0, 1) := by decide +kernel
theorem dX6_look_203 : decode cX6_look 203 = .ok (.istore 8, 2) := by decide +kernel
theorem dX6_look_205 : decode cX6_look 205 = .ok (.iload 8, 2) := by decide +kernel
theorem dX6_look_207 : decode cX6_look 207 = .ok (.ifCond .eq 8, 3) := by decide +kernel
theorem dX6_look_210 : decode cX6_look 210 = .ok (.iload 5, 2) := by decide +kernel
theorem dX6_look_212 : decode cX6_look 212 = .ok (.goto 4, 3) := by decide +kernel
theorem dX6_look_215 : decode cX6_look 215 = .ok (.iload_n 2, 1) := by decide +kernel
theorem dX6_look_216 : decode cX6_look 216 = .ok (.istore_n 2, 1) := by decide +kernel
theorem dX6_look_217 : decode cX6_look 217 = .ok (.iload 8, 2) := by decide +kernel
theorem dX6_look_219 : decode cX6_look 219 = .ok (.ifCond .eq 8, 3) := by decide +kernel
theorem dX6_look_222 : decode cX6_look 222 = .ok (.lload 6, 2) := by decide +kernel
theorem dX6_look_224 : decode cX6_look 224 = .ok (.goto 4, 3) := by decide +kernel
theorem dX6_look_227 : decode cX6_look 227 = .ok (.lload_n 3, 1) := by decide +kernel
theorem dX6_look_228 : decode cX6_look 228 = .ok (.lstore_n 3, 1) := by decide +kernel
theorem dX6_look_229 : decode cX6_look 229 = .ok (.iinc 5 1, 3) := by decide +kernel
theorem dX6_look_232 : decode cX6_look 232 = .ok (.goto (-124), 3) := by decide +kernel
theorem dX6_look_235 : decode cX6_look 235 = .ok (.iload_n 2, 1) := by decide +kernel
theorem dX6_look_236 : decode cX6_look 236 = .ok (.iconst (-1), 1) := by decide +kernel
theorem dX6_look_237 : decode cX6_look 237 = .ok (.if_icmp .ne 7, 3) := by decide +kernel
theorem dX6_look_240 : decode cX6_look 240 = .ok (.iconst 0, 1) := by decide +kernel
theorem dX6_look_241 : decode cX6_look 241 = .ok (.goto 10, 3) := by decide +kernel
theorem dX6_look_244 : decode cX6_look 244 = .ok (.aload_n 0, 1) := by decide +kernel
theorem dX6_look_245 : decode cX6_look 245 = .ok (.lload_n 3, 1) := by decide +kernel
theorem dX6_look_246 : decode cX6_look 246 = .ok (.iload_n 1, 1) := by decide +kernel
theorem dX6_look_247 : decode cX6_look 247 = .ok (.i2l, 1) := by decide +kernel
theorem dX6_look_248 : decode cX6_look 248 = .ok (.invokevirtual 229, 3) := by decide +kernel
theorem dX6_look_251 : decode cX6_look 251 = .ok (.istore 5, 2) := by decide +kernel
theorem dX6_look_253 : decode cX6_look 253 = .ok (.iload_n 2, 1) := by decide +kernel
theorem dX6_look_254 : decode cX6_look 254 = .ok (.ireturn, 1) := by decide +kernel
theorem dX6_takeRules_0 : decode cX6_takeRules 0 = .ok (.iconst 0, 1) := by decide +kernel
theorem dX6_takeRules_1 : decode cX6_takeRules 1 = .ok (.istore_n 1, 1) := by decide +kernel
theorem dX6_takeRules_2 : decode cX6_takeRules 2 = .ok (.iload_n 1, 1) := by decide +kernel
theorem dX6_takeRules_3 : decode cX6_takeRules 3 = .ok (.bipush 7, 2) := by decide +kernel
theorem dX6_takeRules_5 : decode cX6_takeRules 5 = .ok (.if_icmp .ge 24, 3) := by decide +kernel
theorem dX6_takeRules_8 : decode cX6_takeRules 8 = .ok (.aload_n 0, 1) := by decide +kernel
theorem dX6_takeRules_9 : decode cX6_takeRules 9 = .ok (.getfield 54, 3) := by decide +kernel
theorem dX6_takeRules_12 : decode cX6_takeRules 12 = .ok (.iload_n 1, 1) := by decide +kernel
theorem dX6_takeRules_13 : decode cX6_takeRules 13 = .ok (.aload_n 0, 1) := by decide +kernel
theorem dX6_takeRules_14 : decode cX6_takeRules 14 = .ok (.getfield 7, 3) := by decide +kernel
theorem dX6_takeRules_17 : decode cX6_takeRules 17 = .ok (.bipush 10, 2) := by decide +kernel
theorem dX6_takeRules_19 : decode cX6_takeRules 19 = .ok (.iload_n 1, 1) := by decide +kernel
theorem dX6_takeRules_20 : decode cX6_takeRules 20 = .ok (.iadd, 1) := by decide +kernel
theorem dX6_takeRules_21 : decode cX6_takeRules 21 = .ok (.iaload, 1) := by decide +kernel
theorem dX6_takeRules_22 : decode cX6_takeRules 22 = .ok (.iastore, 1) := by decide +kernel
theorem dX6_takeRules_23 : decode cX6_takeRules 23 = .ok (.iinc 1 1, 3) := by decide +kernel
theorem dX6_takeRules_26 : decode cX6_takeRules 26 = .ok (.goto (-24), 3) := by decide +kernel
theorem dX6_takeRules_29 : decode cX6_takeRules 29 = .ok (.return_, 1) := by decide +kernel
theorem dX6_giveRules_0 : decode cX6_giveRules 0 = .ok (.iconst 0, 1) := by decide +kernel
theorem dX6_giveRules_1 : decode cX6_giveRules 1 = .ok (.istore_n 1, 1) := by decide +kernel
theorem dX6_giveRules_2 : decode cX6_giveRules 2 = .ok (.iload_n 1, 1) := by decide +kernel
theorem dX6_giveRules_3 : decode cX6_giveRules 3 = .ok (.bipush 7, 2) := by decide +kernel
theorem dX6_giveRules_5 : decode cX6_giveRules 5 = .ok (.if_icmp .ge 24, 3) := by decide +kernel
theorem dX6_giveRules_8 : decode cX6_giveRules 8 = .ok (.aload_n 0, 1) := by decide +kernel
theorem dX6_giveRules_9 : decode cX6_giveRules 9 = .ok (.getfield 7, 3) := by decide +kernel
theorem dX6_giveRules_12 : decode cX6_giveRules 12 = .ok (.bipush 10, 2) := by decide +kernel
theorem dX6_giveRules_14 : decode cX6_giveRules 14 = .ok (.iload_n 1, 1) := by decide +kernel
theorem dX6_giveRules_15 : decode cX6_giveRules 15 = .ok (.iadd, 1) := by decide +kernel
theorem dX6_giveRules_16 : decode cX6_giveRules 16 = .ok (.aload_n 0, 1) := by decide +kernel
theorem dX6_giveRules_17 : decode cX6_giveRules 17 = .ok (.getfield 54, 3) := by decide +kernel
theorem dX6_giveRules_20 : decode cX6_giveRules 20 = .ok (.iload_n 1, 1) := by decide +kernel
theorem dX6_giveRules_21 : decode cX6_giveRules 21 = .ok (.iaload, 1) := by decide +kernel
theorem dX6_giveRules_22 : decode cX6_giveRules 22 = .ok (.iastore, 1) := by decide +kernel
theorem dX6_giveRules_23 : decode cX6_giveRules 23 = .ok (.iinc 1 1, 3) := by decide +kernel
theorem dX6_giveRules_26 : decode cX6_giveRules 26 = .ok (.goto (-24), 3) := by decide +kernel
theorem dX6_giveRules_29 : decode cX6_giveRules 29 = .ok (.return_, 1) := by decide +kernel
theorem dX6_tryRules_0 : decode cX6_tryRules 0 = .ok (.iconst 0, 1) := by decide +kernel
theorem dX6_tryRules_1 : decode cX6_tryRules 1 = .ok (.istore_n 1, 1) := by decide +kernel
theorem dX6_tryRules_2 : decode cX6_tryRules 2 = .ok (.iload_n 1, 1) := by decide +kernel
theorem dX6_tryRules_3 : decode cX6_tryRules 3 = .ok (.iconst 5, 1) := by decide +kernel
theorem dX6_tryRules_4 : decode cX6_tryRules 4 = .ok (.if_icmp .gt 60, 3) := by decide +kernel
theorem dX6_tryRules_7 : decode cX6_tryRules 7 = .ok (.iconst 0, 1) := by decide +kernel
theorem dX6_tryRules_8 : decode cX6_tryRules 8 = .ok (.istore_n 2, 1) := by decide +kernel
theorem dX6_tryRules_9 : decode cX6_tryRules 9 = .ok (.iload_n 2, 1) := by decide +kernel
theorem dX6_tryRules_10 : decode cX6_tryRules 10 = .ok (.aload_n 0, 1) := by decide +kernel
theorem dX6_tryRules_11 : decode cX6_tryRules 11 = .ok (.invokevirtual 73, 3) := by decide +kernel
theorem dX6_tryRules_14 : decode cX6_tryRules 14 = .ok (.if_icmp .ge 19, 3) := by decide +kernel
theorem dX6_tryRules_17 : decode cX6_tryRules 17 = .ok (.aload_n 0, 1) := by decide +kernel
theorem dX6_tryRules_18 : decode cX6_tryRules 18 = .ok (.getfield 7, 3) := by decide +kernel
theorem dX6_tryRules_21 : decode cX6_tryRules 21 = .ok (.bipush 10, 2) := by decide +kernel
theorem dX6_tryRules_23 : decode cX6_tryRules 23 = .ok (.iload_n 2, 1) := by decide +kernel
theorem dX6_tryRules_24 : decode cX6_tryRules 24 = .ok (.iadd, 1) := by decide +kernel
theorem dX6_tryRules_25 : decode cX6_tryRules 25 = .ok (.iload_n 1, 1) := by decide +kernel
theorem dX6_tryRules_26 : decode cX6_tryRules 26 = .ok (.iastore, 1) := by decide +kernel
theorem dX6_tryRules_27 : decode cX6_tryRules 27 = .ok (.iinc 2 1, 3) := by decide +kernel
theorem dX6_tryRules_30 : decode cX6_tryRules 30 = .ok (.goto (-21), 3) := by decide +kernel
theorem dX6_tryRules_33 : decode cX6_tryRules 33 = .ok (.aload_n 0, 1) := by decide +kernel
theorem dX6_tryRules_34 : decode cX6_tryRules 34 = .ok (.getfield 51, 3) := by decide +kernel
theorem dX6_tryRules_37 : decode cX6_tryRules 37 = .ok (.iload_n 1, 1) := by decide +kernel
theorem dX6_tryRules_38 : decode cX6_tryRules 38 = .ok (.dup2, 1) := by decide +kernel
theorem dX6_tryRules_39 : decode cX6_tryRules 39 = .ok (.iaload, 1) := by decide +kernel
theorem dX6_tryRules_40 : decode cX6_tryRules 40 = .ok (.aload_n 0, 1) := by decide +kernel
theorem dX6_tryRules_41 : decode cX6_tryRules 41 = .ok (.invokevirtual 171, 3) := by decide +kernel
theorem dX6_tryRules_44 : decode cX6_tryRules 44 = .ok (.aload_n 0, 1) := by decide +kernel
theorem dX6_tryRules_45 : decode cX6_tryRules 45 = .ok (.invokevirtual 207, 3) := by decide +kernel
theorem dX6_tryRules_48 : decode cX6_tryRules 48 = .ok (.if_icmp .ne 7, 3) := by decide +kernel
theorem dX6_tryRules_51 : decode cX6_tryRules 51 = .ok (.iconst 1, 1) := by decide +kernel
theorem dX6_tryRules_52 : decode cX6_tryRules 52 = .ok (.goto 4, 3) := by decide +kernel
theorem dX6_tryRules_55 : decode cX6_tryRules 55 = .ok (.iconst 0, 1) := by decide +kernel
theorem dX6_tryRules_56 : decode cX6_tryRules 56 = .ok (.iadd, 1) := by decide +kernel
theorem dX6_tryRules_57 : decode cX6_tryRules 57 = .ok (.iastore, 1) := by decide +kernel
theorem dX6_tryRules_58 : decode cX6_tryRules 58 = .ok (.iinc 1 1, 3) := by decide +kernel
theorem dX6_tryRules_61 : decode cX6_tryRules 61 = .ok (.goto (-59), 3) := by decide +kernel
theorem dX6_tryRules_64 : decode cX6_tryRules 64 = .ok (.aload_n 0, 1) := by decide +kernel
theorem dX6_tryRules_65 : decode cX6_tryRules 65 = .ok (.invokevirtual 235, 3) := by decide +kernel
theorem dX6_tryRules_68 : decode cX6_tryRules 68 = .ok (.return_, 1) := by decide +kernel
theorem dX6_advice_0 : decode cX6_advice 0 = .ok (.iconst 0, 1) := by decide +kernel
theorem dX6_advice_1 : decode cX6_advice 1 = .ok (.istore_n 1, 1) := by decide +kernel
theorem dX6_advice_2 : decode cX6_advice 2 = .ok (.aload_n 0, 1) := by decide +kernel
theorem dX6_advice_3 : decode cX6_advice 3 = .ok (.invokevirtual 238, 3) := by decide +kernel
theorem dX6_advice_6 : decode cX6_advice 6 = .ok (.iconst 0, 1) := by decide +kernel
theorem dX6_advice_7 : decode cX6_advice 7 = .ok (.istore_n 2, 1) := by decide +kernel
theorem dX6_advice_8 : decode cX6_advice 8 = .ok (.iload_n 2, 1) := by decide +kernel
theorem dX6_advice_9 : decode cX6_advice 9 = .ok (.iconst 5, 1) := by decide +kernel
theorem dX6_advice_10 : decode cX6_advice 10 = .ok (.if_icmp .gt 16, 3) := by decide +kernel
theorem dX6_advice_13 : decode cX6_advice 13 = .ok (.aload_n 0, 1) := by decide +kernel
theorem dX6_advice_14 : decode cX6_advice 14 = .ok (.getfield 51, 3) := by decide +kernel
theorem dX6_advice_17 : decode cX6_advice 17 = .ok (.iload_n 2, 1) := by decide +kernel
theorem dX6_advice_18 : decode cX6_advice 18 = .ok (.iconst 0, 1) := by decide +kernel
theorem dX6_advice_19 : decode cX6_advice 19 = .ok (.iastore, 1) := by decide +kernel
theorem dX6_advice_20 : decode cX6_advice 20 = .ok (.iinc 2 1, 3) := by decide +kernel
theorem dX6_advice_23 : decode cX6_advice 23 = .ok (.goto (-15), 3) := by decide +kernel
theorem dX6_advice_26 : decode cX6_advice 26 = .ok (.iconst 0, 1) := by decide +kernel
theorem dX6_advice_27 : decode cX6_advice 27 = .ok (.istore_n 2, 1) := by decide +kernel
theorem dX6_advice_28 : decode cX6_advice 28 = .ok (.iload_n 2, 1) := by decide +kernel
theorem dX6_advice_29 : decode cX6_advice 29 = .ok (.aload_n 0, 1) := by decide +kernel
theorem dX6_advice_30 : decode cX6_advice 30 = .ok (.invokevirtual 120, 3) := by decide +kernel
theorem dX6_advice_33 : decode cX6_advice 33 = .ok (.if_icmp .ge 28, 3) := by decide +kernel
theorem dX6_advice_36 : decode cX6_advice 36 = .ok (.aload_n 0, 1) := by decide +kernel
theorem dX6_advice_37 : decode cX6_advice 37 = .ok (.iload_n 2, 1) := by decide +kernel
theorem dX6_advice_38 : decode cX6_advice 38 = .ok (.invokevirtual 123, 3) := by decide +kernel
theorem dX6_advice_41 : decode cX6_advice 41 = .ok (.aload_n 0, 1) := by decide +kernel
theorem dX6_advice_42 : decode cX6_advice 42 = .ok (.invokevirtual 222, 3) := by decide +kernel
theorem dX6_advice_45 : decode cX6_advice 45 = .ok (.ifCond .eq 10, 3) := by decide +kernel
theorem dX6_advice_48 : decode cX6_advice 48 = .ok (.iinc 1 1, 3) := by decide +kernel
theorem dX6_advice_51 : decode cX6_advice 51 = .ok (.aload_n 0, 1) := by decide +kernel
theorem dX6_advice_52 : decode cX6_advice 52 = .ok (.invokevirtual 241, 3) := by decide +kernel
theorem dX6_advice_55 : decode cX6_advice 55 = .ok (.iinc 2 1, 3) := by decide +kernel
theorem dX6_advice_58 : decode cX6_advice 58 = .ok (.goto (-30), 3) := by decide +kernel
theorem dX6_advice_61 : decode cX6_advice 61 = .ok (.iload_n 1, 1) := by decide +kernel
theorem dX6_advice_62 : decode cX6_advice 62 = .ok (.ifCond .ne 8, 3) := by decide +kernel
theorem dX6_advice_65 : decode cX6_advice 65 = .ok (.aload_n 0, 1) := by decide +kernel
theorem dX6_advice_66 : decode cX6_advice 66 = .ok (.invokevirtual 127, 3) := by decide +kernel
theorem dX6_advice_69 : decode cX6_advice 69 = .ok (.ireturn, 1) := by decide +kernel
theorem dX6_advice_70 : decode cX6_advice 70 = .ok (.iconst 0, 1) := by decide +kernel
theorem dX6_advice_71 : decode cX6_advice 71 = .ok (.istore_n 2, 1) := by decide +kernel
theorem dX6_advice_72 : decode cX6_advice 72 = .ok (.iconst 1, 1) := by decide +kernel
theorem dX6_advice_73 : decode cX6_advice 73 = .ok (.istore_n 3, 1) := by decide +kernel
theorem dX6_advice_74 : decode cX6_advice 74 = .ok (.iload_n 3, 1) := by decide +kernel
theorem dX6_advice_75 : decode cX6_advice 75 = .ok (.iconst 5, 1) := by decide +kernel
theorem dX6_advice_76 : decode cX6_advice 76 = .ok (.if_icmp .gt 30, 3) := by decide +kernel
theorem dX6_advice_79 : decode cX6_advice 79 = .ok (.aload_n 0, 1) := by decide +kernel
theorem dX6_advice_80 : decode cX6_advice 80 = .ok (.getfield 51, 3) := by decide +kernel
theorem dX6_advice_83 : decode cX6_advice 83 = .ok (.iload_n 3, 1) := by decide +kernel
theorem dX6_advice_84 : decode cX6_advice 84 = .ok (.iaload, 1) := by decide +kernel
theorem dX6_advice_85 : decode cX6_advice 85 = .ok (.aload_n 0, 1) := by decide +kernel
theorem dX6_advice_86 : decode cX6_advice 86 = .ok (.getfield 51, 3) := by decide +kernel
theorem dX6_advice_89 : decode cX6_advice 89 = .ok (.iload_n 2, 1) := by decide +kernel
theorem dX6_advice_90 : decode cX6_advice 90 = .ok (.iaload, 1) := by decide +kernel
theorem dX6_advice_91 : decode cX6_advice 91 = .ok (.if_icmp .le 7, 3) := by decide +kernel
theorem dX6_advice_94 : decode cX6_advice 94 = .ok (.iload_n 3, 1) := by decide +kernel
theorem dX6_advice_95 : decode cX6_advice 95 = .ok (.goto 4, 3) := by decide +kernel
theorem dX6_advice_98 : decode cX6_advice 98 = .ok (.iload_n 2, 1) := by decide +kernel
theorem dX6_advice_99 : decode cX6_advice 99 = .ok (.istore_n 2, 1) := by decide +kernel
theorem dX6_advice_100 : decode cX6_advice 100 = .ok (.iinc 3 1, 3) := by decide +kernel
theorem dX6_advice_103 : decode cX6_advice 103 = .ok (.goto (-29), 3) := by decide +kernel
theorem dX6_advice_106 : decode cX6_advice 106 = .ok (.aload_n 0, 1) := by decide +kernel
theorem dX6_advice_107 : decode cX6_advice 107 = .ok (.aload_n 0, 1) := by decide +kernel
theorem dX6_advice_108 : decode cX6_advice 108 = .ok (.getfield 51, 3) := by decide +kernel
theorem dX6_advice_111 : decode cX6_advice 111 = .ok (.iload_n 2, 1) := by decide +kernel
theorem dX6_advice_112 : decode cX6_advice 112 = .ok (.iaload, 1) := by decide +kernel
theorem dX6_advice_113 : decode cX6_advice 113 = .ok (.i2l, 1) := by decide +kernel
theorem dX6_advice_114 : decode cX6_advice 114 = .ok (.iload_n 1, 1) := by decide +kernel
theorem dX6_advice_115 : decode cX6_advice 115 = .ok (.i2l, 1) := by decide +kernel
theorem dX6_advice_116 : decode cX6_advice 116 = .ok (.invokevirtual 229, 3) := by decide +kernel
theorem dX6_advice_119 : decode cX6_advice 119 = .ok (.istore_n 3, 1) := by decide +kernel
theorem dX6_advice_120 : decode cX6_advice 120 = .ok (.iload_n 2, 1) := by decide +kernel
theorem dX6_advice_121 : decode cX6_advice 121 = .ok (.ireturn, 1) := by decide +kernel
theorem dX6_worst_0 : decode cX6_worst 0 = .ok (.iload_n 1, 1) := by decide +kernel
theorem dX6_worst_1 : decode cX6_worst 1 = .ok (.i2l, 1) := by decide +kernel
theorem dX6_worst_2 : decode cX6_worst 2 = .ok (.lconst 0, 1) := by decide +kernel
theorem dX6_worst_3 : decode cX6_worst 3 = .ok (.lconst 1, 1) := by decide +kernel
theorem dX6_worst_4 : decode cX6_worst 4 = .ok (.invokestatic 77, 3) := by decide +kernel
theorem dX6_worst_7 : decode cX6_worst 7 = .ok (.ifCond .ne 10, 3) := by decide +kernel
theorem dX6_worst_10 : decode cX6_worst 10 = .ok (.aload_n 0, 1) := by decide +kernel
theorem dX6_worst_11 : decode cX6_worst 11 = .ok (.bipush (-2), 2) := by decide +kernel
theorem dX6_worst_13 : decode cX6_worst 13 = .ok (.invokevirtual 85, 3) := by decide +kernel
theorem dX6_worst_16 : decode cX6_worst 16 = .ok (.ireturn, 1) := by decide +kernel
theorem dX6_worst_17 : decode cX6_worst 17 = .ok (.iconst (-1), 1) := by decide +kernel
theorem dX6_worst_18 : decode cX6_worst 18 = .ok (.istore_n 2, 1) := by decide +kernel
theorem dX6_worst_19 : decode cX6_worst 19 = .ok (.ldc 197, 2) := by decide +kernel
theorem dX6_worst_21 : decode cX6_worst 21 = .ok (.istore_n 3, 1) := by decide +kernel
theorem dX6_worst_22 : decode cX6_worst 22 = .ok (.iconst 0, 1) := by decide +kernel
theorem dX6_worst_23 : decode cX6_worst 23 = .ok (.istore 4, 2) := by decide +kernel
theorem dX6_worst_25 : decode cX6_worst 25 = .ok (.iload 4, 2) := by decide +kernel
theorem dX6_worst_27 : decode cX6_worst 27 = .ok (.aload_n 0, 1) := by decide +kernel
theorem dX6_worst_28 : decode cX6_worst 28 = .ok (.invokevirtual 120, 3) := by decide +kernel
theorem dX6_worst_31 : decode cX6_worst 31 = .ok (.if_icmp .ge 62, 3) := by decide +kernel
theorem dX6_worst_34 : decode cX6_worst 34 = .ok (.aload_n 0, 1) := by decide +kernel
theorem dX6_worst_35 : decode cX6_worst 35 = .ok (.iload 4, 2) := by decide +kernel
theorem dX6_worst_37 : decode cX6_worst 37 = .ok (.invokevirtual 123, 3) := by decide +kernel
theorem dX6_worst_40 : decode cX6_worst 40 = .ok (.aload_n 0, 1) := by decide +kernel
theorem dX6_worst_41 : decode cX6_worst 41 = .ok (.invokevirtual 222, 3) := by decide +kernel
theorem dX6_worst_44 : decode cX6_worst 44 = .ok (.ifCond .eq 13, 3) := by decide +kernel
theorem dX6_worst_47 : decode cX6_worst 47 = .ok (.aload_n 0, 1) := by decide +kernel
theorem dX6_worst_48 : decode cX6_worst 48 = .ok (.invokevirtual 171, 3) := by decide +kernel
theorem dX6_worst_51 : decode cX6_worst 51 = .ok (.invokestatic 244, 3) := by decide +kernel
theorem dX6_worst_54 : decode cX6_worst 54 = .ok (.goto 5, 3) := by decide +kernel
theorem dX6_worst_57 : decode cX6_worst 57 = .ok (.ldc 197, 2) := by decide +kernel
theorem dX6_worst_59 : decode cX6_worst 59 = .ok (.istore 5, 2) := by decide +kernel
theorem dX6_worst_61 : decode cX6_worst 61 = .ok (.iload 5, 2) := by decide +kernel
theorem dX6_worst_63 : decode cX6_worst 63 = .ok (.iload_n 3, 1) := by decide +kernel
theorem dX6_worst_64 : decode cX6_worst 64 = .ok (.if_icmp .ge 8, 3) := by decide +kernel
theorem dX6_worst_67 : decode cX6_worst 67 = .ok (.iload 4, 2) := by decide +kernel
theorem dX6_worst_69 : decode cX6_worst 69 = .ok (.goto 4, 3) := by decide +kernel
theorem dX6_worst_72 : decode cX6_worst 72 = .ok (.iload_n 2, 1) := by decide +kernel
theorem dX6_worst_73 : decode cX6_worst 73 = .ok (.istore_n 2, 1) := by decide +kernel
theorem dX6_worst_74 : decode cX6_worst 74 = .ok (.iload 5, 2) := by decide +kernel
theorem dX6_worst_76 : decode cX6_worst 76 = .ok (.iload_n 3, 1) := by decide +kernel
theorem dX6_worst_77 : decode cX6_worst 77 = .ok (.if_icmp .ge 8, 3) := by decide +kernel
theorem dX6_worst_80 : decode cX6_worst 80 = .ok (.iload 5, 2) := by decide +kernel
theorem dX6_worst_82 : decode cX6_worst 82 = .ok (.goto 4, 3) := by decide +kernel
theorem dX6_worst_85 : decode cX6_worst 85 = .ok (.iload_n 3, 1) := by decide +kernel
theorem dX6_worst_86 : decode cX6_worst 86 = .ok (.istore_n 3, 1) := by decide +kernel
theorem dX6_worst_87 : decode cX6_worst 87 = .ok (.iinc 4 1, 3) := by decide +kernel
theorem dX6_worst_90 : decode cX6_worst 90 = .ok (.goto (-65), 3) := by decide +kernel
theorem dX6_worst_93 : decode cX6_worst 93 = .ok (.iload_n 2, 1) := by decide +kernel
theorem dX6_worst_94 : decode cX6_worst 94 = .ok (.iconst (-1), 1) := by decide +kernel
theorem dX6_worst_95 : decode cX6_worst 95 = .ok (.if_icmp .ne 10, 3) := by decide +kernel
theorem dX6_worst_98 : decode cX6_worst 98 = .ok (.aload_n 0, 1) := by decide +kernel
theorem dX6_worst_99 : decode cX6_worst 99 = .ok (.invokevirtual 127, 3) := by decide +kernel
theorem dX6_worst_102 : decode cX6_worst 102 = .ok (.goto 12, 3) := by decide +kernel
theorem dX6_worst_105 : decode cX6_worst 105 = .ok (.iload_n 1, 1) := by decide +kernel
theorem dX6_worst_106 : decode cX6_worst 106 = .ok (.ifCond .ne 7, 3) := by decide +kernel
theorem dX6_worst_109 : decode cX6_worst 109 = .ok (.iload_n 2, 1) := by decide +kernel
theorem dX6_worst_110 : decode cX6_worst 110 = .ok (.goto 4, 3) := by decide +kernel
theorem dX6_worst_113 : decode cX6_worst 113 = .ok (.iload_n 3, 1) := by decide +kernel
theorem dX6_worst_114 : decode cX6_worst 114 = .ok (.ireturn, 1) := by decide +kernel
theorem dX6_swaps_0 : decode cX6_swaps 0 = .ok (.iconst 0, 1) := by decide +kernel
theorem dX6_swaps_1 : decode cX6_swaps 1 = .ok (.istore_n 1, 1) := by decide +kernel
theorem dX6_swaps_2 : decode cX6_swaps 2 = .ok (.iload_n 1, 1) := by decide +kernel
theorem dX6_swaps_3 : decode cX6_swaps 3 = .ok (.aload_n 0, 1) := by decide +kernel
theorem dX6_swaps_4 : decode cX6_swaps 4 = .ok (.invokevirtual 73, 3) := by decide +kernel
theorem dX6_swaps_7 : decode cX6_swaps 7 = .ok (.if_icmp .ge 28, 3) := by decide +kernel
theorem dX6_swaps_10 : decode cX6_swaps 10 = .ok (.aload_n 0, 1) := by decide +kernel
theorem dX6_swaps_11 : decode cX6_swaps 11 = .ok (.getfield 57, 3) := by decide +kernel
theorem dX6_swaps_14 : decode cX6_swaps 14 = .ok (.aload_n 0, 1) := by decide +kernel
theorem dX6_swaps_15 : decode cX6_swaps 15 = .ok (.getfield 7, 3) := by decide +kernel
theorem dX6_swaps_18 : decode cX6_swaps 18 = .ok (.iconst 3, 1) := by decide +kernel
theorem dX6_swaps_19 : decode cX6_swaps 19 = .ok (.iload_n 1, 1) := by decide +kernel
theorem dX6_swaps_20 : decode cX6_swaps 20 = .ok (.iadd, 1) := by decide +kernel
theorem dX6_swaps_21 : decode cX6_swaps 21 = .ok (.iaload, 1) := by decide +kernel
theorem dX6_swaps_22 : decode cX6_swaps 22 = .ok (.aload_n 0, 1) := by decide +kernel
theorem dX6_swaps_23 : decode cX6_swaps 23 = .ok (.getfield 27, 3) := by decide +kernel
theorem dX6_swaps_26 : decode cX6_swaps 26 = .ok (.iload_n 1, 1) := by decide +kernel
theorem dX6_swaps_27 : decode cX6_swaps 27 = .ok (.iaload, 1) := by decide +kernel
theorem dX6_swaps_28 : decode cX6_swaps 28 = .ok (.iastore, 1) := by decide +kernel
theorem dX6_swaps_29 : decode cX6_swaps 29 = .ok (.iinc 1 1, 3) := by decide +kernel
theorem dX6_swaps_32 : decode cX6_swaps 32 = .ok (.goto (-30), 3) := by decide +kernel
theorem dX6_swaps_35 : decode cX6_swaps 35 = .ok (.iconst 0, 1) := by decide +kernel
theorem dX6_swaps_36 : decode cX6_swaps 36 = .ok (.istore_n 1, 1) := by decide +kernel
theorem dX6_swaps_37 : decode cX6_swaps 37 = .ok (.iconst 0, 1) := by decide +kernel
theorem dX6_swaps_38 : decode cX6_swaps 38 = .ok (.istore_n 2, 1) := by decide +kernel
theorem dX6_swaps_39 : decode cX6_swaps 39 = .ok (.iload_n 2, 1) := by decide +kernel
theorem dX6_swaps_40 : decode cX6_swaps 40 = .ok (.aload_n 0, 1) := by decide +kernel
theorem dX6_swaps_41 : decode cX6_swaps 41 = .ok (.invokevirtual 73, 3) := by decide +kernel
theorem dX6_swaps_44 : decode cX6_swaps 44 = .ok (.if_icmp .ge 65, 3) := by decide +kernel
theorem dX6_swaps_47 : decode cX6_swaps 47 = .ok (.iconst 1, 1) := by decide +kernel
theorem dX6_swaps_48 : decode cX6_swaps 48 = .ok (.istore_n 3, 1) := by decide +kernel
theorem dX6_swaps_49 : decode cX6_swaps 49 = .ok (.aload_n 0, 1) := by decide +kernel
theorem dX6_swaps_50 : decode cX6_swaps 50 = .ok (.getfield 57, 3) := by decide +kernel
theorem dX6_swaps_53 : decode cX6_swaps 53 = .ok (.iload_n 2, 1) := by decide +kernel
theorem dX6_swaps_54 : decode cX6_swaps 54 = .ok (.iaload, 1) := by decide +kernel
theorem dX6_swaps_55 : decode cX6_swaps 55 = .ok (.istore 4, 2) := by decide +kernel
theorem dX6_swaps_57 : decode cX6_swaps 57 = .ok (.iload 4, 2) := by decide +kernel
theorem dX6_swaps_59 : decode cX6_swaps 59 = .ok (.iload_n 2, 1) := by decide +kernel
theorem dX6_swaps_60 : decode cX6_swaps 60 = .ok (.if_icmp .eq 31, 3) := by decide +kernel
theorem dX6_swaps_63 : decode cX6_swaps 63 = .ok (.iload_n 3, 1) := by decide +kernel
theorem dX6_swaps_64 : decode cX6_swaps 64 = .ok (.ifCond .eq 13, 3) := by decide +kernel
theorem dX6_swaps_67 : decode cX6_swaps 67 = .ok (.iload 4, 2) := by decide +kernel
theorem dX6_swaps_69 : decode cX6_swaps 69 = .ok (.iload_n 2, 1) := by decide +kernel
theorem dX6_swaps_70 : decode cX6_swaps 70 = .ok (.if_icmp .le 7, 3) := by decide +kernel
theorem dX6_swaps_73 : decode cX6_swaps 73 = .ok (.iconst 1, 1) := by decide +kernel
theorem dX6_swaps_74 : decode cX6_swaps 74 = .ok (.goto 4, 3) := by decide +kernel
theorem dX6_swaps_77 : decode cX6_swaps 77 = .ok (.iconst 0, 1) := by decide +kernel
theorem dX6_swaps_78 : decode cX6_swaps 78 = .ok (.istore_n 3, 1) := by decide +kernel
theorem dX6_swaps_79 : decode cX6_swaps 79 = .ok (.aload_n 0, 1) := by decide +kernel
theorem dX6_swaps_80 : decode cX6_swaps 80 = .ok (.getfield 57, 3) := by decide +kernel
theorem dX6_swaps_83 : decode cX6_swaps 83 = .ok (.iload 4, 2) := by decide +kernel
theorem dX6_swaps_85 : decode cX6_swaps 85 = .ok (.iaload, 1) := by decide +kernel
theorem dX6_swaps_86 : decode cX6_swaps 86 = .ok (.istore 4, 2) := by decide +kernel
theorem dX6_swaps_88 : decode cX6_swaps 88 = .ok (.goto (-31), 3) := by decide +kernel
theorem dX6_swaps_91 : decode cX6_swaps 91 = .ok (.iload_n 1, 1) := by decide +kernel
theorem dX6_swaps_92 : decode cX6_swaps 92 = .ok (.iload_n 3, 1) := by decide +kernel
theorem dX6_swaps_93 : decode cX6_swaps 93 = .ok (.ifCond .eq 7, 3) := by decide +kernel
theorem dX6_swaps_96 : decode cX6_swaps 96 = .ok (.iconst 1, 1) := by decide +kernel
theorem dX6_swaps_97 : decode cX6_swaps 97 = .ok (.goto 4, 3) := by decide +kernel
theorem dX6_swaps_100 : decode cX6_swaps 100 = .ok (.iconst 0, 1) := by decide +kernel
theorem dX6_swaps_101 : decode cX6_swaps 101 = .ok (.iadd, 1) := by decide +kernel
theorem dX6_swaps_102 : decode cX6_swaps 102 = .ok (.istore_n 1, 1) := by decide +kernel
theorem dX6_swaps_103 : decode cX6_swaps 103 = .ok (.iinc 2 1, 3) := by decide +kernel
theorem dX6_swaps_106 : decode cX6_swaps 106 = .ok (.goto (-67), 3) := by decide +kernel
theorem dX6_swaps_109 : decode cX6_swaps 109 = .ok (.aload_n 0, 1) := by decide +kernel
theorem dX6_swaps_110 : decode cX6_swaps 110 = .ok (.invokevirtual 73, 3) := by decide +kernel
theorem dX6_swaps_113 : decode cX6_swaps 113 = .ok (.iload_n 1, 1) := by decide +kernel
theorem dX6_swaps_114 : decode cX6_swaps 114 = .ok (.isub, 1) := by decide +kernel
theorem dX6_swaps_115 : decode cX6_swaps 115 = .ok (.ireturn, 1) := by decide +kernel
theorem dX6_mended_0 : decode cX6_mended 0 = .ok (.ldc 197, 2) := by decide +kernel
theorem dX6_mended_2 : decode cX6_mended 2 = .ok (.istore_n 1, 1) := by decide +kernel
theorem dX6_mended_3 : decode cX6_mended 3 = .ok (.iconst 0, 1) := by decide +kernel
theorem dX6_mended_4 : decode cX6_mended 4 = .ok (.istore_n 2, 1) := by decide +kernel
theorem dX6_mended_5 : decode cX6_mended 5 = .ok (.iload_n 2, 1) := by decide +kernel
theorem dX6_mended_6 : decode cX6_mended 6 = .ok (.aload_n 0, 1) := by decide +kernel
theorem dX6_mended_7 : decode cX6_mended 7 = .ok (.invokevirtual 120, 3) := by decide +kernel
theorem dX6_mended_10 : decode cX6_mended 10 = .ok (.if_icmp .ge 53, 3) := by decide +kernel
theorem dX6_mended_13 : decode cX6_mended 13 = .ok (.aload_n 0, 1) := by decide +kernel
theorem dX6_mended_14 : decode cX6_mended 14 = .ok (.iload_n 2, 1) := by decide +kernel
theorem dX6_mended_15 : decode cX6_mended 15 = .ok (.invokevirtual 123, 3) := by decide +kernel
theorem dX6_mended_18 : decode cX6_mended 18 = .ok (.aload_n 0, 1) := by decide +kernel
theorem dX6_mended_19 : decode cX6_mended 19 = .ok (.invokevirtual 247, 3) := by decide +kernel
theorem dX6_mended_22 : decode cX6_mended 22 = .ok (.istore_n 3, 1) := by decide +kernel
theorem dX6_mended_23 : decode cX6_mended 23 = .ok (.iload_n 3, 1) := by decide +kernel
theorem dX6_mended_24 : decode cX6_mended 24 = .ok (.iload_n 1, 1) := by decide +kernel
theorem dX6_mended_25 : decode cX6_mended 25 = .ok (.if_icmp .ge 18, 3) := by decide +kernel
theorem dX6_mended_28 : decode cX6_mended 28 = .ok (.aload_n 0, 1) := by decide +kernel
theorem dX6_mended_29 : decode cX6_mended 29 = .ok (.invokevirtual 171, 3) := by decide +kernel
theorem dX6_mended_32 : decode cX6_mended 32 = .ok (.aload_n 0, 1) := by decide +kernel
theorem dX6_mended_33 : decode cX6_mended 33 = .ok (.invokevirtual 207, 3) := by decide +kernel
theorem dX6_mended_36 : decode cX6_mended 36 = .ok (.if_icmp .ne 7, 3) := by decide +kernel
theorem dX6_mended_39 : decode cX6_mended 39 = .ok (.iconst 1, 1) := by decide +kernel
theorem dX6_mended_40 : decode cX6_mended 40 = .ok (.goto 4, 3) := by decide +kernel
theorem dX6_mended_43 : decode cX6_mended 43 = .ok (.iconst 0, 1) := by decide +kernel
theorem dX6_mended_44 : decode cX6_mended 44 = .ok (.istore 4, 2) := by decide +kernel
theorem dX6_mended_46 : decode cX6_mended 46 = .ok (.iload 4, 2) := by decide +kernel
theorem dX6_mended_48 : decode cX6_mended 48 = .ok (.ifCond .eq 7, 3) := by decide +kernel
theorem dX6_mended_51 : decode cX6_mended 51 = .ok (.iload_n 3, 1) := by decide +kernel
theorem dX6_mended_52 : decode cX6_mended 52 = .ok (.goto 4, 3) := by decide +kernel
theorem dX6_mended_55 : decode cX6_mended 55 = .ok (.iload_n 1, 1) := by decide +kernel
theorem dX6_mended_56 : decode cX6_mended 56 = .ok (.istore_n 1, 1) := by decide +kernel
theorem dX6_mended_57 : decode cX6_mended 57 = .ok (.iinc 2 1, 3) := by decide +kernel
theorem dX6_mended_60 : decode cX6_mended 60 = .ok (.goto (-55), 3) := by decide +kernel
theorem dX6_mended_63 : decode cX6_mended 63 = .ok (.iload_n 1, 1) := by decide +kernel
theorem dX6_mended_64 : decode cX6_mended 64 = .ok (.ldc 197, 2) := by decide +kernel
theorem dX6_mended_66 : decode cX6_mended 66 = .ok (.if_icmp .ne 7, 3) := by decide +kernel
theorem dX6_mended_69 : decode cX6_mended 69 = .ok (.iconst (-1), 1) := by decide +kernel
theorem dX6_mended_70 : decode cX6_mended 70 = .ok (.goto 4, 3) := by decide +kernel
theorem dX6_mended_73 : decode cX6_mended 73 = .ok (.iload_n 1, 1) := by decide +kernel
theorem dX6_mended_74 : decode cX6_mended 74 = .ok (.ireturn, 1) := by decide +kernel
theorem dX6_third_0 : decode cX6_third 0 = .ok (.iload_n 1, 1) := by decide +kernel
theorem dX6_third_1 : decode cX6_third 1 = .ok (.i2l, 1) := by decide +kernel
theorem dX6_third_2 : decode cX6_third 2 = .ok (.lconst 0, 1) := by decide +kernel
theorem dX6_third_3 : decode cX6_third 3 = .ok (.lconst 1, 1) := by decide +kernel
theorem dX6_third_4 : decode cX6_third 4 = .ok (.invokestatic 77, 3) := by decide +kernel
theorem dX6_third_7 : decode cX6_third 7 = .ok (.ifCond .ne 10, 3) := by decide +kernel
theorem dX6_third_10 : decode cX6_third 10 = .ok (.aload_n 0, 1) := by decide +kernel
theorem dX6_third_11 : decode cX6_third 11 = .ok (.bipush (-2), 2) := by decide +kernel
theorem dX6_third_13 : decode cX6_third 13 = .ok (.invokevirtual 85, 3) := by decide +kernel
theorem dX6_third_16 : decode cX6_third 16 = .ok (.ireturn, 1) := by decide +kernel
theorem dX6_third_17 : decode cX6_third 17 = .ok (.aload_n 0, 1) := by decide +kernel
theorem dX6_third_18 : decode cX6_third 18 = .ok (.invokevirtual 100, 3) := by decide +kernel
theorem dX6_third_21 : decode cX6_third 21 = .ok (.aload_n 0, 1) := by decide +kernel
theorem dX6_third_22 : decode cX6_third 22 = .ok (.invokevirtual 171, 3) := by decide +kernel
theorem dX6_third_25 : decode cX6_third 25 = .ok (.invokestatic 244, 3) := by decide +kernel
theorem dX6_third_28 : decode cX6_third 28 = .ok (.istore_n 2, 1) := by decide +kernel
theorem dX6_third_29 : decode cX6_third 29 = .ok (.iconst (-1), 1) := by decide +kernel
theorem dX6_third_30 : decode cX6_third 30 = .ok (.istore_n 3, 1) := by decide +kernel
theorem dX6_third_31 : decode cX6_third 31 = .ok (.iconst 0, 1) := by decide +kernel
theorem dX6_third_32 : decode cX6_third 32 = .ok (.istore 4, 2) := by decide +kernel
theorem dX6_third_34 : decode cX6_third 34 = .ok (.iload 4, 2) := by decide +kernel
theorem dX6_third_36 : decode cX6_third 36 = .ok (.aload_n 0, 1) := by decide +kernel
theorem dX6_third_37 : decode cX6_third 37 = .ok (.invokevirtual 73, 3) := by decide +kernel
theorem dX6_third_40 : decode cX6_third 40 = .ok (.if_icmp .ge 112, 3) := by decide +kernel
theorem dX6_third_43 : decode cX6_third 43 = .ok (.iload 4, 2) := by decide +kernel
theorem dX6_third_45 : decode cX6_third 45 = .ok (.iconst 1, 1) := by decide +kernel
theorem dX6_third_46 : decode cX6_third 46 = .ok (.iadd, 1) := by decide +kernel
theorem dX6_third_47 : decode cX6_third 47 = .ok (.istore 5, 2) := by decide +kernel
theorem dX6_third_49 : decode cX6_third 49 = .ok (.iload 5, 2) := by decide +kernel
theorem dX6_third_51 : decode cX6_third 51 = .ok (.aload_n 0, 1) := by decide +kernel
theorem dX6_third_52 : decode cX6_third 52 = .ok (.invokevirtual 73, 3) := by decide +kernel
theorem dX6_third_55 : decode cX6_third 55 = .ok (.if_icmp .ge 91, 3) := by decide +kernel
theorem dX6_third_58 : decode cX6_third 58 = .ok (.aload_n 0, 1) := by decide +kernel
theorem dX6_third_59 : decode cX6_third 59 = .ok (.invokevirtual 100, 3) := by decide +kernel
theorem dX6_third_62 : decode cX6_third 62 = .ok (.aload_n 0, 1) := by decide +kernel
theorem dX6_third_63 : decode cX6_third 63 = .ok (.iload 4, 2) := by decide +kernel
theorem dX6_third_65 : decode cX6_third 65 = .ok (.iload 5, 2) := by decide +kernel
theorem dX6_third_67 : decode cX6_third 67 = .ok (.invokevirtual 113, 3) := by decide +kernel
theorem dX6_third_70 : decode cX6_third 70 = .ok (.aload_n 0, 1) := by decide +kernel
theorem dX6_third_71 : decode cX6_third 71 = .ok (.invokevirtual 171, 3) := by decide +kernel
theorem dX6_third_74 : decode cX6_third 74 = .ok (.invokestatic 244, 3) := by decide +kernel
theorem dX6_third_77 : decode cX6_third 77 = .ok (.istore 6, 2) := by decide +kernel
theorem dX6_third_79 : decode cX6_third 79 = .ok (.iload_n 1, 1) := by decide +kernel
theorem dX6_third_80 : decode cX6_third 80 = .ok (.ifCond .ne 17, 3) := by decide +kernel
theorem dX6_third_83 : decode cX6_third 83 = .ok (.iload 6, 2) := by decide +kernel
theorem dX6_third_85 : decode cX6_third 85 = .ok (.iload_n 2, 1) := by decide +kernel
theorem dX6_third_86 : decode cX6_third 86 = .ok (.if_icmp .le 7, 3) := by decide +kernel
theorem dX6_third_89 : decode cX6_third 89 = .ok (.iconst 1, 1) := by decide +kernel
theorem dX6_third_90 : decode cX6_third 90 = .ok (.goto 18, 3) := by decide +kernel
theorem dX6_third_93 : decode cX6_third 93 = .ok (.iconst 0, 1) := by decide +kernel
theorem dX6_third_94 : decode cX6_third 94 = .ok (.goto 14, 3) := by decide +kernel
theorem dX6_third_97 : decode cX6_third 97 = .ok (.iload 6, 2) := by decide +kernel
theorem dX6_third_99 : decode cX6_third 99 = .ok (.iload_n 2, 1) := by decide +kernel
theorem dX6_third_100 : decode cX6_third 100 = .ok (.if_icmp .ge 7, 3) := by decide +kernel
theorem dX6_third_103 : decode cX6_third 103 = .ok (.iconst 1, 1) := by decide +kernel
theorem dX6_third_104 : decode cX6_third 104 = .ok (.goto 4, 3) := by decide +kernel
theorem dX6_third_107 : decode cX6_third 107 = .ok (.iconst 0, 1) := by decide +kernel
theorem dX6_third_108 : decode cX6_third 108 = .ok (.istore 7, 2) := by decide +kernel
theorem dX6_third_110 : decode cX6_third 110 = .ok (.iload 7, 2) := by decide +kernel
theorem dX6_third_112 : decode cX6_third 112 = .ok (.ifCond .eq 14, 3) := by decide +kernel
theorem dX6_third_115 : decode cX6_third 115 = .ok (.bipush 10, 2) := by decide +kernel
theorem dX6_third_117 : decode cX6_third 117 = .ok (.iload 4, 2) := by decide +kernel
theorem dX6_third_119 : decode cX6_third 119 = .ok (.imul, 1) := by decide +kernel
theorem dX6_third_120 : decode cX6_third 120 = .ok (.iload 5, 2) := by decide +kernel
theorem dX6_third_122 : decode cX6_third 122 = .ok (.iadd, 1) := by decide +kernel
theorem dX6_third_123 : decode cX6_third 123 = .ok (.goto 4, 3) := by decide +kernel
theorem dX6_third_126 : decode cX6_third 126 = .ok (.iload_n 3, 1) := by decide +kernel
theorem dX6_third_127 : decode cX6_third 127 = .ok (.istore_n 3, 1) := by decide +kernel
theorem dX6_third_128 : decode cX6_third 128 = .ok (.iload 7, 2) := by decide +kernel
theorem dX6_third_130 : decode cX6_third 130 = .ok (.ifCond .eq 8, 3) := by decide +kernel
theorem dX6_third_133 : decode cX6_third 133 = .ok (.iload 6, 2) := by decide +kernel
theorem dX6_third_135 : decode cX6_third 135 = .ok (.goto 4, 3) := by decide +kernel
theorem dX6_third_138 : decode cX6_third 138 = .ok (.iload_n 2, 1) := by decide +kernel
theorem dX6_third_139 : decode cX6_third 139 = .ok (.istore_n 2, 1) := by decide +kernel
theorem dX6_third_140 : decode cX6_third 140 = .ok (.iinc 5 1, 3) := by decide +kernel
theorem dX6_third_143 : decode cX6_third 143 = .ok (.goto (-94), 3) := by decide +kernel
theorem dX6_third_146 : decode cX6_third 146 = .ok (.iinc 4 1, 3) := by decide +kernel
theorem dX6_third_149 : decode cX6_third 149 = .ok (.goto (-115), 3) := by decide +kernel
theorem dX6_third_152 : decode cX6_third 152 = .ok (.iload_n 3, 1) := by decide +kernel
theorem dX6_third_153 : decode cX6_third 153 = .ok (.ireturn, 1) := by decide +kernel
theorem dX6_layHand_0 : decode cX6_layHand 0 = .ok (.iconst 0, 1) := by decide +kernel
theorem dX6_layHand_1 : decode cX6_layHand 1 = .ok (.istore_n 3, 1) := by decide +kernel
theorem dX6_layHand_2 : decode cX6_layHand 2 = .ok (.iload_n 3, 1) := by decide +kernel
theorem dX6_layHand_3 : decode cX6_layHand 3 = .ok (.aload_n 0, 1) := by decide +kernel
theorem dX6_layHand_4 : decode cX6_layHand 4 = .ok (.invokevirtual 73, 3) := by decide +kernel
theorem dX6_layHand_7 : decode cX6_layHand 7 = .ok (.if_icmp .ge 16, 3) := by decide +kernel
theorem dX6_layHand_10 : decode cX6_layHand 10 = .ok (.aload_n 0, 1) := by decide +kernel
theorem dX6_layHand_11 : decode cX6_layHand 11 = .ok (.getfield 27, 3) := by decide +kernel
theorem dX6_layHand_14 : decode cX6_layHand 14 = .ok (.iload_n 3, 1) := by decide +kernel
theorem dX6_layHand_15 : decode cX6_layHand 15 = .ok (.iload_n 3, 1) := by decide +kernel
theorem dX6_layHand_16 : decode cX6_layHand 16 = .ok (.iastore, 1) := by decide +kernel
theorem dX6_layHand_17 : decode cX6_layHand 17 = .ok (.iinc 3 1, 3) := by decide +kernel
theorem dX6_layHand_20 : decode cX6_layHand 20 = .ok (.goto (-18), 3) := by decide +kernel
theorem dX6_layHand_23 : decode cX6_layHand 23 = .ok (.lload_n 1, 1) := by decide +kernel
theorem dX6_layHand_24 : decode cX6_layHand 24 = .ok (.lstore_n 3, 1) := by decide +kernel
theorem dX6_layHand_25 : decode cX6_layHand 25 = .ok (.aload_n 0, 1) := by decide +kernel
theorem dX6_layHand_26 : decode cX6_layHand 26 = .ok (.invokevirtual 73, 3) := by decide +kernel
theorem dX6_layHand_29 : decode cX6_layHand 29 = .ok (.iconst 1, 1) := by decide +kernel
theorem dX6_layHand_30 : decode cX6_layHand 30 = .ok (.isub, 1) := by decide +kernel
theorem dX6_layHand_31 : decode cX6_layHand 31 = .ok (.istore 5, 2) := by decide +kernel
theorem dX6_layHand_33 : decode cX6_layHand 33 = .ok (.iload 5, 2) := by decide +kernel
theorem dX6_layHand_35 : decode cX6_layHand 35 = .ok (.ifCond .le 41, 3) := by decide +kernel
theorem dX6_layHand_38 : decode cX6_layHand 38 = .ok (.lload_n 3, 1) := by decide +kernel
theorem dX6_layHand_39 : decode cX6_layHand 39 = .ok (.ldc2_w 250, 3) := by decide +kernel
theorem dX6_layHand_42 : decode cX6_layHand 42 = .ok (.lmul, 1) := by decide +kernel
theorem dX6_layHand_43 : decode cX6_layHand 43 = .ok (.ldc2_w 252, 3) := by decide +kernel
theorem dX6_layHand_46 : decode cX6_layHand 46 = .ok (.ladd, 1) := by decide +kernel
theorem dX6_layHand_47 : decode cX6_layHand 47 = .ok (.ldc2_w 254, 3) := by decide +kernel
theorem dX6_layHand_50 : decode cX6_layHand 50 = .ok (.lrem, 1) := by decide +kernel
theorem dX6_layHand_51 : decode cX6_layHand 51 = .ok (.lstore_n 3, 1) := by decide +kernel
theorem dX6_layHand_52 : decode cX6_layHand 52 = .ok (.aload_n 0, 1) := by decide +kernel
theorem dX6_layHand_53 : decode cX6_layHand 53 = .ok (.iload 5, 2) := by decide +kernel
theorem dX6_layHand_55 : decode cX6_layHand 55 = .ok (.lload_n 3, 1) := by decide +kernel
theorem dX6_layHand_56 : decode cX6_layHand 56 = .ok (.ldc2_w 256, 3) := by decide +kernel
theorem dX6_layHand_59 : decode cX6_layHand 59 = .ok (.ldiv, 1) := by decide +kernel
theorem dX6_layHand_60 : decode cX6_layHand 60 = .ok (.iload 5, 2) := by decide +kernel
theorem dX6_layHand_62 : decode cX6_layHand 62 = .ok (.iconst 1, 1) := by decide +kernel
theorem dX6_layHand_63 : decode cX6_layHand 63 = .ok (.iadd, 1) := by decide +kernel
theorem dX6_layHand_64 : decode cX6_layHand 64 = .ok (.i2l, 1) := by decide +kernel
theorem dX6_layHand_65 : decode cX6_layHand 65 = .ok (.lrem, 1) := by decide +kernel
theorem dX6_layHand_66 : decode cX6_layHand 66 = .ok (.l2i, 1) := by decide +kernel
theorem dX6_layHand_67 : decode cX6_layHand 67 = .ok (.invokevirtual 113, 3) := by decide +kernel
theorem dX6_layHand_70 : decode cX6_layHand 70 = .ok (.iinc 5 (-1), 3) := by decide +kernel
theorem dX6_layHand_73 : decode cX6_layHand 73 = .ok (.goto (-40), 3) := by decide +kernel
theorem dX6_layHand_76 : decode cX6_layHand 76 = .ok (.return_, 1) := by decide +kernel
theorem dX6_isSeed_0 : decode cX6_isSeed 0 = .ok (.iload_n 0, 1) := by decide +kernel
theorem dX6_isSeed_1 : decode cX6_isSeed 1 = .ok (.i2l, 1) := by decide +kernel
theorem dX6_isSeed_2 : decode cX6_isSeed 2 = .ok (.lconst 0, 1) := by decide +kernel
theorem dX6_isSeed_3 : decode cX6_isSeed 3 = .ok (.ldc2_w 258, 3) := by decide +kernel
theorem dX6_isSeed_6 : decode cX6_isSeed 6 = .ok (.invokestatic 77, 3) := by decide +kernel
theorem dX6_isSeed_9 : decode cX6_isSeed 9 = .ok (.ireturn, 1) := by decide +kernel
theorem dX6_laid_0 : decode cX6_laid 0 = .ok (.iload_n 1, 1) := by decide +kernel
theorem dX6_laid_1 : decode cX6_laid 1 = .ok (.invokestatic 260, 3) := by decide +kernel
theorem dX6_laid_4 : decode cX6_laid 4 = .ok (.ifCond .ne 10, 3) := by decide +kernel
theorem dX6_laid_7 : decode cX6_laid 7 = .ok (.aload_n 0, 1) := by decide +kernel
theorem dX6_laid_8 : decode cX6_laid 8 = .ok (.bipush (-2), 2) := by decide +kernel
theorem dX6_laid_10 : decode cX6_laid 10 = .ok (.invokevirtual 85, 3) := by decide +kernel
theorem dX6_laid_13 : decode cX6_laid 13 = .ok (.ireturn, 1) := by decide +kernel
theorem dX6_laid_14 : decode cX6_laid 14 = .ok (.aload_n 0, 1) := by decide +kernel
theorem dX6_laid_15 : decode cX6_laid 15 = .ok (.iload_n 1, 1) := by decide +kernel
theorem dX6_laid_16 : decode cX6_laid 16 = .ok (.i2l, 1) := by decide +kernel
theorem dX6_laid_17 : decode cX6_laid 17 = .ok (.invokevirtual 263, 3) := by decide +kernel
theorem dX6_laid_20 : decode cX6_laid 20 = .ok (.aload_n 0, 1) := by decide +kernel
theorem dX6_laid_21 : decode cX6_laid 21 = .ok (.invokevirtual 103, 3) := by decide +kernel
theorem dX6_laid_24 : decode cX6_laid 24 = .ok (.ireturn, 1) := by decide +kernel
theorem dX6_lucky_0 : decode cX6_lucky 0 = .ok (.iload_n 1, 1) := by decide +kernel
theorem dX6_lucky_1 : decode cX6_lucky 1 = .ok (.invokestatic 260, 3) := by decide +kernel
theorem dX6_lucky_4 : decode cX6_lucky 4 = .ok (.ifCond .eq 15, 3) := by decide +kernel
theorem dX6_lucky_7 : decode cX6_lucky 7 = .ok (.iload_n 2, 1) := by decide +kernel
theorem dX6_lucky_8 : decode cX6_lucky 8 = .ok (.i2l, 1) := by decide +kernel
theorem dX6_lucky_9 : decode cX6_lucky 9 = .ok (.lconst 0, 1) := by decide +kernel
theorem dX6_lucky_10 : decode cX6_lucky 10 = .ok (.ldc2_w 267, 3) := by decide +kernel
theorem dX6_lucky_13 : decode cX6_lucky 13 = .ok (.invokestatic 77, 3) := by decide +kernel
theorem dX6_lucky_16 : decode cX6_lucky 16 = .ok (.ifCond .ne 10, 3) := by decide +kernel
theorem dX6_lucky_19 : decode cX6_lucky 19 = .ok (.aload_n 0, 1) := by decide +kernel
theorem dX6_lucky_20 : decode cX6_lucky 20 = .ok (.bipush (-2), 2) := by decide +kernel
theorem dX6_lucky_22 : decode cX6_lucky 22 = .ok (.invokevirtual 85, 3) := by decide +kernel
theorem dX6_lucky_25 : decode cX6_lucky 25 = .ok (.ireturn, 1) := by decide +kernel
theorem dX6_lucky_26 : decode cX6_lucky 26 = .ok (.iconst 0, 1) := by decide +kernel
theorem dX6_lucky_27 : decode cX6_lucky 27 = .ok (.istore_n 3, 1) := by decide +kernel
theorem dX6_lucky_28 : decode cX6_lucky 28 = .ok (.iconst 0, 1) := by decide +kernel
theorem dX6_lucky_29 : decode cX6_lucky 29 = .ok (.istore 4, 2) := by decide +kernel
theorem dX6_lucky_31 : decode cX6_lucky 31 = .ok (.iload 4, 2) := by decide +kernel
theorem dX6_lucky_33 : decode cX6_lucky 33 = .ok (.iload_n 2, 1) := by decide +kernel
theorem dX6_lucky_34 : decode cX6_lucky 34 = .ok (.if_icmp .ge 38, 3) := by decide +kernel
theorem dX6_lucky_37 : decode cX6_lucky 37 = .ok (.aload_n 0, 1) := by decide +kernel
theorem dX6_lucky_38 : decode cX6_lucky 38 = .ok (.iload_n 1, 1) := by decide +kernel
theorem dX6_lucky_39 : decode cX6_lucky 39 = .ok (.i2l, 1) := by decide +kernel
theorem dX6_lucky_40 : decode cX6_lucky 40 = .ok (.iload 4, 2) := by decide +kernel
theorem dX6_lucky_42 : decode cX6_lucky 42 = .ok (.i2l, 1) := by decide +kernel
theorem dX6_lucky_43 : decode cX6_lucky 43 = .ok (.ladd, 1) := by decide +kernel
theorem dX6_lucky_44 : decode cX6_lucky 44 = .ok (.invokevirtual 263, 3) := by decide +kernel
theorem dX6_lucky_47 : decode cX6_lucky 47 = .ok (.iload_n 3, 1) := by decide +kernel
theorem dX6_lucky_48 : decode cX6_lucky 48 = .ok (.aload_n 0, 1) := by decide +kernel
theorem dX6_lucky_49 : decode cX6_lucky 49 = .ok (.invokevirtual 171, 3) := by decide +kernel
theorem dX6_lucky_52 : decode cX6_lucky 52 = .ok (.aload_n 0, 1) := by decide +kernel
theorem dX6_lucky_53 : decode cX6_lucky 53 = .ok (.invokevirtual 207, 3) := by decide +kernel
theorem dX6_lucky_56 : decode cX6_lucky 56 = .ok (.if_icmp .ne 7, 3) := by decide +kernel
theorem dX6_lucky_59 : decode cX6_lucky 59 = .ok (.iconst 1, 1) := by decide +kernel
theorem dX6_lucky_60 : decode cX6_lucky 60 = .ok (.goto 4, 3) := by decide +kernel
theorem dX6_lucky_63 : decode cX6_lucky 63 = .ok (.iconst 0, 1) := by decide +kernel
theorem dX6_lucky_64 : decode cX6_lucky 64 = .ok (.iadd, 1) := by decide +kernel
theorem dX6_lucky_65 : decode cX6_lucky 65 = .ok (.istore_n 3, 1) := by decide +kernel
theorem dX6_lucky_66 : decode cX6_lucky 66 = .ok (.iinc 4 1, 3) := by decide +kernel
theorem dX6_lucky_69 : decode cX6_lucky 69 = .ok (.goto (-38), 3) := by decide +kernel
theorem dX6_lucky_72 : decode cX6_lucky 72 = .ok (.iload_n 3, 1) := by decide +kernel
theorem dX6_lucky_73 : decode cX6_lucky 73 = .ok (.ireturn, 1) := by decide +kernel
theorem dX6_type_0 : decode cX6_type 0 = .ok (.iload_n 1, 1) := by decide +kernel
theorem dX6_type_1 : decode cX6_type 1 = .ok (.i2l, 1) := by decide +kernel
theorem dX6_type_2 : decode cX6_type 2 = .ok (.lconst 0, 1) := by decide +kernel
theorem dX6_type_3 : decode cX6_type 3 = .ok (.ldc2_w 269, 3) := by decide +kernel
theorem dX6_type_6 : decode cX6_type 6 = .ok (.invokestatic 77, 3) := by decide +kernel
theorem dX6_type_9 : decode cX6_type 9 = .ok (.ifCond .ne 10, 3) := by decide +kernel
theorem dX6_type_12 : decode cX6_type 12 = .ok (.aload_n 0, 1) := by decide +kernel
theorem dX6_type_13 : decode cX6_type 13 = .ok (.bipush (-2), 2) := by decide +kernel
theorem dX6_type_15 : decode cX6_type 15 = .ok (.invokevirtual 85, 3) := by decide +kernel
theorem dX6_type_18 : decode cX6_type 18 = .ok (.ireturn, 1) := by decide +kernel
theorem dX6_type_19 : decode cX6_type 19 = .ok (.aload_n 0, 1) := by decide +kernel
theorem dX6_type_20 : decode cX6_type 20 = .ok (.getfield 271, 3) := by decide +kernel
theorem dX6_type_23 : decode cX6_type 23 = .ok (.sipush 150, 3) := by decide +kernel
theorem dX6_type_26 : decode cX6_type 26 = .ok (.if_icmp .ne 8, 3) := by decide +kernel
theorem dX6_type_29 : decode cX6_type 29 = .ok (.aload_n 0, 1) := by decide +kernel
theorem dX6_type_30 : decode cX6_type 30 = .ok (.invokevirtual 134, 3) := by decide +kernel
theorem dX6_type_33 : decode cX6_type 33 = .ok (.ireturn, 1) := by decide +kernel
theorem dX6_type_34 : decode cX6_type 34 = .ok (.aload_n 0, 1) := by decide +kernel
theorem dX6_type_35 : decode cX6_type 35 = .ok (.getfield 60, 3) := by decide +kernel
theorem dX6_type_38 : decode cX6_type 38 = .ok (.aload_n 0, 1) := by decide +kernel
theorem dX6_type_39 : decode cX6_type 39 = .ok (.getfield 271, 3) := by decide +kernel
theorem dX6_type_42 : decode cX6_type 42 = .ok (.iload_n 1, 1) := by decide +kernel
theorem dX6_type_43 : decode cX6_type 43 = .ok (.iastore, 1) := by decide +kernel
theorem dX6_type_44 : decode cX6_type 44 = .ok (.aload_n 0, 1) := by decide +kernel
theorem dX6_type_45 : decode cX6_type 45 = .ok (.dup, 1) := by decide +kernel
theorem dX6_type_46 : decode cX6_type 46 = .ok (.getfield 271, 3) := by decide +kernel
theorem dX6_type_49 : decode cX6_type 49 = .ok (.iconst 1, 1) := by decide +kernel
theorem dX6_type_50 : decode cX6_type 50 = .ok (.iadd, 1) := by decide +kernel
theorem dX6_type_51 : decode cX6_type 51 = .ok (.putfield 271, 3) := by decide +kernel
theorem dX6_type_54 : decode cX6_type 54 = .ok (.aload_n 0, 1) := by decide +kernel
theorem dX6_type_55 : decode cX6_type 55 = .ok (.getfield 271, 3) := by decide +kernel
theorem dX6_type_58 : decode cX6_type 58 = .ok (.ireturn, 1) := by decide +kernel
theorem dX6_clear_0 : decode cX6_clear 0 = .ok (.aload_n 0, 1) := by decide +kernel
theorem dX6_clear_1 : decode cX6_clear 1 = .ok (.getfield 271, 3) := by decide +kernel
theorem dX6_clear_4 : decode cX6_clear 4 = .ok (.istore_n 1, 1) := by decide +kernel
theorem dX6_clear_5 : decode cX6_clear 5 = .ok (.aload_n 0, 1) := by decide +kernel
theorem dX6_clear_6 : decode cX6_clear 6 = .ok (.iconst 0, 1) := by decide +kernel
theorem dX6_clear_7 : decode cX6_clear 7 = .ok (.putfield 271, 3) := by decide +kernel
theorem dX6_clear_10 : decode cX6_clear 10 = .ok (.iload_n 1, 1) := by decide +kernel
theorem dX6_clear_11 : decode cX6_clear 11 = .ok (.ireturn, 1) := by decide +kernel
theorem dX6_isSmall_0 : decode cX6_isSmall 0 = .ok (.iload_n 0, 1) := by decide +kernel
theorem dX6_isSmall_1 : decode cX6_isSmall 1 = .ok (.i2l, 1) := by decide +kernel
theorem dX6_isSmall_2 : decode cX6_isSmall 2 = .ok (.ldc2_w 274, 3) := by decide +kernel
theorem dX6_isSmall_5 : decode cX6_isSmall 5 = .ok (.ldc2_w 276, 3) := by decide +kernel
theorem dX6_isSmall_8 : decode cX6_isSmall 8 = .ok (.invokestatic 77, 3) := by decide +kernel
theorem dX6_isSmall_11 : decode cX6_isSmall 11 = .ok (.ireturn, 1) := by decide +kernel
theorem dX6_isFigure_0 : decode cX6_isFigure 0 = .ok (.iload_n 0, 1) := by decide +kernel
theorem dX6_isFigure_1 : decode cX6_isFigure 1 = .ok (.i2l, 1) := by decide +kernel
theorem dX6_isFigure_2 : decode cX6_isFigure 2 = .ok (.ldc2_w 278, 3) := by decide +kernel
theorem dX6_isFigure_5 : decode cX6_isFigure 5 = .ok (.ldc2_w 280, 3) := by decide +kernel
theorem dX6_isFigure_8 : decode cX6_isFigure 8 = .ok (.invokestatic 77, 3) := by decide +kernel
theorem dX6_isFigure_11 : decode cX6_isFigure 11 = .ok (.ireturn, 1) := by decide +kernel
theorem dX6_lookAt_0 : decode cX6_lookAt 0 = .ok (.aload_n 0, 1) := by decide +kernel
theorem dX6_lookAt_1 : decode cX6_lookAt 1 = .ok (.iload_n 1, 1) := by decide +kernel
theorem dX6_lookAt_2 : decode cX6_lookAt 2 = .ok (.putfield 282, 3) := by decide +kernel
theorem dX6_lookAt_5 : decode cX6_lookAt 5 = .ok (.aload_n 0, 1) := by decide +kernel
theorem dX6_lookAt_6 : decode cX6_lookAt 6 = .ok (.getfield 282, 3) := by decide +kernel
theorem dX6_lookAt_9 : decode cX6_lookAt 9 = .ok (.aload_n 0, 1) := by decide +kernel
theorem dX6_lookAt_10 : decode cX6_lookAt 10 = .ok (.getfield 271, 3) := by decide +kernel
theorem dX6_lookAt_13 : decode cX6_lookAt 13 = .ok (.if_icmp .ge 30, 3) := by decide +kernel
theorem dX6_lookAt_16 : decode cX6_lookAt 16 = .ok (.aload_n 0, 1) := by decide +kernel
theorem dX6_lookAt_17 : decode cX6_lookAt 17 = .ok (.getfield 60, 3) := by decide +kernel
theorem dX6_lookAt_20 : decode cX6_lookAt 20 = .ok (.aload_n 0, 1) := by decide +kernel
theorem dX6_lookAt_21 : decode cX6_lookAt 21 = .ok (.getfield 282, 3) := by decide +kernel
theorem dX6_lookAt_24 : decode cX6_lookAt 24 = .ok (.iaload, 1) := by decide +kernel
theorem dX6_lookAt_25 : decode cX6_lookAt 25 = .ok (.bipush 32, 2) := by decide +kernel
theorem dX6_lookAt_27 : decode cX6_lookAt 27 = .ok (.if_icmp .ne 16, 3) := by decide +kernel
theorem dX6_lookAt_30 : decode cX6_lookAt 30 = .ok (.aload_n 0, 1) := by decide +kernel
theorem dX6_lookAt_31 : decode cX6_lookAt 31 = .ok (.dup, 1) := by decide +kernel
theorem dX6_lookAt_32 : decode cX6_lookAt 32 = .ok (.getfield 282, 3) := by decide +kernel
theorem dX6_lookAt_35 : decode cX6_lookAt 35 = .ok (.iconst 1, 1) := by decide +kernel
theorem dX6_lookAt_36 : decode cX6_lookAt 36 = .ok (.iadd, 1) := by decide +kernel
theorem dX6_lookAt_37 : decode cX6_lookAt 37 = .ok (.putfield 282, 3) := by decide +kernel
theorem dX6_lookAt_40 : decode cX6_lookAt 40 = .ok (.goto (-35), 3) := by decide +kernel
theorem dX6_lookAt_43 : decode cX6_lookAt 43 = .ok (.aload_n 0, 1) := by decide +kernel
theorem dX6_lookAt_44 : decode cX6_lookAt 44 = .ok (.iconst 0, 1) := by decide +kernel
theorem dX6_lookAt_45 : decode cX6_lookAt 45 = .ok (.putfield 285, 3) := by decide +kernel
theorem dX6_lookAt_48 : decode cX6_lookAt 48 = .ok (.aload_n 0, 1) := by decide +kernel
theorem dX6_lookAt_49 : decode cX6_lookAt 49 = .ok (.iconst 0, 1) := by decide +kernel
theorem dX6_lookAt_50 : decode cX6_lookAt 50 = .ok (.putfield 288, 3) := by decide +kernel
theorem dX6_lookAt_53 : decode cX6_lookAt 53 = .ok (.aload_n 0, 1) := by decide +kernel
theorem dX6_lookAt_54 : decode cX6_lookAt 54 = .ok (.iconst 0, 1) := by decide +kernel
theorem dX6_lookAt_55 : decode cX6_lookAt 55 = .ok (.putfield 291, 3) := by decide +kernel
theorem dX6_lookAt_58 : decode cX6_lookAt 58 = .ok (.aload_n 0, 1) := by decide +kernel
theorem dX6_lookAt_59 : decode cX6_lookAt 59 = .ok (.getfield 282, 3) := by decide +kernel
theorem dX6_lookAt_62 : decode cX6_lookAt 62 = .ok (.aload_n 0, 1) := by decide +kernel
theorem dX6_lookAt_63 : decode cX6_lookAt 63 = .ok (.getfield 271, 3) := by decide +kernel
theorem dX6_lookAt_66 : decode cX6_lookAt 66 = .ok (.if_icmp .ne 4, 3) := by decide +kernel
theorem dX6_lookAt_69 : decode cX6_lookAt 69 = .ok (.return_, 1) := by decide +kernel
theorem dX6_lookAt_70 : decode cX6_lookAt 70 = .ok (.aload_n 0, 1) := by decide +kernel
theorem dX6_lookAt_71 : decode cX6_lookAt 71 = .ok (.getfield 60, 3) := by decide +kernel
theorem dX6_lookAt_74 : decode cX6_lookAt 74 = .ok (.aload_n 0, 1) := by decide +kernel
theorem dX6_lookAt_75 : decode cX6_lookAt 75 = .ok (.getfield 282, 3) := by decide +kernel
theorem dX6_lookAt_78 : decode cX6_lookAt 78 = .ok (.iaload, 1) := by decide +kernel
theorem dX6_lookAt_79 : decode cX6_lookAt 79 = .ok (.istore_n 2, 1) := by decide +kernel
theorem dX6_lookAt_80 : decode cX6_lookAt 80 = .ok (.aload_n 0, 1) := by decide +kernel
theorem dX6_lookAt_81 : decode cX6_lookAt 81 = .ok (.iload_n 2, 1) := by decide +kernel
theorem dX6_lookAt_82 : decode cX6_lookAt 82 = .ok (.invokestatic 294, 3) := by decide +kernel
theorem dX6_lookAt_85 : decode cX6_lookAt 85 = .ok (.ifCond .eq 7, 3) := by decide +kernel
theorem dX6_lookAt_88 : decode cX6_lookAt 88 = .ok (.iconst 1, 1) := by decide +kernel
theorem dX6_lookAt_89 : decode cX6_lookAt 89 = .ok (.goto 25, 3) := by decide +kernel
theorem dX6_lookAt_92 : decode cX6_lookAt 92 = .ok (.iload_n 2, 1) := by decide +kernel
theorem dX6_lookAt_93 : decode cX6_lookAt 93 = .ok (.invokestatic 297, 3) := by decide +kernel
theorem dX6_lookAt_96 : decode cX6_lookAt 96 = .ok (.ifCond .eq 7, 3) := by decide +kernel
theorem dX6_lookAt_99 : decode cX6_lookAt 99 = .ok (.iconst 2, 1) := by decide +kernel
theorem dX6_lookAt_100 : decode cX6_lookAt 100 = .ok (.goto 14, 3) := by decide +kernel
theorem dX6_lookAt_103 : decode cX6_lookAt 103 = .ok (.iload_n 2, 1) := by decide +kernel
theorem dX6_lookAt_104 : decode cX6_lookAt 104 = .ok (.bipush 59, 2) := by decide +kernel
theorem dX6_lookAt_106 : decode cX6_lookAt 106 = .ok (.if_icmp .ne 7, 3) := by decide +kernel
theorem dX6_lookAt_109 : decode cX6_lookAt 109 = .ok (.iconst 3, 1) := by decide +kernel
theorem dX6_lookAt_110 : decode cX6_lookAt 110 = .ok (.goto 4, 3) := by decide +kernel
theorem dX6_lookAt_113 : decode cX6_lookAt 113 = .ok (.iconst 4, 1) := by decide +kernel
theorem dX6_lookAt_114 : decode cX6_lookAt 114 = .ok (.putfield 288, 3) := by decide +kernel
theorem dX6_lookAt_117 : decode cX6_lookAt 117 = .ok (.aload_n 0, 1) := by decide +kernel
theorem dX6_lookAt_118 : decode cX6_lookAt 118 = .ok (.iconst 1, 1) := by decide +kernel
theorem dX6_lookAt_119 : decode cX6_lookAt 119 = .ok (.putfield 285, 3) := by decide +kernel
theorem dX6_lookAt_122 : decode cX6_lookAt 122 = .ok (.aload_n 0, 1) := by decide +kernel
theorem dX6_lookAt_123 : decode cX6_lookAt 123 = .ok (.getfield 288, 3) := by decide +kernel
theorem dX6_lookAt_126 : decode cX6_lookAt 126 = .ok (.iconst 3, 1) := by decide +kernel
theorem dX6_lookAt_127 : decode cX6_lookAt 127 = .ok (.if_icmp .ge 7, 3) := by decide +kernel
theorem dX6_lookAt_130 : decode cX6_lookAt 130 = .ok (.iconst 1, 1) := by decide +kernel
theorem dX6_lookAt_131 : decode cX6_lookAt 131 = .ok (.goto 4, 3) := by decide +kernel
theorem dX6_lookAt_134 : decode cX6_lookAt 134 = .ok (.iconst 0, 1) := by decide +kernel
theorem dX6_lookAt_135 : decode cX6_lookAt 135 = .ok (.istore_n 3, 1) := by decide +kernel
theorem dX6_lookAt_136 : decode cX6_lookAt 136 = .ok (.iload_n 3, 1) := by decide +kernel
theorem dX6_lookAt_137 : decode cX6_lookAt 137 = .ok (.ifCond .eq 78, 3) := by decide +kernel
theorem dX6_lookAt_140 : decode cX6_lookAt 140 = .ok (.aload_n 0, 1) := by decide +kernel
theorem dX6_lookAt_141 : decode cX6_lookAt 141 = .ok (.getfield 282, 3) := by decide +kernel
theorem dX6_lookAt_144 : decode cX6_lookAt 144 = .ok (.aload_n 0, 1) := by decide +kernel
theorem dX6_lookAt_145 : decode cX6_lookAt 145 = .ok (.getfield 285, 3) := by decide +kernel
theorem dX6_lookAt_148 : decode cX6_lookAt 148 = .ok (.iadd, 1) := by decide +kernel
theorem dX6_lookAt_149 : decode cX6_lookAt 149 = .ok (.aload_n 0, 1) := by decide +kernel
theorem dX6_lookAt_150 : decode cX6_lookAt 150 = .ok (.getfield 271, 3) := by decide +kernel
theorem dX6_lookAt_153 : decode cX6_lookAt 153 = .ok (.if_icmp .ge 62, 3) := by decide +kernel
theorem dX6_lookAt_156 : decode cX6_lookAt 156 = .ok (.aload_n 0, 1) := by decide +kernel
theorem dX6_lookAt_157 : decode cX6_lookAt 157 = .ok (.getfield 60, 3) := by decide +kernel
theorem dX6_lookAt_160 : decode cX6_lookAt 160 = .ok (.aload_n 0, 1) := by decide +kernel
theorem dX6_lookAt_161 : decode cX6_lookAt 161 = .ok (.getfield 282, 3) := by decide +kernel
theorem dX6_lookAt_164 : decode cX6_lookAt 164 = .ok (.aload_n 0, 1) := by decide +kernel
theorem dX6_lookAt_165 : decode cX6_lookAt 165 = .ok (.getfield 285, 3) := by decide +kernel
theorem dX6_lookAt_168 : decode cX6_lookAt 168 = .ok (.iadd, 1) := by decide +kernel
theorem dX6_lookAt_169 : decode cX6_lookAt 169 = .ok (.iaload, 1) := by decide +kernel
theorem dX6_lookAt_170 : decode cX6_lookAt 170 = .ok (.istore 4, 2) := by decide +kernel
theorem dX6_lookAt_172 : decode cX6_lookAt 172 = .ok (.aload_n 0, 1) := by decide +kernel
theorem dX6_lookAt_173 : decode cX6_lookAt 173 = .ok (.getfield 288, 3) := by decide +kernel
theorem dX6_lookAt_176 : decode cX6_lookAt 176 = .ok (.iconst 1, 1) := by decide +kernel
theorem dX6_lookAt_177 : decode cX6_lookAt 177 = .ok (.if_icmp .ne 11, 3) := by decide +kernel
theorem dX6_lookAt_180 : decode cX6_lookAt 180 = .ok (.iload 4, 2) := by decide +kernel
theorem dX6_lookAt_182 : decode cX6_lookAt 182 = .ok (.invokestatic 294, 3) := by decide +kernel
theorem dX6_lookAt_185 : decode cX6_lookAt 185 = .ok (.goto 8, 3) := by decide +kernel
theorem dX6_lookAt_188 : decode cX6_lookAt 188 = .ok (.iload 4, 2) := by decide +kernel
theorem dX6_lookAt_190 : decode cX6_lookAt 190 = .ok (.invokestatic 297, 3) := by decide +kernel
theorem dX6_lookAt_193 : decode cX6_lookAt 193 = .ok (.istore_n 3, 1) := by decide +kernel
theorem dX6_lookAt_194 : decode cX6_lookAt 194 = .ok (.aload_n 0, 1) := by decide +kernel
theorem dX6_lookAt_195 : decode cX6_lookAt 195 = .ok (.dup, 1) := by decide +kernel
theorem dX6_lookAt_196 : decode cX6_lookAt 196 = .ok (.getfield 285, 3) := by decide +kernel
theorem dX6_lookAt_199 : decode cX6_lookAt 199 = .ok (.iload_n 3, 1) := by decide +kernel
