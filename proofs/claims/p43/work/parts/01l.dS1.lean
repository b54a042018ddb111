theorem dX3_tellItems_8 : decode cX3_tellItems 8 = .ok (.sipush 150, 3) := by decide +kernel
theorem dX3_tellItems_11 : decode cX3_tellItems 11 = .ok (.if_icmp .ge 51, 3) := by decide +kernel
theorem dX3_tellItems_14 : decode cX3_tellItems 14 = .ok (.aload_n 0, 1) := by decide +kernel
theorem dX3_tellItems_15 : decode cX3_tellItems 15 = .ok (.invokevirtual 31, 3) := by decide +kernel
theorem dX3_tellItems_18 : decode cX3_tellItems 18 = .ok (.aload_n 0, 1) := by decide +kernel
theorem dX3_tellItems_19 : decode cX3_tellItems 19 = .ok (.getfield 22, 3) := by decide +kernel
theorem dX3_tellItems_22 : decode cX3_tellItems 22 = .ok (.ifCond .ne 9, 3) := by decide +kernel
theorem dX3_tellItems_25 : decode cX3_tellItems 25 = .ok (.iload_n 2, 1) := by decide +kernel
theorem dX3_tellItems_26 : decode cX3_tellItems 26 = .ok (.ifCond .le 5, 3) := by decide +kernel
theorem dX3_tellItems_29 : decode cX3_tellItems 29 = .ok (.iload_n 2, 1) := by decide +kernel
theorem dX3_tellItems_30 : decode cX3_tellItems 30 = .ok (.ireturn, 1) := by decide +kernel
theorem dX3_tellItems_31 : decode cX3_tellItems 31 = .ok (.aload_n 0, 1) := by decide +kernel
theorem dX3_tellItems_32 : decode cX3_tellItems 32 = .ok (.aload_n 1, 1) := by decide +kernel
theorem dX3_tellItems_33 : decode cX3_tellItems 33 = .ok (.iload_n 2, 1) := by decide +kernel
theorem dX3_tellItems_34 : decode cX3_tellItems 34 = .ok (.ifCond .ne 7, 3) := by decide +kernel
theorem dX3_tellItems_37 : decode cX3_tellItems 37 = .ok (.iconst 1, 1) := by decide +kernel
theorem dX3_tellItems_38 : decode cX3_tellItems 38 = .ok (.goto 4, 3) := by decide +kernel
theorem dX3_tellItems_41 : decode cX3_tellItems 41 = .ok (.iconst 0, 1) := by decide +kernel
theorem dX3_tellItems_42 : decode cX3_tellItems 42 = .ok (.invokevirtual 34, 3) := by decide +kernel
theorem dX3_tellItems_45 : decode cX3_tellItems 45 = .ok (.ifCond .ne 11, 3) := by decide +kernel
theorem dX3_tellItems_48 : decode cX3_tellItems 48 = .ok (.bipush (-10), 2) := by decide +kernel
theorem dX3_tellItems_50 : decode cX3_tellItems 50 = .ok (.aload_n 0, 1) := by decide +kernel
theorem dX3_tellItems_51 : decode cX3_tellItems 51 = .ok (.getfield 25, 3) := by decide +kernel
theorem dX3_tellItems_54 : decode cX3_tellItems 54 = .ok (.isub, 1) := by decide +kernel
theorem dX3_tellItems_55 : decode cX3_tellItems 55 = .ok (.ireturn, 1) := by decide +kernel
theorem dX3_tellItems_56 : decode cX3_tellItems 56 = .ok (.iinc 2 1, 3) := by decide +kernel
theorem dX3_tellItems_59 : decode cX3_tellItems 59 = .ok (.goto (-52), 3) := by decide +kernel
theorem dX3_tellItems_62 : decode cX3_tellItems 62 = .ok (.bipush (-10), 2) := by decide +kernel
theorem dX3_tellItems_64 : decode cX3_tellItems 64 = .ok (.aload_n 0, 1) := by decide +kernel
theorem dX3_tellItems_65 : decode cX3_tellItems 65 = .ok (.getfield 25, 3) := by decide +kernel
theorem dX3_tellItems_68 : decode cX3_tellItems 68 = .ok (.isub, 1) := by decide +kernel
theorem dX3_tellItems_69 : decode cX3_tellItems 69 = .ok (.ireturn, 1) := by decide +kernel
theorem dX3_takeItem_0 : decode cX3_takeItem 0 = .ok (.aload_n 0, 1) := by decide +kernel
theorem dX3_takeItem_1 : decode cX3_takeItem 1 = .ok (.getfield 22, 3) := by decide +kernel
theorem dX3_takeItem_4 : decode cX3_takeItem 4 = .ok (.iconst 1, 1) := by decide +kernel
theorem dX3_takeItem_5 : decode cX3_takeItem 5 = .ok (.if_icmp .ne 10, 3) := by decide +kernel
theorem dX3_takeItem_8 : decode cX3_takeItem 8 = .ok (.aload_n 0, 1) := by decide +kernel
theorem dX3_takeItem_9 : decode cX3_takeItem 9 = .ok (.invokevirtual 38, 3) := by decide +kernel
theorem dX3_takeItem_12 : decode cX3_takeItem 12 = .ok (.goto 4, 3) := by decide +kernel
theorem dX3_takeItem_15 : decode cX3_takeItem 15 = .ok (.iconst (-1), 1) := by decide +kernel
theorem dX3_takeItem_16 : decode cX3_takeItem 16 = .ok (.istore_n 3, 1) := by decide +kernel
theorem dX3_takeItem_17 : decode cX3_takeItem 17 = .ok (.iload_n 3, 1) := by decide +kernel
theorem dX3_takeItem_18 : decode cX3_takeItem 18 = .ok (.iconst (-1), 1) := by decide +kernel
theorem dX3_takeItem_19 : decode cX3_takeItem 19 = .ok (.if_icmp .eq 24, 3) := by decide +kernel
theorem dX3_takeItem_22 : decode cX3_takeItem 22 = .ok (.iload_n 2, 1) := by decide +kernel
theorem dX3_takeItem_23 : decode cX3_takeItem 23 = .ok (.iload_n 3, 1) := by decide +kernel
theorem dX3_takeItem_24 : decode cX3_takeItem 24 = .ok (.ifCond .ne 7, 3) := by decide +kernel
theorem dX3_takeItem_27 : decode cX3_takeItem 27 = .ok (.iconst 1, 1) := by decide +kernel
theorem dX3_takeItem_28 : decode cX3_takeItem 28 = .ok (.goto 4, 3) := by decide +kernel
theorem dX3_takeItem_31 : decode cX3_takeItem 31 = .ok (.iconst 0, 1) := by decide +kernel
theorem dX3_takeItem_32 : decode cX3_takeItem 32 = .ok (.if_icmp .ne 11, 3) := by decide +kernel
theorem dX3_takeItem_35 : decode cX3_takeItem 35 = .ok (.aload_n 1, 1) := by decide +kernel
theorem dX3_takeItem_36 : decode cX3_takeItem 36 = .ok (.iload_n 3, 1) := by decide +kernel
theorem dX3_takeItem_37 : decode cX3_takeItem 37 = .ok (.invokestatic 42, 3) := by decide +kernel
theorem dX3_takeItem_40 : decode cX3_takeItem 40 = .ok (.ifCond .ne 5, 3) := by decide +kernel
theorem dX3_takeItem_43 : decode cX3_takeItem 43 = .ok (.iconst 0, 1) := by decide +kernel
theorem dX3_takeItem_44 : decode cX3_takeItem 44 = .ok (.ireturn, 1) := by decide +kernel
theorem dX3_takeItem_45 : decode cX3_takeItem 45 = .ok (.aload_n 0, 1) := by decide +kernel
theorem dX3_takeItem_46 : decode cX3_takeItem 46 = .ok (.invokevirtual 31, 3) := by decide +kernel
theorem dX3_takeItem_49 : decode cX3_takeItem 49 = .ok (.aload_n 0, 1) := by decide +kernel
theorem dX3_takeItem_50 : decode cX3_takeItem 50 = .ok (.getfield 28, 3) := by decide +kernel
theorem dX3_takeItem_53 : decode cX3_takeItem 53 = .ok (.istore 4, 2) := by decide +kernel
theorem dX3_takeItem_55 : decode cX3_takeItem 55 = .ok (.aload_n 0, 1) := by decide +kernel
theorem dX3_takeItem_56 : decode cX3_takeItem 56 = .ok (.getfield 22, 3) := by decide +kernel
theorem dX3_takeItem_59 : decode cX3_takeItem 59 = .ok (.iconst 2, 1) := by decide +kernel
theorem dX3_takeItem_60 : decode cX3_takeItem 60 = .ok (.if_icmp .ne 13, 3) := by decide +kernel
theorem dX3_takeItem_63 : decode cX3_takeItem 63 = .ok (.aload_n 1, 1) := by decide +kernel
theorem dX3_takeItem_64 : decode cX3_takeItem 64 = .ok (.iload_n 3, 1) := by decide +kernel
theorem dX3_takeItem_65 : decode cX3_takeItem 65 = .ok (.iload 4, 2) := by decide +kernel
theorem dX3_takeItem_67 : decode cX3_takeItem 67 = .ok (.invokestatic 46, 3) := by decide +kernel
theorem dX3_takeItem_70 : decode cX3_takeItem 70 = .ok (.ifCond .ne 5, 3) := by decide +kernel
theorem dX3_takeItem_73 : decode cX3_takeItem 73 = .ok (.iconst 0, 1) := by decide +kernel
theorem dX3_takeItem_74 : decode cX3_takeItem 74 = .ok (.ireturn, 1) := by decide +kernel
theorem dX3_takeItem_75 : decode cX3_takeItem 75 = .ok (.iconst (-1), 1) := by decide +kernel
theorem dX3_takeItem_76 : decode cX3_takeItem 76 = .ok (.istore 5, 2) := by decide +kernel
theorem dX3_takeItem_78 : decode cX3_takeItem 78 = .ok (.iload_n 3, 1) := by decide +kernel
theorem dX3_takeItem_79 : decode cX3_takeItem 79 = .ok (.invokestatic 50, 3) := by decide +kernel
theorem dX3_takeItem_82 : decode cX3_takeItem 82 = .ok (.ifCond .eq 35, 3) := by decide +kernel
theorem dX3_takeItem_85 : decode cX3_takeItem 85 = .ok (.aload_n 0, 1) := by decide +kernel
theorem dX3_takeItem_86 : decode cX3_takeItem 86 = .ok (.invokevirtual 31, 3) := by decide +kernel
theorem dX3_takeItem_89 : decode cX3_takeItem 89 = .ok (.aload_n 0, 1) := by decide +kernel
theorem dX3_takeItem_90 : decode cX3_takeItem 90 = .ok (.getfield 28, 3) := by decide +kernel
theorem dX3_takeItem_93 : decode cX3_takeItem 93 = .ok (.istore 5, 2) := by decide +kernel
theorem dX3_takeItem_95 : decode cX3_takeItem 95 = .ok (.aload_n 0, 1) := by decide +kernel
theorem dX3_takeItem_96 : decode cX3_takeItem 96 = .ok (.getfield 22, 3) := by decide +kernel
theorem dX3_takeItem_99 : decode cX3_takeItem 99 = .ok (.iconst 2, 1) := by decide +kernel
theorem dX3_takeItem_100 : decode cX3_takeItem 100 = .ok (.if_icmp .ne 15, 3) := by decide +kernel
theorem dX3_takeItem_103 : decode cX3_takeItem 103 = .ok (.aload_n 1, 1) := by decide +kernel
theorem dX3_takeItem_104 : decode cX3_takeItem 104 = .ok (.iload_n 3, 1) := by decide +kernel
theorem dX3_takeItem_105 : decode cX3_takeItem 105 = .ok (.iload 4, 2) := by decide +kernel
theorem dX3_takeItem_107 : decode cX3_takeItem 107 = .ok (.iload 5, 2) := by decide +kernel
theorem dX3_takeItem_109 : decode cX3_takeItem 109 = .ok (.invokestatic 54, 3) := by decide +kernel
theorem dX3_takeItem_112 : decode cX3_takeItem 112 = .ok (.ifCond .ne 5, 3) := by decide +kernel
theorem dX3_takeItem_115 : decode cX3_takeItem 115 = .ok (.iconst 0, 1) := by decide +kernel
theorem dX3_takeItem_116 : decode cX3_takeItem 116 = .ok (.ireturn, 1) := by decide +kernel
theorem dX3_takeItem_117 : decode cX3_takeItem 117 = .ok (.aload_n 1, 1) := by decide +kernel
theorem dX3_takeItem_118 : decode cX3_takeItem 118 = .ok (.iload_n 3, 1) := by decide +kernel
theorem dX3_takeItem_119 : decode cX3_takeItem 119 = .ok (.iload 4, 2) := by decide +kernel
theorem dX3_takeItem_121 : decode cX3_takeItem 121 = .ok (.iload 5, 2) := by decide +kernel
theorem dX3_takeItem_123 : decode cX3_takeItem 123 = .ok (.invokestatic 58, 3) := by decide +kernel
theorem dX3_takeItem_126 : decode cX3_takeItem 126 = .ok (.aload_n 0, 1) := by decide +kernel
theorem dX3_takeItem_127 : decode cX3_takeItem 127 = .ok (.invokevirtual 31, 3) := by decide +kernel
theorem dX3_takeItem_130 : decode cX3_takeItem 130 = .ok (.aload_n 0, 1) := by decide +kernel
theorem dX3_takeItem_131 : decode cX3_takeItem 131 = .ok (.getfield 22, 3) := by decide +kernel
theorem dX3_takeItem_134 : decode cX3_takeItem 134 = .ok (.iconst 3, 1) := by decide +kernel
theorem dX3_takeItem_135 : decode cX3_takeItem 135 = .ok (.if_icmp .ne 7, 3) := by decide +kernel
theorem dX3_takeItem_138 : decode cX3_takeItem 138 = .ok (.iconst 1, 1) := by decide +kernel
theorem dX3_takeItem_139 : decode cX3_takeItem 139 = .ok (.goto 4, 3) := by decide +kernel
theorem dX3_takeItem_142 : decode cX3_takeItem 142 = .ok (.iconst 0, 1) := by decide +kernel
theorem dX3_takeItem_143 : decode cX3_takeItem 143 = .ok (.ireturn, 1) := by decide +kernel
theorem dX3_wordAt_0 : decode cX3_wordAt 0 = .ok (.iload_n 0, 1) := by decide +kernel
theorem dX3_wordAt_1 : decode cX3_wordAt 1 = .ok (.tableswitch 71 0 7 #[47, 50, 53, 56, 59, 62, 65, 68], 47) := by decide +kernel
theorem dX3_wordAt_48 : decode cX3_wordAt 48 = .ok (.ldc 62, 2) := by decide +kernel
theorem dX3_wordAt_50 : decode cX3_wordAt 50 = .ok (.areturn, 1) := by decide +kernel
theorem dX3_wordAt_51 : decode cX3_wordAt 51 = .ok (.ldc 64, 2) := by decide +kernel
theorem dX3_wordAt_53 : decode cX3_wordAt 53 = .ok (.areturn, 1) := by decide +kernel
theorem dX3_wordAt_54 : decode cX3_wordAt 54 = .ok (.ldc 66, 2) := by decide +kernel
theorem dX3_wordAt_56 : decode cX3_wordAt 56 = .ok (.areturn, 1) := by decide +kernel
theorem dX3_wordAt_57 : decode cX3_wordAt 57 = .ok (.ldc 68, 2) := by decide +kernel
theorem dX3_wordAt_59 : decode cX3_wordAt 59 = .ok (.areturn, 1) := by decide +kernel
theorem dX3_wordAt_60 : decode cX3_wordAt 60 = .ok (.ldc 70, 2) := by decide +kernel
theorem dX3_wordAt_62 : decode cX3_wordAt 62 = .ok (.areturn, 1) := by decide +kernel
theorem dX3_wordAt_63 : decode cX3_wordAt 63 = .ok (.ldc 72, 2) := by decide +kernel
theorem dX3_wordAt_65 : decode cX3_wordAt 65 = .ok (.areturn, 1) := by decide +kernel
theorem dX3_wordAt_66 : decode cX3_wordAt 66 = .ok (.ldc 74, 2) := by decide +kernel
theorem dX3_wordAt_68 : decode cX3_wordAt 68 = .ok (.areturn, 1) := by decide +kernel
theorem dX3_wordAt_69 : decode cX3_wordAt 69 = .ok (.ldc 76, 2) := by decide +kernel
theorem dX3_wordAt_71 : decode cX3_wordAt 71 = .ok (.areturn, 1) := by decide +kernel
theorem dX3_wordAt_72 : decode cX3_wordAt 72 = .ok (.ldc 78, 2) := by decide +kernel
theorem dX3_wordAt_74 : decode cX3_wordAt 74 = .ok (.areturn, 1) := by decide +kernel
theorem dX3_wordNow_0 : decode cX3_wordNow 0 = .ok (.iconst 0, 1) := by decide +kernel
theorem dX3_wordNow_1 : decode cX3_wordNow 1 = .ok (.istore_n 1, 1) := by decide +kernel
theorem dX3_wordNow_2 : decode cX3_wordNow 2 = .ok (.iload_n 1, 1) := by decide +kernel
theorem dX3_wordNow_3 : decode cX3_wordNow 3 = .ok (.bipush 9, 2) := by decide +kernel
theorem dX3_wordNow_5 : decode cX3_wordNow 5 = .ok (.if_icmp .ge 22, 3) := by decide +kernel
theorem dX3_wordNow_8 : decode cX3_wordNow 8 = .ok (.aload_n 0, 1) := by decide +kernel
theorem dX3_wordNow_9 : decode cX3_wordNow 9 = .ok (.iload_n 1, 1) := by decide +kernel
theorem dX3_wordNow_10 : decode cX3_wordNow 10 = .ok (.invokestatic 80, 3) := by decide +kernel
theorem dX3_wordNow_13 : decode cX3_wordNow 13 = .ok (.invokevirtual 84, 3) := by decide +kernel
theorem dX3_wordNow_16 : decode cX3_wordNow 16 = .ok (.ifCond .eq 5, 3) := by decide +kernel
theorem dX3_wordNow_19 : decode cX3_wordNow 19 = .ok (.iload_n 1, 1) := by decide +kernel
theorem dX3_wordNow_20 : decode cX3_wordNow 20 = .ok (.ireturn, 1) := by decide +kernel
theorem dX3_wordNow_21 : decode cX3_wordNow 21 = .ok (.iinc 1 1, 3) := by decide +kernel
theorem dX3_wordNow_24 : decode cX3_wordNow 24 = .ok (.goto (-22), 3) := by decide +kernel
theorem dX3_wordNow_27 : decode cX3_wordNow 27 = .ok (.iconst (-1), 1) := by decide +kernel
theorem dX3_wordNow_28 : decode cX3_wordNow 28 = .ok (.ireturn, 1) := by decide +kernel
theorem dX3_isTokenWord_0 : decode cX3_isTokenWord 0 = .ok (.aload_n 0, 1) := by decide +kernel
theorem dX3_isTokenWord_1 : decode cX3_isTokenWord 1 = .ok (.getfield 19, 3) := by decide +kernel
theorem dX3_isTokenWord_4 : decode cX3_isTokenWord 4 = .ok (.aload_n 0, 1) := by decide +kernel
theorem dX3_isTokenWord_5 : decode cX3_isTokenWord 5 = .ok (.getfield 25, 3) := by decide +kernel
theorem dX3_isTokenWord_8 : decode cX3_isTokenWord 8 = .ok (.isub, 1) := by decide +kernel
theorem dX3_isTokenWord_9 : decode cX3_isTokenWord 9 = .ok (.aload_n 1, 1) := by decide +kernel
theorem dX3_isTokenWord_10 : decode cX3_isTokenWord 10 = .ok (.invokevirtual 88, 3) := by decide +kernel
theorem dX3_isTokenWord_13 : decode cX3_isTokenWord 13 = .ok (.if_icmp .eq 5, 3) := by decide +kernel
theorem dX3_isTokenWord_16 : decode cX3_isTokenWord 16 = .ok (.iconst 0, 1) := by decide +kernel
theorem dX3_isTokenWord_17 : decode cX3_isTokenWord 17 = .ok (.ireturn, 1) := by decide +kernel
theorem dX3_isTokenWord_18 : decode cX3_isTokenWord 18 = .ok (.iconst 0, 1) := by decide +kernel
theorem dX3_isTokenWord_19 : decode cX3_isTokenWord 19 = .ok (.istore_n 2, 1) := by decide +kernel
theorem dX3_isTokenWord_20 : decode cX3_isTokenWord 20 = .ok (.iload_n 2, 1) := by decide +kernel
theorem dX3_isTokenWord_21 : decode cX3_isTokenWord 21 = .ok (.aload_n 1, 1) := by decide +kernel
theorem dX3_isTokenWord_22 : decode cX3_isTokenWord 22 = .ok (.invokevirtual 88, 3) := by decide +kernel
theorem dX3_isTokenWord_25 : decode cX3_isTokenWord 25 = .ok (.if_icmp .ge 30, 3) := by decide +kernel
theorem dX3_isTokenWord_28 : decode cX3_isTokenWord 28 = .ok (.aload_n 0, 1) := by decide +kernel
theorem dX3_isTokenWord_29 : decode cX3_isTokenWord 29 = .ok (.getfield 9, 3) := by decide +kernel
theorem dX3_isTokenWord_32 : decode cX3_isTokenWord 32 = .ok (.aload_n 0, 1) := by decide +kernel
theorem dX3_isTokenWord_33 : decode cX3_isTokenWord 33 = .ok (.getfield 25, 3) := by decide +kernel
theorem dX3_isTokenWord_36 : decode cX3_isTokenWord 36 = .ok (.iload_n 2, 1) := by decide +kernel
theorem dX3_isTokenWord_37 : decode cX3_isTokenWord 37 = .ok (.iadd, 1) := by decide +kernel
theorem dX3_isTokenWord_38 : decode cX3_isTokenWord 38 = .ok (.baload, 1) := by decide +kernel
theorem dX3_isTokenWord_39 : decode cX3_isTokenWord 39 = .ok (.aload_n 1, 1) := by decide +kernel
theorem dX3_isTokenWord_40 : decode cX3_isTokenWord 40 = .ok (.iload_n 2, 1) := by decide +kernel
theorem dX3_isTokenWord_41 : decode cX3_isTokenWord 41 = .ok (.invokevirtual 92, 3) := by decide +kernel
theorem dX3_isTokenWord_44 : decode cX3_isTokenWord 44 = .ok (.if_icmp .eq 5, 3) := by decide +kernel
theorem dX3_isTokenWord_47 : decode cX3_isTokenWord 47 = .ok (.iconst 0, 1) := by decide +kernel
theorem dX3_isTokenWord_48 : decode cX3_isTokenWord 48 = .ok (.ireturn, 1) := by decide +kernel
theorem dX3_isTokenWord_49 : decode cX3_isTokenWord 49 = .ok (.iinc 2 1, 3) := by decide +kernel
theorem dX3_isTokenWord_52 : decode cX3_isTokenWord 52 = .ok (.goto (-32), 3) := by decide +kernel
theorem dX3_isTokenWord_55 : decode cX3_isTokenWord 55 = .ok (.iconst 1, 1) := by decide +kernel
theorem dX3_isTokenWord_56 : decode cX3_isTokenWord 56 = .ok (.ireturn, 1) := by decide +kernel
theorem dX3_hasPlace_0 : decode cX3_hasPlace 0 = .ok (.iload_n 1, 1) := by decide +kernel
theorem dX3_hasPlace_1 : decode cX3_hasPlace 1 = .ok (.tableswitch 60 5 8 #[31, 31, 60, 46], 31) := by decide +kernel
theorem dX3_hasPlace_32 : decode cX3_hasPlace 32 = .ok (.aload_n 0, 1) := by decide +kernel
theorem dX3_hasPlace_33 : decode cX3_hasPlace 33 = .ok (.getfield 96, 3) := by decide +kernel
theorem dX3_hasPlace_36 : decode cX3_hasPlace 36 = .ok (.bipush 8, 2) := by decide +kernel
theorem dX3_hasPlace_38 : decode cX3_hasPlace 38 = .ok (.if_icmp .ge 7, 3) := by decide +kernel
theorem dX3_hasPlace_41 : decode cX3_hasPlace 41 = .ok (.iconst 1, 1) := by decide +kernel
theorem dX3_hasPlace_42 : decode cX3_hasPlace 42 = .ok (.goto 4, 3) := by decide +kernel
theorem dX3_hasPlace_45 : decode cX3_hasPlace 45 = .ok (.iconst 0, 1) := by decide +kernel
theorem dX3_hasPlace_46 : decode cX3_hasPlace 46 = .ok (.ireturn, 1) := by decide +kernel
theorem dX3_hasPlace_47 : decode cX3_hasPlace 47 = .ok (.aload_n 0, 1) := by decide +kernel
theorem dX3_hasPlace_48 : decode cX3_hasPlace 48 = .ok (.getfield 101, 3) := by decide +kernel
theorem dX3_hasPlace_51 : decode cX3_hasPlace 51 = .ok (.iconst 4, 1) := by decide +kernel
theorem dX3_hasPlace_52 : decode cX3_hasPlace 52 = .ok (.if_icmp .ge 7, 3) := by decide +kernel
theorem dX3_hasPlace_55 : decode cX3_hasPlace 55 = .ok (.iconst 1, 1) := by decide +kernel
theorem dX3_hasPlace_56 : decode cX3_hasPlace 56 = .ok (.goto 4, 3) := by decide +kernel
theorem dX3_hasPlace_59 : decode cX3_hasPlace 59 = .ok (.iconst 0, 1) := by decide +kernel
theorem dX3_hasPlace_60 : decode cX3_hasPlace 60 = .ok (.ireturn, 1) := by decide +kernel
theorem dX3_hasPlace_61 : decode cX3_hasPlace 61 = .ok (.iconst 1, 1) := by decide +kernel
theorem dX3_hasPlace_62 : decode cX3_hasPlace 62 = .ok (.ireturn, 1) := by decide +kernel
theorem dX3_hasTwoNumbers_0 : decode cX3_hasTwoNumbers 0 = .ok (.iload_n 0, 1) := by decide +kernel
theorem dX3_hasTwoNumbers_1 : decode cX3_hasTwoNumbers 1 = .ok (.iconst 3, 1) := by decide +kernel
theorem dX3_hasTwoNumbers_2 : decode cX3_hasTwoNumbers 2 = .ok (.if_icmp .eq 19, 3) := by decide +kernel
theorem dX3_hasTwoNumbers_5 : decode cX3_hasTwoNumbers 5 = .ok (.iload_n 0, 1) := by decide +kernel
theorem dX3_hasTwoNumbers_6 : decode cX3_hasTwoNumbers 6 = .ok (.iconst 4, 1) := by decide +kernel
theorem dX3_hasTwoNumbers_7 : decode cX3_hasTwoNumbers 7 = .ok (.if_icmp .eq 14, 3) := by decide +kernel
theorem dX3_hasTwoNumbers_10 : decode cX3_hasTwoNumbers 10 = .ok (.iload_n 0, 1) := by decide +kernel
theorem dX3_hasTwoNumbers_11 : decode cX3_hasTwoNumbers 11 = .ok (.iconst 5, 1) := by decide +kernel
theorem dX3_hasTwoNumbers_12 : decode cX3_hasTwoNumbers 12 = .ok (.if_icmp .eq 9, 3) := by decide +kernel
theorem dX3_hasTwoNumbers_15 : decode cX3_hasTwoNumbers 15 = .ok (.iload_n 0, 1) := by decide +kernel
theorem dX3_hasTwoNumbers_16 : decode cX3_hasTwoNumbers 16 = .ok (.bipush 7, 2) := by decide +kernel
theorem dX3_hasTwoNumbers_18 : decode cX3_hasTwoNumbers 18 = .ok (.if_icmp .ne 7, 3) := by decide +kernel
theorem dX3_hasTwoNumbers_21 : decode cX3_hasTwoNumbers 21 = .ok (.iconst 1, 1) := by decide +kernel
theorem dX3_hasTwoNumbers_22 : decode cX3_hasTwoNumbers 22 = .ok (.goto 4, 3) := by decide +kernel
theorem dX3_hasTwoNumbers_25 : decode cX3_hasTwoNumbers 25 = .ok (.iconst 0, 1) := by decide +kernel
theorem dX3_hasTwoNumbers_26 : decode cX3_hasTwoNumbers 26 = .ok (.ireturn, 1) := by decide +kernel
theorem dX3_isFirstDue_0 : decode cX3_isFirstDue 0 = .ok (.iload_n 1, 1) := by decide +kernel
theorem dX3_isFirstDue_1 : decode cX3_isFirstDue 1 = .ok (.tableswitch 133 0 8 #[51, 68, 79, 133, 133, 133, 133, 91, 115], 51) := by decide +kernel
theorem dX3_isFirstDue_52 : decode cX3_isFirstDue 52 = .ok (.iload_n 2, 1) := by decide +kernel
theorem dX3_isFirstDue_53 : decode cX3_isFirstDue 53 = .ok (.iconst 2, 1) := by decide +kernel
theorem dX3_isFirstDue_54 : decode cX3_isFirstDue 54 = .ok (.if_icmp .lt 13, 3) := by decide +kernel
theorem dX3_isFirstDue_57 : decode cX3_isFirstDue 57 = .ok (.iload_n 2, 1) := by decide +kernel
theorem dX3_isFirstDue_58 : decode cX3_isFirstDue 58 = .ok (.bipush 7, 2) := by decide +kernel
theorem dX3_isFirstDue_60 : decode cX3_isFirstDue 60 = .ok (.if_icmp .gt 7, 3) := by decide +kernel
theorem dX3_isFirstDue_63 : decode cX3_isFirstDue 63 = .ok (.iconst 1, 1) := by decide +kernel
theorem dX3_isFirstDue_64 : decode cX3_isFirstDue 64 = .ok (.goto 4, 3) := by decide +kernel
theorem dX3_isFirstDue_67 : decode cX3_isFirstDue 67 = .ok (.iconst 0, 1) := by decide +kernel
theorem dX3_isFirstDue_68 : decode cX3_isFirstDue 68 = .ok (.ireturn, 1) := by decide +kernel
theorem dX3_isFirstDue_69 : decode cX3_isFirstDue 69 = .ok (.iload_n 2, 1) := by decide +kernel
theorem dX3_isFirstDue_70 : decode cX3_isFirstDue 70 = .ok (.iconst 1, 1) := by decide +kernel
theorem dX3_isFirstDue_71 : decode cX3_isFirstDue 71 = .ok (.if_icmp .lt 7, 3) := by decide +kernel
theorem dX3_isFirstDue_74 : decode cX3_isFirstDue 74 = .ok (.iconst 1, 1) := by decide +kernel
theorem dX3_isFirstDue_75 : decode cX3_isFirstDue 75 = .ok (.goto 4, 3) := by decide +kernel
theorem dX3_isFirstDue_78 : decode cX3_isFirstDue 78 = .ok (.iconst 0, 1) := by decide +kernel
theorem dX3_isFirstDue_79 : decode cX3_isFirstDue 79 = .ok (.ireturn, 1) := by decide +kernel
theorem dX3_isFirstDue_80 : decode cX3_isFirstDue 80 = .ok (.iload_n 2, 1) := by decide +kernel
theorem dX3_isFirstDue_81 : decode cX3_isFirstDue 81 = .ok (.bipush 6, 2) := by decide +kernel
theorem dX3_isFirstDue_83 : decode cX3_isFirstDue 83 = .ok (.if_icmp .gt 7, 3) := by decide +kernel
theorem dX3_isFirstDue_86 : decode cX3_isFirstDue 86 = .ok (.iconst 1, 1) := by decide +kernel
theorem dX3_isFirstDue_87 : decode cX3_isFirstDue 87 = .ok (.goto 4, 3) := by decide +kernel
theorem dX3_isFirstDue_90 : decode cX3_isFirstDue 90 = .ok (.iconst 0, 1) := by decide +kernel
theorem dX3_isFirstDue_91 : decode cX3_isFirstDue 91 = .ok (.ireturn, 1) := by decide +kernel
theorem dX3_isFirstDue_92 : decode cX3_isFirstDue 92 = .ok (.iload_n 2, 1) := by decide +kernel
theorem dX3_isFirstDue_93 : decode cX3_isFirstDue 93 = .ok (.aload_n 0, 1) := by decide +kernel
theorem dX3_isFirstDue_94 : decode cX3_isFirstDue 94 = .ok (.getfield 104, 3) := by decide +kernel
theorem dX3_isFirstDue_97 : decode cX3_isFirstDue 97 = .ok (.if_icmp .ge 17, 3) := by decide +kernel
theorem dX3_isFirstDue_100 : decode cX3_isFirstDue 100 = .ok (.aload_n 0, 1) := by decide +kernel
theorem dX3_isFirstDue_101 : decode cX3_isFirstDue 101 = .ok (.getfield 107, 3) := by decide +kernel
theorem dX3_isFirstDue_104 : decode cX3_isFirstDue 104 = .ok (.iload_n 2, 1) := by decide +kernel
theorem dX3_isFirstDue_105 : decode cX3_isFirstDue 105 = .ok (.iaload, 1) := by decide +kernel
theorem dX3_isFirstDue_106 : decode cX3_isFirstDue 106 = .ok (.iconst (-1), 1) := by decide +kernel
theorem dX3_isFirstDue_107 : decode cX3_isFirstDue 107 = .ok (.if_icmp .ne 7, 3) := by decide +kernel
theorem dX3_isFirstDue_110 : decode cX3_isFirstDue 110 = .ok (.iconst 1, 1) := by decide +kernel
theorem dX3_isFirstDue_111 : decode cX3_isFirstDue 111 = .ok (.goto 4, 3) := by decide +kernel
theorem dX3_isFirstDue_114 : decode cX3_isFirstDue 114 = .ok (.iconst 0, 1) := by decide +kernel
theorem dX3_isFirstDue_115 : decode cX3_isFirstDue 115 = .ok (.ireturn, 1) := by decide +kernel
theorem dX3_isFirstDue_116 : decode cX3_isFirstDue 116 = .ok (.iload_n 2, 1) := by decide +kernel
theorem dX3_isFirstDue_117 : decode cX3_isFirstDue 117 = .ok (.getstatic 110, 3) := by decide +kernel
theorem dX3_isFirstDue_120 : decode cX3_isFirstDue 120 = .ok (.aload_n 0, 1) := by decide +kernel
theorem dX3_isFirstDue_121 : decode cX3_isFirstDue 121 = .ok (.getfield 104, 3) := by decide +kernel
theorem dX3_isFirstDue_124 : decode cX3_isFirstDue 124 = .ok (.iaload, 1) := by decide +kernel
theorem dX3_isFirstDue_125 : decode cX3_isFirstDue 125 = .ok (.if_icmp .ge 7, 3) := by decide +kernel
theorem dX3_isFirstDue_128 : decode cX3_isFirstDue 128 = .ok (.iconst 1, 1) := by decide +kernel
theorem dX3_isFirstDue_129 : decode cX3_isFirstDue 129 = .ok (.goto 4, 3) := by decide +kernel
theorem dX3_isFirstDue_132 : decode cX3_isFirstDue 132 = .ok (.iconst 0, 1) := by decide +kernel
theorem dX3_isFirstDue_133 : decode cX3_isFirstDue 133 = .ok (.ireturn, 1) := by decide +kernel
theorem dX3_isFirstDue_134 : decode cX3_isFirstDue 134 = .ok (.iload_n 2, 1) := by decide +kernel
theorem dX3_isFirstDue_135 : decode cX3_isFirstDue 135 = .ok (.aload_n 0, 1) := by decide +kernel
theorem dX3_isFirstDue_136 : decode cX3_isFirstDue 136 = .ok (.getfield 104, 3) := by decide +kernel
theorem dX3_isFirstDue_139 : decode cX3_isFirstDue 139 = .ok (.if_icmp .ge 7, 3) := by decide +kernel
theorem dX3_isFirstDue_142 : decode cX3_isFirstDue 142 = .ok (.iconst 1, 1) := by decide +kernel
theorem dX3_isFirstDue_143 : decode cX3_isFirstDue 143 = .ok (.goto 4, 3) := by decide +kernel
theorem dX3_isFirstDue_146 : decode cX3_isFirstDue 146 = .ok (.iconst 0, 1) := by decide +kernel
theorem dX3_isFirstDue_147 : decode cX3_isFirstDue 147 = .ok (.ireturn, 1) := by decide +kernel
theorem dX3_isSecondDue_0 : decode cX3_isSecondDue 0 = .ok (.iload_n 1, 1) := by decide +kernel
theorem dX3_isSecondDue_1 : decode cX3_isSecondDue 1 = .ok (.tableswitch 77 3 5 #[27, 39, 58], 27) := by decide +kernel
theorem dX3_isSecondDue_28 : decode cX3_isSecondDue 28 = .ok (.iload_n 3, 1) := by decide +kernel
theorem dX3_isSecondDue_29 : decode cX3_isSecondDue 29 = .ok (.bipush 6, 2) := by decide +kernel
theorem dX3_isSecondDue_31 : decode cX3_isSecondDue 31 = .ok (.if_icmp .ge 7, 3) := by decide +kernel
theorem dX3_isSecondDue_34 : decode cX3_isSecondDue 34 = .ok (.iconst 1, 1) := by decide +kernel
theorem dX3_isSecondDue_35 : decode cX3_isSecondDue 35 = .ok (.goto 4, 3) := by decide +kernel
theorem dX3_isSecondDue_38 : decode cX3_isSecondDue 38 = .ok (.iconst 0, 1) := by decide +kernel
theorem dX3_isSecondDue_39 : decode cX3_isSecondDue 39 = .ok (.ireturn, 1) := by decide +kernel
theorem dX3_isSecondDue_40 : decode cX3_isSecondDue 40 = .ok (.iload_n 3, 1) := by decide +kernel
theorem dX3_isSecondDue_41 : decode cX3_isSecondDue 41 = .ok (.aload_n 0, 1) := by decide +kernel
theorem dX3_isSecondDue_42 : decode cX3_isSecondDue 42 = .ok (.getfield 104, 3) := by decide +kernel
theorem dX3_isSecondDue_45 : decode cX3_isSecondDue 45 = .ok (.if_icmp .ge 12, 3) := by decide +kernel
theorem dX3_isSecondDue_48 : decode cX3_isSecondDue 48 = .ok (.iload_n 3, 1) := by decide +kernel
theorem dX3_isSecondDue_49 : decode cX3_isSecondDue 49 = .ok (.iload_n 2, 1) := by decide +kernel
theorem dX3_isSecondDue_50 : decode cX3_isSecondDue 50 = .ok (.if_icmp .eq 7, 3) := by decide +kernel
theorem dX3_isSecondDue_53 : decode cX3_isSecondDue 53 = .ok (.iconst 1, 1) := by decide +kernel
theorem dX3_isSecondDue_54 : decode cX3_isSecondDue 54 = .ok (.goto 4, 3) := by decide +kernel
theorem dX3_isSecondDue_57 : decode cX3_isSecondDue 57 = .ok (.iconst 0, 1) := by decide +kernel
theorem dX3_isSecondDue_58 : decode cX3_isSecondDue 58 = .ok (.ireturn, 1) := by decide +kernel
theorem dX3_isSecondDue_59 : decode cX3_isSecondDue 59 = .ok (.iload_n 3, 1) := by decide +kernel
theorem dX3_isSecondDue_60 : decode cX3_isSecondDue 60 = .ok (.iconst 1, 1) := by decide +kernel
theorem dX3_isSecondDue_61 : decode cX3_isSecondDue 61 = .ok (.if_icmp .lt 15, 3) := by decide +kernel
theorem dX3_isSecondDue_64 : decode cX3_isSecondDue 64 = .ok (.iload_n 3, 1) := by decide +kernel
theorem dX3_isSecondDue_65 : decode cX3_isSecondDue 65 = .ok (.aload_n 0, 1) := by decide +kernel
theorem dX3_isSecondDue_66 : decode cX3_isSecondDue 66 = .ok (.getfield 104, 3) := by decide +kernel
theorem dX3_isSecondDue_69 : decode cX3_isSecondDue 69 = .ok (.if_icmp .gt 7, 3) := by decide +kernel
theorem dX3_isSecondDue_72 : decode cX3_isSecondDue 72 = .ok (.iconst 1, 1) := by decide +kernel
theorem dX3_isSecondDue_73 : decode cX3_isSecondDue 73 = .ok (.goto 4, 3) := by decide +kernel
theorem dX3_isSecondDue_76 : decode cX3_isSecondDue 76 = .ok (.iconst 0, 1) := by decide +kernel
theorem dX3_isSecondDue_77 : decode cX3_isSecondDue 77 = .ok (.ireturn, 1) := by decide +kernel
theorem dX3_isSecondDue_78 : decode cX3_isSecondDue 78 = .ok (.iload_n 3, 1) := by decide +kernel
theorem dX3_isSecondDue_79 : decode cX3_isSecondDue 79 = .ok (.aload_n 0, 1) := by decide +kernel
theorem dX3_isSecondDue_80 : decode cX3_isSecondDue 80 = .ok (.getfield 104, 3) := by decide +kernel
theorem dX3_isSecondDue_83 : decode cX3_isSecondDue 83 = .ok (.if_icmp .ge 15, 3) := by decide +kernel
theorem dX3_isSecondDue_86 : decode cX3_isSecondDue 86 = .ok (.aload_n 0, 1) := by decide +kernel
theorem dX3_isSecondDue_87 : decode cX3_isSecondDue 87 = .ok (.iload_n 3, 1) := by decide +kernel
theorem dX3_isSecondDue_88 : decode cX3_isSecondDue 88 = .ok (.invokevirtual 113, 3) := by decide +kernel
theorem dX3_isSecondDue_91 : decode cX3_isSecondDue 91 = .ok (.ifCond .ne 7, 3) := by decide +kernel
theorem dX3_isSecondDue_94 : decode cX3_isSecondDue 94 = .ok (.iconst 1, 1) := by decide +kernel
theorem dX3_isSecondDue_95 : decode cX3_isSecondDue 95 = .ok (.goto 4, 3) := by decide +kernel
theorem dX3_isSecondDue_98 : decode cX3_isSecondDue 98 = .ok (.iconst 0, 1) := by decide +kernel
theorem dX3_isSecondDue_99 : decode cX3_isSecondDue 99 = .ok (.ireturn, 1) := by decide +kernel
theorem dX3_takeEffect_0 : decode cX3_takeEffect 0 = .ok (.iload_n 1, 1) := by decide +kernel
theorem dX3_takeEffect_1 : decode cX3_takeEffect 1 = .ok (.tableswitch 130 0 7 #[47, 55, 70, 78, 88, 100, 110, 120], 47) := by decide +kernel
theorem dX3_takeEffect_48 : decode cX3_takeEffect 48 = .ok (.aload_n 0, 1) := by decide +kernel
theorem dX3_takeEffect_49 : decode cX3_takeEffect 49 = .ok (.iload_n 2, 1) := by decide +kernel
theorem dX3_takeEffect_50 : decode cX3_takeEffect 50 = .ok (.invokevirtual 116, 3) := by decide +kernel
theorem dX3_takeEffect_53 : decode cX3_takeEffect 53 = .ok (.goto 84, 3) := by decide +kernel
theorem dX3_takeEffect_56 : decode cX3_takeEffect 56 = .ok (.aload_n 0, 1) := by decide +kernel
theorem dX3_takeEffect_57 : decode cX3_takeEffect 57 = .ok (.iload_n 2, 1) := by decide +kernel
theorem dX3_takeEffect_58 : decode cX3_takeEffect 58 = .ok (.aload_n 0, 1) := by decide +kernel
theorem dX3_takeEffect_59 : decode cX3_takeEffect 59 = .ok (.getfield 104, 3) := by decide +kernel
theorem dX3_takeEffect_62 : decode cX3_takeEffect 62 = .ok (.invokestatic 120, 3) := by decide +kernel
theorem dX3_takeEffect_65 : decode cX3_takeEffect 65 = .ok (.putfield 126, 3) := by decide +kernel
theorem dX3_takeEffect_68 : decode cX3_takeEffect 68 = .ok (.goto 69, 3) := by decide +kernel
theorem dX3_takeEffect_71 : decode cX3_takeEffect 71 = .ok (.aload_n 0, 1) := by decide +kernel
theorem dX3_takeEffect_72 : decode cX3_takeEffect 72 = .ok (.iload_n 2, 1) := by decide +kernel
theorem dX3_takeEffect_73 : decode cX3_takeEffect 73 = .ok (.putfield 128, 3) := by decide +kernel
theorem dX3_takeEffect_76 : decode cX3_takeEffect 76 = .ok (.goto 61, 3) := by decide +kernel
theorem dX3_takeEffect_79 : decode cX3_takeEffect 79 = .ok (.aload_n 0, 1) := by decide +kernel
theorem dX3_takeEffect_80 : decode cX3_takeEffect 80 = .ok (.getfield 130, 3) := by decide +kernel
theorem dX3_takeEffect_83 : decode cX3_takeEffect 83 = .ok (.iload_n 2, 1) := by decide +kernel
theorem dX3_takeEffect_84 : decode cX3_takeEffect 84 = .ok (.iload_n 3, 1) := by decide +kernel
theorem dX3_takeEffect_85 : decode cX3_takeEffect 85 = .ok (.iastore, 1) := by decide +kernel
theorem dX3_takeEffect_86 : decode cX3_takeEffect 86 = .ok (.goto 51, 3) := by decide +kernel
theorem dX3_takeEffect_89 : decode cX3_takeEffect 89 = .ok (.aload_n 0, 1) := by decide +kernel
theorem dX3_takeEffect_90 : decode cX3_takeEffect 90 = .ok (.getfield 133, 3) := by decide +kernel
theorem dX3_takeEffect_93 : decode cX3_takeEffect 93 = .ok (.iload_n 2, 1) := by decide +kernel
theorem dX3_takeEffect_94 : decode cX3_takeEffect 94 = .ok (.iload_n 3, 1) := by decide +kernel
theorem dX3_takeEffect_95 : decode cX3_takeEffect 95 = .ok (.invokestatic 136, 3) := by decide +kernel
theorem dX3_takeEffect_98 : decode cX3_takeEffect 98 = .ok (.goto 39, 3) := by decide +kernel
theorem dX3_takeEffect_101 : decode cX3_takeEffect 101 = .ok (.aload_n 0, 1) := by decide +kernel
theorem dX3_takeEffect_102 : decode cX3_takeEffect 102 = .ok (.iload_n 2, 1) := by decide +kernel
theorem dX3_takeEffect_103 : decode cX3_takeEffect 103 = .ok (.iload_n 3, 1) := by decide +kernel
theorem dX3_takeEffect_104 : decode cX3_takeEffect 104 = .ok (.invokevirtual 142, 3) := by decide +kernel
theorem dX3_takeEffect_107 : decode cX3_takeEffect 107 = .ok (.pop, 1) := by decide +kernel
theorem dX3_takeEffect_108 : decode cX3_takeEffect 108 = .ok (.goto 29, 3) := by decide +kernel
theorem dX3_takeEffect_111 : decode cX3_takeEffect 111 = .ok (.aload_n 0, 1) := by decide +kernel
theorem dX3_takeEffect_112 : decode cX3_takeEffect 112 = .ok (.iload_n 2, 1) := by decide +kernel
theorem dX3_takeEffect_113 : decode cX3_takeEffect 113 = .ok (.iconst 0, 1) := by decide +kernel
theorem dX3_takeEffect_114 : decode cX3_takeEffect 114 = .ok (.invokevirtual 142, 3) := by decide +kernel
theorem dX3_takeEffect_117 : decode cX3_takeEffect 117 = .ok (.pop, 1) := by decide +kernel
theorem dX3_takeEffect_118 : decode cX3_takeEffect 118 = .ok (.goto 19, 3) := by decide +kernel
theorem dX3_takeEffect_121 : decode cX3_takeEffect 121 = .ok (.aload_n 0, 1) := by decide +kernel
theorem dX3_takeEffect_122 : decode cX3_takeEffect 122 = .ok (.getfield 107, 3) := by decide +kernel
theorem dX3_takeEffect_125 : decode cX3_takeEffect 125 = .ok (.iload_n 2, 1) := by decide +kernel
theorem dX3_takeEffect_126 : decode cX3_takeEffect 126 = .ok (.iload_n 3, 1) := by decide +kernel
theorem dX3_takeEffect_127 : decode cX3_takeEffect 127 = .ok (.iastore, 1) := by decide +kernel
theorem dX3_takeEffect_128 : decode cX3_takeEffect 128 = .ok (.goto 9, 3) := by decide +kernel
theorem dX3_takeEffect_131 : decode cX3_takeEffect 131 = .ok (.aload_n 0, 1) := by decide +kernel
theorem dX3_takeEffect_132 : decode cX3_takeEffect 132 = .ok (.iload_n 2, 1) := by decide +kernel
theorem dX3_takeEffect_133 : decode cX3_takeEffect 133 = .ok (.invokevirtual 145, 3) := by decide +kernel
theorem dX3_takeEffect_136 : decode cX3_takeEffect 136 = .ok (.pop, 1) := by decide +kernel
theorem dX3_takeEffect_137 : decode cX3_takeEffect 137 = .ok (.return_, 1) := by decide +kernel
theorem dX3_toNextToken_0 : decode cX3_toNextToken 0 = .ok (.aload_n 0, 1) := by decide +kernel
theorem dX3_toNextToken_1 : decode cX3_toNextToken 1 = .ok (.getfield 19, 3) := by decide +kernel
theorem dX3_toNextToken_4 : decode cX3_toNextToken 4 = .ok (.aload_n 0, 1) := by decide +kernel
theorem dX3_toNextToken_5 : decode cX3_toNextToken 5 = .ok (.getfield 15, 3) := by decide +kernel
theorem dX3_toNextToken_8 : decode cX3_toNextToken 8 = .ok (.if_icmp .ge 30, 3) := by decide +kernel
theorem dX3_toNextToken_11 : decode cX3_toNextToken 11 = .ok (.aload_n 0, 1) := by decide +kernel
theorem dX3_toNextToken_12 : decode cX3_toNextToken 12 = .ok (.getfield 9, 3) := by decide +kernel
theorem dX3_toNextToken_15 : decode cX3_toNextToken 15 = .ok (.aload_n 0, 1) := by decide +kernel
theorem dX3_toNextToken_16 : decode cX3_toNextToken 16 = .ok (.getfield 19, 3) := by decide +kernel
theorem dX3_toNextToken_19 : decode cX3_toNextToken 19 = .ok (.baload, 1) := by decide +kernel
theorem dX3_toNextToken_20 : decode cX3_toNextToken 20 = .ok (.bipush 32, 2) := by decide +kernel
theorem dX3_toNextToken_22 : decode cX3_toNextToken 22 = .ok (.if_icmp .ne 16, 3) := by decide +kernel
theorem dX3_toNextToken_25 : decode cX3_toNextToken 25 = .ok (.aload_n 0, 1) := by decide +kernel
theorem dX3_toNextToken_26 : decode cX3_toNextToken 26 = .ok (.dup, 1) := by decide +kernel
theorem dX3_toNextToken_27 : decode cX3_toNextToken 27 = .ok (.getfield 19, 3) := by decide +kernel
theorem dX3_toNextToken_30 : decode cX3_toNextToken 30 = .ok (.iconst 1, 1) := by decide +kernel
theorem dX3_toNextToken_31 : decode cX3_toNextToken 31 = .ok (.iadd, 1) := by decide +kernel
theorem dX3_toNextToken_32 : decode cX3_toNextToken 32 = .ok (.putfield 19, 3) := by decide +kernel
theorem dX3_toNextToken_35 : decode cX3_toNextToken 35 = .ok (.goto (-35), 3) := by decide +kernel
theorem dX3_toNextToken_38 : decode cX3_toNextToken 38 = .ok (.aload_n 0, 1) := by decide +kernel
theorem dX3_toNextToken_39 : decode cX3_toNextToken 39 = .ok (.aload_n 0, 1) := by decide +kernel
theorem dX3_toNextToken_40 : decode cX3_toNextToken 40 = .ok (.getfield 19, 3) := by decide +kernel
theorem dX3_toNextToken_43 : decode cX3_toNextToken 43 = .ok (.putfield 25, 3) := by decide +kernel
theorem dX3_toNextToken_46 : decode cX3_toNextToken 46 = .ok (.aload_n 0, 1) := by decide +kernel
theorem dX3_toNextToken_47 : decode cX3_toNextToken 47 = .ok (.getfield 19, 3) := by decide +kernel
theorem dX3_toNextToken_50 : decode cX3_toNextToken 50 = .ok (.aload_n 0, 1) := by decide +kernel
theorem dX3_toNextToken_51 : decode cX3_toNextToken 51 = .ok (.getfield 15, 3) := by decide +kernel
theorem dX3_toNextToken_54 : decode cX3_toNextToken 54 = .ok (.if_icmp .lt 11, 3) := by decide +kernel
theorem dX3_toNextToken_57 : decode cX3_toNextToken 57 = .ok (.aload_n 0, 1) := by decide +kernel
theorem dX3_toNextToken_58 : decode cX3_toNextToken 58 = .ok (.iconst 0, 1) := by decide +kernel
theorem dX3_toNextToken_59 : decode cX3_toNextToken 59 = .ok (.putfield 22, 3) := by decide +kernel
theorem dX3_toNextToken_62 : decode cX3_toNextToken 62 = .ok (.goto 88, 3) := by decide +kernel
theorem dX3_toNextToken_65 : decode cX3_toNextToken 65 = .ok (.aload_n 0, 1) := by decide +kernel
theorem dX3_toNextToken_66 : decode cX3_toNextToken 66 = .ok (.getfield 9, 3) := by decide +kernel
theorem dX3_toNextToken_69 : decode cX3_toNextToken 69 = .ok (.aload_n 0, 1) := by decide +kernel
theorem dX3_toNextToken_70 : decode cX3_toNextToken 70 = .ok (.getfield 19, 3) := by decide +kernel
theorem dX3_toNextToken_73 : decode cX3_toNextToken 73 = .ok (.baload, 1) := by decide +kernel
theorem dX3_toNextToken_74 : decode cX3_toNextToken 74 = .ok (.bipush 97, 2) := by decide +kernel
theorem dX3_toNextToken_76 : decode cX3_toNextToken 76 = .ok (.bipush 122, 2) := by decide +kernel
theorem dX3_toNextToken_78 : decode cX3_toNextToken 78 = .ok (.invokestatic 149, 3) := by decide +kernel
theorem dX3_toNextToken_81 : decode cX3_toNextToken 81 = .ok (.ifCond .eq 10, 3) := by decide +kernel
theorem dX3_toNextToken_84 : decode cX3_toNextToken 84 = .ok (.aload_n 0, 1) := by decide +kernel
theorem dX3_toNextToken_85 : decode cX3_toNextToken 85 = .ok (.invokevirtual 153, 3) := by decide +kernel
theorem dX3_toNextToken_88 : decode cX3_toNextToken 88 = .ok (.goto 62, 3) := by decide +kernel
theorem dX3_toNextToken_91 : decode cX3_toNextToken 91 = .ok (.aload_n 0, 1) := by decide +kernel
theorem dX3_toNextToken_92 : decode cX3_toNextToken 92 = .ok (.getfield 9, 3) := by decide +kernel
theorem dX3_toNextToken_95 : decode cX3_toNextToken 95 = .ok (.aload_n 0, 1) := by decide +kernel
theorem dX3_toNextToken_96 : decode cX3_toNextToken 96 = .ok (.getfield 19, 3) := by decide +kernel
theorem dX3_toNextToken_99 : decode cX3_toNextToken 99 = .ok (.baload, 1) := by decide +kernel
theorem dX3_toNextToken_100 : decode cX3_toNextToken 100 = .ok (.bipush 48, 2) := by decide +kernel
theorem dX3_toNextToken_102 : decode cX3_toNextToken 102 = .ok (.bipush 57, 2) := by decide +kernel
theorem dX3_toNextToken_104 : decode cX3_toNextToken 104 = .ok (.invokestatic 149, 3) := by decide +kernel
theorem dX3_toNextToken_107 : decode cX3_toNextToken 107 = .ok (.ifCond .eq 10, 3) := by decide +kernel
theorem dX3_toNextToken_110 : decode cX3_toNextToken 110 = .ok (.aload_n 0, 1) := by decide +kernel
theorem dX3_toNextToken_111 : decode cX3_toNextToken 111 = .ok (.invokevirtual 156, 3) := by decide +kernel
theorem dX3_toNextToken_114 : decode cX3_toNextToken 114 = .ok (.goto 36, 3) := by decide +kernel
theorem dX3_toNextToken_117 : decode cX3_toNextToken 117 = .ok (.aload_n 0, 1) := by decide +kernel
theorem dX3_toNextToken_118 : decode cX3_toNextToken 118 = .ok (.aload_n 0, 1) := by decide +kernel
theorem dX3_toNextToken_119 : decode cX3_toNextToken 119 = .ok (.getfield 9, 3) := by decide +kernel
theorem dX3_toNextToken_122 : decode cX3_toNextToken 122 = .ok (.aload_n 0, 1) := by decide +kernel
theorem dX3_toNextToken_123 : decode cX3_toNextToken 123 = .ok (.getfield 19, 3) := by decide +kernel
theorem dX3_toNextToken_126 : decode cX3_toNextToken 126 = .ok (.baload, 1) := by decide +kernel
theorem dX3_toNextToken_127 : decode cX3_toNextToken 127 = .ok (.bipush 59, 2) := by decide +kernel
theorem dX3_toNextToken_129 : decode cX3_toNextToken 129 = .ok (.if_icmp .ne 7, 3) := by decide +kernel
theorem dX3_toNextToken_132 : decode cX3_toNextToken 132 = .ok (.iconst 3, 1) := by decide +kernel
theorem dX3_toNextToken_133 : decode cX3_toNextToken 133 = .ok (.goto 4, 3) := by decide +kernel
theorem dX3_toNextToken_136 : decode cX3_toNextToken 136 = .ok (.iconst 4, 1) := by decide +kernel
theorem dX3_toNextToken_137 : decode cX3_toNextToken 137 = .ok (.putfield 22, 3) := by decide +kernel
theorem dX3_toNextToken_140 : decode cX3_toNextToken 140 = .ok (.aload_n 0, 1) := by decide +kernel
theorem dX3_toNextToken_141 : decode cX3_toNextToken 141 = .ok (.dup, 1) := by decide +kernel
theorem dX3_toNextToken_142 : decode cX3_toNextToken 142 = .ok (.getfield 19, 3) := by decide +kernel
theorem dX3_toNextToken_145 : decode cX3_toNextToken 145 = .ok (.iconst 1, 1) := by decide +kernel
theorem dX3_toNextToken_146 : decode cX3_toNextToken 146 = .ok (.iadd, 1) := by decide +kernel
theorem dX3_toNextToken_147 : decode cX3_toNextToken 147 = .ok (.putfield 19, 3) := by decide +kernel
theorem dX3_toNextToken_150 : decode cX3_toNextToken 150 = .ok (.return_, 1) := by decide +kernel
theorem dX3_isWithin_0 : decode cX3_isWithin 0 = .ok (.iload_n 0, 1) := by decide +kernel
theorem dX3_isWithin_1 : decode cX3_isWithin 1 = .ok (.iload_n 1, 1) := by decide +kernel
theorem dX3_isWithin_2 : decode cX3_isWithin 2 = .ok (.if_icmp .lt 12, 3) := by decide +kernel
theorem dX3_isWithin_5 : decode cX3_isWithin 5 = .ok (.iload_n 0, 1) := by decide +kernel
theorem dX3_isWithin_6 : decode cX3_isWithin 6 = .ok (.iload_n 2, 1) := by decide +kernel
theorem dX3_isWithin_7 : decode cX3_isWithin 7 = .ok (.if_icmp .gt 7, 3) := by decide +kernel
theorem dX3_isWithin_10 : decode cX3_isWithin 10 = .ok (.iconst 1, 1) := by decide +kernel
theorem dX3_isWithin_11 : decode cX3_isWithin 11 = .ok (.goto 4, 3) := by decide +kernel
theorem dX3_isWithin_14 : decode cX3_isWithin 14 = .ok (.iconst 0, 1) := by decide +kernel
theorem dX3_isWithin_15 : decode cX3_isWithin 15 = .ok (.ireturn, 1) := by decide +kernel
theorem dX3_takeWord_0 : decode cX3_takeWord 0 = .ok (.aload_n 0, 1) := by decide +kernel
theorem dX3_takeWord_1 : decode cX3_takeWord 1 = .ok (.iconst 1, 1) := by decide +kernel
theorem dX3_takeWord_2 : decode cX3_takeWord 2 = .ok (.putfield 22, 3) := by decide +kernel
theorem dX3_takeWord_5 : decode cX3_takeWord 5 = .ok (.aload_n 0, 1) := by decide +kernel
theorem dX3_takeWord_6 : decode cX3_takeWord 6 = .ok (.getfield 19, 3) := by decide +kernel
theorem dX3_takeWord_9 : decode cX3_takeWord 9 = .ok (.aload_n 0, 1) := by decide +kernel
theorem dX3_takeWord_10 : decode cX3_takeWord 10 = .ok (.getfield 15, 3) := by decide +kernel
theorem dX3_takeWord_13 : decode cX3_takeWord 13 = .ok (.if_icmp .ge 35, 3) := by decide +kernel
theorem dX3_takeWord_16 : decode cX3_takeWord 16 = .ok (.aload_n 0, 1) := by decide +kernel
theorem dX3_takeWord_17 : decode cX3_takeWord 17 = .ok (.getfield 9, 3) := by decide +kernel
theorem dX3_takeWord_20 : decode cX3_takeWord 20 = .ok (.aload_n 0, 1) := by decide +kernel
theorem dX3_takeWord_21 : decode cX3_takeWord 21 = .ok (.getfield 19, 3) := by decide +kernel
theorem dX3_takeWord_24 : decode cX3_takeWord 24 = .ok (.baload, 1) := by decide +kernel
theorem dX3_takeWord_25 : decode cX3_takeWord 25 = .ok (.bipush 97, 2) := by decide +kernel
theorem dX3_takeWord_27 : decode cX3_takeWord 27 = .ok (.bipush 122, 2) := by decide +kernel
theorem dX3_takeWord_29 : decode cX3_takeWord 29 = .ok (.invokestatic 149, 3) := by decide +kernel
theorem dX3_takeWord_32 : decode cX3_takeWord 32 = .ok (.ifCond .eq 16, 3) := by decide +kernel
theorem dX3_takeWord_35 : decode cX3_takeWord 35 = .ok (.aload_n 0, 1) := by decide +kernel
theorem dX3_takeWord_36 : decode cX3_takeWord 36 = .ok (.dup, 1) := by decide +kernel
theorem dX3_takeWord_37 : decode cX3_takeWord 37 = .ok (.getfield 19, 3) := by decide +kernel
theorem dX3_takeWord_40 : decode cX3_takeWord 40 = .ok (.iconst 1, 1) := by decide +kernel
theorem dX3_takeWord_41 : decode cX3_takeWord 41 = .ok (.iadd, 1) := by decide +kernel
theorem dX3_takeWord_42 : decode cX3_takeWord 42 = .ok (.putfield 19, 3) := by decide +kernel
theorem dX3_takeWord_45 : decode cX3_takeWord 45 = .ok (.goto (-40), 3) := by decide +kernel
theorem dX3_takeWord_48 : decode cX3_takeWord 48 = .ok (.return_, 1) := by decide +kernel
theorem dX3_takeFigures_0 : decode cX3_takeFigures 0 = .ok (.aload_n 0, 1) := by decide +kernel
theorem dX3_takeFigures_1 : decode cX3_takeFigures 1 = .ok (.iconst 0, 1) := by decide +kernel
theorem dX3_takeFigures_2 : decode cX3_takeFigures 2 = .ok (.putfield 28, 3) := by decide +kernel
theorem dX3_takeFigures_5 : decode cX3_takeFigures 5 = .ok (.aload_n 0, 1) := by decide +kernel
theorem dX3_takeFigures_6 : decode cX3_takeFigures 6 = .ok (.getfield 19, 3) := by decide +kernel
theorem dX3_takeFigures_9 : decode cX3_takeFigures 9 = .ok (.aload_n 0, 1) := by decide +kernel
theorem dX3_takeFigures_10 : decode cX3_takeFigures 10 = .ok (.getfield 15, 3) := by decide +kernel
theorem dX3_takeFigures_13 : decode cX3_takeFigures 13 = .ok (.if_icmp .ge 65, 3) := by decide +kernel
theorem dX3_takeFigures_16 : decode cX3_takeFigures 16 = .ok (.aload_n 0, 1) := by decide +kernel
theorem dX3_takeFigures_17 : decode cX3_takeFigures 17 = .ok (.getfield 9, 3) := by decide +kernel
theorem dX3_takeFigures_20 : decode cX3_takeFigures 20 = .ok (.aload_n 0, 1) := by decide +kernel
theorem dX3_takeFigures_21 : decode cX3_takeFigures 21 = .ok (.getfield 19, 3) := by decide +kernel
theorem dX3_takeFigures_24 : decode cX3_takeFigures 24 = .ok (.baload, 1) := by decide +kernel
theorem dX3_takeFigures_25 : decode cX3_takeFigures 25 = .ok (.bipush 48, 2) := by decide +kernel
theorem dX3_takeFigures_27 : decode cX3_takeFigures 27 = .ok (.bipush 57, 2) := by decide +kernel
theorem dX3_takeFigures_29 : decode cX3_takeFigures 29 = .ok (.invokestatic 149, 3) := by decide +kernel
theorem dX3_takeFigures_32 : decode cX3_takeFigures 32 = .ok (.ifCond .eq 46, 3) := by decide +kernel
theorem dX3_takeFigures_35 : decode cX3_takeFigures 35 = .ok (.aload_n 0, 1) := by decide +kernel
theorem dX3_takeFigures_36 : decode cX3_takeFigures 36 = .ok (.sipush 9999, 3) := by decide +kernel
theorem dX3_takeFigures_39 : decode cX3_takeFigures 39 = .ok (.bipush 10, 2) := by decide +kernel
theorem dX3_takeFigures_41 : decode cX3_takeFigures 41 = .ok (.aload_n 0, 1) := by decide +kernel
theorem dX3_takeFigures_42 : decode cX3_takeFigures 42 = .ok (.getfield 28, 3) := by decide +kernel
theorem dX3_takeFigures_45 : decode cX3_takeFigures 45 = .ok (.imul, 1) := by decide +kernel
theorem dX3_takeFigures_46 : decode cX3_takeFigures 46 = .ok (.aload_n 0, 1) := by decide +kernel
theorem dX3_takeFigures_47 : decode cX3_takeFigures 47 = .ok (.getfield 9, 3) := by decide +kernel
theorem dX3_takeFigures_50 : decode cX3_takeFigures 50 = .ok (.aload_n 0, 1) := by decide +kernel
theorem dX3_takeFigures_51 : decode cX3_takeFigures 51 = .ok (.getfield 19, 3) := by decide +kernel
theorem dX3_takeFigures_54 : decode cX3_takeFigures 54 = .ok (.baload, 1) := by decide +kernel
theorem dX3_takeFigures_55 : decode cX3_takeFigures 55 = .ok (.iadd, 1) := by decide +kernel
theorem dX3_takeFigures_56 : decode cX3_takeFigures 56 = .ok (.bipush 48, 2) := by decide +kernel
theorem dX3_takeFigures_58 : decode cX3_takeFigures 58 = .ok (.isub, 1) := by decide +kernel
theorem dX3_takeFigures_59 : decode cX3_takeFigures 59 = .ok (.invokestatic 120, 3) := by decide +kernel
theorem dX3_takeFigures_62 : decode cX3_takeFigures 62 = .ok (.putfield 28, 3) := by decide +kernel
theorem dX3_takeFigures_65 : decode cX3_takeFigures 65 = .ok (.aload_n 0, 1) := by decide +kernel
theorem dX3_takeFigures_66 : decode cX3_takeFigures 66 = .ok (.dup, 1) := by decide +kernel
theorem dX3_takeFigures_67 : decode cX3_takeFigures 67 = .ok (.getfield 19, 3) := by decide +kernel
theorem dX3_takeFigures_70 : decode cX3_takeFigures 70 = .ok (.iconst 1, 1) := by decide +kernel
theorem dX3_takeFigures_71 : decode cX3_takeFigures 71 = .ok (.iadd, 1) := by decide +kernel
theorem dX3_takeFigures_72 : decode cX3_takeFigures 72 = .ok (.putfield 19, 3) := by decide +kernel
theorem dX3_takeFigures_75 : decode cX3_takeFigures 75 = .ok (.goto (-70), 3) := by decide +kernel
theorem dX3_takeFigures_78 : decode cX3_takeFigures 78 = .ok (.aload_n 0, 1) := by decide +kernel
theorem dX3_takeFigures_79 : decode cX3_takeFigures 79 = .ok (.aload_n 0, 1) := by decide +kernel
theorem dX3_takeFigures_80 : decode cX3_takeFigures 80 = .ok (.getfield 19, 3) := by decide +kernel
theorem dX3_takeFigures_83 : decode cX3_takeFigures 83 = .ok (.aload_n 0, 1) := by decide +kernel
theorem dX3_takeFigures_84 : decode cX3_takeFigures 84 = .ok (.getfield 25, 3) := by decide +kernel
theorem dX3_takeFigures_87 : decode cX3_takeFigures 87 = .ok (.isub, 1) := by decide +kernel
theorem dX3_takeFigures_88 : decode cX3_takeFigures 88 = .ok (.iconst 4, 1) := by decide +kernel
theorem dX3_takeFigures_89 : decode cX3_takeFigures 89 = .ok (.if_icmp .gt 7, 3) := by decide +kernel
theorem dX3_takeFigures_92 : decode cX3_takeFigures 92 = .ok (.iconst 2, 1) := by decide +kernel
theorem dX3_takeFigures_93 : decode cX3_takeFigures 93 = .ok (.goto 4, 3) := by decide +kernel
theorem dX3_takeFigures_96 : decode cX3_takeFigures 96 = .ok (.iconst 4, 1) := by decide +kernel
theorem dX3_takeFigures_97 : decode cX3_takeFigures 97 = .ok (.putfield 22, 3) := by decide +kernel
theorem dX3_takeFigures_100 : decode cX3_takeFigures 100 = .ok (.return_, 1) := by decide +kernel
theorem dX4_setToFirst_0 : decode cX4_setToFirst 0 = .ok (.iconst 0, 1) := by decide +kernel
theorem dX4_setToFirst_1 : decode cX4_setToFirst 1 = .ok (.istore_n 2, 1) := by decide +kernel
theorem dX4_setToFirst_2 : decode cX4_setToFirst 2 = .ok (.iload_n 2, 1) := by decide +kernel
theorem dX4_setToFirst_3 : decode cX4_setToFirst 3 = .ok (.iload_n 1, 1) := by decide +kernel
theorem dX4_setToFirst_4 : decode cX4_setToFirst 4 = .ok (.if_icmp .ge 13, 3) := by decide +kernel
theorem dX4_setToFirst_7 : decode cX4_setToFirst 7 = .ok (.aload_n 0, 1) := by decide +kernel
theorem dX4_setToFirst_8 : decode cX4_setToFirst 8 = .ok (.iload_n 2, 1) := by decide +kernel
theorem dX4_setToFirst_9 : decode cX4_setToFirst 9 = .ok (.iload_n 2, 1) := by decide +kernel
theorem dX4_setToFirst_10 : decode cX4_setToFirst 10 = .ok (.iastore, 1) := by decide +kernel
theorem dX4_setToFirst_11 : decode cX4_setToFirst 11 = .ok (.iinc 2 1, 3) := by decide +kernel
theorem dX4_setToFirst_14 : decode cX4_setToFirst 14 = .ok (.goto (-12), 3) := by decide +kernel
theorem dX4_setToFirst_17 : decode cX4_setToFirst 17 = .ok (.return_, 1) := by decide +kernel
theorem dX4_exchange_0 : decode cX4_exchange 0 = .ok (.aload_n 0, 1) := by decide +kernel
theorem dX4_exchange_1 : decode cX4_exchange 1 = .ok (.iload_n 1, 1) := by decide +kernel
theorem dX4_exchange_2 : decode cX4_exchange 2 = .ok (.iaload, 1) := by decide +kernel
theorem dX4_exchange_3 : decode cX4_exchange 3 = .ok (.istore_n 3, 1) := by decide +kernel
theorem dX4_exchange_4 : decode cX4_exchange 4 = .ok (.aload_n 0, 1) := by decide +kernel
theorem dX4_exchange_5 : decode cX4_exchange 5 = .ok (.iload_n 1, 1) := by decide +kernel
theorem dX4_exchange_6 : decode cX4_exchange 6 = .ok (.aload_n 0, 1) := by decide +kernel
theorem dX4_exchange_7 : decode cX4_exchange 7 = .ok (.iload_n 2, 1) := by decide +kernel
theorem dX4_exchange_8 : decode cX4_exchange 8 = .ok (.iaload, 1) := by decide +kernel
theorem dX4_exchange_9 : decode cX4_exchange 9 = .ok (.iastore, 1) := by decide +kernel
theorem dX4_exchange_10 : decode cX4_exchange 10 = .ok (.aload_n 0, 1) := by decide +kernel
theorem dX4_exchange_11 : decode cX4_exchange 11 = .ok (.iload_n 2, 1) := by decide +kernel
theorem dX4_exchange_12 : decode cX4_exchange 12 = .ok (.iload_n 3, 1) := by decide +kernel
theorem dX4_exchange_13 : decode cX4_exchange 13 = .ok (.iastore, 1) := by decide +kernel
theorem dX4_exchange_14 : decode cX4_exchange 14 = .ok (.return_, 1) := by decide +kernel
theorem dX4_setToNext_0 : decode cX4_setToNext 0 = .ok (.iload_n 1, 1) := by decide +kernel
theorem dX4_setToNext_1 : decode cX4_setToNext 1 = .ok (.iconst 2, 1) := by decide +kernel
theorem dX4_setToNext_2 : decode cX4_setToNext 2 = .ok (.isub, 1) := by decide +kernel
theorem dX4_setToNext_3 : decode cX4_setToNext 3 = .ok (.istore_n 2, 1) := by decide +kernel
theorem dX4_setToNext_4 : decode cX4_setToNext 4 = .ok (.iload_n 2, 1) := by decide +kernel
theorem dX4_setToNext_5 : decode cX4_setToNext 5 = .ok (.ifCond .lt 20, 3) := by decide +kernel
theorem dX4_setToNext_8 : decode cX4_setToNext 8 = .ok (.aload_n 0, 1) := by decide +kernel
theorem dX4_setToNext_9 : decode cX4_setToNext 9 = .ok (.iload_n 2, 1) := by decide +kernel
theorem dX4_setToNext_10 : decode cX4_setToNext 10 = .ok (.iaload, 1) := by decide +kernel
theorem dX4_setToNext_11 : decode cX4_setToNext 11 = .ok (.aload_n 0, 1) := by decide +kernel
theorem dX4_setToNext_12 : decode cX4_setToNext 12 = .ok (.iload_n 2, 1) := by decide +kernel
theorem dX4_setToNext_13 : decode cX4_setToNext 13 = .ok (.iconst 1, 1) := by decide +kernel
theorem dX4_setToNext_14 : decode cX4_setToNext 14 = .ok (.iadd, 1) := by decide +kernel
theorem dX4_setToNext_15 : decode cX4_setToNext 15 = .ok (.iaload, 1) := by decide +kernel
theorem dX4_setToNext_16 : decode cX4_setToNext 16 = .ok (.if_icmp .le 9, 3) := by decide +kernel
theorem dX4_setToNext_19 : decode cX4_setToNext 19 = .ok (.iinc 2 (-1), 3) := by decide +kernel
theorem dX4_setToNext_22 : decode cX4_setToNext 22 = .ok (.goto (-18), 3) := by decide +kernel
theorem dX4_setToNext_25 : decode cX4_setToNext 25 = .ok (.iload_n 2, 1) := by decide +kernel
theorem dX4_setToNext_26 : decode cX4_setToNext 26 = .ok (.ifCond .lt 33, 3) := by decide +kernel
theorem dX4_setToNext_29 : decode cX4_setToNext 29 = .ok (.iload_n 1, 1) := by decide +kernel
theorem dX4_setToNext_30 : decode cX4_setToNext 30 = .ok (.iconst 1, 1) := by decide +kernel
theorem dX4_setToNext_31 : decode cX4_setToNext 31 = .ok (.isub, 1) := by decide +kernel
theorem dX4_setToNext_32 : decode cX4_setToNext 32 = .ok (.istore_n 3, 1) := by decide +kernel
theorem dX4_setToNext_33 : decode cX4_setToNext 33 = .ok (.iload_n 3, 1) := by decide +kernel
theorem dX4_setToNext_34 : decode cX4_setToNext 34 = .ok (.iload_n 2, 1) := by decide +kernel
theorem dX4_setToNext_35 : decode cX4_setToNext 35 = .ok (.if_icmp .le 18, 3) := by decide +kernel
theorem dX4_setToNext_38 : decode cX4_setToNext 38 = .ok (.aload_n 0, 1) := by decide +kernel
theorem dX4_setToNext_39 : decode cX4_setToNext 39 = .ok (.iload_n 3, 1) := by decide +kernel
theorem dX4_setToNext_40 : decode cX4_setToNext 40 = .ok (.iaload, 1) := by decide +kernel
theorem dX4_setToNext_41 : decode cX4_setToNext 41 = .ok (.aload_n 0, 1) := by decide +kernel
theorem dX4_setToNext_42 : decode cX4_setToNext 42 = .ok (.iload_n 2, 1) := by decide +kernel
theorem dX4_setToNext_43 : decode cX4_setToNext 43 = .ok (.iaload, 1) := by decide +kernel
theorem dX4_setToNext_44 : decode cX4_setToNext 44 = .ok (.if_icmp .ge 9, 3) := by decide +kernel
theorem dX4_setToNext_47 : decode cX4_setToNext 47 = .ok (.iinc 3 (-1), 3) := by decide +kernel
theorem dX4_setToNext_50 : decode cX4_setToNext 50 = .ok (.goto (-17), 3) := by decide +kernel
theorem dX4_setToNext_53 : decode cX4_setToNext 53 = .ok (.aload_n 0, 1) := by decide +kernel
theorem dX4_setToNext_54 : decode cX4_setToNext 54 = .ok (.iload_n 2, 1) := by decide +kernel
theorem dX4_setToNext_55 : decode cX4_setToNext 55 = .ok (.iload_n 3, 1) := by decide +kernel
theorem dX4_setToNext_56 : decode cX4_setToNext 56 = .ok (.invokestatic 7, 3) := by decide +kernel
theorem dX4_setToNext_59 : decode cX4_setToNext 59 = .ok (.iload_n 2, 1) := by decide +kernel
theorem dX4_setToNext_60 : decode cX4_setToNext 60 = .ok (.iconst 1, 1) := by decide +kernel
theorem dX4_setToNext_61 : decode cX4_setToNext 61 = .ok (.iadd, 1) := by decide +kernel
theorem dX4_setToNext_62 : decode cX4_setToNext 62 = .ok (.istore_n 3, 1) := by decide +kernel
theorem dX4_setToNext_63 : decode cX4_setToNext 63 = .ok (.iload_n 1, 1) := by decide +kernel
theorem dX4_setToNext_64 : decode cX4_setToNext 64 = .ok (.iconst 1, 1) := by decide +kernel
theorem dX4_setToNext_65 : decode cX4_setToNext 65 = .ok (.isub, 1) := by decide +kernel
theorem dX4_setToNext_66 : decode cX4_setToNext 66 = .ok (.istore 4, 2) := by decide +kernel
theorem dX4_setToNext_68 : decode cX4_setToNext 68 = .ok (.iload_n 3, 1) := by decide +kernel
theorem dX4_setToNext_69 : decode cX4_setToNext 69 = .ok (.iload 4, 2) := by decide +kernel
theorem dX4_setToNext_71 : decode cX4_setToNext 71 = .ok (.if_icmp .ge 19, 3) := by decide +kernel
theorem dX4_setToNext_74 : decode cX4_setToNext 74 = .ok (.aload_n 0, 1) := by decide +kernel
theorem dX4_setToNext_75 : decode cX4_setToNext 75 = .ok (.iload_n 3, 1) := by decide +kernel
theorem dX4_setToNext_76 : decode cX4_setToNext 76 = .ok (.iload 4, 2) := by decide +kernel
theorem dX4_setToNext_78 : decode cX4_setToNext 78 = .ok (.invokestatic 7, 3) := by decide +kernel
theorem dX4_setToNext_81 : decode cX4_setToNext 81 = .ok (.iinc 3 1, 3) := by decide +kernel
theorem dX4_setToNext_84 : decode cX4_setToNext 84 = .ok (.iinc 4 (-1), 3) := by decide +kernel
theorem dX4_setToNext_87 : decode cX4_setToNext 87 = .ok (.goto (-19), 3) := by decide +kernel
theorem dX4_setToNext_90 : decode cX4_setToNext 90 = .ok (.return_, 1) := by decide +kernel
theorem dX4_rankOf_0 : decode cX4_rankOf 0 = .ok (.iconst 1, 1) := by decide +kernel
theorem dX4_rankOf_1 : decode cX4_rankOf 1 = .ok (.iload_n 1, 1) := by decide +kernel
theorem dX4_rankOf_2 : decode cX4_rankOf 2 = .ok (.ishl, 1) := by decide +kernel
theorem dX4_rankOf_3 : decode cX4_rankOf 3 = .ok (.iconst 1, 1) := by decide +kernel
theorem dX4_rankOf_4 : decode cX4_rankOf 4 = .ok (.isub, 1) := by decide +kernel
theorem dX4_rankOf_5 : decode cX4_rankOf 5 = .ok (.istore_n 2, 1) := by decide +kernel
theorem dX4_rankOf_6 : decode cX4_rankOf 6 = .ok (.iconst 0, 1) := by decide +kernel
theorem dX4_rankOf_7 : decode cX4_rankOf 7 = .ok (.istore_n 3, 1) := by decide +kernel
theorem dX4_rankOf_8 : decode cX4_rankOf 8 = .ok (.iconst 0, 1) := by decide +kernel
theorem dX4_rankOf_9 : decode cX4_rankOf 9 = .ok (.istore 4, 2) := by decide +kernel
theorem dX4_rankOf_11 : decode cX4_rankOf 11 = .ok (.iload 4, 2) := by decide +kernel
theorem dX4_rankOf_13 : decode cX4_rankOf 13 = .ok (.iload_n 1, 1) := by decide +kernel
theorem dX4_rankOf_14 : decode cX4_rankOf 14 = .ok (.if_icmp .ge 47, 3) := by decide +kernel
theorem dX4_rankOf_17 : decode cX4_rankOf 17 = .ok (.iconst 1, 1) := by decide +kernel
theorem dX4_rankOf_18 : decode cX4_rankOf 18 = .ok (.aload_n 0, 1) := by decide +kernel
theorem dX4_rankOf_19 : decode cX4_rankOf 19 = .ok (.iload 4, 2) := by decide +kernel
theorem dX4_rankOf_21 : decode cX4_rankOf 21 = .ok (.iaload, 1) := by decide +kernel
theorem dX4_rankOf_22 : decode cX4_rankOf 22 = .ok (.ishl, 1) := by decide +kernel
theorem dX4_rankOf_23 : decode cX4_rankOf 23 = .ok (.istore 5, 2) := by decide +kernel
theorem dX4_rankOf_25 : decode cX4_rankOf 25 = .ok (.iload_n 3, 1) := by decide +kernel
theorem dX4_rankOf_26 : decode cX4_rankOf 26 = .ok (.iload_n 2, 1) := by decide +kernel
theorem dX4_rankOf_27 : decode cX4_rankOf 27 = .ok (.iload 5, 2) := by decide +kernel
theorem dX4_rankOf_29 : decode cX4_rankOf 29 = .ok (.iconst 1, 1) := by decide +kernel
theorem dX4_rankOf_30 : decode cX4_rankOf 30 = .ok (.isub, 1) := by decide +kernel
theorem dX4_rankOf_31 : decode cX4_rankOf 31 = .ok (.iand, 1) := by decide +kernel
theorem dX4_rankOf_32 : decode cX4_rankOf 32 = .ok (.invokestatic 13, 3) := by decide +kernel
theorem dX4_rankOf_35 : decode cX4_rankOf 35 = .ok (.getstatic 19, 3) := by decide +kernel
theorem dX4_rankOf_38 : decode cX4_rankOf 38 = .ok (.iload_n 1, 1) := by decide +kernel
theorem dX4_rankOf_39 : decode cX4_rankOf 39 = .ok (.iconst 1, 1) := by decide +kernel
theorem dX4_rankOf_40 : decode cX4_rankOf 40 = .ok (.isub, 1) := by decide +kernel
theorem dX4_rankOf_41 : decode cX4_rankOf 41 = .ok (.iload 4, 2) := by decide +kernel
theorem dX4_rankOf_43 : decode cX4_rankOf 43 = .ok (.isub, 1) := by decide +kernel
theorem dX4_rankOf_44 : decode cX4_rankOf 44 = .ok (.iaload, 1) := by decide +kernel
theorem dX4_rankOf_45 : decode cX4_rankOf 45 = .ok (.imul, 1) := by decide +kernel
theorem dX4_rankOf_46 : decode cX4_rankOf 46 = .ok (.iadd, 1) := by decide +kernel
theorem dX4_rankOf_47 : decode cX4_rankOf 47 = .ok (.istore_n 3, 1) := by decide +kernel
theorem dX4_rankOf_48 : decode cX4_rankOf 48 = .ok (.iload_n 2, 1) := by decide +kernel
theorem dX4_rankOf_49 : decode cX4_rankOf 49 = .ok (.iload 5, 2) := by decide +kernel
theorem dX4_rankOf_51 : decode cX4_rankOf 51 = .ok (.iconst (-1), 1) := by decide +kernel
theorem dX4_rankOf_52 : decode cX4_rankOf 52 = .ok (.ixor, 1) := by decide +kernel
theorem dX4_rankOf_53 : decode cX4_rankOf 53 = .ok (.iand, 1) := by decide +kernel
theorem dX4_rankOf_54 : decode cX4_rankOf 54 = .ok (.istore_n 2, 1) := by decide +kernel
theorem dX4_rankOf_55 : decode cX4_rankOf 55 = .ok (.iinc 4 1, 3) := by decide +kernel
theorem dX4_rankOf_58 : decode cX4_rankOf 58 = .ok (.goto (-47), 3) := by decide +kernel
theorem dX4_rankOf_61 : decode cX4_rankOf 61 = .ok (.iload_n 3, 1) := by decide +kernel
theorem dX4_rankOf_62 : decode cX4_rankOf 62 = .ok (.ireturn, 1) := by decide +kernel
theorem dX4_setToRank_0 : decode cX4_setToRank 0 = .ok (.iconst 1, 1) := by decide +kernel
theorem dX4_setToRank_1 : decode cX4_setToRank 1 = .ok (.iload_n 1, 1) := by decide +kernel
theorem dX4_setToRank_2 : decode cX4_setToRank 2 = .ok (.ishl, 1) := by decide +kernel
theorem dX4_setToRank_3 : decode cX4_setToRank 3 = .ok (.iconst 1, 1) := by decide +kernel
theorem dX4_setToRank_4 : decode cX4_setToRank 4 = .ok (.isub, 1) := by decide +kernel
theorem dX4_setToRank_5 : decode cX4_setToRank 5 = .ok (.istore_n 3, 1) := by decide +kernel
theorem dX4_setToRank_6 : decode cX4_setToRank 6 = .ok (.iload_n 2, 1) := by decide +kernel
theorem dX4_setToRank_7 : decode cX4_setToRank 7 = .ok (.istore 4, 2) := by decide +kernel
theorem dX4_setToRank_9 : decode cX4_setToRank 9 = .ok (.iconst 0, 1) := by decide +kernel
theorem dX4_setToRank_10 : decode cX4_setToRank 10 = .ok (.istore 5, 2) := by decide +kernel
theorem dX4_setToRank_12 : decode cX4_setToRank 12 = .ok (.iload 5, 2) := by decide +kernel
theorem dX4_setToRank_14 : decode cX4_setToRank 14 = .ok (.iload_n 1, 1) := by decide +kernel
theorem dX4_setToRank_15 : decode cX4_setToRank 15 = .ok (.if_icmp .ge 55, 3) := by decide +kernel
theorem dX4_setToRank_18 : decode cX4_setToRank 18 = .ok (.getstatic 19, 3) := by decide +kernel
theorem dX4_setToRank_21 : decode cX4_setToRank 21 = .ok (.iload_n 1, 1) := by decide +kernel
theorem dX4_setToRank_22 : decode cX4_setToRank 22 = .ok (.iconst 1, 1) := by decide +kernel
theorem dX4_setToRank_23 : decode cX4_setToRank 23 = .ok (.isub, 1) := by decide +kernel
theorem dX4_setToRank_24 : decode cX4_setToRank 24 = .ok (.iload 5, 2) := by decide +kernel
theorem dX4_setToRank_26 : decode cX4_setToRank 26 = .ok (.isub, 1) := by decide +kernel
theorem dX4_setToRank_27 : decode cX4_setToRank 27 = .ok (.iaload, 1) := by decide +kernel
theorem dX4_setToRank_28 : decode cX4_setToRank 28 = .ok (.istore 6, 2) := by decide +kernel
theorem dX4_setToRank_30 : decode cX4_setToRank 30 = .ok (.iload_n 3, 1) := by decide +kernel
theorem dX4_setToRank_31 : decode cX4_setToRank 31 = .ok (.iload_n 1, 1) := by decide +kernel
theorem dX4_setToRank_32 : decode cX4_setToRank 32 = .ok (.iload 4, 2) := by decide +kernel
theorem dX4_setToRank_34 : decode cX4_setToRank 34 = .ok (.iload 6, 2) := by decide +kernel
theorem dX4_setToRank_36 : decode cX4_setToRank 36 = .ok (.idiv, 1) := by decide +kernel
theorem dX4_setToRank_37 : decode cX4_setToRank 37 = .ok (.invokestatic 25, 3) := by decide +kernel
theorem dX4_setToRank_40 : decode cX4_setToRank 40 = .ok (.istore 7, 2) := by decide +kernel
theorem dX4_setToRank_42 : decode cX4_setToRank 42 = .ok (.aload_n 0, 1) := by decide +kernel
theorem dX4_setToRank_43 : decode cX4_setToRank 43 = .ok (.iload 5, 2) := by decide +kernel
theorem dX4_setToRank_45 : decode cX4_setToRank 45 = .ok (.iload 7, 2) := by decide +kernel
theorem dX4_setToRank_47 : decode cX4_setToRank 47 = .ok (.iastore, 1) := by decide +kernel
theorem dX4_setToRank_48 : decode cX4_setToRank 48 = .ok (.iload_n 3, 1) := by decide +kernel
theorem dX4_setToRank_49 : decode cX4_setToRank 49 = .ok (.iconst 1, 1) := by decide +kernel
theorem dX4_setToRank_50 : decode cX4_setToRank 50 = .ok (.iload 7, 2) := by decide +kernel
theorem dX4_setToRank_52 : decode cX4_setToRank 52 = .ok (.ishl, 1) := by decide +kernel
theorem dX4_setToRank_53 : decode cX4_setToRank 53 = .ok (.iconst (-1), 1) := by decide +kernel
theorem dX4_setToRank_54 : decode cX4_setToRank 54 = .ok (.ixor, 1) := by decide +kernel
theorem dX4_setToRank_55 : decode cX4_setToRank 55 = .ok (.iand, 1) := by decide +kernel
theorem dX4_setToRank_56 : decode cX4_setToRank 56 = .ok (.istore_n 3, 1) := by decide +kernel
theorem dX4_setToRank_57 : decode cX4_setToRank 57 = .ok (.iload 4, 2) := by decide +kernel
theorem dX4_setToRank_59 : decode cX4_setToRank 59 = .ok (.iload 6, 2) := by decide +kernel
theorem dX4_setToRank_61 : decode cX4_setToRank 61 = .ok (.irem, 1) := by decide +kernel
theorem dX4_setToRank_62 : decode cX4_setToRank 62 = .ok (.istore 4, 2) := by decide +kernel
theorem dX4_setToRank_64 : decode cX4_setToRank 64 = .ok (.iinc 5 1, 3) := by decide +kernel
theorem dX4_setToRank_67 : decode cX4_setToRank 67 = .ok (.goto (-55), 3) := by decide +kernel
theorem dX4_setToRank_70 : decode cX4_setToRank 70 = .ok (.return_, 1) := by decide +kernel
theorem dX4_slipLeft_0 : decode cX4_slipLeft 0 = .ok (.iconst 0, 1) := by decide +kernel
theorem dX4_slipLeft_1 : decode cX4_slipLeft 1 = .ok (.istore_n 3, 1) := by decide +kernel
theorem dX4_slipLeft_2 : decode cX4_slipLeft 2 = .ok (.iconst 0, 1) := by decide +kernel
theorem dX4_slipLeft_3 : decode cX4_slipLeft 3 = .ok (.istore 4, 2) := by decide +kernel
theorem dX4_slipLeft_5 : decode cX4_slipLeft 5 = .ok (.iload 4, 2) := by decide +kernel
theorem dX4_slipLeft_7 : decode cX4_slipLeft 7 = .ok (.iload_n 1, 1) := by decide +kernel
theorem dX4_slipLeft_8 : decode cX4_slipLeft 8 = .ok (.if_icmp .ge 30, 3) := by decide +kernel
theorem dX4_slipLeft_11 : decode cX4_slipLeft 11 = .ok (.iload_n 0, 1) := by decide +kernel
theorem dX4_slipLeft_12 : decode cX4_slipLeft 12 = .ok (.iload 4, 2) := by decide +kernel
theorem dX4_slipLeft_14 : decode cX4_slipLeft 14 = .ok (.ishr, 1) := by decide +kernel
theorem dX4_slipLeft_15 : decode cX4_slipLeft 15 = .ok (.iconst 1, 1) := by decide +kernel
theorem dX4_slipLeft_16 : decode cX4_slipLeft 16 = .ok (.iand, 1) := by decide +kernel
theorem dX4_slipLeft_17 : decode cX4_slipLeft 17 = .ok (.iconst 1, 1) := by decide +kernel
theorem dX4_slipLeft_18 : decode cX4_slipLeft 18 = .ok (.if_icmp .ne 14, 3) := by decide +kernel
theorem dX4_slipLeft_21 : decode cX4_slipLeft 21 = .ok (.iload_n 3, 1) := by decide +kernel
theorem dX4_slipLeft_22 : decode cX4_slipLeft 22 = .ok (.iload_n 2, 1) := by decide +kernel
theorem dX4_slipLeft_23 : decode cX4_slipLeft 23 = .ok (.if_icmp .ne 6, 3) := by decide +kernel
theorem dX4_slipLeft_26 : decode cX4_slipLeft 26 = .ok (.iload 4, 2) := by decide +kernel
theorem dX4_slipLeft_28 : decode cX4_slipLeft 28 = .ok (.ireturn, 1) := by decide +kernel
theorem dX4_slipLeft_29 : decode cX4_slipLeft 29 = .ok (.iinc 3 1, 3) := by decide +kernel
theorem dX4_slipLeft_32 : decode cX4_slipLeft 32 = .ok (.iinc 4 1, 3) := by decide +kernel
theorem dX4_slipLeft_35 : decode cX4_slipLeft 35 = .ok (.goto (-30), 3) := by decide +kernel
theorem dX4_slipLeft_38 : decode cX4_slipLeft 38 = .ok (.iconst 0, 1) := by decide +kernel
theorem dX4_slipLeft_39 : decode cX4_slipLeft 39 = .ok (.ireturn, 1) := by decide +kernel
theorem dX4_setBySeed_0 : decode cX4_setBySeed 0 = .ok (.aload_n 0, 1) := by decide +kernel
theorem dX4_setBySeed_1 : decode cX4_setBySeed 1 = .ok (.iload_n 1, 1) := by decide +kernel
theorem dX4_setBySeed_2 : decode cX4_setBySeed 2 = .ok (.invokestatic 29, 3) := by decide +kernel
theorem dX4_setBySeed_5 : decode cX4_setBySeed 5 = .ok (.iload_n 2, 1) := by decide +kernel
theorem dX4_setBySeed_6 : decode cX4_setBySeed 6 = .ok (.i2l, 1) := by decide +kernel
theorem dX4_setBySeed_7 : decode cX4_setBySeed 7 = .ok (.lstore_n 3, 1) := by decide +kernel
theorem dX4_setBySeed_8 : decode cX4_setBySeed 8 = .ok (.iload_n 1, 1) := by decide +kernel
theorem dX4_setBySeed_9 : decode cX4_setBySeed 9 = .ok (.iconst 1, 1) := by decide +kernel
theorem dX4_setBySeed_10 : decode cX4_setBySeed 10 = .ok (.isub, 1) := by decide +kernel
theorem dX4_setBySeed_11 : decode cX4_setBySeed 11 = .ok (.istore 5, 2) := by decide +kernel
theorem dX4_setBySeed_13 : decode cX4_setBySeed 13 = .ok (.iload 5, 2) := by decide +kernel
theorem dX4_setBySeed_15 : decode cX4_setBySeed 15 = .ok (.iconst 1, 1) := by decide +kernel
theorem dX4_setBySeed_16 : decode cX4_setBySeed 16 = .ok (.if_icmp .lt 41, 3) := by decide +kernel
theorem dX4_setBySeed_19 : decode cX4_setBySeed 19 = .ok (.lload_n 3, 1) := by decide +kernel
theorem dX4_setBySeed_20 : decode cX4_setBySeed 20 = .ok (.ldc2_w 33, 3) := by decide +kernel
theorem dX4_setBySeed_23 : decode cX4_setBySeed 23 = .ok (.lmul, 1) := by decide +kernel
theorem dX4_setBySeed_24 : decode cX4_setBySeed 24 = .ok (.ldc2_w 35, 3) := by decide +kernel
theorem dX4_setBySeed_27 : decode cX4_setBySeed 27 = .ok (.ladd, 1) := by decide +kernel
theorem dX4_setBySeed_28 : decode cX4_setBySeed 28 = .ok (.ldc2_w 37, 3) := by decide +kernel
theorem dX4_setBySeed_31 : decode cX4_setBySeed 31 = .ok (.lrem, 1) := by decide +kernel
theorem dX4_setBySeed_32 : decode cX4_setBySeed 32 = .ok (.lstore_n 3, 1) := by decide +kernel
theorem dX4_setBySeed_33 : decode cX4_setBySeed 33 = .ok (.aload_n 0, 1) := by decide +kernel
theorem dX4_setBySeed_34 : decode cX4_setBySeed 34 = .ok (.iload 5, 2) := by decide +kernel
theorem dX4_setBySeed_36 : decode cX4_setBySeed 36 = .ok (.lload_n 3, 1) := by decide +kernel
theorem dX4_setBySeed_37 : decode cX4_setBySeed 37 = .ok (.ldc2_w 39, 3) := by decide +kernel
theorem dX4_setBySeed_40 : decode cX4_setBySeed 40 = .ok (.ldiv, 1) := by decide +kernel
theorem dX4_setBySeed_41 : decode cX4_setBySeed 41 = .ok (.iload 5, 2) := by decide +kernel
theorem dX4_setBySeed_43 : decode cX4_setBySeed 43 = .ok (.iconst 1, 1) := by decide +kernel
theorem dX4_setBySeed_44 : decode cX4_setBySeed 44 = .ok (.iadd, 1) := by decide +kernel
theorem dX4_setBySeed_45 : decode cX4_setBySeed 45 = .ok (.i2l, 1) := by decide +kernel
theorem dX4_setBySeed_46 : decode cX4_setBySeed 46 = .ok (.lrem, 1) := by decide +kernel
theorem dX4_setBySeed_47 : decode cX4_setBySeed 47 = .ok (.l2i, 1) := by decide +kernel
theorem dX4_setBySeed_48 : decode cX4_setBySeed 48 = .ok (.invokestatic 7, 3) := by decide +kernel
theorem dX4_setBySeed_51 : decode cX4_setBySeed 51 = .ok (.iinc 5 (-1), 3) := by decide +kernel
theorem dX4_setBySeed_54 : decode cX4_setBySeed 54 = .ok (.goto (-41), 3) := by decide +kernel
theorem dX4_setBySeed_57 : decode cX4_setBySeed 57 = .ok (.return_, 1) := by decide +kernel
theorem dX4_stepsFrom_0 : decode cX4_stepsFrom 0 = .ok (.iload_n 1, 1) := by decide +kernel
theorem dX4_stepsFrom_1 : decode cX4_stepsFrom 1 = .ok (.istore_n 3, 1) := by decide +kernel
theorem dX4_stepsFrom_2 : decode cX4_stepsFrom 2 = .ok (.iconst 0, 1) := by decide +kernel
theorem dX4_stepsFrom_3 : decode cX4_stepsFrom 3 = .ok (.istore 4, 2) := by decide +kernel
theorem dX4_stepsFrom_5 : decode cX4_stepsFrom 5 = .ok (.iload 4, 2) := by decide +kernel
theorem dX4_stepsFrom_7 : decode cX4_stepsFrom 7 = .ok (.iload_n 2, 1) := by decide +kernel
theorem dX4_stepsFrom_8 : decode cX4_stepsFrom 8 = .ok (.if_icmp .ge 13, 3) := by decide +kernel
theorem dX4_stepsFrom_11 : decode cX4_stepsFrom 11 = .ok (.aload_n 0, 1) := by decide +kernel
theorem dX4_stepsFrom_12 : decode cX4_stepsFrom 12 = .ok (.iload_n 3, 1) := by decide +kernel
theorem dX4_stepsFrom_13 : decode cX4_stepsFrom 13 = .ok (.iaload, 1) := by decide +kernel
theorem dX4_stepsFrom_14 : decode cX4_stepsFrom 14 = .ok (.istore_n 3, 1) := by decide +kernel
theorem dX4_stepsFrom_15 : decode cX4_stepsFrom 15 = .ok (.iinc 4 1, 3) := by decide +kernel
theorem dX4_stepsFrom_18 : decode cX4_stepsFrom 18 = .ok (.goto (-13), 3) := by decide +kernel
theorem dX4_stepsFrom_21 : decode cX4_stepsFrom 21 = .ok (.iload_n 3, 1) := by decide +kernel
theorem dX4_stepsFrom_22 : decode cX4_stepsFrom 22 = .ok (.ireturn, 1) := by decide +kernel
theorem dX4_ringLength_0 : decode cX4_ringLength 0 = .ok (.iconst 1, 1) := by decide +kernel
theorem dX4_ringLength_1 : decode cX4_ringLength 1 = .ok (.istore_n 3, 1) := by decide +kernel
theorem dX4_ringLength_2 : decode cX4_ringLength 2 = .ok (.aload_n 0, 1) := by decide +kernel
theorem dX4_ringLength_3 : decode cX4_ringLength 3 = .ok (.iload_n 2, 1) := by decide +kernel
theorem dX4_ringLength_4 : decode cX4_ringLength 4 = .ok (.iaload, 1) := by decide +kernel
theorem dX4_ringLength_5 : decode cX4_ringLength 5 = .ok (.istore 4, 2) := by decide +kernel
theorem dX4_ringLength_7 : decode cX4_ringLength 7 = .ok (.iload 4, 2) := by decide +kernel
theorem dX4_ringLength_9 : decode cX4_ringLength 9 = .ok (.iload_n 2, 1) := by decide +kernel
theorem dX4_ringLength_10 : decode cX4_ringLength 10 = .ok (.if_icmp .eq 20, 3) := by decide +kernel
theorem dX4_ringLength_13 : decode cX4_ringLength 13 = .ok (.iload_n 3, 1) := by decide +kernel
theorem dX4_ringLength_14 : decode cX4_ringLength 14 = .ok (.iload_n 1, 1) := by decide +kernel
theorem dX4_ringLength_15 : decode cX4_ringLength 15 = .ok (.if_icmp .ge 15, 3) := by decide +kernel
theorem dX4_ringLength_18 : decode cX4_ringLength 18 = .ok (.aload_n 0, 1) := by decide +kernel
theorem dX4_ringLength_19 : decode cX4_ringLength 19 = .ok (.iload 4, 2) := by decide +kernel
theorem dX4_ringLength_21 : decode cX4_ringLength 21 = .ok (.iaload, 1) := by decide +kernel
theorem dX4_ringLength_22 : decode cX4_ringLength 22 = .ok (.istore 4, 2) := by decide +kernel
theorem dX4_ringLength_24 : decode cX4_ringLength 24 = .ok (.iinc 3 1, 3) := by decide +kernel
theorem dX4_ringLength_27 : decode cX4_ringLength 27 = .ok (.goto (-20), 3) := by decide +kernel
theorem dX4_ringLength_30 : decode cX4_ringLength 30 = .ok (.iload_n 3, 1) := by decide +kernel
theorem dX4_ringLength_31 : decode cX4_ringLength 31 = .ok (.ireturn, 1) := by decide +kernel
theorem dX4_ringCount_0 : decode cX4_ringCount 0 = .ok (.iconst 0, 1) := by decide +kernel
theorem dX4_ringCount_1 : decode cX4_ringCount 1 = .ok (.istore_n 2, 1) := by decide +kernel
theorem dX4_ringCount_2 : decode cX4_ringCount 2 = .ok (.iconst 0, 1) := by decide +kernel
theorem dX4_ringCount_3 : decode cX4_ringCount 3 = .ok (.istore_n 3, 1) := by decide +kernel
theorem dX4_ringCount_4 : decode cX4_ringCount 4 = .ok (.iconst 0, 1) := by decide +kernel
theorem dX4_ringCount_5 : decode cX4_ringCount 5 = .ok (.istore 4, 2) := by decide +kernel
theorem dX4_ringCount_7 : decode cX4_ringCount 7 = .ok (.iload 4, 2) := by decide +kernel
theorem dX4_ringCount_9 : decode cX4_ringCount 9 = .ok (.iload_n 1, 1) := by decide +kernel
theorem dX4_ringCount_10 : decode cX4_ringCount 10 = .ok (.if_icmp .ge 53, 3) := by decide +kernel
theorem dX4_ringCount_13 : decode cX4_ringCount 13 = .ok (.iload_n 2, 1) := by decide +kernel
theorem dX4_ringCount_14 : decode cX4_ringCount 14 = .ok (.iload 4, 2) := by decide +kernel
theorem dX4_ringCount_16 : decode cX4_ringCount 16 = .ok (.ishr, 1) := by decide +kernel
theorem dX4_ringCount_17 : decode cX4_ringCount 17 = .ok (.iconst 1, 1) := by decide +kernel
theorem dX4_ringCount_18 : decode cX4_ringCount 18 = .ok (.iand, 1) := by decide +kernel
theorem dX4_ringCount_19 : decode cX4_ringCount 19 = .ok (.ifCond .ne 38, 3) := by decide +kernel
theorem dX4_ringCount_22 : decode cX4_ringCount 22 = .ok (.iinc 3 1, 3) := by decide +kernel
theorem dX4_ringCount_25 : decode cX4_ringCount 25 = .ok (.iload 4, 2) := by decide +kernel
theorem dX4_ringCount_27 : decode cX4_ringCount 27 = .ok (.istore 5, 2) := by decide +kernel
theorem dX4_ringCount_29 : decode cX4_ringCount 29 = .ok (.iconst 0, 1) := by decide +kernel
theorem dX4_ringCount_30 : decode cX4_ringCount 30 = .ok (.istore 6, 2) := by decide +kernel
theorem dX4_ringCount_32 : decode cX4_ringCount 32 = .ok (.iload 6, 2) := by decide +kernel
theorem dX4_ringCount_34 : decode cX4_ringCount 34 = .ok (.iload_n 1, 1) := by decide +kernel
theorem dX4_ringCount_35 : decode cX4_ringCount 35 = .ok (.if_icmp .ge 22, 3) := by decide +kernel
theorem dX4_ringCount_38 : decode cX4_ringCount 38 = .ok (.iload_n 2, 1) := by decide +kernel
theorem dX4_ringCount_39 : decode cX4_ringCount 39 = .ok (.iconst 1, 1) := by decide +kernel
theorem dX4_ringCount_40 : decode cX4_ringCount 40 = .ok (.iload 5, 2) := by decide +kernel
theorem dX4_ringCount_42 : decode cX4_ringCount 42 = .ok (.ishl, 1) := by decide +kernel
theorem dX4_ringCount_43 : decode cX4_ringCount 43 = .ok (.ior, 1) := by decide +kernel
theorem dX4_ringCount_44 : decode cX4_ringCount 44 = .ok (.istore_n 2, 1) := by decide +kernel
theorem dX4_ringCount_45 : decode cX4_ringCount 45 = .ok (.aload_n 0, 1) := by decide +kernel
theorem dX4_ringCount_46 : decode cX4_ringCount 46 = .ok (.iload 5, 2) := by decide +kernel
theorem dX4_ringCount_48 : decode cX4_ringCount 48 = .ok (.iaload, 1) := by decide +kernel
theorem dX4_ringCount_49 : decode cX4_ringCount 49 = .ok (.istore 5, 2) := by decide +kernel
theorem dX4_ringCount_51 : decode cX4_ringCount 51 = .ok (.iinc 6 1, 3) := by decide +kernel
theorem dX4_ringCount_54 : decode cX4_ringCount 54 = .ok (.goto (-22), 3) := by decide +kernel
theorem dX4_ringCount_57 : decode cX4_ringCount 57 = .ok (.iinc 4 1, 3) := by decide +kernel
theorem dX4_ringCount_60 : decode cX4_ringCount 60 = .ok (.goto (-53), 3) := by decide +kernel
theorem dX4_ringCount_63 : decode cX4_ringCount 63 = .ok (.iload_n 3, 1) := by decide +kernel
theorem dX4_ringCount_64 : decode cX4_ringCount 64 = .ok (.ireturn, 1) := by decide +kernel
theorem dX4_ringMark_0 : decode cX4_ringMark 0 = .ok (.lconst 0, 1) := by decide +kernel
theorem dX4_ringMark_1 : decode cX4_ringMark 1 = .ok (.lstore_n 2, 1) := by decide +kernel
theorem dX4_ringMark_2 : decode cX4_ringMark 2 = .ok (.iconst 0, 1) := by decide +kernel
theorem dX4_ringMark_3 : decode cX4_ringMark 3 = .ok (.istore 4, 2) := by decide +kernel
theorem dX4_ringMark_5 : decode cX4_ringMark 5 = .ok (.iload 4, 2) := by decide +kernel
theorem dX4_ringMark_7 : decode cX4_ringMark 7 = .ok (.iload_n 1, 1) := by decide +kernel
theorem dX4_ringMark_8 : decode cX4_ringMark 8 = .ok (.if_icmp .ge 23, 3) := by decide +kernel
theorem dX4_ringMark_11 : decode cX4_ringMark 11 = .ok (.lload_n 2, 1) := by decide +kernel
theorem dX4_ringMark_12 : decode cX4_ringMark 12 = .ok (.lconst 1, 1) := by decide +kernel
theorem dX4_ringMark_13 : decode cX4_ringMark 13 = .ok (.iconst 4, 1) := by decide +kernel
theorem dX4_ringMark_14 : decode cX4_ringMark 14 = .ok (.aload_n 0, 1) := by decide +kernel
theorem dX4_ringMark_15 : decode cX4_ringMark 15 = .ok (.iload_n 1, 1) := by decide +kernel
theorem dX4_ringMark_16 : decode cX4_ringMark 16 = .ok (.iload 4, 2) := by decide +kernel
theorem dX4_ringMark_18 : decode cX4_ringMark 18 = .ok (.invokestatic 41, 3) := by decide +kernel
theorem dX4_ringMark_21 : decode cX4_ringMark 21 = .ok (.imul, 1) := by decide +kernel
theorem dX4_ringMark_22 : decode cX4_ringMark 22 = .ok (.lshl, 1) := by decide +kernel
theorem dX4_ringMark_23 : decode cX4_ringMark 23 = .ok (.ladd, 1) := by decide +kernel
theorem dX4_ringMark_24 : decode cX4_ringMark 24 = .ok (.lstore_n 2, 1) := by decide +kernel
theorem dX4_ringMark_25 : decode cX4_ringMark 25 = .ok (.iinc 4 1, 3) := by decide +kernel
theorem dX4_ringMark_28 : decode cX4_ringMark 28 = .ok (.goto (-23), 3) := by decide +kernel
theorem dX4_ringMark_31 : decode cX4_ringMark 31 = .ok (.lload_n 2, 1) := by decide +kernel
theorem dX4_ringMark_32 : decode cX4_ringMark 32 = .ok (.lreturn, 1) := by decide +kernel
theorem dX4_swapsBetween_0 : decode cX4_swapsBetween 0 = .ok (.iconst 0, 1) := by decide +kernel
theorem dX4_swapsBetween_1 : decode cX4_swapsBetween 1 = .ok (.istore_n 3, 1) := by decide +kernel
theorem dX4_swapsBetween_2 : decode cX4_swapsBetween 2 = .ok (.iconst 0, 1) := by decide +kernel
theorem dX4_swapsBetween_3 : decode cX4_swapsBetween 3 = .ok (.istore 4, 2) := by decide +kernel
theorem dX4_swapsBetween_5 : decode cX4_swapsBetween 5 = .ok (.iconst 0, 1) := by decide +kernel
theorem dX4_swapsBetween_6 : decode cX4_swapsBetween 6 = .ok (.istore 5, 2) := by decide +kernel
theorem dX4_swapsBetween_8 : decode cX4_swapsBetween 8 = .ok (.iload 5, 2) := by decide +kernel
theorem dX4_swapsBetween_10 : decode cX4_swapsBetween 10 = .ok (.iload_n 2, 1) := by decide +kernel
theorem dX4_swapsBetween_11 : decode cX4_swapsBetween 11 = .ok (.if_icmp .ge 58, 3) := by decide +kernel
theorem dX4_swapsBetween_14 : decode cX4_swapsBetween 14 = .ok (.iload_n 3, 1) := by decide +kernel
theorem dX4_swapsBetween_15 : decode cX4_swapsBetween 15 = .ok (.iload 5, 2) := by decide +kernel
theorem dX4_swapsBetween_17 : decode cX4_swapsBetween 17 = .ok (.ishr, 1) := by decide +kernel
theorem dX4_swapsBetween_18 : decode cX4_swapsBetween 18 = .ok (.iconst 1, 1) := by decide +kernel
theorem dX4_swapsBetween_19 : decode cX4_swapsBetween 19 = .ok (.iand, 1) := by decide +kernel
theorem dX4_swapsBetween_20 : decode cX4_swapsBetween 20 = .ok (.ifCond .ne 43, 3) := by decide +kernel
theorem dX4_swapsBetween_23 : decode cX4_swapsBetween 23 = .ok (.iinc 4 1, 3) := by decide +kernel
theorem dX4_swapsBetween_26 : decode cX4_swapsBetween 26 = .ok (.iload 5, 2) := by decide +kernel
theorem dX4_swapsBetween_28 : decode cX4_swapsBetween 28 = .ok (.istore 6, 2) := by decide +kernel
theorem dX4_swapsBetween_30 : decode cX4_swapsBetween 30 = .ok (.iconst 0, 1) := by decide +kernel
theorem dX4_swapsBetween_31 : decode cX4_swapsBetween 31 = .ok (.istore 7, 2) := by decide +kernel
theorem dX4_swapsBetween_33 : decode cX4_swapsBetween 33 = .ok (.iload 7, 2) := by decide +kernel
theorem dX4_swapsBetween_35 : decode cX4_swapsBetween 35 = .ok (.iload_n 2, 1) := by decide +kernel
theorem dX4_swapsBetween_36 : decode cX4_swapsBetween 36 = .ok (.if_icmp .ge 27, 3) := by decide +kernel
theorem dX4_swapsBetween_39 : decode cX4_swapsBetween 39 = .ok (.iload_n 3, 1) := by decide +kernel
theorem dX4_swapsBetween_40 : decode cX4_swapsBetween 40 = .ok (.iconst 1, 1) := by decide +kernel
theorem dX4_swapsBetween_41 : decode cX4_swapsBetween 41 = .ok (.iload 6, 2) := by decide +kernel
theorem dX4_swapsBetween_43 : decode cX4_swapsBetween 43 = .ok (.ishl, 1) := by decide +kernel
theorem dX4_swapsBetween_44 : decode cX4_swapsBetween 44 = .ok (.ior, 1) := by decide +kernel
theorem dX4_swapsBetween_45 : decode cX4_swapsBetween 45 = .ok (.istore_n 3, 1) := by decide +kernel
theorem dX4_swapsBetween_46 : decode cX4_swapsBetween 46 = .ok (.aload_n 0, 1) := by decide +kernel
theorem dX4_swapsBetween_47 : decode cX4_swapsBetween 47 = .ok (.iload_n 2, 1) := by decide +kernel
theorem dX4_swapsBetween_48 : decode cX4_swapsBetween 48 = .ok (.aload_n 1, 1) := by decide +kernel
theorem dX4_swapsBetween_49 : decode cX4_swapsBetween 49 = .ok (.iload 6, 2) := by decide +kernel
theorem dX4_swapsBetween_51 : decode cX4_swapsBetween 51 = .ok (.iaload, 1) := by decide +kernel
theorem dX4_swapsBetween_52 : decode cX4_swapsBetween 52 = .ok (.invokestatic 45, 3) := by decide +kernel
theorem dX4_swapsBetween_55 : decode cX4_swapsBetween 55 = .ok (.istore 6, 2) := by decide +kernel
theorem dX4_swapsBetween_57 : decode cX4_swapsBetween 57 = .ok (.iinc 7 1, 3) := by decide +kernel
theorem dX4_swapsBetween_60 : decode cX4_swapsBetween 60 = .ok (.goto (-27), 3) := by decide +kernel
theorem dX4_swapsBetween_63 : decode cX4_swapsBetween 63 = .ok (.iinc 5 1, 3) := by decide +kernel
theorem dX4_swapsBetween_66 : decode cX4_swapsBetween 66 = .ok (.goto (-58), 3) := by decide +kernel
theorem dX4_swapsBetween_69 : decode cX4_swapsBetween 69 = .ok (.iload_n 2, 1) := by decide +kernel
theorem dX4_swapsBetween_70 : decode cX4_swapsBetween 70 = .ok (.iload 4, 2) := by decide +kernel
theorem dX4_swapsBetween_72 : decode cX4_swapsBetween 72 = .ok (.isub, 1) := by decide +kernel
theorem dX4_swapsBetween_73 : decode cX4_swapsBetween 73 = .ok (.ireturn, 1) := by decide +kernel
theorem dX4_boxOf_0 : decode cX4_boxOf 0 = .ok (.iconst 0, 1) := by decide +kernel
theorem dX4_boxOf_1 : decode cX4_boxOf 1 = .ok (.istore_n 3, 1) := by decide +kernel
theorem dX4_boxOf_2 : decode cX4_boxOf 2 = .ok (.iload_n 3, 1) := by decide +kernel
theorem dX4_boxOf_3 : decode cX4_boxOf 3 = .ok (.iload_n 1, 1) := by decide +kernel
theorem dX4_boxOf_4 : decode cX4_boxOf 4 = .ok (.if_icmp .ge 18, 3) := by decide +kernel
theorem dX4_boxOf_7 : decode cX4_boxOf 7 = .ok (.aload_n 0, 1) := by decide +kernel
theorem dX4_boxOf_8 : decode cX4_boxOf 8 = .ok (.iload_n 3, 1) := by decide +kernel
theorem dX4_boxOf_9 : decode cX4_boxOf 9 = .ok (.iaload, 1) := by decide +kernel
theorem dX4_boxOf_10 : decode cX4_boxOf 10 = .ok (.iload_n 2, 1) := by decide +kernel
theorem dX4_boxOf_11 : decode cX4_boxOf 11 = .ok (.if_icmp .ne 5, 3) := by decide +kernel
theorem dX4_boxOf_14 : decode cX4_boxOf 14 = .ok (.iload_n 3, 1) := by decide +kernel
theorem dX4_boxOf_15 : decode cX4_boxOf 15 = .ok (.ireturn, 1) := by decide +kernel
theorem dX4_boxOf_16 : decode cX4_boxOf 16 = .ok (.iinc 3 1, 3) := by decide +kernel
theorem dX4_boxOf_19 : decode cX4_boxOf 19 = .ok (.goto (-17), 3) := by decide +kernel
theorem dX4_boxOf_22 : decode cX4_boxOf 22 = .ok (.iconst 0, 1) := by decide +kernel
theorem dX4_boxOf_23 : decode cX4_boxOf 23 = .ok (.ireturn, 1) := by decide +kernel
theorem dX4_areExchangeable_0 : decode cX4_areExchangeable 0 = .ok (.iconst 0, 1) := by decide +kernel
theorem dX4_areExchangeable_1 : decode cX4_areExchangeable 1 = .ok (.istore_n 3, 1) := by decide +kernel
theorem dX4_areExchangeable_2 : decode cX4_areExchangeable 2 = .ok (.iload_n 3, 1) := by decide +kernel
theorem dX4_areExchangeable_3 : decode cX4_areExchangeable 3 = .ok (.iload_n 2, 1) := by decide +kernel
theorem dX4_areExchangeable_4 : decode cX4_areExchangeable 4 = .ok (.if_icmp .ge 24, 3) := by decide +kernel
theorem dX4_areExchangeable_7 : decode cX4_areExchangeable 7 = .ok (.aload_n 0, 1) := by decide +kernel
theorem dX4_areExchangeable_8 : decode cX4_areExchangeable 8 = .ok (.aload_n 1, 1) := by decide +kernel
theorem dX4_areExchangeable_9 : decode cX4_areExchangeable 9 = .ok (.iload_n 3, 1) := by decide +kernel
theorem dX4_areExchangeable_10 : decode cX4_areExchangeable 10 = .ok (.iaload, 1) := by decide +kernel
theorem dX4_areExchangeable_11 : decode cX4_areExchangeable 11 = .ok (.iaload, 1) := by decide +kernel
theorem dX4_areExchangeable_12 : decode cX4_areExchangeable 12 = .ok (.aload_n 1, 1) := by decide +kernel
theorem dX4_areExchangeable_13 : decode cX4_areExchangeable 13 = .ok (.aload_n 0, 1) := by decide +kernel
theorem dX4_areExchangeable_14 : decode cX4_areExchangeable 14 = .ok (.iload_n 3, 1) := by decide +kernel
theorem dX4_areExchangeable_15 : decode cX4_areExchangeable 15 = .ok (.iaload, 1) := by decide +kernel
theorem dX4_areExchangeable_16 : decode cX4_areExchangeable 16 = .ok (.iaload, 1) := by decide +kernel
theorem dX4_areExchangeable_17 : decode cX4_areExchangeable 17 = .ok (.if_icmp .eq 5, 3) := by decide +kernel
theorem dX4_areExchangeable_20 : decode cX4_areExchangeable 20 = .ok (.iconst 0, 1) := by decide +kernel
theorem dX4_areExchangeable_21 : decode cX4_areExchangeable 21 = .ok (.ireturn, 1) := by decide +kernel
theorem dX4_areExchangeable_22 : decode cX4_areExchangeable 22 = .ok (.iinc 3 1, 3) := by decide +kernel
theorem dX4_areExchangeable_25 : decode cX4_areExchangeable 25 = .ok (.goto (-23), 3) := by decide +kernel
theorem dX4_areExchangeable_28 : decode cX4_areExchangeable 28 = .ok (.iconst 1, 1) := by decide +kernel
theorem dX4_areExchangeable_29 : decode cX4_areExchangeable 29 = .ok (.ireturn, 1) := by decide +kernel
theorem dX4_isRoot_0 : decode cX4_isRoot 0 = .ok (.iconst 0, 1) := by decide +kernel
theorem dX4_isRoot_1 : decode cX4_isRoot 1 = .ok (.istore 4, 2) := by decide +kernel
theorem dX4_isRoot_3 : decode cX4_isRoot 3 = .ok (.iload 4, 2) := by decide +kernel
theorem dX4_isRoot_5 : decode cX4_isRoot 5 = .ok (.iload_n 3, 1) := by decide +kernel
theorem dX4_isRoot_6 : decode cX4_isRoot 6 = .ok (.if_icmp .ge 25, 3) := by decide +kernel
theorem dX4_isRoot_9 : decode cX4_isRoot 9 = .ok (.aload_n 0, 1) := by decide +kernel
theorem dX4_isRoot_10 : decode cX4_isRoot 10 = .ok (.iload 4, 2) := by decide +kernel
theorem dX4_isRoot_12 : decode cX4_isRoot 12 = .ok (.iload_n 1, 1) := by decide +kernel
theorem dX4_isRoot_13 : decode cX4_isRoot 13 = .ok (.invokestatic 48, 3) := by decide +kernel
theorem dX4_isRoot_16 : decode cX4_isRoot 16 = .ok (.aload_n 2, 1) := by decide +kernel
theorem dX4_isRoot_17 : decode cX4_isRoot 17 = .ok (.iload 4, 2) := by decide +kernel
theorem dX4_isRoot_19 : decode cX4_isRoot 19 = .ok (.iaload, 1) := by decide +kernel
theorem dX4_isRoot_20 : decode cX4_isRoot 20 = .ok (.if_icmp .eq 5, 3) := by decide +kernel
theorem dX4_isRoot_23 : decode cX4_isRoot 23 = .ok (.iconst 0, 1) := by decide +kernel
theorem dX4_isRoot_24 : decode cX4_isRoot 24 = .ok (.ireturn, 1) := by decide +kernel
theorem dX4_isRoot_25 : decode cX4_isRoot 25 = .ok (.iinc 4 1, 3) := by decide +kernel
theorem dX4_isRoot_28 : decode cX4_isRoot 28 = .ok (.goto (-25), 3) := by decide +kernel
theorem dX4_isRoot_31 : decode cX4_isRoot 31 = .ok (.iconst 1, 1) := by decide +kernel
theorem dX4_isRoot_32 : decode cX4_isRoot 32 = .ok (.ireturn, 1) := by decide +kernel
theorem dX4_setMoved_0 : decode cX4_setMoved 0 = .ok (.iconst 0, 1) := by decide +kernel
theorem dX4_setMoved_1 : decode cX4_setMoved 1 = .ok (.istore 4, 2) := by decide +kernel
theorem dX4_setMoved_3 : decode cX4_setMoved 3 = .ok (.iload 4, 2) := by decide +kernel
theorem dX4_setMoved_5 : decode cX4_setMoved 5 = .ok (.iload_n 3, 1) := by decide +kernel
theorem dX4_setMoved_6 : decode cX4_setMoved 6 = .ok (.if_icmp .ge 19, 3) := by decide +kernel
theorem dX4_setMoved_9 : decode cX4_setMoved 9 = .ok (.aload_n 0, 1) := by decide +kernel
theorem dX4_setMoved_10 : decode cX4_setMoved 10 = .ok (.aload_n 2, 1) := by decide +kernel
theorem dX4_setMoved_11 : decode cX4_setMoved 11 = .ok (.iload 4, 2) := by decide +kernel
theorem dX4_setMoved_13 : decode cX4_setMoved 13 = .ok (.iaload, 1) := by decide +kernel
theorem dX4_setMoved_14 : decode cX4_setMoved 14 = .ok (.aload_n 1, 1) := by decide +kernel
theorem dX4_setMoved_15 : decode cX4_setMoved 15 = .ok (.iload 4, 2) := by decide +kernel
theorem dX4_setMoved_17 : decode cX4_setMoved 17 = .ok (.iaload, 1) := by decide +kernel
theorem dX4_setMoved_18 : decode cX4_setMoved 18 = .ok (.iastore, 1) := by decide +kernel
theorem dX4_setMoved_19 : decode cX4_setMoved 19 = .ok (.iinc 4 1, 3) := by decide +kernel
theorem dX4_setMoved_22 : decode cX4_setMoved 22 = .ok (.goto (-19), 3) := by decide +kernel
theorem dX4_setMoved_25 : decode cX4_setMoved 25 = .ok (.return_, 1) := by decide +kernel
