theorem dX5_tallySlips_53 : decode cX5_tallySlips 53 = .ok (.if_icmp .ge 31, 3) := by decide +kernel
theorem dX5_tallySlips_56 : decode cX5_tallySlips 56 = .ok (.aload_n 0, 1) := by decide +kernel
theorem dX5_tallySlips_57 : decode cX5_tallySlips 57 = .ok (.getfield 41, 3) := by decide +kernel
theorem dX5_tallySlips_60 : decode cX5_tallySlips 60 = .ok (.iload 4, 2) := by decide +kernel
theorem dX5_tallySlips_62 : decode cX5_tallySlips 62 = .ok (.bipush 7, 2) := by decide +kernel
theorem dX5_tallySlips_64 : decode cX5_tallySlips 64 = .ok (.imul, 1) := by decide +kernel
theorem dX5_tallySlips_65 : decode cX5_tallySlips 65 = .ok (.aload_n 0, 1) := by decide +kernel
theorem dX5_tallySlips_66 : decode cX5_tallySlips 66 = .ok (.getfield 37, 3) := by decide +kernel
theorem dX5_tallySlips_69 : decode cX5_tallySlips 69 = .ok (.iload 4, 2) := by decide +kernel
theorem dX5_tallySlips_71 : decode cX5_tallySlips 71 = .ok (.iaload, 1) := by decide +kernel
theorem dX5_tallySlips_72 : decode cX5_tallySlips 72 = .ok (.iadd, 1) := by decide +kernel
theorem dX5_tallySlips_73 : decode cX5_tallySlips 73 = .ok (.dup2, 1) := by decide +kernel
theorem dX5_tallySlips_74 : decode cX5_tallySlips 74 = .ok (.iaload, 1) := by decide +kernel
theorem dX5_tallySlips_75 : decode cX5_tallySlips 75 = .ok (.iconst 1, 1) := by decide +kernel
theorem dX5_tallySlips_76 : decode cX5_tallySlips 76 = .ok (.iadd, 1) := by decide +kernel
theorem dX5_tallySlips_77 : decode cX5_tallySlips 77 = .ok (.iastore, 1) := by decide +kernel
theorem dX5_tallySlips_78 : decode cX5_tallySlips 78 = .ok (.iinc 4 1, 3) := by decide +kernel
theorem dX5_tallySlips_81 : decode cX5_tallySlips 81 = .ok (.goto (-31), 3) := by decide +kernel
theorem dX5_tallySlips_84 : decode cX5_tallySlips 84 = .ok (.aload_n 0, 1) := by decide +kernel
theorem dX5_tallySlips_85 : decode cX5_tallySlips 85 = .ok (.getfield 37, 3) := by decide +kernel
theorem dX5_tallySlips_88 : decode cX5_tallySlips 88 = .ok (.iload_n 1, 1) := by decide +kernel
theorem dX5_tallySlips_89 : decode cX5_tallySlips 89 = .ok (.invokestatic 208, 3) := by decide +kernel
theorem dX5_tallySlips_92 : decode cX5_tallySlips 92 = .ok (.iinc 3 1, 3) := by decide +kernel
theorem dX5_tallySlips_95 : decode cX5_tallySlips 95 = .ok (.goto (-67), 3) := by decide +kernel
theorem dX5_tallySlips_98 : decode cX5_tallySlips 98 = .ok (.iload_n 2, 1) := by decide +kernel
theorem dX5_tallySlips_99 : decode cX5_tallySlips 99 = .ok (.ireturn, 1) := by decide +kernel
theorem dX5_sumOfSquares_0 : decode cX5_sumOfSquares 0 = .ok (.lconst 0, 1) := by decide +kernel
theorem dX5_sumOfSquares_1 : decode cX5_sumOfSquares 1 = .ok (.lstore_n 2, 1) := by decide +kernel
theorem dX5_sumOfSquares_2 : decode cX5_sumOfSquares 2 = .ok (.iconst 0, 1) := by decide +kernel
theorem dX5_sumOfSquares_3 : decode cX5_sumOfSquares 3 = .ok (.istore 4, 2) := by decide +kernel
theorem dX5_sumOfSquares_5 : decode cX5_sumOfSquares 5 = .ok (.iload 4, 2) := by decide +kernel
theorem dX5_sumOfSquares_7 : decode cX5_sumOfSquares 7 = .ok (.aload_n 0, 1) := by decide +kernel
theorem dX5_sumOfSquares_8 : decode cX5_sumOfSquares 8 = .ok (.getfield 10, 3) := by decide +kernel
theorem dX5_sumOfSquares_11 : decode cX5_sumOfSquares 11 = .ok (.getfield 69, 3) := by decide +kernel
theorem dX5_sumOfSquares_14 : decode cX5_sumOfSquares 14 = .ok (.if_icmp .ge 32, 3) := by decide +kernel
theorem dX5_sumOfSquares_17 : decode cX5_sumOfSquares 17 = .ok (.aload_n 0, 1) := by decide +kernel
theorem dX5_sumOfSquares_18 : decode cX5_sumOfSquares 18 = .ok (.getfield 41, 3) := by decide +kernel
theorem dX5_sumOfSquares_21 : decode cX5_sumOfSquares 21 = .ok (.iload_n 1, 1) := by decide +kernel
theorem dX5_sumOfSquares_22 : decode cX5_sumOfSquares 22 = .ok (.bipush 7, 2) := by decide +kernel
theorem dX5_sumOfSquares_24 : decode cX5_sumOfSquares 24 = .ok (.imul, 1) := by decide +kernel
theorem dX5_sumOfSquares_25 : decode cX5_sumOfSquares 25 = .ok (.iload 4, 2) := by decide +kernel
theorem dX5_sumOfSquares_27 : decode cX5_sumOfSquares 27 = .ok (.iadd, 1) := by decide +kernel
theorem dX5_sumOfSquares_28 : decode cX5_sumOfSquares 28 = .ok (.iaload, 1) := by decide +kernel
theorem dX5_sumOfSquares_29 : decode cX5_sumOfSquares 29 = .ok (.i2l, 1) := by decide +kernel
theorem dX5_sumOfSquares_30 : decode cX5_sumOfSquares 30 = .ok (.lstore 5, 2) := by decide +kernel
theorem dX5_sumOfSquares_32 : decode cX5_sumOfSquares 32 = .ok (.lload_n 2, 1) := by decide +kernel
theorem dX5_sumOfSquares_33 : decode cX5_sumOfSquares 33 = .ok (.lload 5, 2) := by decide +kernel
theorem dX5_sumOfSquares_35 : decode cX5_sumOfSquares 35 = .ok (.lload 5, 2) := by decide +kernel
theorem dX5_sumOfSquares_37 : decode cX5_sumOfSquares 37 = .ok (.lmul, 1) := by decide +kernel
theorem dX5_sumOfSquares_38 : decode cX5_sumOfSquares 38 = .ok (.ladd, 1) := by decide +kernel
theorem dX5_sumOfSquares_39 : decode cX5_sumOfSquares 39 = .ok (.lstore_n 2, 1) := by decide +kernel
theorem dX5_sumOfSquares_40 : decode cX5_sumOfSquares 40 = .ok (.iinc 4 1, 3) := by decide +kernel
theorem dX5_sumOfSquares_43 : decode cX5_sumOfSquares 43 = .ok (.goto (-38), 3) := by decide +kernel
theorem dX5_sumOfSquares_46 : decode cX5_sumOfSquares 46 = .ok (.lload_n 2, 1) := by decide +kernel
theorem dX5_sumOfSquares_47 : decode cX5_sumOfSquares 47 = .ok (.lreturn, 1) := by decide +kernel
theorem dX5_advice_0 : decode cX5_advice 0 = .ok (.aload_n 0, 1) := by decide +kernel
theorem dX5_advice_1 : decode cX5_advice 1 = .ok (.invokevirtual 269, 3) := by decide +kernel
theorem dX5_advice_4 : decode cX5_advice 4 = .ok (.istore_n 1, 1) := by decide +kernel
theorem dX5_advice_5 : decode cX5_advice 5 = .ok (.iload_n 1, 1) := by decide +kernel
theorem dX5_advice_6 : decode cX5_advice 6 = .ok (.ifCond .ne 8, 3) := by decide +kernel
theorem dX5_advice_9 : decode cX5_advice 9 = .ok (.aload_n 0, 1) := by decide +kernel
theorem dX5_advice_10 : decode cX5_advice 10 = .ok (.invokevirtual 117, 3) := by decide +kernel
theorem dX5_advice_13 : decode cX5_advice 13 = .ok (.ireturn, 1) := by decide +kernel
theorem dX5_advice_14 : decode cX5_advice 14 = .ok (.iconst 0, 1) := by decide +kernel
theorem dX5_advice_15 : decode cX5_advice 15 = .ok (.istore_n 2, 1) := by decide +kernel
theorem dX5_advice_16 : decode cX5_advice 16 = .ok (.iconst 1, 1) := by decide +kernel
theorem dX5_advice_17 : decode cX5_advice 17 = .ok (.istore_n 3, 1) := by decide +kernel
theorem dX5_advice_18 : decode cX5_advice 18 = .ok (.iload_n 3, 1) := by decide +kernel
theorem dX5_advice_19 : decode cX5_advice 19 = .ok (.bipush 6, 2) := by decide +kernel
theorem dX5_advice_21 : decode cX5_advice 21 = .ok (.if_icmp .ge 26, 3) := by decide +kernel
theorem dX5_advice_24 : decode cX5_advice 24 = .ok (.aload_n 0, 1) := by decide +kernel
theorem dX5_advice_25 : decode cX5_advice 25 = .ok (.getfield 41, 3) := by decide +kernel
theorem dX5_advice_28 : decode cX5_advice 28 = .ok (.iload_n 3, 1) := by decide +kernel
theorem dX5_advice_29 : decode cX5_advice 29 = .ok (.iaload, 1) := by decide +kernel
theorem dX5_advice_30 : decode cX5_advice 30 = .ok (.aload_n 0, 1) := by decide +kernel
theorem dX5_advice_31 : decode cX5_advice 31 = .ok (.getfield 41, 3) := by decide +kernel
theorem dX5_advice_34 : decode cX5_advice 34 = .ok (.iload_n 2, 1) := by decide +kernel
theorem dX5_advice_35 : decode cX5_advice 35 = .ok (.iaload, 1) := by decide +kernel
theorem dX5_advice_36 : decode cX5_advice 36 = .ok (.if_icmp .le 5, 3) := by decide +kernel
theorem dX5_advice_39 : decode cX5_advice 39 = .ok (.iload_n 3, 1) := by decide +kernel
theorem dX5_advice_40 : decode cX5_advice 40 = .ok (.istore_n 2, 1) := by decide +kernel
theorem dX5_advice_41 : decode cX5_advice 41 = .ok (.iinc 3 1, 3) := by decide +kernel
theorem dX5_advice_44 : decode cX5_advice 44 = .ok (.goto (-26), 3) := by decide +kernel
theorem dX5_advice_47 : decode cX5_advice 47 = .ok (.aload_n 0, 1) := by decide +kernel
theorem dX5_advice_48 : decode cX5_advice 48 = .ok (.aload_n 0, 1) := by decide +kernel
theorem dX5_advice_49 : decode cX5_advice 49 = .ok (.getfield 41, 3) := by decide +kernel
theorem dX5_advice_52 : decode cX5_advice 52 = .ok (.iload_n 2, 1) := by decide +kernel
theorem dX5_advice_53 : decode cX5_advice 53 = .ok (.iaload, 1) := by decide +kernel
theorem dX5_advice_54 : decode cX5_advice 54 = .ok (.i2l, 1) := by decide +kernel
theorem dX5_advice_55 : decode cX5_advice 55 = .ok (.iload_n 1, 1) := by decide +kernel
theorem dX5_advice_56 : decode cX5_advice 56 = .ok (.i2l, 1) := by decide +kernel
theorem dX5_advice_57 : decode cX5_advice 57 = .ok (.invokevirtual 258, 3) := by decide +kernel
theorem dX5_advice_60 : decode cX5_advice 60 = .ok (.iload_n 2, 1) := by decide +kernel
theorem dX5_advice_61 : decode cX5_advice 61 = .ok (.ireturn, 1) := by decide +kernel
theorem dX5_tallyRules_0 : decode cX5_tallyRules 0 = .ok (.aload_n 0, 1) := by decide +kernel
theorem dX5_tallyRules_1 : decode cX5_tallyRules 1 = .ok (.getfield 10, 3) := by decide +kernel
theorem dX5_tallyRules_4 : decode cX5_tallyRules 4 = .ok (.getfield 69, 3) := by decide +kernel
theorem dX5_tallyRules_7 : decode cX5_tallyRules 7 = .ok (.istore_n 1, 1) := by decide +kernel
theorem dX5_tallyRules_8 : decode cX5_tallyRules 8 = .ok (.iconst 0, 1) := by decide +kernel
theorem dX5_tallyRules_9 : decode cX5_tallyRules 9 = .ok (.istore_n 2, 1) := by decide +kernel
theorem dX5_tallyRules_10 : decode cX5_tallyRules 10 = .ok (.aload_n 0, 1) := by decide +kernel
theorem dX5_tallyRules_11 : decode cX5_tallyRules 11 = .ok (.getfield 41, 3) := by decide +kernel
theorem dX5_tallyRules_14 : decode cX5_tallyRules 14 = .ok (.iconst 0, 1) := by decide +kernel
theorem dX5_tallyRules_15 : decode cX5_tallyRules 15 = .ok (.invokestatic 142, 3) := by decide +kernel
theorem dX5_tallyRules_18 : decode cX5_tallyRules 18 = .ok (.aload_n 0, 1) := by decide +kernel
theorem dX5_tallyRules_19 : decode cX5_tallyRules 19 = .ok (.getfield 37, 3) := by decide +kernel
theorem dX5_tallyRules_22 : decode cX5_tallyRules 22 = .ok (.iload_n 1, 1) := by decide +kernel
theorem dX5_tallyRules_23 : decode cX5_tallyRules 23 = .ok (.invokestatic 198, 3) := by decide +kernel
theorem dX5_tallyRules_26 : decode cX5_tallyRules 26 = .ok (.iconst 0, 1) := by decide +kernel
theorem dX5_tallyRules_27 : decode cX5_tallyRules 27 = .ok (.istore_n 3, 1) := by decide +kernel
theorem dX5_tallyRules_28 : decode cX5_tallyRules 28 = .ok (.iload_n 3, 1) := by decide +kernel
theorem dX5_tallyRules_29 : decode cX5_tallyRules 29 = .ok (.getstatic 201, 3) := by decide +kernel
theorem dX5_tallyRules_32 : decode cX5_tallyRules 32 = .ok (.iload_n 1, 1) := by decide +kernel
theorem dX5_tallyRules_33 : decode cX5_tallyRules 33 = .ok (.iaload, 1) := by decide +kernel
theorem dX5_tallyRules_34 : decode cX5_tallyRules 34 = .ok (.if_icmp .ge 71, 3) := by decide +kernel
theorem dX5_tallyRules_37 : decode cX5_tallyRules 37 = .ok (.aload_n 0, 1) := by decide +kernel
theorem dX5_tallyRules_38 : decode cX5_tallyRules 38 = .ok (.invokevirtual 250, 3) := by decide +kernel
theorem dX5_tallyRules_41 : decode cX5_tallyRules 41 = .ok (.ifCond .eq 50, 3) := by decide +kernel
theorem dX5_tallyRules_44 : decode cX5_tallyRules 44 = .ok (.iinc 2 1, 3) := by decide +kernel
theorem dX5_tallyRules_47 : decode cX5_tallyRules 47 = .ok (.iconst 0, 1) := by decide +kernel
theorem dX5_tallyRules_48 : decode cX5_tallyRules 48 = .ok (.istore 4, 2) := by decide +kernel
theorem dX5_tallyRules_50 : decode cX5_tallyRules 50 = .ok (.iload 4, 2) := by decide +kernel
theorem dX5_tallyRules_52 : decode cX5_tallyRules 52 = .ok (.bipush 6, 2) := by decide +kernel
theorem dX5_tallyRules_54 : decode cX5_tallyRules 54 = .ok (.if_icmp .ge 37, 3) := by decide +kernel
theorem dX5_tallyRules_57 : decode cX5_tallyRules 57 = .ok (.aload_n 0, 1) := by decide +kernel
theorem dX5_tallyRules_58 : decode cX5_tallyRules 58 = .ok (.getfield 41, 3) := by decide +kernel
theorem dX5_tallyRules_61 : decode cX5_tallyRules 61 = .ok (.iload 4, 2) := by decide +kernel
theorem dX5_tallyRules_63 : decode cX5_tallyRules 63 = .ok (.dup2, 1) := by decide +kernel
theorem dX5_tallyRules_64 : decode cX5_tallyRules 64 = .ok (.iaload, 1) := by decide +kernel
theorem dX5_tallyRules_65 : decode cX5_tallyRules 65 = .ok (.aload_n 0, 1) := by decide +kernel
theorem dX5_tallyRules_66 : decode cX5_tallyRules 66 = .ok (.aload_n 0, 1) := by decide +kernel
theorem dX5_tallyRules_67 : decode cX5_tallyRules 67 = .ok (.getfield 37, 3) := by decide +kernel
theorem dX5_tallyRules_70 : decode cX5_tallyRules 70 = .ok (.iload 4, 2) := by decide +kernel
theorem dX5_tallyRules_72 : decode cX5_tallyRules 72 = .ok (.invokevirtual 272, 3) := by decide +kernel
theorem dX5_tallyRules_75 : decode cX5_tallyRules 75 = .ok (.ifCond .eq 7, 3) := by decide +kernel
theorem dX5_tallyRules_78 : decode cX5_tallyRules 78 = .ok (.iconst 1, 1) := by decide +kernel
theorem dX5_tallyRules_79 : decode cX5_tallyRules 79 = .ok (.goto 4, 3) := by decide +kernel
theorem dX5_tallyRules_82 : decode cX5_tallyRules 82 = .ok (.iconst 0, 1) := by decide +kernel
theorem dX5_tallyRules_83 : decode cX5_tallyRules 83 = .ok (.iadd, 1) := by decide +kernel
theorem dX5_tallyRules_84 : decode cX5_tallyRules 84 = .ok (.iastore, 1) := by decide +kernel
theorem dX5_tallyRules_85 : decode cX5_tallyRules 85 = .ok (.iinc 4 1, 3) := by decide +kernel
theorem dX5_tallyRules_88 : decode cX5_tallyRules 88 = .ok (.goto (-38), 3) := by decide +kernel
theorem dX5_tallyRules_91 : decode cX5_tallyRules 91 = .ok (.aload_n 0, 1) := by decide +kernel
theorem dX5_tallyRules_92 : decode cX5_tallyRules 92 = .ok (.getfield 37, 3) := by decide +kernel
theorem dX5_tallyRules_95 : decode cX5_tallyRules 95 = .ok (.iload_n 1, 1) := by decide +kernel
theorem dX5_tallyRules_96 : decode cX5_tallyRules 96 = .ok (.invokestatic 208, 3) := by decide +kernel
theorem dX5_tallyRules_99 : decode cX5_tallyRules 99 = .ok (.iinc 3 1, 3) := by decide +kernel
theorem dX5_tallyRules_102 : decode cX5_tallyRules 102 = .ok (.goto (-74), 3) := by decide +kernel
theorem dX5_tallyRules_105 : decode cX5_tallyRules 105 = .ok (.iload_n 2, 1) := by decide +kernel
theorem dX5_tallyRules_106 : decode cX5_tallyRules 106 = .ok (.ireturn, 1) := by decide +kernel
theorem dX5_worst_0 : decode cX5_worst 0 = .ok (.iload_n 1, 1) := by decide +kernel
theorem dX5_worst_1 : decode cX5_worst 1 = .ok (.ifCond .eq 13, 3) := by decide +kernel
theorem dX5_worst_4 : decode cX5_worst 4 = .ok (.iload_n 1, 1) := by decide +kernel
theorem dX5_worst_5 : decode cX5_worst 5 = .ok (.iconst 1, 1) := by decide +kernel
theorem dX5_worst_6 : decode cX5_worst 6 = .ok (.if_icmp .eq 8, 3) := by decide +kernel
theorem dX5_worst_9 : decode cX5_worst 9 = .ok (.aload_n 0, 1) := by decide +kernel
theorem dX5_worst_10 : decode cX5_worst 10 = .ok (.invokevirtual 65, 3) := by decide +kernel
theorem dX5_worst_13 : decode cX5_worst 13 = .ok (.ireturn, 1) := by decide +kernel
theorem dX5_worst_14 : decode cX5_worst 14 = .ok (.aload_n 0, 1) := by decide +kernel
theorem dX5_worst_15 : decode cX5_worst 15 = .ok (.getfield 10, 3) := by decide +kernel
theorem dX5_worst_18 : decode cX5_worst 18 = .ok (.getfield 69, 3) := by decide +kernel
theorem dX5_worst_21 : decode cX5_worst 21 = .ok (.istore_n 2, 1) := by decide +kernel
theorem dX5_worst_22 : decode cX5_worst 22 = .ok (.iconst (-1), 1) := by decide +kernel
theorem dX5_worst_23 : decode cX5_worst 23 = .ok (.istore_n 3, 1) := by decide +kernel
theorem dX5_worst_24 : decode cX5_worst 24 = .ok (.iconst 0, 1) := by decide +kernel
theorem dX5_worst_25 : decode cX5_worst 25 = .ok (.istore 4, 2) := by decide +kernel
theorem dX5_worst_27 : decode cX5_worst 27 = .ok (.aload_n 0, 1) := by decide +kernel
theorem dX5_worst_28 : decode cX5_worst 28 = .ok (.getfield 37, 3) := by decide +kernel
theorem dX5_worst_31 : decode cX5_worst 31 = .ok (.iload_n 2, 1) := by decide +kernel
theorem dX5_worst_32 : decode cX5_worst 32 = .ok (.invokestatic 198, 3) := by decide +kernel
theorem dX5_worst_35 : decode cX5_worst 35 = .ok (.iconst 0, 1) := by decide +kernel
theorem dX5_worst_36 : decode cX5_worst 36 = .ok (.istore 5, 2) := by decide +kernel
theorem dX5_worst_38 : decode cX5_worst 38 = .ok (.iload 5, 2) := by decide +kernel
theorem dX5_worst_40 : decode cX5_worst 40 = .ok (.getstatic 201, 3) := by decide +kernel
theorem dX5_worst_43 : decode cX5_worst 43 = .ok (.iload_n 2, 1) := by decide +kernel
theorem dX5_worst_44 : decode cX5_worst 44 = .ok (.iaload, 1) := by decide +kernel
theorem dX5_worst_45 : decode cX5_worst 45 = .ok (.if_icmp .ge 56, 3) := by decide +kernel
theorem dX5_worst_48 : decode cX5_worst 48 = .ok (.aload_n 0, 1) := by decide +kernel
theorem dX5_worst_49 : decode cX5_worst 49 = .ok (.invokevirtual 250, 3) := by decide +kernel
theorem dX5_worst_52 : decode cX5_worst 52 = .ok (.ifCond .eq 35, 3) := by decide +kernel
theorem dX5_worst_55 : decode cX5_worst 55 = .ok (.aload_n 0, 1) := by decide +kernel
theorem dX5_worst_56 : decode cX5_worst 56 = .ok (.aload_n 0, 1) := by decide +kernel
theorem dX5_worst_57 : decode cX5_worst 57 = .ok (.getfield 37, 3) := by decide +kernel
theorem dX5_worst_60 : decode cX5_worst 60 = .ok (.invokevirtual 184, 3) := by decide +kernel
theorem dX5_worst_63 : decode cX5_worst 63 = .ok (.invokestatic 275, 3) := by decide +kernel
theorem dX5_worst_66 : decode cX5_worst 66 = .ok (.istore 6, 2) := by decide +kernel
theorem dX5_worst_68 : decode cX5_worst 68 = .ok (.iload_n 3, 1) := by decide +kernel
theorem dX5_worst_69 : decode cX5_worst 69 = .ok (.iconst (-1), 1) := by decide +kernel
theorem dX5_worst_70 : decode cX5_worst 70 = .ok (.if_icmp .eq 10, 3) := by decide +kernel
theorem dX5_worst_73 : decode cX5_worst 73 = .ok (.iload 6, 2) := by decide +kernel
theorem dX5_worst_75 : decode cX5_worst 75 = .ok (.iload 4, 2) := by decide +kernel
theorem dX5_worst_77 : decode cX5_worst 77 = .ok (.if_icmp .ge 10, 3) := by decide +kernel
theorem dX5_worst_80 : decode cX5_worst 80 = .ok (.iload 5, 2) := by decide +kernel
theorem dX5_worst_82 : decode cX5_worst 82 = .ok (.istore_n 3, 1) := by decide +kernel
theorem dX5_worst_83 : decode cX5_worst 83 = .ok (.iload 6, 2) := by decide +kernel
theorem dX5_worst_85 : decode cX5_worst 85 = .ok (.istore 4, 2) := by decide +kernel
theorem dX5_worst_87 : decode cX5_worst 87 = .ok (.aload_n 0, 1) := by decide +kernel
theorem dX5_worst_88 : decode cX5_worst 88 = .ok (.getfield 37, 3) := by decide +kernel
theorem dX5_worst_91 : decode cX5_worst 91 = .ok (.iload_n 2, 1) := by decide +kernel
theorem dX5_worst_92 : decode cX5_worst 92 = .ok (.invokestatic 208, 3) := by decide +kernel
theorem dX5_worst_95 : decode cX5_worst 95 = .ok (.iinc 5 1, 3) := by decide +kernel
theorem dX5_worst_98 : decode cX5_worst 98 = .ok (.goto (-60), 3) := by decide +kernel
theorem dX5_worst_101 : decode cX5_worst 101 = .ok (.iload_n 3, 1) := by decide +kernel
theorem dX5_worst_102 : decode cX5_worst 102 = .ok (.iconst (-1), 1) := by decide +kernel
theorem dX5_worst_103 : decode cX5_worst 103 = .ok (.if_icmp .ne 8, 3) := by decide +kernel
theorem dX5_worst_106 : decode cX5_worst 106 = .ok (.aload_n 0, 1) := by decide +kernel
theorem dX5_worst_107 : decode cX5_worst 107 = .ok (.invokevirtual 117, 3) := by decide +kernel
theorem dX5_worst_110 : decode cX5_worst 110 = .ok (.ireturn, 1) := by decide +kernel
theorem dX5_worst_111 : decode cX5_worst 111 = .ok (.iload_n 1, 1) := by decide +kernel
theorem dX5_worst_112 : decode cX5_worst 112 = .ok (.ifCond .ne 7, 3) := by decide +kernel
theorem dX5_worst_115 : decode cX5_worst 115 = .ok (.iload_n 3, 1) := by decide +kernel
theorem dX5_worst_116 : decode cX5_worst 116 = .ok (.goto 5, 3) := by decide +kernel
theorem dX5_worst_119 : decode cX5_worst 119 = .ok (.iload 4, 2) := by decide +kernel
theorem dX5_worst_121 : decode cX5_worst 121 = .ok (.ireturn, 1) := by decide +kernel
theorem dX5_mended_0 : decode cX5_mended 0 = .ok (.aload_n 0, 1) := by decide +kernel
theorem dX5_mended_1 : decode cX5_mended 1 = .ok (.getfield 10, 3) := by decide +kernel
theorem dX5_mended_4 : decode cX5_mended 4 = .ok (.getfield 69, 3) := by decide +kernel
theorem dX5_mended_7 : decode cX5_mended 7 = .ok (.istore_n 1, 1) := by decide +kernel
theorem dX5_mended_8 : decode cX5_mended 8 = .ok (.iconst (-1), 1) := by decide +kernel
theorem dX5_mended_9 : decode cX5_mended 9 = .ok (.istore_n 2, 1) := by decide +kernel
theorem dX5_mended_10 : decode cX5_mended 10 = .ok (.aload_n 0, 1) := by decide +kernel
theorem dX5_mended_11 : decode cX5_mended 11 = .ok (.getfield 37, 3) := by decide +kernel
theorem dX5_mended_14 : decode cX5_mended 14 = .ok (.iload_n 1, 1) := by decide +kernel
theorem dX5_mended_15 : decode cX5_mended 15 = .ok (.invokestatic 198, 3) := by decide +kernel
theorem dX5_mended_18 : decode cX5_mended 18 = .ok (.iconst 0, 1) := by decide +kernel
theorem dX5_mended_19 : decode cX5_mended 19 = .ok (.istore_n 3, 1) := by decide +kernel
theorem dX5_mended_20 : decode cX5_mended 20 = .ok (.iload_n 3, 1) := by decide +kernel
theorem dX5_mended_21 : decode cX5_mended 21 = .ok (.getstatic 201, 3) := by decide +kernel
theorem dX5_mended_24 : decode cX5_mended 24 = .ok (.iload_n 1, 1) := by decide +kernel
theorem dX5_mended_25 : decode cX5_mended 25 = .ok (.iaload, 1) := by decide +kernel
theorem dX5_mended_26 : decode cX5_mended 26 = .ok (.if_icmp .ge 59, 3) := by decide +kernel
theorem dX5_mended_29 : decode cX5_mended 29 = .ok (.aload_n 0, 1) := by decide +kernel
theorem dX5_mended_30 : decode cX5_mended 30 = .ok (.aload_n 0, 1) := by decide +kernel
theorem dX5_mended_31 : decode cX5_mended 31 = .ok (.getfield 37, 3) := by decide +kernel
theorem dX5_mended_34 : decode cX5_mended 34 = .ok (.invokevirtual 242, 3) := by decide +kernel
theorem dX5_mended_37 : decode cX5_mended 37 = .ok (.ifCond .eq 34, 3) := by decide +kernel
theorem dX5_mended_40 : decode cX5_mended 40 = .ok (.aload_n 0, 1) := by decide +kernel
theorem dX5_mended_41 : decode cX5_mended 41 = .ok (.getfield 10, 3) := by decide +kernel
theorem dX5_mended_44 : decode cX5_mended 44 = .ok (.getfield 96, 3) := by decide +kernel
theorem dX5_mended_47 : decode cX5_mended 47 = .ok (.aload_n 0, 1) := by decide +kernel
theorem dX5_mended_48 : decode cX5_mended 48 = .ok (.getfield 37, 3) := by decide +kernel
theorem dX5_mended_51 : decode cX5_mended 51 = .ok (.iload_n 1, 1) := by decide +kernel
theorem dX5_mended_52 : decode cX5_mended 52 = .ok (.invokestatic 280, 3) := by decide +kernel
theorem dX5_mended_55 : decode cX5_mended 55 = .ok (.istore 4, 2) := by decide +kernel
theorem dX5_mended_57 : decode cX5_mended 57 = .ok (.iload_n 2, 1) := by decide +kernel
theorem dX5_mended_58 : decode cX5_mended 58 = .ok (.iconst (-1), 1) := by decide +kernel
theorem dX5_mended_59 : decode cX5_mended 59 = .ok (.if_icmp .eq 9, 3) := by decide +kernel
theorem dX5_mended_62 : decode cX5_mended 62 = .ok (.iload 4, 2) := by decide +kernel
theorem dX5_mended_64 : decode cX5_mended 64 = .ok (.iload_n 2, 1) := by decide +kernel
theorem dX5_mended_65 : decode cX5_mended 65 = .ok (.if_icmp .ge 6, 3) := by decide +kernel
theorem dX5_mended_68 : decode cX5_mended 68 = .ok (.iload 4, 2) := by decide +kernel
theorem dX5_mended_70 : decode cX5_mended 70 = .ok (.istore_n 2, 1) := by decide +kernel
theorem dX5_mended_71 : decode cX5_mended 71 = .ok (.aload_n 0, 1) := by decide +kernel
theorem dX5_mended_72 : decode cX5_mended 72 = .ok (.getfield 37, 3) := by decide +kernel
theorem dX5_mended_75 : decode cX5_mended 75 = .ok (.iload_n 1, 1) := by decide +kernel
theorem dX5_mended_76 : decode cX5_mended 76 = .ok (.invokestatic 208, 3) := by decide +kernel
theorem dX5_mended_79 : decode cX5_mended 79 = .ok (.iinc 3 1, 3) := by decide +kernel
theorem dX5_mended_82 : decode cX5_mended 82 = .ok (.goto (-62), 3) := by decide +kernel
theorem dX5_mended_85 : decode cX5_mended 85 = .ok (.iload_n 2, 1) := by decide +kernel
theorem dX5_mended_86 : decode cX5_mended 86 = .ok (.ireturn, 1) := by decide +kernel
theorem dX5_third_0 : decode cX5_third 0 = .ok (.iload_n 1, 1) := by decide +kernel
theorem dX5_third_1 : decode cX5_third 1 = .ok (.ifCond .eq 13, 3) := by decide +kernel
theorem dX5_third_4 : decode cX5_third 4 = .ok (.iload_n 1, 1) := by decide +kernel
theorem dX5_third_5 : decode cX5_third 5 = .ok (.iconst 1, 1) := by decide +kernel
theorem dX5_third_6 : decode cX5_third 6 = .ok (.if_icmp .eq 8, 3) := by decide +kernel
theorem dX5_third_9 : decode cX5_third 9 = .ok (.aload_n 0, 1) := by decide +kernel
theorem dX5_third_10 : decode cX5_third 10 = .ok (.invokevirtual 65, 3) := by decide +kernel
theorem dX5_third_13 : decode cX5_third 13 = .ok (.ireturn, 1) := by decide +kernel
theorem dX5_third_14 : decode cX5_third 14 = .ok (.iload_n 1, 1) := by decide +kernel
theorem dX5_third_15 : decode cX5_third 15 = .ok (.ifCond .ne 7, 3) := by decide +kernel
theorem dX5_third_18 : decode cX5_third 18 = .ok (.iconst 1, 1) := by decide +kernel
theorem dX5_third_19 : decode cX5_third 19 = .ok (.goto 4, 3) := by decide +kernel
theorem dX5_third_22 : decode cX5_third 22 = .ok (.iconst (-1), 1) := by decide +kernel
theorem dX5_third_23 : decode cX5_third 23 = .ok (.istore_n 2, 1) := by decide +kernel
theorem dX5_third_24 : decode cX5_third 24 = .ok (.aload_n 0, 1) := by decide +kernel
theorem dX5_third_25 : decode cX5_third 25 = .ok (.getfield 10, 3) := by decide +kernel
theorem dX5_third_28 : decode cX5_third 28 = .ok (.getfield 69, 3) := by decide +kernel
theorem dX5_third_31 : decode cX5_third 31 = .ok (.istore_n 3, 1) := by decide +kernel
theorem dX5_third_32 : decode cX5_third 32 = .ok (.iload_n 2, 1) := by decide +kernel
theorem dX5_third_33 : decode cX5_third 33 = .ok (.aload_n 0, 1) := by decide +kernel
theorem dX5_third_34 : decode cX5_third 34 = .ok (.aload_n 0, 1) := by decide +kernel
theorem dX5_third_35 : decode cX5_third 35 = .ok (.getfield 10, 3) := by decide +kernel
theorem dX5_third_38 : decode cX5_third 38 = .ok (.getfield 96, 3) := by decide +kernel
theorem dX5_third_41 : decode cX5_third 41 = .ok (.invokevirtual 184, 3) := by decide +kernel
theorem dX5_third_44 : decode cX5_third 44 = .ok (.invokestatic 275, 3) := by decide +kernel
theorem dX5_third_47 : decode cX5_third 47 = .ok (.imul, 1) := by decide +kernel
theorem dX5_third_48 : decode cX5_third 48 = .ok (.istore 4, 2) := by decide +kernel
theorem dX5_third_50 : decode cX5_third 50 = .ok (.iconst (-1), 1) := by decide +kernel
theorem dX5_third_51 : decode cX5_third 51 = .ok (.istore 5, 2) := by decide +kernel
theorem dX5_third_53 : decode cX5_third 53 = .ok (.aload_n 0, 1) := by decide +kernel
theorem dX5_third_54 : decode cX5_third 54 = .ok (.getfield 10, 3) := by decide +kernel
theorem dX5_third_57 : decode cX5_third 57 = .ok (.getfield 96, 3) := by decide +kernel
theorem dX5_third_60 : decode cX5_third 60 = .ok (.iconst 0, 1) := by decide +kernel
theorem dX5_third_61 : decode cX5_third 61 = .ok (.aload_n 0, 1) := by decide +kernel
theorem dX5_third_62 : decode cX5_third 62 = .ok (.getfield 37, 3) := by decide +kernel
theorem dX5_third_65 : decode cX5_third 65 = .ok (.iconst 0, 1) := by decide +kernel
theorem dX5_third_66 : decode cX5_third 66 = .ok (.bipush 7, 2) := by decide +kernel
theorem dX5_third_68 : decode cX5_third 68 = .ok (.invokestatic 284, 3) := by decide +kernel
theorem dX5_third_71 : decode cX5_third 71 = .ok (.iconst 0, 1) := by decide +kernel
theorem dX5_third_72 : decode cX5_third 72 = .ok (.istore 6, 2) := by decide +kernel
theorem dX5_third_74 : decode cX5_third 74 = .ok (.iload 6, 2) := by decide +kernel
theorem dX5_third_76 : decode cX5_third 76 = .ok (.iload_n 3, 1) := by decide +kernel
theorem dX5_third_77 : decode cX5_third 77 = .ok (.if_icmp .ge 85, 3) := by decide +kernel
theorem dX5_third_80 : decode cX5_third 80 = .ok (.iload 6, 2) := by decide +kernel
theorem dX5_third_82 : decode cX5_third 82 = .ok (.iconst 1, 1) := by decide +kernel
theorem dX5_third_83 : decode cX5_third 83 = .ok (.iadd, 1) := by decide +kernel
theorem dX5_third_84 : decode cX5_third 84 = .ok (.istore 7, 2) := by decide +kernel
theorem dX5_third_86 : decode cX5_third 86 = .ok (.iload 7, 2) := by decide +kernel
theorem dX5_third_88 : decode cX5_third 88 = .ok (.iload_n 3, 1) := by decide +kernel
theorem dX5_third_89 : decode cX5_third 89 = .ok (.if_icmp .ge 67, 3) := by decide +kernel
theorem dX5_third_92 : decode cX5_third 92 = .ok (.aload_n 0, 1) := by decide +kernel
theorem dX5_third_93 : decode cX5_third 93 = .ok (.getfield 37, 3) := by decide +kernel
theorem dX5_third_96 : decode cX5_third 96 = .ok (.iload 6, 2) := by decide +kernel
theorem dX5_third_98 : decode cX5_third 98 = .ok (.iload 7, 2) := by decide +kernel
theorem dX5_third_100 : decode cX5_third 100 = .ok (.invokestatic 99, 3) := by decide +kernel
theorem dX5_third_103 : decode cX5_third 103 = .ok (.iload_n 2, 1) := by decide +kernel
theorem dX5_third_104 : decode cX5_third 104 = .ok (.aload_n 0, 1) := by decide +kernel
theorem dX5_third_105 : decode cX5_third 105 = .ok (.aload_n 0, 1) := by decide +kernel
theorem dX5_third_106 : decode cX5_third 106 = .ok (.getfield 37, 3) := by decide +kernel
theorem dX5_third_109 : decode cX5_third 109 = .ok (.invokevirtual 184, 3) := by decide +kernel
theorem dX5_third_112 : decode cX5_third 112 = .ok (.invokestatic 275, 3) := by decide +kernel
theorem dX5_third_115 : decode cX5_third 115 = .ok (.imul, 1) := by decide +kernel
theorem dX5_third_116 : decode cX5_third 116 = .ok (.istore 8, 2) := by decide +kernel
theorem dX5_third_118 : decode cX5_third 118 = .ok (.aload_n 0, 1) := by decide +kernel
theorem dX5_third_119 : decode cX5_third 119 = .ok (.getfield 37, 3) := by decide +kernel
theorem dX5_third_122 : decode cX5_third 122 = .ok (.iload 6, 2) := by decide +kernel
theorem dX5_third_124 : decode cX5_third 124 = .ok (.iload 7, 2) := by decide +kernel
theorem dX5_third_126 : decode cX5_third 126 = .ok (.invokestatic 99, 3) := by decide +kernel
theorem dX5_third_129 : decode cX5_third 129 = .ok (.iload 8, 2) := by decide +kernel
theorem dX5_third_131 : decode cX5_third 131 = .ok (.iload 4, 2) := by decide +kernel
theorem dX5_third_133 : decode cX5_third 133 = .ok (.if_icmp .le 17, 3) := by decide +kernel
theorem dX5_third_136 : decode cX5_third 136 = .ok (.iload 8, 2) := by decide +kernel
theorem dX5_third_138 : decode cX5_third 138 = .ok (.istore 4, 2) := by decide +kernel
theorem dX5_third_140 : decode cX5_third 140 = .ok (.bipush 10, 2) := by decide +kernel
theorem dX5_third_142 : decode cX5_third 142 = .ok (.iload 6, 2) := by decide +kernel
theorem dX5_third_144 : decode cX5_third 144 = .ok (.imul, 1) := by decide +kernel
theorem dX5_third_145 : decode cX5_third 145 = .ok (.iload 7, 2) := by decide +kernel
theorem dX5_third_147 : decode cX5_third 147 = .ok (.iadd, 1) := by decide +kernel
theorem dX5_third_148 : decode cX5_third 148 = .ok (.istore 5, 2) := by decide +kernel
theorem dX5_third_150 : decode cX5_third 150 = .ok (.iinc 7 1, 3) := by decide +kernel
theorem dX5_third_153 : decode cX5_third 153 = .ok (.goto (-67), 3) := by decide +kernel
theorem dX5_third_156 : decode cX5_third 156 = .ok (.iinc 6 1, 3) := by decide +kernel
theorem dX5_third_159 : decode cX5_third 159 = .ok (.goto (-85), 3) := by decide +kernel
theorem dX5_third_162 : decode cX5_third 162 = .ok (.iload 5, 2) := by decide +kernel
theorem dX5_third_164 : decode cX5_third 164 = .ok (.ireturn, 1) := by decide +kernel
theorem dX5_laid_0 : decode cX5_laid 0 = .ok (.iload_n 1, 1) := by decide +kernel
theorem dX5_laid_1 : decode cX5_laid 1 = .ok (.ifCond .lt 10, 3) := by decide +kernel
theorem dX5_laid_4 : decode cX5_laid 4 = .ok (.iload_n 1, 1) := by decide +kernel
theorem dX5_laid_5 : decode cX5_laid 5 = .ok (.ldc_w 290, 3) := by decide +kernel
theorem dX5_laid_8 : decode cX5_laid 8 = .ok (.if_icmp .le 8, 3) := by decide +kernel
theorem dX5_laid_11 : decode cX5_laid 11 = .ok (.aload_n 0, 1) := by decide +kernel
theorem dX5_laid_12 : decode cX5_laid 12 = .ok (.invokevirtual 65, 3) := by decide +kernel
theorem dX5_laid_15 : decode cX5_laid 15 = .ok (.ireturn, 1) := by decide +kernel
theorem dX5_laid_16 : decode cX5_laid 16 = .ok (.aload_n 0, 1) := by decide +kernel
theorem dX5_laid_17 : decode cX5_laid 17 = .ok (.getfield 37, 3) := by decide +kernel
theorem dX5_laid_20 : decode cX5_laid 20 = .ok (.aload_n 0, 1) := by decide +kernel
theorem dX5_laid_21 : decode cX5_laid 21 = .ok (.getfield 10, 3) := by decide +kernel
theorem dX5_laid_24 : decode cX5_laid 24 = .ok (.getfield 69, 3) := by decide +kernel
theorem dX5_laid_27 : decode cX5_laid 27 = .ok (.iload_n 1, 1) := by decide +kernel
theorem dX5_laid_28 : decode cX5_laid 28 = .ok (.invokestatic 291, 3) := by decide +kernel
theorem dX5_laid_31 : decode cX5_laid 31 = .ok (.aload_n 0, 1) := by decide +kernel
theorem dX5_laid_32 : decode cX5_laid 32 = .ok (.getfield 37, 3) := by decide +kernel
theorem dX5_laid_35 : decode cX5_laid 35 = .ok (.aload_n 0, 1) := by decide +kernel
theorem dX5_laid_36 : decode cX5_laid 36 = .ok (.getfield 10, 3) := by decide +kernel
theorem dX5_laid_39 : decode cX5_laid 39 = .ok (.getfield 69, 3) := by decide +kernel
theorem dX5_laid_42 : decode cX5_laid 42 = .ok (.invokestatic 191, 3) := by decide +kernel
theorem dX5_laid_45 : decode cX5_laid 45 = .ok (.ireturn, 1) := by decide +kernel
theorem dX5_lucky_0 : decode cX5_lucky 0 = .ok (.iload_n 1, 1) := by decide +kernel
theorem dX5_lucky_1 : decode cX5_lucky 1 = .ok (.ifCond .lt 20, 3) := by decide +kernel
theorem dX5_lucky_4 : decode cX5_lucky 4 = .ok (.iload_n 1, 1) := by decide +kernel
theorem dX5_lucky_5 : decode cX5_lucky 5 = .ok (.ldc_w 290, 3) := by decide +kernel
theorem dX5_lucky_8 : decode cX5_lucky 8 = .ok (.if_icmp .gt 13, 3) := by decide +kernel
theorem dX5_lucky_11 : decode cX5_lucky 11 = .ok (.iload_n 2, 1) := by decide +kernel
theorem dX5_lucky_12 : decode cX5_lucky 12 = .ok (.ifCond .lt 9, 3) := by decide +kernel
theorem dX5_lucky_15 : decode cX5_lucky 15 = .ok (.iload_n 2, 1) := by decide +kernel
theorem dX5_lucky_16 : decode cX5_lucky 16 = .ok (.bipush 60, 2) := by decide +kernel
theorem dX5_lucky_18 : decode cX5_lucky 18 = .ok (.if_icmp .le 8, 3) := by decide +kernel
theorem dX5_lucky_21 : decode cX5_lucky 21 = .ok (.aload_n 0, 1) := by decide +kernel
theorem dX5_lucky_22 : decode cX5_lucky 22 = .ok (.invokevirtual 65, 3) := by decide +kernel
theorem dX5_lucky_25 : decode cX5_lucky 25 = .ok (.ireturn, 1) := by decide +kernel
theorem dX5_lucky_26 : decode cX5_lucky 26 = .ok (.iconst 0, 1) := by decide +kernel
theorem dX5_lucky_27 : decode cX5_lucky 27 = .ok (.istore_n 3, 1) := by decide +kernel
theorem dX5_lucky_28 : decode cX5_lucky 28 = .ok (.iconst 0, 1) := by decide +kernel
theorem dX5_lucky_29 : decode cX5_lucky 29 = .ok (.istore 4, 2) := by decide +kernel
theorem dX5_lucky_31 : decode cX5_lucky 31 = .ok (.iload 4, 2) := by decide +kernel
theorem dX5_lucky_33 : decode cX5_lucky 33 = .ok (.iload_n 2, 1) := by decide +kernel
theorem dX5_lucky_34 : decode cX5_lucky 34 = .ok (.if_icmp .ge 46, 3) := by decide +kernel
theorem dX5_lucky_37 : decode cX5_lucky 37 = .ok (.aload_n 0, 1) := by decide +kernel
theorem dX5_lucky_38 : decode cX5_lucky 38 = .ok (.getfield 37, 3) := by decide +kernel
theorem dX5_lucky_41 : decode cX5_lucky 41 = .ok (.aload_n 0, 1) := by decide +kernel
theorem dX5_lucky_42 : decode cX5_lucky 42 = .ok (.getfield 10, 3) := by decide +kernel
theorem dX5_lucky_45 : decode cX5_lucky 45 = .ok (.getfield 69, 3) := by decide +kernel
theorem dX5_lucky_48 : decode cX5_lucky 48 = .ok (.iload_n 1, 1) := by decide +kernel
theorem dX5_lucky_49 : decode cX5_lucky 49 = .ok (.iload 4, 2) := by decide +kernel
theorem dX5_lucky_51 : decode cX5_lucky 51 = .ok (.iadd, 1) := by decide +kernel
theorem dX5_lucky_52 : decode cX5_lucky 52 = .ok (.invokestatic 291, 3) := by decide +kernel
theorem dX5_lucky_55 : decode cX5_lucky 55 = .ok (.iload_n 3, 1) := by decide +kernel
theorem dX5_lucky_56 : decode cX5_lucky 56 = .ok (.aload_n 0, 1) := by decide +kernel
theorem dX5_lucky_57 : decode cX5_lucky 57 = .ok (.aload_n 0, 1) := by decide +kernel
theorem dX5_lucky_58 : decode cX5_lucky 58 = .ok (.getfield 37, 3) := by decide +kernel
theorem dX5_lucky_61 : decode cX5_lucky 61 = .ok (.invokevirtual 242, 3) := by decide +kernel
theorem dX5_lucky_64 : decode cX5_lucky 64 = .ok (.ifCond .eq 7, 3) := by decide +kernel
theorem dX5_lucky_67 : decode cX5_lucky 67 = .ok (.iconst 1, 1) := by decide +kernel
theorem dX5_lucky_68 : decode cX5_lucky 68 = .ok (.goto 4, 3) := by decide +kernel
theorem dX5_lucky_71 : decode cX5_lucky 71 = .ok (.iconst 0, 1) := by decide +kernel
theorem dX5_lucky_72 : decode cX5_lucky 72 = .ok (.iadd, 1) := by decide +kernel
theorem dX5_lucky_73 : decode cX5_lucky 73 = .ok (.istore_n 3, 1) := by decide +kernel
theorem dX5_lucky_74 : decode cX5_lucky 74 = .ok (.iinc 4 1, 3) := by decide +kernel
theorem dX5_lucky_77 : decode cX5_lucky 77 = .ok (.goto (-46), 3) := by decide +kernel
theorem dX5_lucky_80 : decode cX5_lucky 80 = .ok (.iload_n 3, 1) := by decide +kernel
theorem dX5_lucky_81 : decode cX5_lucky 81 = .ok (.ireturn, 1) := by decide +kernel
theorem dX5_part_0 : decode cX5_part 0 = .ok (.iload_n 1, 1) := by decide +kernel
theorem dX5_part_1 : decode cX5_part 1 = .ok (.ifCond .ne 8, 3) := by decide +kernel
theorem dX5_part_4 : decode cX5_part 4 = .ok (.aload_n 0, 1) := by decide +kernel
theorem dX5_part_5 : decode cX5_part 5 = .ok (.getfield 48, 3) := by decide +kernel
theorem dX5_part_8 : decode cX5_part 8 = .ok (.lreturn, 1) := by decide +kernel
theorem dX5_part_9 : decode cX5_part 9 = .ok (.iload_n 1, 1) := by decide +kernel
theorem dX5_part_10 : decode cX5_part 10 = .ok (.iconst 1, 1) := by decide +kernel
theorem dX5_part_11 : decode cX5_part 11 = .ok (.if_icmp .ne 8, 3) := by decide +kernel
theorem dX5_part_14 : decode cX5_part 14 = .ok (.aload_n 0, 1) := by decide +kernel
theorem dX5_part_15 : decode cX5_part 15 = .ok (.getfield 52, 3) := by decide +kernel
theorem dX5_part_18 : decode cX5_part 18 = .ok (.lreturn, 1) := by decide +kernel
theorem dX5_part_19 : decode cX5_part 19 = .ok (.aload_n 0, 1) := by decide +kernel
theorem dX5_part_20 : decode cX5_part 20 = .ok (.invokevirtual 65, 3) := by decide +kernel
theorem dX5_part_23 : decode cX5_part 23 = .ok (.i2l, 1) := by decide +kernel
theorem dX5_part_24 : decode cX5_part 24 = .ok (.lreturn, 1) := by decide +kernel
theorem dX5_image_0 : decode cX5_image 0 = .ok (.iload_n 1, 1) := by decide +kernel
theorem dX5_image_1 : decode cX5_image 1 = .ok (.ifCond .lt 8, 3) := by decide +kernel
theorem dX5_image_4 : decode cX5_image 4 = .ok (.iload_n 1, 1) := by decide +kernel
theorem dX5_image_5 : decode cX5_image 5 = .ok (.iconst 2, 1) := by decide +kernel
theorem dX5_image_6 : decode cX5_image 6 = .ok (.if_icmp .lt 8, 3) := by decide +kernel
theorem dX5_image_9 : decode cX5_image 9 = .ok (.aload_n 0, 1) := by decide +kernel
theorem dX5_image_10 : decode cX5_image 10 = .ok (.invokevirtual 65, 3) := by decide +kernel
theorem dX5_image_13 : decode cX5_image 13 = .ok (.ireturn, 1) := by decide +kernel
theorem dX5_image_14 : decode cX5_image 14 = .ok (.aload_n 0, 1) := by decide +kernel
theorem dX5_image_15 : decode cX5_image 15 = .ok (.getfield 19, 3) := by decide +kernel
theorem dX5_image_18 : decode cX5_image 18 = .ok (.iload_n 1, 1) := by decide +kernel
theorem dX5_image_19 : decode cX5_image 19 = .ok (.aaload, 1) := by decide +kernel
theorem dX5_image_20 : decode cX5_image 20 = .ok (.astore_n 2, 1) := by decide +kernel
theorem dX5_image_21 : decode cX5_image 21 = .ok (.aload_n 2, 1) := by decide +kernel
theorem dX5_image_22 : decode cX5_image 22 = .ok (.ifnonnull 18, 3) := by decide +kernel
theorem dX5_image_25 : decode cX5_image 25 = .ok (.new 7, 3) := by decide +kernel
theorem dX5_image_28 : decode cX5_image 28 = .ok (.dup, 1) := by decide +kernel
theorem dX5_image_29 : decode cX5_image 29 = .ok (.invokespecial 9, 3) := by decide +kernel
theorem dX5_image_32 : decode cX5_image 32 = .ok (.astore_n 2, 1) := by decide +kernel
theorem dX5_image_33 : decode cX5_image 33 = .ok (.aload_n 0, 1) := by decide +kernel
theorem dX5_image_34 : decode cX5_image 34 = .ok (.getfield 19, 3) := by decide +kernel
theorem dX5_image_37 : decode cX5_image 37 = .ok (.iload_n 1, 1) := by decide +kernel
theorem dX5_image_38 : decode cX5_image 38 = .ok (.aload_n 2, 1) := by decide +kernel
theorem dX5_image_39 : decode cX5_image 39 = .ok (.aastore, 1) := by decide +kernel
theorem dX5_image_40 : decode cX5_image 40 = .ok (.aload_n 2, 1) := by decide +kernel
theorem dX5_image_41 : decode cX5_image 41 = .ok (.aload_n 0, 1) := by decide +kernel
theorem dX5_image_42 : decode cX5_image 42 = .ok (.getfield 10, 3) := by decide +kernel
theorem dX5_image_45 : decode cX5_image 45 = .ok (.invokevirtual 159, 3) := by decide +kernel
theorem dX5_image_48 : decode cX5_image 48 = .ok (.iconst 1, 1) := by decide +kernel
theorem dX5_image_49 : decode cX5_image 49 = .ok (.ireturn, 1) := by decide +kernel
theorem dX5_from_0 : decode cX5_from 0 = .ok (.iload_n 1, 1) := by decide +kernel
theorem dX5_from_1 : decode cX5_from 1 = .ok (.ifCond .lt 8, 3) := by decide +kernel
theorem dX5_from_4 : decode cX5_from 4 = .ok (.iload_n 1, 1) := by decide +kernel
theorem dX5_from_5 : decode cX5_from 5 = .ok (.iconst 2, 1) := by decide +kernel
theorem dX5_from_6 : decode cX5_from 6 = .ok (.if_icmp .lt 8, 3) := by decide +kernel
theorem dX5_from_9 : decode cX5_from 9 = .ok (.aload_n 0, 1) := by decide +kernel
theorem dX5_from_10 : decode cX5_from 10 = .ok (.invokevirtual 65, 3) := by decide +kernel
theorem dX5_from_13 : decode cX5_from 13 = .ok (.ireturn, 1) := by decide +kernel
theorem dX5_from_14 : decode cX5_from 14 = .ok (.aload_n 0, 1) := by decide +kernel
theorem dX5_from_15 : decode cX5_from 15 = .ok (.getfield 19, 3) := by decide +kernel
theorem dX5_from_18 : decode cX5_from 18 = .ok (.iload_n 1, 1) := by decide +kernel
theorem dX5_from_19 : decode cX5_from 19 = .ok (.aaload, 1) := by decide +kernel
theorem dX5_from_20 : decode cX5_from 20 = .ok (.astore_n 2, 1) := by decide +kernel
theorem dX5_from_21 : decode cX5_from 21 = .ok (.aload_n 2, 1) := by decide +kernel
theorem dX5_from_22 : decode cX5_from 22 = .ok (.ifnonnull 8, 3) := by decide +kernel
theorem dX5_from_25 : decode cX5_from 25 = .ok (.aload_n 0, 1) := by decide +kernel
theorem dX5_from_26 : decode cX5_from 26 = .ok (.invokevirtual 117, 3) := by decide +kernel
theorem dX5_from_29 : decode cX5_from 29 = .ok (.ireturn, 1) := by decide +kernel
theorem dX5_from_30 : decode cX5_from 30 = .ok (.aload_n 0, 1) := by decide +kernel
theorem dX5_from_31 : decode cX5_from 31 = .ok (.getfield 10, 3) := by decide +kernel
theorem dX5_from_34 : decode cX5_from 34 = .ok (.aload_n 2, 1) := by decide +kernel
theorem dX5_from_35 : decode cX5_from 35 = .ok (.invokevirtual 159, 3) := by decide +kernel
theorem dX5_from_38 : decode cX5_from 38 = .ok (.iconst 1, 1) := by decide +kernel
theorem dX5_from_39 : decode cX5_from 39 = .ok (.ireturn, 1) := by decide +kernel
theorem dX5_status_0 : decode cX5_status 0 = .ok (.iload_n 1, 1) := by decide +kernel
theorem dX5_status_1 : decode cX5_status 1 = .ok (.tableswitch 42 0 2 #[27, 32, 37], 27) := by decide +kernel
theorem dX5_status_28 : decode cX5_status 28 = .ok (.aload_n 0, 1) := by decide +kernel
theorem dX5_status_29 : decode cX5_status 29 = .ok (.getfield 55, 3) := by decide +kernel
theorem dX5_status_32 : decode cX5_status 32 = .ok (.ireturn, 1) := by decide +kernel
theorem dX5_status_33 : decode cX5_status 33 = .ok (.aload_n 0, 1) := by decide +kernel
theorem dX5_status_34 : decode cX5_status 34 = .ok (.getfield 59, 3) := by decide +kernel
theorem dX5_status_37 : decode cX5_status 37 = .ok (.ireturn, 1) := by decide +kernel
theorem dX5_status_38 : decode cX5_status 38 = .ok (.aload_n 0, 1) := by decide +kernel
theorem dX5_status_39 : decode cX5_status 39 = .ok (.getfield 62, 3) := by decide +kernel
theorem dX5_status_42 : decode cX5_status 42 = .ok (.ireturn, 1) := by decide +kernel
theorem dX5_status_43 : decode cX5_status 43 = .ok (.aload_n 0, 1) := by decide +kernel
theorem dX5_status_44 : decode cX5_status 44 = .ok (.invokevirtual 65, 3) := by decide +kernel
theorem dX5_status_47 : decode cX5_status 47 = .ok (.pop, 1) := by decide +kernel
theorem dX5_status_48 : decode cX5_status 48 = .ok (.iconst (-1), 1) := by decide +kernel
theorem dX5_status_49 : decode cX5_status 49 = .ok (.ireturn, 1) := by decide +kernel
theorem dX5_count_0 : decode cX5_count 0 = .ok (.iload_n 1, 1) := by decide +kernel
theorem dX5_count_1 : decode cX5_count 1 = .ok (.ifCond .lt 9, 3) := by decide +kernel
theorem dX5_count_4 : decode cX5_count 4 = .ok (.iload_n 1, 1) := by decide +kernel
theorem dX5_count_5 : decode cX5_count 5 = .ok (.bipush 8, 2) := by decide +kernel
theorem dX5_count_7 : decode cX5_count 7 = .ok (.if_icmp .lt 8, 3) := by decide +kernel
theorem dX5_count_10 : decode cX5_count 10 = .ok (.aload_n 0, 1) := by decide +kernel
theorem dX5_count_11 : decode cX5_count 11 = .ok (.invokevirtual 65, 3) := by decide +kernel
theorem dX5_count_14 : decode cX5_count 14 = .ok (.ireturn, 1) := by decide +kernel
theorem dX5_count_15 : decode cX5_count 15 = .ok (.aload_n 0, 1) := by decide +kernel
theorem dX5_count_16 : decode cX5_count 16 = .ok (.iload_n 1, 1) := by decide +kernel
theorem dX5_count_17 : decode cX5_count 17 = .ok (.invokevirtual 294, 3) := by decide +kernel
theorem dX5_count_20 : decode cX5_count 20 = .ok (.ireturn, 1) := by decide +kernel
theorem dX5_howMany_0 : decode cX5_howMany 0 = .ok (.iload_n 1, 1) := by decide +kernel
theorem dX5_howMany_1 : decode cX5_howMany 1 = .ok (.tableswitch 99 0 6 #[43, 51, 59, 67, 75, 83, 91], 43) := by decide +kernel
theorem dX5_howMany_44 : decode cX5_howMany 44 = .ok (.aload_n 0, 1) := by decide +kernel
theorem dX5_howMany_45 : decode cX5_howMany 45 = .ok (.getfield 10, 3) := by decide +kernel
theorem dX5_howMany_48 : decode cX5_howMany 48 = .ok (.getfield 69, 3) := by decide +kernel
theorem dX5_howMany_51 : decode cX5_howMany 51 = .ok (.ireturn, 1) := by decide +kernel
theorem dX5_howMany_52 : decode cX5_howMany 52 = .ok (.aload_n 0, 1) := by decide +kernel
theorem dX5_howMany_53 : decode cX5_howMany 53 = .ok (.getfield 10, 3) := by decide +kernel
theorem dX5_howMany_56 : decode cX5_howMany 56 = .ok (.getfield 83, 3) := by decide +kernel
theorem dX5_howMany_59 : decode cX5_howMany 59 = .ok (.ireturn, 1) := by decide +kernel
theorem dX5_howMany_60 : decode cX5_howMany 60 = .ok (.aload_n 0, 1) := by decide +kernel
theorem dX5_howMany_61 : decode cX5_howMany 61 = .ok (.getfield 10, 3) := by decide +kernel
theorem dX5_howMany_64 : decode cX5_howMany 64 = .ok (.getfield 80, 3) := by decide +kernel
theorem dX5_howMany_67 : decode cX5_howMany 67 = .ok (.ireturn, 1) := by decide +kernel
theorem dX5_howMany_68 : decode cX5_howMany 68 = .ok (.aload_n 0, 1) := by decide +kernel
theorem dX5_howMany_69 : decode cX5_howMany 69 = .ok (.getfield 10, 3) := by decide +kernel
theorem dX5_howMany_72 : decode cX5_howMany 72 = .ok (.invokevirtual 139, 3) := by decide +kernel
theorem dX5_howMany_75 : decode cX5_howMany 75 = .ok (.ireturn, 1) := by decide +kernel
theorem dX5_howMany_76 : decode cX5_howMany 76 = .ok (.aload_n 0, 1) := by decide +kernel
theorem dX5_howMany_77 : decode cX5_howMany 77 = .ok (.getfield 10, 3) := by decide +kernel
theorem dX5_howMany_80 : decode cX5_howMany 80 = .ok (.getfield 129, 3) := by decide +kernel
theorem dX5_howMany_83 : decode cX5_howMany 83 = .ok (.ireturn, 1) := by decide +kernel
theorem dX5_howMany_84 : decode cX5_howMany 84 = .ok (.aload_n 0, 1) := by decide +kernel
theorem dX5_howMany_85 : decode cX5_howMany 85 = .ok (.getfield 10, 3) := by decide +kernel
theorem dX5_howMany_88 : decode cX5_howMany 88 = .ok (.getfield 114, 3) := by decide +kernel
theorem dX5_howMany_91 : decode cX5_howMany 91 = .ok (.ireturn, 1) := by decide +kernel
theorem dX5_howMany_92 : decode cX5_howMany 92 = .ok (.aload_n 0, 1) := by decide +kernel
theorem dX5_howMany_93 : decode cX5_howMany 93 = .ok (.getfield 26, 3) := by decide +kernel
theorem dX5_howMany_96 : decode cX5_howMany 96 = .ok (.getfield 148, 3) := by decide +kernel
theorem dX5_howMany_99 : decode cX5_howMany 99 = .ok (.ireturn, 1) := by decide +kernel
theorem dX5_howMany_100 : decode cX5_howMany 100 = .ok (.aload_n 0, 1) := by decide +kernel
theorem dX5_howMany_101 : decode cX5_howMany 101 = .ok (.getfield 10, 3) := by decide +kernel
theorem dX5_howMany_104 : decode cX5_howMany 104 = .ok (.getfield 219, 3) := by decide +kernel
theorem dX5_howMany_107 : decode cX5_howMany 107 = .ok (.ireturn, 1) := by decide +kernel
theorem dX5_digest_0 : decode cX5_digest 0 = .ok (.ldc2_w 297, 3) := by decide +kernel
theorem dX5_digest_3 : decode cX5_digest 3 = .ok (.lstore_n 1, 1) := by decide +kernel
theorem dX5_digest_4 : decode cX5_digest 4 = .ok (.iconst 0, 1) := by decide +kernel
theorem dX5_digest_5 : decode cX5_digest 5 = .ok (.istore_n 3, 1) := by decide +kernel
theorem dX5_digest_6 : decode cX5_digest 6 = .ok (.iload_n 3, 1) := by decide +kernel
theorem dX5_digest_7 : decode cX5_digest 7 = .ok (.bipush 8, 2) := by decide +kernel
theorem dX5_digest_9 : decode cX5_digest 9 = .ok (.if_icmp .ge 22, 3) := by decide +kernel
theorem dX5_digest_12 : decode cX5_digest 12 = .ok (.ldc2_w 299, 3) := by decide +kernel
theorem dX5_digest_15 : decode cX5_digest 15 = .ok (.lload_n 1, 1) := by decide +kernel
theorem dX5_digest_16 : decode cX5_digest 16 = .ok (.lmul, 1) := by decide +kernel
theorem dX5_digest_17 : decode cX5_digest 17 = .ok (.aload_n 0, 1) := by decide +kernel
theorem dX5_digest_18 : decode cX5_digest 18 = .ok (.iload_n 3, 1) := by decide +kernel
theorem dX5_digest_19 : decode cX5_digest 19 = .ok (.invokevirtual 294, 3) := by decide +kernel
theorem dX5_digest_22 : decode cX5_digest 22 = .ok (.i2l, 1) := by decide +kernel
theorem dX5_digest_23 : decode cX5_digest 23 = .ok (.ladd, 1) := by decide +kernel
theorem dX5_digest_24 : decode cX5_digest 24 = .ok (.lstore_n 1, 1) := by decide +kernel
theorem dX5_digest_25 : decode cX5_digest 25 = .ok (.iinc 3 1, 3) := by decide +kernel
theorem dX5_digest_28 : decode cX5_digest 28 = .ok (.goto (-22), 3) := by decide +kernel
theorem dX5_digest_31 : decode cX5_digest 31 = .ok (.iconst 0, 1) := by decide +kernel
theorem dX5_digest_32 : decode cX5_digest 32 = .ok (.istore_n 3, 1) := by decide +kernel
theorem dX5_digest_33 : decode cX5_digest 33 = .ok (.iload_n 3, 1) := by decide +kernel
theorem dX5_digest_34 : decode cX5_digest 34 = .ok (.aload_n 0, 1) := by decide +kernel
theorem dX5_digest_35 : decode cX5_digest 35 = .ok (.getfield 10, 3) := by decide +kernel
theorem dX5_digest_38 : decode cX5_digest 38 = .ok (.getfield 69, 3) := by decide +kernel
theorem dX5_digest_41 : decode cX5_digest 41 = .ok (.if_icmp .ge 43, 3) := by decide +kernel
theorem dX5_digest_44 : decode cX5_digest 44 = .ok (.ldc2_w 299, 3) := by decide +kernel
theorem dX5_digest_47 : decode cX5_digest 47 = .ok (.lload_n 1, 1) := by decide +kernel
theorem dX5_digest_48 : decode cX5_digest 48 = .ok (.lmul, 1) := by decide +kernel
theorem dX5_digest_49 : decode cX5_digest 49 = .ok (.aload_n 0, 1) := by decide +kernel
theorem dX5_digest_50 : decode cX5_digest 50 = .ok (.getfield 10, 3) := by decide +kernel
theorem dX5_digest_53 : decode cX5_digest 53 = .ok (.getfield 96, 3) := by decide +kernel
theorem dX5_digest_56 : decode cX5_digest 56 = .ok (.iload_n 3, 1) := by decide +kernel
theorem dX5_digest_57 : decode cX5_digest 57 = .ok (.iaload, 1) := by decide +kernel
theorem dX5_digest_58 : decode cX5_digest 58 = .ok (.i2l, 1) := by decide +kernel
theorem dX5_digest_59 : decode cX5_digest 59 = .ok (.ladd, 1) := by decide +kernel
theorem dX5_digest_60 : decode cX5_digest 60 = .ok (.lstore_n 1, 1) := by decide +kernel
theorem dX5_digest_61 : decode cX5_digest 61 = .ok (.ldc2_w 299, 3) := by decide +kernel
theorem dX5_digest_64 : decode cX5_digest 64 = .ok (.lload_n 1, 1) := by decide +kernel
theorem dX5_digest_65 : decode cX5_digest 65 = .ok (.lmul, 1) := by decide +kernel
theorem dX5_digest_66 : decode cX5_digest 66 = .ok (.aload_n 0, 1) := by decide +kernel
theorem dX5_digest_67 : decode cX5_digest 67 = .ok (.getfield 10, 3) := by decide +kernel
theorem dX5_digest_70 : decode cX5_digest 70 = .ok (.getfield 123, 3) := by decide +kernel
theorem dX5_digest_73 : decode cX5_digest 73 = .ok (.iload_n 3, 1) := by decide +kernel
theorem dX5_digest_74 : decode cX5_digest 74 = .ok (.iaload, 1) := by decide +kernel
theorem dX5_digest_75 : decode cX5_digest 75 = .ok (.i2l, 1) := by decide +kernel
theorem dX5_digest_76 : decode cX5_digest 76 = .ok (.ladd, 1) := by decide +kernel
theorem dX5_digest_77 : decode cX5_digest 77 = .ok (.lstore_n 1, 1) := by decide +kernel
theorem dX5_digest_78 : decode cX5_digest 78 = .ok (.iinc 3 1, 3) := by decide +kernel
theorem dX5_digest_81 : decode cX5_digest 81 = .ok (.goto (-48), 3) := by decide +kernel
theorem dX5_digest_84 : decode cX5_digest 84 = .ok (.iconst 0, 1) := by decide +kernel
theorem dX5_digest_85 : decode cX5_digest 85 = .ok (.istore_n 3, 1) := by decide +kernel
theorem dX5_digest_86 : decode cX5_digest 86 = .ok (.iload_n 3, 1) := by decide +kernel
theorem dX5_digest_87 : decode cX5_digest 87 = .ok (.aload_n 0, 1) := by decide +kernel
theorem dX5_digest_88 : decode cX5_digest 88 = .ok (.getfield 10, 3) := by decide +kernel
theorem dX5_digest_91 : decode cX5_digest 91 = .ok (.getfield 69, 3) := by decide +kernel
theorem dX5_digest_94 : decode cX5_digest 94 = .ok (.if_icmp .ge 26, 3) := by decide +kernel
theorem dX5_digest_97 : decode cX5_digest 97 = .ok (.ldc2_w 299, 3) := by decide +kernel
theorem dX5_digest_100 : decode cX5_digest 100 = .ok (.lload_n 1, 1) := by decide +kernel
theorem dX5_digest_101 : decode cX5_digest 101 = .ok (.lmul, 1) := by decide +kernel
theorem dX5_digest_102 : decode cX5_digest 102 = .ok (.aload_n 0, 1) := by decide +kernel
theorem dX5_digest_103 : decode cX5_digest 103 = .ok (.getfield 10, 3) := by decide +kernel
theorem dX5_digest_106 : decode cX5_digest 106 = .ok (.getfield 90, 3) := by decide +kernel
theorem dX5_digest_109 : decode cX5_digest 109 = .ok (.iload_n 3, 1) := by decide +kernel
theorem dX5_digest_110 : decode cX5_digest 110 = .ok (.iaload, 1) := by decide +kernel
theorem dX5_digest_111 : decode cX5_digest 111 = .ok (.i2l, 1) := by decide +kernel
theorem dX5_digest_112 : decode cX5_digest 112 = .ok (.ladd, 1) := by decide +kernel
theorem dX5_digest_113 : decode cX5_digest 113 = .ok (.lstore_n 1, 1) := by decide +kernel
theorem dX5_digest_114 : decode cX5_digest 114 = .ok (.iinc 3 1, 3) := by decide +kernel
theorem dX5_digest_117 : decode cX5_digest 117 = .ok (.goto (-31), 3) := by decide +kernel
theorem dX5_digest_120 : decode cX5_digest 120 = .ok (.iconst 0, 1) := by decide +kernel
theorem dX5_digest_121 : decode cX5_digest 121 = .ok (.istore_n 3, 1) := by decide +kernel
theorem dX5_digest_122 : decode cX5_digest 122 = .ok (.iload_n 3, 1) := by decide +kernel
theorem dX5_digest_123 : decode cX5_digest 123 = .ok (.aload_n 0, 1) := by decide +kernel
theorem dX5_digest_124 : decode cX5_digest 124 = .ok (.getfield 10, 3) := by decide +kernel
theorem dX5_digest_127 : decode cX5_digest 127 = .ok (.getfield 129, 3) := by decide +kernel
theorem dX5_digest_130 : decode cX5_digest 130 = .ok (.if_icmp .ge 43, 3) := by decide +kernel
theorem dX5_digest_133 : decode cX5_digest 133 = .ok (.ldc2_w 299, 3) := by decide +kernel
theorem dX5_digest_136 : decode cX5_digest 136 = .ok (.lload_n 1, 1) := by decide +kernel
theorem dX5_digest_137 : decode cX5_digest 137 = .ok (.lmul, 1) := by decide +kernel
theorem dX5_digest_138 : decode cX5_digest 138 = .ok (.aload_n 0, 1) := by decide +kernel
theorem dX5_digest_139 : decode cX5_digest 139 = .ok (.getfield 10, 3) := by decide +kernel
theorem dX5_digest_142 : decode cX5_digest 142 = .ok (.getfield 301, 3) := by decide +kernel
theorem dX5_digest_145 : decode cX5_digest 145 = .ok (.iload_n 3, 1) := by decide +kernel
theorem dX5_digest_146 : decode cX5_digest 146 = .ok (.iaload, 1) := by decide +kernel
theorem dX5_digest_147 : decode cX5_digest 147 = .ok (.i2l, 1) := by decide +kernel
theorem dX5_digest_148 : decode cX5_digest 148 = .ok (.ladd, 1) := by decide +kernel
theorem dX5_digest_149 : decode cX5_digest 149 = .ok (.lstore_n 1, 1) := by decide +kernel
theorem dX5_digest_150 : decode cX5_digest 150 = .ok (.ldc2_w 299, 3) := by decide +kernel
theorem dX5_digest_153 : decode cX5_digest 153 = .ok (.lload_n 1, 1) := by decide +kernel
theorem dX5_digest_154 : decode cX5_digest 154 = .ok (.lmul, 1) := by decide +kernel
theorem dX5_digest_155 : decode cX5_digest 155 = .ok (.aload_n 0, 1) := by decide +kernel
theorem dX5_digest_156 : decode cX5_digest 156 = .ok (.getfield 10, 3) := by decide +kernel
theorem dX5_digest_159 : decode cX5_digest 159 = .ok (.getfield 304, 3) := by decide +kernel
theorem dX5_digest_162 : decode cX5_digest 162 = .ok (.iload_n 3, 1) := by decide +kernel
theorem dX5_digest_163 : decode cX5_digest 163 = .ok (.iaload, 1) := by decide +kernel
theorem dX5_digest_164 : decode cX5_digest 164 = .ok (.i2l, 1) := by decide +kernel
theorem dX5_digest_165 : decode cX5_digest 165 = .ok (.ladd, 1) := by decide +kernel
theorem dX5_digest_166 : decode cX5_digest 166 = .ok (.lstore_n 1, 1) := by decide +kernel
theorem dX5_digest_167 : decode cX5_digest 167 = .ok (.iinc 3 1, 3) := by decide +kernel
theorem dX5_digest_170 : decode cX5_digest 170 = .ok (.goto (-48), 3) := by decide +kernel
theorem dX5_digest_173 : decode cX5_digest 173 = .ok (.iconst 0, 1) := by decide +kernel
theorem dX5_digest_174 : decode cX5_digest 174 = .ok (.istore_n 3, 1) := by decide +kernel
theorem dX5_digest_175 : decode cX5_digest 175 = .ok (.iload_n 3, 1) := by decide +kernel
theorem dX5_digest_176 : decode cX5_digest 176 = .ok (.aload_n 0, 1) := by decide +kernel
theorem dX5_digest_177 : decode cX5_digest 177 = .ok (.getfield 10, 3) := by decide +kernel
theorem dX5_digest_180 : decode cX5_digest 180 = .ok (.getfield 219, 3) := by decide +kernel
theorem dX5_digest_183 : decode cX5_digest 183 = .ok (.if_icmp .ge 26, 3) := by decide +kernel
theorem dX5_digest_186 : decode cX5_digest 186 = .ok (.ldc2_w 299, 3) := by decide +kernel
theorem dX5_digest_189 : decode cX5_digest 189 = .ok (.lload_n 1, 1) := by decide +kernel
theorem dX5_digest_190 : decode cX5_digest 190 = .ok (.lmul, 1) := by decide +kernel
theorem dX5_digest_191 : decode cX5_digest 191 = .ok (.aload_n 0, 1) := by decide +kernel
theorem dX5_digest_192 : decode cX5_digest 192 = .ok (.getfield 10, 3) := by decide +kernel
theorem dX5_digest_195 : decode cX5_digest 195 = .ok (.getfield 307, 3) := by decide +kernel
theorem dX5_digest_198 : decode cX5_digest 198 = .ok (.iload_n 3, 1) := by decide +kernel
theorem dX5_digest_199 : decode cX5_digest 199 = .ok (.iaload, 1) := by decide +kernel
theorem dX5_digest_200 : decode cX5_digest 200 = .ok (.i2l, 1) := by decide +kernel
theorem dX5_digest_201 : decode cX5_digest 201 = .ok (.ladd, 1) := by decide +kernel
theorem dX5_digest_202 : decode cX5_digest 202 = .ok (.lstore_n 1, 1) := by decide +kernel
theorem dX5_digest_203 : decode cX5_digest 203 = .ok (.iinc 3 1, 3) := by decide +kernel
theorem dX5_digest_206 : decode cX5_digest 206 = .ok (.goto (-31), 3) := by decide +kernel
theorem dX5_digest_209 : decode cX5_digest 209 = .ok (.ldc2_w 299, 3) := by decide +kernel
theorem dX5_digest_212 : decode cX5_digest 212 = .ok (.lload_n 1, 1) := by decide +kernel
theorem dX5_digest_213 : decode cX5_digest 213 = .ok (.lmul, 1) := by decide +kernel
theorem dX5_digest_214 : decode cX5_digest 214 = .ok (.aload_n 0, 1) := by decide +kernel
theorem dX5_digest_215 : decode cX5_digest 215 = .ok (.getfield 48, 3) := by decide +kernel
theorem dX5_digest_218 : decode cX5_digest 218 = .ok (.ladd, 1) := by decide +kernel
theorem dX5_digest_219 : decode cX5_digest 219 = .ok (.lstore_n 1, 1) := by decide +kernel
theorem dX5_digest_220 : decode cX5_digest 220 = .ok (.ldc2_w 299, 3) := by decide +kernel
theorem dX5_digest_223 : decode cX5_digest 223 = .ok (.lload_n 1, 1) := by decide +kernel
theorem dX5_digest_224 : decode cX5_digest 224 = .ok (.lmul, 1) := by decide +kernel
theorem dX5_digest_225 : decode cX5_digest 225 = .ok (.aload_n 0, 1) := by decide +kernel
theorem dX5_digest_226 : decode cX5_digest 226 = .ok (.getfield 52, 3) := by decide +kernel
theorem dX5_digest_229 : decode cX5_digest 229 = .ok (.ladd, 1) := by decide +kernel
theorem dX5_digest_230 : decode cX5_digest 230 = .ok (.lreturn, 1) := by decide +kernel
theorem dX5_refuseBad_0 : decode cX5_refuseBad 0 = .ok (.aload_n 0, 1) := by decide +kernel
theorem dX5_refuseBad_1 : decode cX5_refuseBad 1 = .ok (.dup, 1) := by decide +kernel
theorem dX5_refuseBad_2 : decode cX5_refuseBad 2 = .ok (.getfield 55, 3) := by decide +kernel
theorem dX5_refuseBad_5 : decode cX5_refuseBad 5 = .ok (.iconst 1, 1) := by decide +kernel
theorem dX5_refuseBad_6 : decode cX5_refuseBad 6 = .ok (.iadd, 1) := by decide +kernel
theorem dX5_refuseBad_7 : decode cX5_refuseBad 7 = .ok (.putfield 55, 3) := by decide +kernel
theorem dX5_refuseBad_10 : decode cX5_refuseBad 10 = .ok (.bipush (-2), 2) := by decide +kernel
theorem dX5_refuseBad_12 : decode cX5_refuseBad 12 = .ok (.ireturn, 1) := by decide +kernel
theorem dX5_refuseQuestion_0 : decode cX5_refuseQuestion 0 = .ok (.aload_n 0, 1) := by decide +kernel
theorem dX5_refuseQuestion_1 : decode cX5_refuseQuestion 1 = .ok (.dup, 1) := by decide +kernel
theorem dX5_refuseQuestion_2 : decode cX5_refuseQuestion 2 = .ok (.getfield 55, 3) := by decide +kernel
theorem dX5_refuseQuestion_5 : decode cX5_refuseQuestion 5 = .ok (.iconst 1, 1) := by decide +kernel
theorem dX5_refuseQuestion_6 : decode cX5_refuseQuestion 6 = .ok (.iadd, 1) := by decide +kernel
theorem dX5_refuseQuestion_7 : decode cX5_refuseQuestion 7 = .ok (.putfield 55, 3) := by decide +kernel
theorem dX5_refuseQuestion_10 : decode cX5_refuseQuestion 10 = .ok (.bipush (-10), 2) := by decide +kernel
theorem dX5_refuseQuestion_12 : decode cX5_refuseQuestion 12 = .ok (.ireturn, 1) := by decide +kernel
theorem dX5_refuseNo_0 : decode cX5_refuseNo 0 = .ok (.aload_n 0, 1) := by decide +kernel
theorem dX5_refuseNo_1 : decode cX5_refuseNo 1 = .ok (.dup, 1) := by decide +kernel
theorem dX5_refuseNo_2 : decode cX5_refuseNo 2 = .ok (.getfield 59, 3) := by decide +kernel
theorem dX5_refuseNo_5 : decode cX5_refuseNo 5 = .ok (.iconst 1, 1) := by decide +kernel
theorem dX5_refuseNo_6 : decode cX5_refuseNo 6 = .ok (.iadd, 1) := by decide +kernel
theorem dX5_refuseNo_7 : decode cX5_refuseNo 7 = .ok (.putfield 59, 3) := by decide +kernel
theorem dX5_refuseNo_10 : decode cX5_refuseNo 10 = .ok (.bipush (-3), 2) := by decide +kernel
theorem dX5_refuseNo_12 : decode cX5_refuseNo 12 = .ok (.ireturn, 1) := by decide +kernel
theorem dX5_refuseFull_0 : decode cX5_refuseFull 0 = .ok (.aload_n 0, 1) := by decide +kernel
theorem dX5_refuseFull_1 : decode cX5_refuseFull 1 = .ok (.dup, 1) := by decide +kernel
theorem dX5_refuseFull_2 : decode cX5_refuseFull 2 = .ok (.getfield 62, 3) := by decide +kernel
theorem dX5_refuseFull_5 : decode cX5_refuseFull 5 = .ok (.iconst 1, 1) := by decide +kernel
theorem dX5_refuseFull_6 : decode cX5_refuseFull 6 = .ok (.iadd, 1) := by decide +kernel
theorem dX5_refuseFull_7 : decode cX5_refuseFull 7 = .ok (.putfield 62, 3) := by decide +kernel
theorem dX5_refuseFull_10 : decode cX5_refuseFull 10 = .ok (.bipush (-4), 2) := by decide +kernel
theorem dX5_refuseFull_12 : decode cX5_refuseFull 12 = .ok (.ireturn, 1) := by decide +kernel
theorem dX5_isNoBox_0 : decode cX5_isNoBox 0 = .ok (.iload_n 1, 1) := by decide +kernel
theorem dX5_isNoBox_1 : decode cX5_isNoBox 1 = .ok (.ifCond .lt 14, 3) := by decide +kernel
theorem dX5_isNoBox_4 : decode cX5_isNoBox 4 = .ok (.iload_n 1, 1) := by decide +kernel
theorem dX5_isNoBox_5 : decode cX5_isNoBox 5 = .ok (.aload_n 0, 1) := by decide +kernel
theorem dX5_isNoBox_6 : decode cX5_isNoBox 6 = .ok (.getfield 10, 3) := by decide +kernel
theorem dX5_isNoBox_9 : decode cX5_isNoBox 9 = .ok (.getfield 69, 3) := by decide +kernel
theorem dX5_isNoBox_12 : decode cX5_isNoBox 12 = .ok (.if_icmp .lt 7, 3) := by decide +kernel
theorem dX5_isNoBox_15 : decode cX5_isNoBox 15 = .ok (.iconst 1, 1) := by decide +kernel
theorem dX5_isNoBox_16 : decode cX5_isNoBox 16 = .ok (.goto 4, 3) := by decide +kernel
theorem dX5_isNoBox_19 : decode cX5_isNoBox 19 = .ok (.iconst 0, 1) := by decide +kernel
theorem dX5_isNoBox_20 : decode cX5_isNoBox 20 = .ok (.ireturn, 1) := by decide +kernel
theorem dX5_isNoRank_0 : decode cX5_isNoRank 0 = .ok (.iload_n 1, 1) := by decide +kernel
theorem dX5_isNoRank_1 : decode cX5_isNoRank 1 = .ok (.ifCond .lt 18, 3) := by decide +kernel
theorem dX5_isNoRank_4 : decode cX5_isNoRank 4 = .ok (.iload_n 1, 1) := by decide +kernel
theorem dX5_isNoRank_5 : decode cX5_isNoRank 5 = .ok (.getstatic 201, 3) := by decide +kernel
theorem dX5_isNoRank_8 : decode cX5_isNoRank 8 = .ok (.aload_n 0, 1) := by decide +kernel
theorem dX5_isNoRank_9 : decode cX5_isNoRank 9 = .ok (.getfield 10, 3) := by decide +kernel
theorem dX5_isNoRank_12 : decode cX5_isNoRank 12 = .ok (.getfield 69, 3) := by decide +kernel
theorem dX5_isNoRank_15 : decode cX5_isNoRank 15 = .ok (.iaload, 1) := by decide +kernel
theorem dX5_isNoRank_16 : decode cX5_isNoRank 16 = .ok (.if_icmp .lt 7, 3) := by decide +kernel
theorem dX5_isNoRank_19 : decode cX5_isNoRank 19 = .ok (.iconst 1, 1) := by decide +kernel
theorem dX5_isNoRank_20 : decode cX5_isNoRank 20 = .ok (.goto 4, 3) := by decide +kernel
theorem dX5_isNoRank_23 : decode cX5_isNoRank 23 = .ok (.iconst 0, 1) := by decide +kernel
theorem dX5_isNoRank_24 : decode cX5_isNoRank 24 = .ok (.ireturn, 1) := by decide +kernel
theorem dX5_setFraction_0 : decode cX5_setFraction 0 = .ok (.lload_n 1, 1) := by decide +kernel
theorem dX5_setFraction_1 : decode cX5_setFraction 1 = .ok (.lload_n 3, 1) := by decide +kernel
theorem dX5_setFraction_2 : decode cX5_setFraction 2 = .ok (.invokestatic 194, 3) := by decide +kernel
theorem dX5_setFraction_5 : decode cX5_setFraction 5 = .ok (.lstore 5, 2) := by decide +kernel
theorem dX5_setFraction_7 : decode cX5_setFraction 7 = .ok (.aload_n 0, 1) := by decide +kernel
theorem dX5_setFraction_8 : decode cX5_setFraction 8 = .ok (.lload_n 1, 1) := by decide +kernel
theorem dX5_setFraction_9 : decode cX5_setFraction 9 = .ok (.lload 5, 2) := by decide +kernel
theorem dX5_setFraction_11 : decode cX5_setFraction 11 = .ok (.ldiv, 1) := by decide +kernel
theorem dX5_setFraction_12 : decode cX5_setFraction 12 = .ok (.putfield 48, 3) := by decide +kernel
theorem dX5_setFraction_15 : decode cX5_setFraction 15 = .ok (.aload_n 0, 1) := by decide +kernel
theorem dX5_setFraction_16 : decode cX5_setFraction 16 = .ok (.lload_n 3, 1) := by decide +kernel
theorem dX5_setFraction_17 : decode cX5_setFraction 17 = .ok (.lload 5, 2) := by decide +kernel
theorem dX5_setFraction_19 : decode cX5_setFraction 19 = .ok (.ldiv, 1) := by decide +kernel
theorem dX5_setFraction_20 : decode cX5_setFraction 20 = .ok (.putfield 52, 3) := by decide +kernel
theorem dX5_setFraction_23 : decode cX5_setFraction 23 = .ok (.return_, 1) := by decide +kernel
theorem dX5_commonDivisor_0 : decode cX5_commonDivisor 0 = .ok (.lload_n 0, 1) := by decide +kernel
theorem dX5_commonDivisor_1 : decode cX5_commonDivisor 1 = .ok (.lstore 4, 2) := by decide +kernel
theorem dX5_commonDivisor_3 : decode cX5_commonDivisor 3 = .ok (.lload_n 2, 1) := by decide +kernel
theorem dX5_commonDivisor_4 : decode cX5_commonDivisor 4 = .ok (.lstore 6, 2) := by decide +kernel
theorem dX5_commonDivisor_6 : decode cX5_commonDivisor 6 = .ok (.iconst 0, 1) := by decide +kernel
theorem dX5_commonDivisor_7 : decode cX5_commonDivisor 7 = .ok (.istore 8, 2) := by decide +kernel
theorem dX5_commonDivisor_9 : decode cX5_commonDivisor 9 = .ok (.iload 8, 2) := by decide +kernel
theorem dX5_commonDivisor_11 : decode cX5_commonDivisor 11 = .ok (.bipush 100, 2) := by decide +kernel
theorem dX5_commonDivisor_13 : decode cX5_commonDivisor 13 = .ok (.if_icmp .ge 31, 3) := by decide +kernel
theorem dX5_commonDivisor_16 : decode cX5_commonDivisor 16 = .ok (.lload 6, 2) := by decide +kernel
theorem dX5_commonDivisor_18 : decode cX5_commonDivisor 18 = .ok (.lconst 0, 1) := by decide +kernel
theorem dX5_commonDivisor_19 : decode cX5_commonDivisor 19 = .ok (.lcmp, 1) := by decide +kernel
theorem dX5_commonDivisor_20 : decode cX5_commonDivisor 20 = .ok (.ifCond .eq 24, 3) := by decide +kernel
theorem dX5_commonDivisor_23 : decode cX5_commonDivisor 23 = .ok (.lload 4, 2) := by decide +kernel
theorem dX5_commonDivisor_25 : decode cX5_commonDivisor 25 = .ok (.lload 6, 2) := by decide +kernel
theorem dX5_commonDivisor_27 : decode cX5_commonDivisor 27 = .ok (.lrem, 1) := by decide +kernel
theorem dX5_commonDivisor_28 : decode cX5_commonDivisor 28 = .ok (.lstore 9, 2) := by decide +kernel
theorem dX5_commonDivisor_30 : decode cX5_commonDivisor 30 = .ok (.lload 6, 2) := by decide +kernel
theorem dX5_commonDivisor_32 : decode cX5_commonDivisor 32 = .ok (.lstore 4, 2) := by decide +kernel
theorem dX5_commonDivisor_34 : decode cX5_commonDivisor 34 = .ok (.lload 9, 2) := by decide +kernel
theorem dX5_commonDivisor_36 : decode cX5_commonDivisor 36 = .ok (.lstore 6, 2) := by decide +kernel
theorem dX5_commonDivisor_38 : decode cX5_commonDivisor 38 = .ok (.iinc 8 1, 3) := by decide +kernel
theorem dX5_commonDivisor_41 : decode cX5_commonDivisor 41 = .ok (.goto (-32), 3) := by decide +kernel
theorem dX5_commonDivisor_44 : decode cX5_commonDivisor 44 = .ok (.lconst 1, 1) := by decide +kernel
theorem dX5_commonDivisor_45 : decode cX5_commonDivisor 45 = .ok (.lload 4, 2) := by decide +kernel
theorem dX5_commonDivisor_47 : decode cX5_commonDivisor 47 = .ok (.invokestatic 310, 3) := by decide +kernel
theorem dX5_commonDivisor_50 : decode cX5_commonDivisor 50 = .ok (.lreturn, 1) := by decide +kernel
theorem dX5_doesFind_0 : decode cX5_doesFind 0 = .ok (.aload_n 0, 1) := by decide +kernel
theorem dX5_doesFind_1 : decode cX5_doesFind 1 = .ok (.getfield 33, 3) := by decide +kernel
theorem dX5_doesFind_4 : decode cX5_doesFind 4 = .ok (.aload_n 0, 1) := by decide +kernel
theorem dX5_doesFind_5 : decode cX5_doesFind 5 = .ok (.getfield 10, 3) := by decide +kernel
theorem dX5_doesFind_8 : decode cX5_doesFind 8 = .ok (.aload_n 1, 1) := by decide +kernel
theorem dX5_doesFind_9 : decode cX5_doesFind 9 = .ok (.iload_n 2, 1) := by decide +kernel
theorem dX5_doesFind_10 : decode cX5_doesFind 10 = .ok (.iload_n 3, 1) := by decide +kernel
theorem dX5_doesFind_11 : decode cX5_doesFind 11 = .ok (.invokevirtual 174, 3) := by decide +kernel
theorem dX5_doesFind_14 : decode cX5_doesFind 14 = .ok (.aload_n 0, 1) := by decide +kernel
theorem dX5_doesFind_15 : decode cX5_doesFind 15 = .ok (.getfield 33, 3) := by decide +kernel
theorem dX5_doesFind_18 : decode cX5_doesFind 18 = .ok (.getfield 315, 3) := by decide +kernel
theorem dX5_doesFind_21 : decode cX5_doesFind 21 = .ok (.ireturn, 1) := by decide +kernel
theorem dX5_findersIn_0 : decode cX5_findersIn 0 = .ok (.iconst 0, 1) := by decide +kernel
theorem dX5_findersIn_1 : decode cX5_findersIn 1 = .ok (.istore_n 2, 1) := by decide +kernel
theorem dX5_findersIn_2 : decode cX5_findersIn 2 = .ok (.iconst 0, 1) := by decide +kernel
theorem dX5_findersIn_3 : decode cX5_findersIn 3 = .ok (.istore_n 3, 1) := by decide +kernel
theorem dX5_findersIn_4 : decode cX5_findersIn 4 = .ok (.iload_n 3, 1) := by decide +kernel
theorem dX5_findersIn_5 : decode cX5_findersIn 5 = .ok (.aload_n 0, 1) := by decide +kernel
theorem dX5_findersIn_6 : decode cX5_findersIn 6 = .ok (.getfield 10, 3) := by decide +kernel
theorem dX5_findersIn_9 : decode cX5_findersIn 9 = .ok (.getfield 69, 3) := by decide +kernel
theorem dX5_findersIn_12 : decode cX5_findersIn 12 = .ok (.if_icmp .ge 33, 3) := by decide +kernel
theorem dX5_findersIn_15 : decode cX5_findersIn 15 = .ok (.aload_n 0, 1) := by decide +kernel
theorem dX5_findersIn_16 : decode cX5_findersIn 16 = .ok (.aload_n 1, 1) := by decide +kernel
theorem dX5_findersIn_17 : decode cX5_findersIn 17 = .ok (.iload_n 3, 1) := by decide +kernel
theorem dX5_findersIn_18 : decode cX5_findersIn 18 = .ok (.aload_n 0, 1) := by decide +kernel
theorem dX5_findersIn_19 : decode cX5_findersIn 19 = .ok (.getfield 10, 3) := by decide +kernel
theorem dX5_findersIn_22 : decode cX5_findersIn 22 = .ok (.getfield 90, 3) := by decide +kernel
theorem dX5_findersIn_25 : decode cX5_findersIn 25 = .ok (.iload_n 3, 1) := by decide +kernel
theorem dX5_findersIn_26 : decode cX5_findersIn 26 = .ok (.iaload, 1) := by decide +kernel
theorem dX5_findersIn_27 : decode cX5_findersIn 27 = .ok (.invokevirtual 319, 3) := by decide +kernel
theorem dX5_findersIn_30 : decode cX5_findersIn 30 = .ok (.ifCond .eq 9, 3) := by decide +kernel
theorem dX5_findersIn_33 : decode cX5_findersIn 33 = .ok (.iload_n 2, 1) := by decide +kernel
theorem dX5_findersIn_34 : decode cX5_findersIn 34 = .ok (.iconst 1, 1) := by decide +kernel
theorem dX5_findersIn_35 : decode cX5_findersIn 35 = .ok (.iload_n 3, 1) := by decide +kernel
theorem dX5_findersIn_36 : decode cX5_findersIn 36 = .ok (.ishl, 1) := by decide +kernel
theorem dX5_findersIn_37 : decode cX5_findersIn 37 = .ok (.ior, 1) := by decide +kernel
theorem dX5_findersIn_38 : decode cX5_findersIn 38 = .ok (.istore_n 2, 1) := by decide +kernel
theorem dX5_findersIn_39 : decode cX5_findersIn 39 = .ok (.iinc 3 1, 3) := by decide +kernel
theorem dX5_findersIn_42 : decode cX5_findersIn 42 = .ok (.goto (-38), 3) := by decide +kernel
theorem dX5_findersIn_45 : decode cX5_findersIn 45 = .ok (.iload_n 2, 1) := by decide +kernel
theorem dX5_findersIn_46 : decode cX5_findersIn 46 = .ok (.ireturn, 1) := by decide +kernel
theorem dX5_doTheseFind_0 : decode cX5_doTheseFind 0 = .ok (.iconst 0, 1) := by decide +kernel
theorem dX5_doTheseFind_1 : decode cX5_doTheseFind 1 = .ok (.istore_n 3, 1) := by decide +kernel
theorem dX5_doTheseFind_2 : decode cX5_doTheseFind 2 = .ok (.iload_n 3, 1) := by decide +kernel
theorem dX5_doTheseFind_3 : decode cX5_doTheseFind 3 = .ok (.aload_n 0, 1) := by decide +kernel
theorem dX5_doTheseFind_4 : decode cX5_doTheseFind 4 = .ok (.getfield 10, 3) := by decide +kernel
theorem dX5_doTheseFind_7 : decode cX5_doTheseFind 7 = .ok (.getfield 69, 3) := by decide +kernel
theorem dX5_doTheseFind_10 : decode cX5_doTheseFind 10 = .ok (.if_icmp .ge 38, 3) := by decide +kernel
theorem dX5_doTheseFind_13 : decode cX5_doTheseFind 13 = .ok (.iload_n 2, 1) := by decide +kernel
theorem dX5_doTheseFind_14 : decode cX5_doTheseFind 14 = .ok (.iload_n 3, 1) := by decide +kernel
theorem dX5_doTheseFind_15 : decode cX5_doTheseFind 15 = .ok (.ishr, 1) := by decide +kernel
theorem dX5_doTheseFind_16 : decode cX5_doTheseFind 16 = .ok (.iconst 1, 1) := by decide +kernel
theorem dX5_doTheseFind_17 : decode cX5_doTheseFind 17 = .ok (.iand, 1) := by decide +kernel
theorem dX5_doTheseFind_18 : decode cX5_doTheseFind 18 = .ok (.iconst 1, 1) := by decide +kernel
theorem dX5_doTheseFind_19 : decode cX5_doTheseFind 19 = .ok (.if_icmp .ne 23, 3) := by decide +kernel
theorem dX5_doTheseFind_22 : decode cX5_doTheseFind 22 = .ok (.aload_n 0, 1) := by decide +kernel
theorem dX5_doTheseFind_23 : decode cX5_doTheseFind 23 = .ok (.aload_n 1, 1) := by decide +kernel
theorem dX5_doTheseFind_24 : decode cX5_doTheseFind 24 = .ok (.iload_n 3, 1) := by decide +kernel
theorem dX5_doTheseFind_25 : decode cX5_doTheseFind 25 = .ok (.aload_n 0, 1) := by decide +kernel
theorem dX5_doTheseFind_26 : decode cX5_doTheseFind 26 = .ok (.getfield 10, 3) := by decide +kernel
theorem dX5_doTheseFind_29 : decode cX5_doTheseFind 29 = .ok (.getfield 90, 3) := by decide +kernel
theorem dX5_doTheseFind_32 : decode cX5_doTheseFind 32 = .ok (.iload_n 3, 1) := by decide +kernel
theorem dX5_doTheseFind_33 : decode cX5_doTheseFind 33 = .ok (.iaload, 1) := by decide +kernel
theorem dX5_doTheseFind_34 : decode cX5_doTheseFind 34 = .ok (.invokevirtual 319, 3) := by decide +kernel
theorem dX5_doTheseFind_37 : decode cX5_doTheseFind 37 = .ok (.ifCond .ne 5, 3) := by decide +kernel
theorem dX5_doTheseFind_40 : decode cX5_doTheseFind 40 = .ok (.iconst 0, 1) := by decide +kernel
theorem dX5_doTheseFind_41 : decode cX5_doTheseFind 41 = .ok (.ireturn, 1) := by decide +kernel
theorem dX5_doTheseFind_42 : decode cX5_doTheseFind 42 = .ok (.iinc 3 1, 3) := by decide +kernel
theorem dX5_doTheseFind_45 : decode cX5_doTheseFind 45 = .ok (.goto (-43), 3) := by decide +kernel
theorem dX5_doTheseFind_48 : decode cX5_doTheseFind 48 = .ok (.iconst 1, 1) := by decide +kernel
theorem dX5_doTheseFind_49 : decode cX5_doTheseFind 49 = .ok (.ireturn, 1) := by decide +kernel
theorem dX5_doAllFind_0 : decode cX5_doAllFind 0 = .ok (.aload_n 0, 1) := by decide +kernel
theorem dX5_doAllFind_1 : decode cX5_doAllFind 1 = .ok (.aload_n 1, 1) := by decide +kernel
theorem dX5_doAllFind_2 : decode cX5_doAllFind 2 = .ok (.iconst 1, 1) := by decide +kernel
theorem dX5_doAllFind_3 : decode cX5_doAllFind 3 = .ok (.aload_n 0, 1) := by decide +kernel
theorem dX5_doAllFind_4 : decode cX5_doAllFind 4 = .ok (.getfield 10, 3) := by decide +kernel
theorem dX5_doAllFind_7 : decode cX5_doAllFind 7 = .ok (.getfield 69, 3) := by decide +kernel
theorem dX5_doAllFind_10 : decode cX5_doAllFind 10 = .ok (.ishl, 1) := by decide +kernel
theorem dX5_doAllFind_11 : decode cX5_doAllFind 11 = .ok (.iconst 1, 1) := by decide +kernel
theorem dX5_doAllFind_12 : decode cX5_doAllFind 12 = .ok (.isub, 1) := by decide +kernel
theorem dX5_doAllFind_13 : decode cX5_doAllFind 13 = .ok (.invokevirtual 254, 3) := by decide +kernel
theorem dX5_doAllFind_16 : decode cX5_doAllFind 16 = .ok (.ireturn, 1) := by decide +kernel
theorem dX5_doAllFindBy_0 : decode cX5_doAllFindBy 0 = .ok (.iconst 0, 1) := by decide +kernel
theorem dX5_doAllFindBy_1 : decode cX5_doAllFindBy 1 = .ok (.istore_n 3, 1) := by decide +kernel
theorem dX5_doAllFindBy_2 : decode cX5_doAllFindBy 2 = .ok (.iload_n 3, 1) := by decide +kernel
theorem dX5_doAllFindBy_3 : decode cX5_doAllFindBy 3 = .ok (.aload_n 0, 1) := by decide +kernel
theorem dX5_doAllFindBy_4 : decode cX5_doAllFindBy 4 = .ok (.getfield 10, 3) := by decide +kernel
theorem dX5_doAllFindBy_7 : decode cX5_doAllFindBy 7 = .ok (.getfield 69, 3) := by decide +kernel
theorem dX5_doAllFindBy_10 : decode cX5_doAllFindBy 10 = .ok (.if_icmp .ge 21, 3) := by decide +kernel
theorem dX5_doAllFindBy_13 : decode cX5_doAllFindBy 13 = .ok (.aload_n 0, 1) := by decide +kernel
theorem dX5_doAllFindBy_14 : decode cX5_doAllFindBy 14 = .ok (.aload_n 1, 1) := by decide +kernel
theorem dX5_doAllFindBy_15 : decode cX5_doAllFindBy 15 = .ok (.iload_n 3, 1) := by decide +kernel
theorem dX5_doAllFindBy_16 : decode cX5_doAllFindBy 16 = .ok (.iload_n 2, 1) := by decide +kernel
theorem dX5_doAllFindBy_17 : decode cX5_doAllFindBy 17 = .ok (.invokevirtual 319, 3) := by decide +kernel
theorem dX5_doAllFindBy_20 : decode cX5_doAllFindBy 20 = .ok (.ifCond .ne 5, 3) := by decide +kernel
theorem dX5_doAllFindBy_23 : decode cX5_doAllFindBy 23 = .ok (.iconst 0, 1) := by decide +kernel
theorem dX5_doAllFindBy_24 : decode cX5_doAllFindBy 24 = .ok (.ireturn, 1) := by decide +kernel
theorem dX5_doAllFindBy_25 : decode cX5_doAllFindBy 25 = .ok (.iinc 3 1, 3) := by decide +kernel
theorem dX5_doAllFindBy_28 : decode cX5_doAllFindBy 28 = .ok (.goto (-26), 3) := by decide +kernel
theorem dX5_doAllFindBy_31 : decode cX5_doAllFindBy 31 = .ok (.iconst 1, 1) := by decide +kernel
theorem dX5_doAllFindBy_32 : decode cX5_doAllFindBy 32 = .ok (.ireturn, 1) := by decide +kernel
theorem dX5_mayTrialBe_0 : decode cX5_mayTrialBe 0 = .ok (.iconst 0, 1) := by decide +kernel
theorem dX5_mayTrialBe_1 : decode cX5_mayTrialBe 1 = .ok (.istore_n 1, 1) := by decide +kernel
theorem dX5_mayTrialBe_2 : decode cX5_mayTrialBe 2 = .ok (.iload_n 1, 1) := by decide +kernel
theorem dX5_mayTrialBe_3 : decode cX5_mayTrialBe 3 = .ok (.aload_n 0, 1) := by decide +kernel
theorem dX5_mayTrialBe_4 : decode cX5_mayTrialBe 4 = .ok (.getfield 10, 3) := by decide +kernel
theorem dX5_mayTrialBe_7 : decode cX5_mayTrialBe 7 = .ok (.getfield 69, 3) := by decide +kernel
theorem dX5_mayTrialBe_10 : decode cX5_mayTrialBe 10 = .ok (.if_icmp .ge 42, 3) := by decide +kernel
theorem dX5_mayTrialBe_13 : decode cX5_mayTrialBe 13 = .ok (.aload_n 0, 1) := by decide +kernel
theorem dX5_mayTrialBe_14 : decode cX5_mayTrialBe 14 = .ok (.getfield 10, 3) := by decide +kernel
theorem dX5_mayTrialBe_17 : decode cX5_mayTrialBe 17 = .ok (.getfield 123, 3) := by decide +kernel
theorem dX5_mayTrialBe_20 : decode cX5_mayTrialBe 20 = .ok (.iload_n 1, 1) := by decide +kernel
theorem dX5_mayTrialBe_21 : decode cX5_mayTrialBe 21 = .ok (.iaload, 1) := by decide +kernel
theorem dX5_mayTrialBe_22 : decode cX5_mayTrialBe 22 = .ok (.iconst (-1), 1) := by decide +kernel
theorem dX5_mayTrialBe_23 : decode cX5_mayTrialBe 23 = .ok (.if_icmp .eq 23, 3) := by decide +kernel
theorem dX5_mayTrialBe_26 : decode cX5_mayTrialBe 26 = .ok (.aload_n 0, 1) := by decide +kernel
theorem dX5_mayTrialBe_27 : decode cX5_mayTrialBe 27 = .ok (.getfield 10, 3) := by decide +kernel
theorem dX5_mayTrialBe_30 : decode cX5_mayTrialBe 30 = .ok (.getfield 123, 3) := by decide +kernel
theorem dX5_mayTrialBe_33 : decode cX5_mayTrialBe 33 = .ok (.iload_n 1, 1) := by decide +kernel
theorem dX5_mayTrialBe_34 : decode cX5_mayTrialBe 34 = .ok (.iaload, 1) := by decide +kernel
theorem dX5_mayTrialBe_35 : decode cX5_mayTrialBe 35 = .ok (.aload_n 0, 1) := by decide +kernel
theorem dX5_mayTrialBe_36 : decode cX5_mayTrialBe 36 = .ok (.getfield 37, 3) := by decide +kernel
theorem dX5_mayTrialBe_39 : decode cX5_mayTrialBe 39 = .ok (.iload_n 1, 1) := by decide +kernel
theorem dX5_mayTrialBe_40 : decode cX5_mayTrialBe 40 = .ok (.iaload, 1) := by decide +kernel
theorem dX5_mayTrialBe_41 : decode cX5_mayTrialBe 41 = .ok (.if_icmp .eq 5, 3) := by decide +kernel
theorem dX5_mayTrialBe_44 : decode cX5_mayTrialBe 44 = .ok (.iconst 0, 1) := by decide +kernel
theorem dX5_mayTrialBe_45 : decode cX5_mayTrialBe 45 = .ok (.ireturn, 1) := by decide +kernel
theorem dX5_mayTrialBe_46 : decode cX5_mayTrialBe 46 = .ok (.iinc 1 1, 3) := by decide +kernel
theorem dX5_mayTrialBe_49 : decode cX5_mayTrialBe 49 = .ok (.goto (-47), 3) := by decide +kernel
theorem dX5_mayTrialBe_52 : decode cX5_mayTrialBe 52 = .ok (.iconst 0, 1) := by decide +kernel
theorem dX5_mayTrialBe_53 : decode cX5_mayTrialBe 53 = .ok (.istore_n 1, 1) := by decide +kernel
theorem dX5_mayTrialBe_54 : decode cX5_mayTrialBe 54 = .ok (.iload_n 1, 1) := by decide +kernel
theorem dX5_mayTrialBe_55 : decode cX5_mayTrialBe 55 = .ok (.aload_n 0, 1) := by decide +kernel
theorem dX5_mayTrialBe_56 : decode cX5_mayTrialBe 56 = .ok (.getfield 10, 3) := by decide +kernel
theorem dX5_mayTrialBe_59 : decode cX5_mayTrialBe 59 = .ok (.getfield 129, 3) := by decide +kernel
theorem dX5_mayTrialBe_62 : decode cX5_mayTrialBe 62 = .ok (.if_icmp .ge 81, 3) := by decide +kernel
theorem dX5_mayTrialBe_65 : decode cX5_mayTrialBe 65 = .ok (.aload_n 0, 1) := by decide +kernel
theorem dX5_mayTrialBe_66 : decode cX5_mayTrialBe 66 = .ok (.getfield 10, 3) := by decide +kernel
theorem dX5_mayTrialBe_69 : decode cX5_mayTrialBe 69 = .ok (.getfield 301, 3) := by decide +kernel
theorem dX5_mayTrialBe_72 : decode cX5_mayTrialBe 72 = .ok (.iload_n 1, 1) := by decide +kernel
theorem dX5_mayTrialBe_73 : decode cX5_mayTrialBe 73 = .ok (.iaload, 1) := by decide +kernel
theorem dX5_mayTrialBe_74 : decode cX5_mayTrialBe 74 = .ok (.istore_n 2, 1) := by decide +kernel
theorem dX5_mayTrialBe_75 : decode cX5_mayTrialBe 75 = .ok (.aload_n 0, 1) := by decide +kernel
theorem dX5_mayTrialBe_76 : decode cX5_mayTrialBe 76 = .ok (.getfield 33, 3) := by decide +kernel
theorem dX5_mayTrialBe_79 : decode cX5_mayTrialBe 79 = .ok (.aload_n 0, 1) := by decide +kernel
theorem dX5_mayTrialBe_80 : decode cX5_mayTrialBe 80 = .ok (.getfield 10, 3) := by decide +kernel
theorem dX5_mayTrialBe_83 : decode cX5_mayTrialBe 83 = .ok (.aload_n 0, 1) := by decide +kernel
theorem dX5_mayTrialBe_84 : decode cX5_mayTrialBe 84 = .ok (.getfield 37, 3) := by decide +kernel
theorem dX5_mayTrialBe_87 : decode cX5_mayTrialBe 87 = .ok (.iload_n 2, 1) := by decide +kernel
theorem dX5_mayTrialBe_88 : decode cX5_mayTrialBe 88 = .ok (.aload_n 0, 1) := by decide +kernel
theorem dX5_mayTrialBe_89 : decode cX5_mayTrialBe 89 = .ok (.getfield 10, 3) := by decide +kernel
theorem dX5_mayTrialBe_92 : decode cX5_mayTrialBe 92 = .ok (.getfield 90, 3) := by decide +kernel
theorem dX5_mayTrialBe_95 : decode cX5_mayTrialBe 95 = .ok (.iload_n 2, 1) := by decide +kernel
theorem dX5_mayTrialBe_96 : decode cX5_mayTrialBe 96 = .ok (.iaload, 1) := by decide +kernel
theorem dX5_mayTrialBe_97 : decode cX5_mayTrialBe 97 = .ok (.invokevirtual 174, 3) := by decide +kernel
theorem dX5_mayTrialBe_100 : decode cX5_mayTrialBe 100 = .ok (.aload_n 0, 1) := by decide +kernel
theorem dX5_mayTrialBe_101 : decode cX5_mayTrialBe 101 = .ok (.getfield 33, 3) := by decide +kernel
theorem dX5_mayTrialBe_104 : decode cX5_mayTrialBe 104 = .ok (.getfield 315, 3) := by decide +kernel
theorem dX5_mayTrialBe_107 : decode cX5_mayTrialBe 107 = .ok (.ifCond .eq 13, 3) := by decide +kernel
theorem dX5_mayTrialBe_110 : decode cX5_mayTrialBe 110 = .ok (.aload_n 0, 1) := by decide +kernel
theorem dX5_mayTrialBe_111 : decode cX5_mayTrialBe 111 = .ok (.getfield 33, 3) := by decide +kernel
theorem dX5_mayTrialBe_114 : decode cX5_mayTrialBe 114 = .ok (.getfield 178, 3) := by decide +kernel
theorem dX5_mayTrialBe_117 : decode cX5_mayTrialBe 117 = .ok (.goto 4, 3) := by decide +kernel
theorem dX5_mayTrialBe_120 : decode cX5_mayTrialBe 120 = .ok (.iconst 0, 1) := by decide +kernel
theorem dX5_mayTrialBe_121 : decode cX5_mayTrialBe 121 = .ok (.istore_n 3, 1) := by decide +kernel
theorem dX5_mayTrialBe_122 : decode cX5_mayTrialBe 122 = .ok (.iload_n 3, 1) := by decide +kernel
theorem dX5_mayTrialBe_123 : decode cX5_mayTrialBe 123 = .ok (.aload_n 0, 1) := by decide +kernel
theorem dX5_mayTrialBe_124 : decode cX5_mayTrialBe 124 = .ok (.getfield 10, 3) := by decide +kernel
theorem dX5_mayTrialBe_127 : decode cX5_mayTrialBe 127 = .ok (.getfield 304, 3) := by decide +kernel
theorem dX5_mayTrialBe_130 : decode cX5_mayTrialBe 130 = .ok (.iload_n 1, 1) := by decide +kernel
theorem dX5_mayTrialBe_131 : decode cX5_mayTrialBe 131 = .ok (.iaload, 1) := by decide +kernel
theorem dX5_mayTrialBe_132 : decode cX5_mayTrialBe 132 = .ok (.if_icmp .eq 5, 3) := by decide +kernel
theorem dX5_mayTrialBe_135 : decode cX5_mayTrialBe 135 = .ok (.iconst 0, 1) := by decide +kernel
theorem dX5_mayTrialBe_136 : decode cX5_mayTrialBe 136 = .ok (.ireturn, 1) := by decide +kernel
theorem dX5_mayTrialBe_137 : decode cX5_mayTrialBe 137 = .ok (.iinc 1 1, 3) := by decide +kernel
theorem dX5_mayTrialBe_140 : decode cX5_mayTrialBe 140 = .ok (.goto (-86), 3) := by decide +kernel
theorem dX5_mayTrialBe_143 : decode cX5_mayTrialBe 143 = .ok (.iconst 1, 1) := by decide +kernel
theorem dX5_mayTrialBe_144 : decode cX5_mayTrialBe 144 = .ok (.ireturn, 1) := by decide +kernel
