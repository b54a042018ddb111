theorem dX5_init_0 : decode cX5_init 0 = .ok (.aload_n 0, 1) := by decide +kernel
theorem dX5_init_1 : decode cX5_init 1 = .ok (.invokespecial 1, 3) := by decide +kernel
theorem dX5_init_4 : decode cX5_init 4 = .ok (.aload_n 0, 1) := by decide +kernel
theorem dX5_init_5 : decode cX5_init 5 = .ok (.new 7, 3) := by decide +kernel
theorem dX5_init_8 : decode cX5_init 8 = .ok (.dup, 1) := by decide +kernel
theorem dX5_init_9 : decode cX5_init 9 = .ok (.invokespecial 9, 3) := by decide +kernel
theorem dX5_init_12 : decode cX5_init 12 = .ok (.putfield 10, 3) := by decide +kernel
theorem dX5_init_15 : decode cX5_init 15 = .ok (.aload_n 0, 1) := by decide +kernel
theorem dX5_init_16 : decode cX5_init 16 = .ok (.new 7, 3) := by decide +kernel
theorem dX5_init_19 : decode cX5_init 19 = .ok (.dup, 1) := by decide +kernel
theorem dX5_init_20 : decode cX5_init 20 = .ok (.invokespecial 9, 3) := by decide +kernel
theorem dX5_init_23 : decode cX5_init 23 = .ok (.putfield 16, 3) := by decide +kernel
theorem dX5_init_26 : decode cX5_init 26 = .ok (.aload_n 0, 1) := by decide +kernel
theorem dX5_init_27 : decode cX5_init 27 = .ok (.iconst 2, 1) := by decide +kernel
theorem dX5_init_28 : decode cX5_init 28 = .ok (.anewarray 7, 3) := by decide +kernel
theorem dX5_init_31 : decode cX5_init 31 = .ok (.putfield 19, 3) := by decide +kernel
theorem dX5_init_34 : decode cX5_init 34 = .ok (.aload_n 0, 1) := by decide +kernel
theorem dX5_init_35 : decode cX5_init 35 = .ok (.new 23, 3) := by decide +kernel
theorem dX5_init_38 : decode cX5_init 38 = .ok (.dup, 1) := by decide +kernel
theorem dX5_init_39 : decode cX5_init 39 = .ok (.invokespecial 25, 3) := by decide +kernel
theorem dX5_init_42 : decode cX5_init 42 = .ok (.putfield 26, 3) := by decide +kernel
theorem dX5_init_45 : decode cX5_init 45 = .ok (.aload_n 0, 1) := by decide +kernel
theorem dX5_init_46 : decode cX5_init 46 = .ok (.new 30, 3) := by decide +kernel
theorem dX5_init_49 : decode cX5_init 49 = .ok (.dup, 1) := by decide +kernel
theorem dX5_init_50 : decode cX5_init 50 = .ok (.invokespecial 32, 3) := by decide +kernel
theorem dX5_init_53 : decode cX5_init 53 = .ok (.putfield 33, 3) := by decide +kernel
theorem dX5_init_56 : decode cX5_init 56 = .ok (.aload_n 0, 1) := by decide +kernel
theorem dX5_init_57 : decode cX5_init 57 = .ok (.bipush 7, 2) := by decide +kernel
theorem dX5_init_59 : decode cX5_init 59 = .ok (.newarray .int, 2) := by decide +kernel
theorem dX5_init_61 : decode cX5_init 61 = .ok (.putfield 37, 3) := by decide +kernel
theorem dX5_init_64 : decode cX5_init 64 = .ok (.aload_n 0, 1) := by decide +kernel
theorem dX5_init_65 : decode cX5_init 65 = .ok (.bipush 49, 2) := by decide +kernel
theorem dX5_init_67 : decode cX5_init 67 = .ok (.newarray .int, 2) := by decide +kernel
theorem dX5_init_69 : decode cX5_init 69 = .ok (.putfield 41, 3) := by decide +kernel
theorem dX5_init_72 : decode cX5_init 72 = .ok (.aload_n 0, 1) := by decide +kernel
theorem dX5_init_73 : decode cX5_init 73 = .ok (.aconst_null, 1) := by decide +kernel
theorem dX5_init_74 : decode cX5_init 74 = .ok (.putfield 44, 3) := by decide +kernel
theorem dX5_init_77 : decode cX5_init 77 = .ok (.aload_n 0, 1) := by decide +kernel
theorem dX5_init_78 : decode cX5_init 78 = .ok (.lconst 0, 1) := by decide +kernel
theorem dX5_init_79 : decode cX5_init 79 = .ok (.putfield 48, 3) := by decide +kernel
theorem dX5_init_82 : decode cX5_init 82 = .ok (.aload_n 0, 1) := by decide +kernel
theorem dX5_init_83 : decode cX5_init 83 = .ok (.lconst 1, 1) := by decide +kernel
theorem dX5_init_84 : decode cX5_init 84 = .ok (.putfield 52, 3) := by decide +kernel
theorem dX5_init_87 : decode cX5_init 87 = .ok (.aload_n 0, 1) := by decide +kernel
theorem dX5_init_88 : decode cX5_init 88 = .ok (.iconst 0, 1) := by decide +kernel
theorem dX5_init_89 : decode cX5_init 89 = .ok (.putfield 55, 3) := by decide +kernel
theorem dX5_init_92 : decode cX5_init 92 = .ok (.aload_n 0, 1) := by decide +kernel
theorem dX5_init_93 : decode cX5_init 93 = .ok (.iconst 0, 1) := by decide +kernel
theorem dX5_init_94 : decode cX5_init 94 = .ok (.putfield 59, 3) := by decide +kernel
theorem dX5_init_97 : decode cX5_init 97 = .ok (.aload_n 0, 1) := by decide +kernel
theorem dX5_init_98 : decode cX5_init 98 = .ok (.iconst 0, 1) := by decide +kernel
theorem dX5_init_99 : decode cX5_init 99 = .ok (.putfield 62, 3) := by decide +kernel
theorem dX5_init_102 : decode cX5_init 102 = .ok (.return_, 1) := by decide +kernel
theorem dX5_boxes_0 : decode cX5_boxes 0 = .ok (.iload_n 1, 1) := by decide +kernel
theorem dX5_boxes_1 : decode cX5_boxes 1 = .ok (.iconst 2, 1) := by decide +kernel
theorem dX5_boxes_2 : decode cX5_boxes 2 = .ok (.if_icmp .lt 9, 3) := by decide +kernel
theorem dX5_boxes_5 : decode cX5_boxes 5 = .ok (.iload_n 1, 1) := by decide +kernel
theorem dX5_boxes_6 : decode cX5_boxes 6 = .ok (.bipush 7, 2) := by decide +kernel
theorem dX5_boxes_8 : decode cX5_boxes 8 = .ok (.if_icmp .le 8, 3) := by decide +kernel
theorem dX5_boxes_11 : decode cX5_boxes 11 = .ok (.aload_n 0, 1) := by decide +kernel
theorem dX5_boxes_12 : decode cX5_boxes 12 = .ok (.invokevirtual 65, 3) := by decide +kernel
theorem dX5_boxes_15 : decode cX5_boxes 15 = .ok (.ireturn, 1) := by decide +kernel
theorem dX5_boxes_16 : decode cX5_boxes 16 = .ok (.aload_n 0, 1) := by decide +kernel
theorem dX5_boxes_17 : decode cX5_boxes 17 = .ok (.getfield 10, 3) := by decide +kernel
theorem dX5_boxes_20 : decode cX5_boxes 20 = .ok (.getfield 69, 3) := by decide +kernel
theorem dX5_boxes_23 : decode cX5_boxes 23 = .ok (.istore_n 2, 1) := by decide +kernel
theorem dX5_boxes_24 : decode cX5_boxes 24 = .ok (.aload_n 0, 1) := by decide +kernel
theorem dX5_boxes_25 : decode cX5_boxes 25 = .ok (.getfield 10, 3) := by decide +kernel
theorem dX5_boxes_28 : decode cX5_boxes 28 = .ok (.iload_n 1, 1) := by decide +kernel
theorem dX5_boxes_29 : decode cX5_boxes 29 = .ok (.invokevirtual 72, 3) := by decide +kernel
theorem dX5_boxes_32 : decode cX5_boxes 32 = .ok (.iload_n 2, 1) := by decide +kernel
theorem dX5_boxes_33 : decode cX5_boxes 33 = .ok (.ireturn, 1) := by decide +kernel
theorem dX5_put_0 : decode cX5_put 0 = .ok (.iload_n 1, 1) := by decide +kernel
theorem dX5_put_1 : decode cX5_put 1 = .ok (.ifCond .ne 9, 3) := by decide +kernel
theorem dX5_put_4 : decode cX5_put 4 = .ok (.aload_n 0, 1) := by decide +kernel
theorem dX5_put_5 : decode cX5_put 5 = .ok (.iload_n 2, 1) := by decide +kernel
theorem dX5_put_6 : decode cX5_put 6 = .ok (.invokevirtual 76, 3) := by decide +kernel
theorem dX5_put_9 : decode cX5_put 9 = .ok (.ireturn, 1) := by decide +kernel
theorem dX5_put_10 : decode cX5_put 10 = .ok (.iload_n 1, 1) := by decide +kernel
theorem dX5_put_11 : decode cX5_put 11 = .ok (.iconst 1, 1) := by decide +kernel
theorem dX5_put_12 : decode cX5_put 12 = .ok (.if_icmp .ne 13, 3) := by decide +kernel
theorem dX5_put_15 : decode cX5_put 15 = .ok (.iload_n 2, 1) := by decide +kernel
theorem dX5_put_16 : decode cX5_put 16 = .ok (.ifCond .lt 9, 3) := by decide +kernel
theorem dX5_put_19 : decode cX5_put 19 = .ok (.iload_n 2, 1) := by decide +kernel
theorem dX5_put_20 : decode cX5_put 20 = .ok (.bipush 6, 2) := by decide +kernel
theorem dX5_put_22 : decode cX5_put 22 = .ok (.if_icmp .le 8, 3) := by decide +kernel
theorem dX5_put_25 : decode cX5_put 25 = .ok (.aload_n 0, 1) := by decide +kernel
theorem dX5_put_26 : decode cX5_put 26 = .ok (.invokevirtual 65, 3) := by decide +kernel
theorem dX5_put_29 : decode cX5_put 29 = .ok (.ireturn, 1) := by decide +kernel
theorem dX5_put_30 : decode cX5_put 30 = .ok (.aload_n 0, 1) := by decide +kernel
theorem dX5_put_31 : decode cX5_put 31 = .ok (.getfield 10, 3) := by decide +kernel
theorem dX5_put_34 : decode cX5_put 34 = .ok (.getfield 80, 3) := by decide +kernel
theorem dX5_put_37 : decode cX5_put 37 = .ok (.istore_n 3, 1) := by decide +kernel
theorem dX5_put_38 : decode cX5_put 38 = .ok (.aload_n 0, 1) := by decide +kernel
theorem dX5_put_39 : decode cX5_put 39 = .ok (.getfield 10, 3) := by decide +kernel
theorem dX5_put_42 : decode cX5_put 42 = .ok (.iload_n 2, 1) := by decide +kernel
theorem dX5_put_43 : decode cX5_put 43 = .ok (.putfield 80, 3) := by decide +kernel
theorem dX5_put_46 : decode cX5_put 46 = .ok (.iload_n 3, 1) := by decide +kernel
theorem dX5_put_47 : decode cX5_put 47 = .ok (.ireturn, 1) := by decide +kernel
theorem dX5_putLeave_0 : decode cX5_putLeave 0 = .ok (.iload_n 1, 1) := by decide +kernel
theorem dX5_putLeave_1 : decode cX5_putLeave 1 = .ok (.iconst 1, 1) := by decide +kernel
theorem dX5_putLeave_2 : decode cX5_putLeave 2 = .ok (.if_icmp .lt 14, 3) := by decide +kernel
theorem dX5_putLeave_5 : decode cX5_putLeave 5 = .ok (.iload_n 1, 1) := by decide +kernel
theorem dX5_putLeave_6 : decode cX5_putLeave 6 = .ok (.aload_n 0, 1) := by decide +kernel
theorem dX5_putLeave_7 : decode cX5_putLeave 7 = .ok (.getfield 10, 3) := by decide +kernel
theorem dX5_putLeave_10 : decode cX5_putLeave 10 = .ok (.getfield 69, 3) := by decide +kernel
theorem dX5_putLeave_13 : decode cX5_putLeave 13 = .ok (.if_icmp .le 8, 3) := by decide +kernel
theorem dX5_putLeave_16 : decode cX5_putLeave 16 = .ok (.aload_n 0, 1) := by decide +kernel
theorem dX5_putLeave_17 : decode cX5_putLeave 17 = .ok (.invokevirtual 65, 3) := by decide +kernel
theorem dX5_putLeave_20 : decode cX5_putLeave 20 = .ok (.ireturn, 1) := by decide +kernel
theorem dX5_putLeave_21 : decode cX5_putLeave 21 = .ok (.aload_n 0, 1) := by decide +kernel
theorem dX5_putLeave_22 : decode cX5_putLeave 22 = .ok (.getfield 10, 3) := by decide +kernel
theorem dX5_putLeave_25 : decode cX5_putLeave 25 = .ok (.getfield 83, 3) := by decide +kernel
theorem dX5_putLeave_28 : decode cX5_putLeave 28 = .ok (.istore_n 2, 1) := by decide +kernel
theorem dX5_putLeave_29 : decode cX5_putLeave 29 = .ok (.aload_n 0, 1) := by decide +kernel
theorem dX5_putLeave_30 : decode cX5_putLeave 30 = .ok (.getfield 10, 3) := by decide +kernel
theorem dX5_putLeave_33 : decode cX5_putLeave 33 = .ok (.iload_n 1, 1) := by decide +kernel
theorem dX5_putLeave_34 : decode cX5_putLeave 34 = .ok (.putfield 83, 3) := by decide +kernel
theorem dX5_putLeave_37 : decode cX5_putLeave 37 = .ok (.iload_n 2, 1) := by decide +kernel
theorem dX5_putLeave_38 : decode cX5_putLeave 38 = .ok (.ireturn, 1) := by decide +kernel
theorem dX5_rule_0 : decode cX5_rule 0 = .ok (.aload_n 0, 1) := by decide +kernel
theorem dX5_rule_1 : decode cX5_rule 1 = .ok (.iload_n 1, 1) := by decide +kernel
theorem dX5_rule_2 : decode cX5_rule 2 = .ok (.invokevirtual 86, 3) := by decide +kernel
theorem dX5_rule_5 : decode cX5_rule 5 = .ok (.ifCond .ne 13, 3) := by decide +kernel
theorem dX5_rule_8 : decode cX5_rule 8 = .ok (.iload_n 2, 1) := by decide +kernel
theorem dX5_rule_9 : decode cX5_rule 9 = .ok (.ifCond .lt 9, 3) := by decide +kernel
theorem dX5_rule_12 : decode cX5_rule 12 = .ok (.iload_n 2, 1) := by decide +kernel
theorem dX5_rule_13 : decode cX5_rule 13 = .ok (.bipush 6, 2) := by decide +kernel
theorem dX5_rule_15 : decode cX5_rule 15 = .ok (.if_icmp .lt 8, 3) := by decide +kernel
theorem dX5_rule_18 : decode cX5_rule 18 = .ok (.aload_n 0, 1) := by decide +kernel
theorem dX5_rule_19 : decode cX5_rule 19 = .ok (.invokevirtual 65, 3) := by decide +kernel
theorem dX5_rule_22 : decode cX5_rule 22 = .ok (.ireturn, 1) := by decide +kernel
theorem dX5_rule_23 : decode cX5_rule 23 = .ok (.aload_n 0, 1) := by decide +kernel
theorem dX5_rule_24 : decode cX5_rule 24 = .ok (.getfield 10, 3) := by decide +kernel
theorem dX5_rule_27 : decode cX5_rule 27 = .ok (.getfield 90, 3) := by decide +kernel
theorem dX5_rule_30 : decode cX5_rule 30 = .ok (.iload_n 1, 1) := by decide +kernel
theorem dX5_rule_31 : decode cX5_rule 31 = .ok (.iaload, 1) := by decide +kernel
theorem dX5_rule_32 : decode cX5_rule 32 = .ok (.istore_n 3, 1) := by decide +kernel
theorem dX5_rule_33 : decode cX5_rule 33 = .ok (.aload_n 0, 1) := by decide +kernel
theorem dX5_rule_34 : decode cX5_rule 34 = .ok (.getfield 10, 3) := by decide +kernel
theorem dX5_rule_37 : decode cX5_rule 37 = .ok (.getfield 90, 3) := by decide +kernel
theorem dX5_rule_40 : decode cX5_rule 40 = .ok (.iload_n 1, 1) := by decide +kernel
theorem dX5_rule_41 : decode cX5_rule 41 = .ok (.iload_n 2, 1) := by decide +kernel
theorem dX5_rule_42 : decode cX5_rule 42 = .ok (.iastore, 1) := by decide +kernel
theorem dX5_rule_43 : decode cX5_rule 43 = .ok (.iload_n 3, 1) := by decide +kernel
theorem dX5_rule_44 : decode cX5_rule 44 = .ok (.ireturn, 1) := by decide +kernel
theorem dX5_swap_0 : decode cX5_swap 0 = .ok (.aload_n 0, 1) := by decide +kernel
theorem dX5_swap_1 : decode cX5_swap 1 = .ok (.iload_n 1, 1) := by decide +kernel
theorem dX5_swap_2 : decode cX5_swap 2 = .ok (.invokevirtual 86, 3) := by decide +kernel
theorem dX5_swap_5 : decode cX5_swap 5 = .ok (.ifCond .ne 16, 3) := by decide +kernel
theorem dX5_swap_8 : decode cX5_swap 8 = .ok (.aload_n 0, 1) := by decide +kernel
theorem dX5_swap_9 : decode cX5_swap 9 = .ok (.iload_n 2, 1) := by decide +kernel
theorem dX5_swap_10 : decode cX5_swap 10 = .ok (.invokevirtual 86, 3) := by decide +kernel
theorem dX5_swap_13 : decode cX5_swap 13 = .ok (.ifCond .ne 8, 3) := by decide +kernel
theorem dX5_swap_16 : decode cX5_swap 16 = .ok (.iload_n 1, 1) := by decide +kernel
theorem dX5_swap_17 : decode cX5_swap 17 = .ok (.iload_n 2, 1) := by decide +kernel
theorem dX5_swap_18 : decode cX5_swap 18 = .ok (.if_icmp .ne 8, 3) := by decide +kernel
theorem dX5_swap_21 : decode cX5_swap 21 = .ok (.aload_n 0, 1) := by decide +kernel
theorem dX5_swap_22 : decode cX5_swap 22 = .ok (.invokevirtual 65, 3) := by decide +kernel
theorem dX5_swap_25 : decode cX5_swap 25 = .ok (.ireturn, 1) := by decide +kernel
theorem dX5_swap_26 : decode cX5_swap 26 = .ok (.aload_n 0, 1) := by decide +kernel
theorem dX5_swap_27 : decode cX5_swap 27 = .ok (.getfield 10, 3) := by decide +kernel
theorem dX5_swap_30 : decode cX5_swap 30 = .ok (.invokevirtual 93, 3) := by decide +kernel
theorem dX5_swap_33 : decode cX5_swap 33 = .ok (.aload_n 0, 1) := by decide +kernel
theorem dX5_swap_34 : decode cX5_swap 34 = .ok (.getfield 10, 3) := by decide +kernel
theorem dX5_swap_37 : decode cX5_swap 37 = .ok (.getfield 96, 3) := by decide +kernel
theorem dX5_swap_40 : decode cX5_swap 40 = .ok (.iload_n 1, 1) := by decide +kernel
theorem dX5_swap_41 : decode cX5_swap 41 = .ok (.iload_n 2, 1) := by decide +kernel
theorem dX5_swap_42 : decode cX5_swap 42 = .ok (.invokestatic 99, 3) := by decide +kernel
theorem dX5_swap_45 : decode cX5_swap 45 = .ok (.iconst 1, 1) := by decide +kernel
theorem dX5_swap_46 : decode cX5_swap 46 = .ok (.ireturn, 1) := by decide +kernel
theorem dX5_lay_0 : decode cX5_lay 0 = .ok (.aload_n 0, 1) := by decide +kernel
theorem dX5_lay_1 : decode cX5_lay 1 = .ok (.iload_n 1, 1) := by decide +kernel
theorem dX5_lay_2 : decode cX5_lay 2 = .ok (.invokevirtual 105, 3) := by decide +kernel
theorem dX5_lay_5 : decode cX5_lay 5 = .ok (.ifCond .eq 8, 3) := by decide +kernel
theorem dX5_lay_8 : decode cX5_lay 8 = .ok (.aload_n 0, 1) := by decide +kernel
theorem dX5_lay_9 : decode cX5_lay 9 = .ok (.invokevirtual 65, 3) := by decide +kernel
theorem dX5_lay_12 : decode cX5_lay 12 = .ok (.ireturn, 1) := by decide +kernel
theorem dX5_lay_13 : decode cX5_lay 13 = .ok (.aload_n 0, 1) := by decide +kernel
theorem dX5_lay_14 : decode cX5_lay 14 = .ok (.getfield 10, 3) := by decide +kernel
theorem dX5_lay_17 : decode cX5_lay 17 = .ok (.invokevirtual 108, 3) := by decide +kernel
theorem dX5_lay_20 : decode cX5_lay 20 = .ok (.istore_n 2, 1) := by decide +kernel
theorem dX5_lay_21 : decode cX5_lay 21 = .ok (.aload_n 0, 1) := by decide +kernel
theorem dX5_lay_22 : decode cX5_lay 22 = .ok (.getfield 10, 3) := by decide +kernel
theorem dX5_lay_25 : decode cX5_lay 25 = .ok (.invokevirtual 93, 3) := by decide +kernel
theorem dX5_lay_28 : decode cX5_lay 28 = .ok (.aload_n 0, 1) := by decide +kernel
theorem dX5_lay_29 : decode cX5_lay 29 = .ok (.getfield 10, 3) := by decide +kernel
theorem dX5_lay_32 : decode cX5_lay 32 = .ok (.getfield 96, 3) := by decide +kernel
theorem dX5_lay_35 : decode cX5_lay 35 = .ok (.aload_n 0, 1) := by decide +kernel
theorem dX5_lay_36 : decode cX5_lay 36 = .ok (.getfield 10, 3) := by decide +kernel
theorem dX5_lay_39 : decode cX5_lay 39 = .ok (.getfield 69, 3) := by decide +kernel
theorem dX5_lay_42 : decode cX5_lay 42 = .ok (.iload_n 1, 1) := by decide +kernel
theorem dX5_lay_43 : decode cX5_lay 43 = .ok (.invokestatic 111, 3) := by decide +kernel
theorem dX5_lay_46 : decode cX5_lay 46 = .ok (.iload_n 2, 1) := by decide +kernel
theorem dX5_lay_47 : decode cX5_lay 47 = .ok (.ireturn, 1) := by decide +kernel
theorem dX5_undo_0 : decode cX5_undo 0 = .ok (.aload_n 0, 1) := by decide +kernel
theorem dX5_undo_1 : decode cX5_undo 1 = .ok (.getfield 10, 3) := by decide +kernel
theorem dX5_undo_4 : decode cX5_undo 4 = .ok (.getfield 114, 3) := by decide +kernel
theorem dX5_undo_7 : decode cX5_undo 7 = .ok (.ifCond .ne 8, 3) := by decide +kernel
theorem dX5_undo_10 : decode cX5_undo 10 = .ok (.aload_n 0, 1) := by decide +kernel
theorem dX5_undo_11 : decode cX5_undo 11 = .ok (.invokevirtual 117, 3) := by decide +kernel
theorem dX5_undo_14 : decode cX5_undo 14 = .ok (.ireturn, 1) := by decide +kernel
theorem dX5_undo_15 : decode cX5_undo 15 = .ok (.aload_n 0, 1) := by decide +kernel
theorem dX5_undo_16 : decode cX5_undo 16 = .ok (.getfield 10, 3) := by decide +kernel
theorem dX5_undo_19 : decode cX5_undo 19 = .ok (.invokevirtual 120, 3) := by decide +kernel
theorem dX5_undo_22 : decode cX5_undo 22 = .ok (.iconst 1, 1) := by decide +kernel
theorem dX5_undo_23 : decode cX5_undo 23 = .ok (.ireturn, 1) := by decide +kernel
theorem dX5_know_0 : decode cX5_know 0 = .ok (.aload_n 0, 1) := by decide +kernel
theorem dX5_know_1 : decode cX5_know 1 = .ok (.iload_n 1, 1) := by decide +kernel
theorem dX5_know_2 : decode cX5_know 2 = .ok (.invokevirtual 86, 3) := by decide +kernel
theorem dX5_know_5 : decode cX5_know 5 = .ok (.ifCond .ne 11, 3) := by decide +kernel
theorem dX5_know_8 : decode cX5_know 8 = .ok (.aload_n 0, 1) := by decide +kernel
theorem dX5_know_9 : decode cX5_know 9 = .ok (.iload_n 2, 1) := by decide +kernel
theorem dX5_know_10 : decode cX5_know 10 = .ok (.invokevirtual 86, 3) := by decide +kernel
theorem dX5_know_13 : decode cX5_know 13 = .ok (.ifCond .eq 8, 3) := by decide +kernel
theorem dX5_know_16 : decode cX5_know 16 = .ok (.aload_n 0, 1) := by decide +kernel
theorem dX5_know_17 : decode cX5_know 17 = .ok (.invokevirtual 65, 3) := by decide +kernel
theorem dX5_know_20 : decode cX5_know 20 = .ok (.ireturn, 1) := by decide +kernel
theorem dX5_know_21 : decode cX5_know 21 = .ok (.aload_n 0, 1) := by decide +kernel
theorem dX5_know_22 : decode cX5_know 22 = .ok (.getfield 10, 3) := by decide +kernel
theorem dX5_know_25 : decode cX5_know 25 = .ok (.getfield 123, 3) := by decide +kernel
theorem dX5_know_28 : decode cX5_know 28 = .ok (.iload_n 1, 1) := by decide +kernel
theorem dX5_know_29 : decode cX5_know 29 = .ok (.iaload, 1) := by decide +kernel
theorem dX5_know_30 : decode cX5_know 30 = .ok (.iconst (-1), 1) := by decide +kernel
theorem dX5_know_31 : decode cX5_know 31 = .ok (.if_icmp .ne 14, 3) := by decide +kernel
theorem dX5_know_34 : decode cX5_know 34 = .ok (.aload_n 0, 1) := by decide +kernel
theorem dX5_know_35 : decode cX5_know 35 = .ok (.getfield 10, 3) := by decide +kernel
theorem dX5_know_38 : decode cX5_know 38 = .ok (.iload_n 2, 1) := by decide +kernel
theorem dX5_know_39 : decode cX5_know 39 = .ok (.invokevirtual 126, 3) := by decide +kernel
theorem dX5_know_42 : decode cX5_know 42 = .ok (.ifCond .eq 8, 3) := by decide +kernel
theorem dX5_know_45 : decode cX5_know 45 = .ok (.aload_n 0, 1) := by decide +kernel
theorem dX5_know_46 : decode cX5_know 46 = .ok (.invokevirtual 117, 3) := by decide +kernel
theorem dX5_know_49 : decode cX5_know 49 = .ok (.ireturn, 1) := by decide +kernel
theorem dX5_know_50 : decode cX5_know 50 = .ok (.aload_n 0, 1) := by decide +kernel
theorem dX5_know_51 : decode cX5_know 51 = .ok (.getfield 10, 3) := by decide +kernel
theorem dX5_know_54 : decode cX5_know 54 = .ok (.getfield 123, 3) := by decide +kernel
theorem dX5_know_57 : decode cX5_know 57 = .ok (.iload_n 1, 1) := by decide +kernel
theorem dX5_know_58 : decode cX5_know 58 = .ok (.iload_n 2, 1) := by decide +kernel
theorem dX5_know_59 : decode cX5_know 59 = .ok (.iastore, 1) := by decide +kernel
theorem dX5_know_60 : decode cX5_know 60 = .ok (.iconst 1, 1) := by decide +kernel
theorem dX5_know_61 : decode cX5_know 61 = .ok (.ireturn, 1) := by decide +kernel
theorem dX5_report_0 : decode cX5_report 0 = .ok (.aload_n 0, 1) := by decide +kernel
theorem dX5_report_1 : decode cX5_report 1 = .ok (.iload_n 1, 1) := by decide +kernel
theorem dX5_report_2 : decode cX5_report 2 = .ok (.invokevirtual 86, 3) := by decide +kernel
theorem dX5_report_5 : decode cX5_report 5 = .ok (.ifCond .ne 18, 3) := by decide +kernel
theorem dX5_report_8 : decode cX5_report 8 = .ok (.iload_n 2, 1) := by decide +kernel
theorem dX5_report_9 : decode cX5_report 9 = .ok (.ifCond .lt 14, 3) := by decide +kernel
theorem dX5_report_12 : decode cX5_report 12 = .ok (.iload_n 2, 1) := by decide +kernel
theorem dX5_report_13 : decode cX5_report 13 = .ok (.aload_n 0, 1) := by decide +kernel
theorem dX5_report_14 : decode cX5_report 14 = .ok (.getfield 10, 3) := by decide +kernel
theorem dX5_report_17 : decode cX5_report 17 = .ok (.getfield 69, 3) := by decide +kernel
theorem dX5_report_20 : decode cX5_report 20 = .ok (.if_icmp .le 8, 3) := by decide +kernel
theorem dX5_report_23 : decode cX5_report 23 = .ok (.aload_n 0, 1) := by decide +kernel
theorem dX5_report_24 : decode cX5_report 24 = .ok (.invokevirtual 65, 3) := by decide +kernel
theorem dX5_report_27 : decode cX5_report 27 = .ok (.ireturn, 1) := by decide +kernel
theorem dX5_report_28 : decode cX5_report 28 = .ok (.aload_n 0, 1) := by decide +kernel
theorem dX5_report_29 : decode cX5_report 29 = .ok (.getfield 10, 3) := by decide +kernel
theorem dX5_report_32 : decode cX5_report 32 = .ok (.getfield 129, 3) := by decide +kernel
theorem dX5_report_35 : decode cX5_report 35 = .ok (.bipush 8, 2) := by decide +kernel
theorem dX5_report_37 : decode cX5_report 37 = .ok (.if_icmp .lt 8, 3) := by decide +kernel
theorem dX5_report_40 : decode cX5_report 40 = .ok (.aload_n 0, 1) := by decide +kernel
theorem dX5_report_41 : decode cX5_report 41 = .ok (.invokevirtual 132, 3) := by decide +kernel
theorem dX5_report_44 : decode cX5_report 44 = .ok (.ireturn, 1) := by decide +kernel
theorem dX5_report_45 : decode cX5_report 45 = .ok (.aload_n 0, 1) := by decide +kernel
theorem dX5_report_46 : decode cX5_report 46 = .ok (.getfield 10, 3) := by decide +kernel
theorem dX5_report_49 : decode cX5_report 49 = .ok (.iload_n 1, 1) := by decide +kernel
theorem dX5_report_50 : decode cX5_report 50 = .ok (.iload_n 2, 1) := by decide +kernel
theorem dX5_report_51 : decode cX5_report 51 = .ok (.invokevirtual 135, 3) := by decide +kernel
theorem dX5_report_54 : decode cX5_report 54 = .ok (.ireturn, 1) := by decide +kernel
theorem dX5_forget_0 : decode cX5_forget 0 = .ok (.iload_n 1, 1) := by decide +kernel
theorem dX5_forget_1 : decode cX5_forget 1 = .ok (.ifCond .ne 24, 3) := by decide +kernel
theorem dX5_forget_4 : decode cX5_forget 4 = .ok (.aload_n 0, 1) := by decide +kernel
theorem dX5_forget_5 : decode cX5_forget 5 = .ok (.getfield 10, 3) := by decide +kernel
theorem dX5_forget_8 : decode cX5_forget 8 = .ok (.invokevirtual 139, 3) := by decide +kernel
theorem dX5_forget_11 : decode cX5_forget 11 = .ok (.istore_n 2, 1) := by decide +kernel
theorem dX5_forget_12 : decode cX5_forget 12 = .ok (.aload_n 0, 1) := by decide +kernel
theorem dX5_forget_13 : decode cX5_forget 13 = .ok (.getfield 10, 3) := by decide +kernel
theorem dX5_forget_16 : decode cX5_forget 16 = .ok (.getfield 123, 3) := by decide +kernel
theorem dX5_forget_19 : decode cX5_forget 19 = .ok (.iconst (-1), 1) := by decide +kernel
theorem dX5_forget_20 : decode cX5_forget 20 = .ok (.invokestatic 142, 3) := by decide +kernel
theorem dX5_forget_23 : decode cX5_forget 23 = .ok (.iload_n 2, 1) := by decide +kernel
theorem dX5_forget_24 : decode cX5_forget 24 = .ok (.ireturn, 1) := by decide +kernel
theorem dX5_forget_25 : decode cX5_forget 25 = .ok (.iload_n 1, 1) := by decide +kernel
theorem dX5_forget_26 : decode cX5_forget 26 = .ok (.iconst 1, 1) := by decide +kernel
theorem dX5_forget_27 : decode cX5_forget 27 = .ok (.if_icmp .ne 21, 3) := by decide +kernel
theorem dX5_forget_30 : decode cX5_forget 30 = .ok (.aload_n 0, 1) := by decide +kernel
theorem dX5_forget_31 : decode cX5_forget 31 = .ok (.getfield 10, 3) := by decide +kernel
theorem dX5_forget_34 : decode cX5_forget 34 = .ok (.getfield 129, 3) := by decide +kernel
theorem dX5_forget_37 : decode cX5_forget 37 = .ok (.istore_n 2, 1) := by decide +kernel
theorem dX5_forget_38 : decode cX5_forget 38 = .ok (.aload_n 0, 1) := by decide +kernel
theorem dX5_forget_39 : decode cX5_forget 39 = .ok (.getfield 10, 3) := by decide +kernel
theorem dX5_forget_42 : decode cX5_forget 42 = .ok (.iconst 0, 1) := by decide +kernel
theorem dX5_forget_43 : decode cX5_forget 43 = .ok (.putfield 129, 3) := by decide +kernel
theorem dX5_forget_46 : decode cX5_forget 46 = .ok (.iload_n 2, 1) := by decide +kernel
theorem dX5_forget_47 : decode cX5_forget 47 = .ok (.ireturn, 1) := by decide +kernel
theorem dX5_forget_48 : decode cX5_forget 48 = .ok (.aload_n 0, 1) := by decide +kernel
theorem dX5_forget_49 : decode cX5_forget 49 = .ok (.invokevirtual 65, 3) := by decide +kernel
theorem dX5_forget_52 : decode cX5_forget 52 = .ok (.ireturn, 1) := by decide +kernel
theorem dX5_type_0 : decode cX5_type 0 = .ok (.iload_n 1, 1) := by decide +kernel
theorem dX5_type_1 : decode cX5_type 1 = .ok (.ifCond .lt 9, 3) := by decide +kernel
theorem dX5_type_4 : decode cX5_type 4 = .ok (.iload_n 1, 1) := by decide +kernel
theorem dX5_type_5 : decode cX5_type 5 = .ok (.bipush 127, 2) := by decide +kernel
theorem dX5_type_7 : decode cX5_type 7 = .ok (.if_icmp .le 8, 3) := by decide +kernel
theorem dX5_type_10 : decode cX5_type 10 = .ok (.aload_n 0, 1) := by decide +kernel
theorem dX5_type_11 : decode cX5_type 11 = .ok (.invokevirtual 65, 3) := by decide +kernel
theorem dX5_type_14 : decode cX5_type 14 = .ok (.ireturn, 1) := by decide +kernel
theorem dX5_type_15 : decode cX5_type 15 = .ok (.aload_n 0, 1) := by decide +kernel
theorem dX5_type_16 : decode cX5_type 16 = .ok (.getfield 26, 3) := by decide +kernel
theorem dX5_type_19 : decode cX5_type 19 = .ok (.getfield 148, 3) := by decide +kernel
theorem dX5_type_22 : decode cX5_type 22 = .ok (.sipush 150, 3) := by decide +kernel
theorem dX5_type_25 : decode cX5_type 25 = .ok (.if_icmp .lt 8, 3) := by decide +kernel
theorem dX5_type_28 : decode cX5_type 28 = .ok (.aload_n 0, 1) := by decide +kernel
theorem dX5_type_29 : decode cX5_type 29 = .ok (.invokevirtual 132, 3) := by decide +kernel
theorem dX5_type_32 : decode cX5_type 32 = .ok (.ireturn, 1) := by decide +kernel
theorem dX5_type_33 : decode cX5_type 33 = .ok (.aload_n 0, 1) := by decide +kernel
theorem dX5_type_34 : decode cX5_type 34 = .ok (.getfield 26, 3) := by decide +kernel
theorem dX5_type_37 : decode cX5_type 37 = .ok (.getfield 151, 3) := by decide +kernel
theorem dX5_type_40 : decode cX5_type 40 = .ok (.aload_n 0, 1) := by decide +kernel
theorem dX5_type_41 : decode cX5_type 41 = .ok (.getfield 26, 3) := by decide +kernel
theorem dX5_type_44 : decode cX5_type 44 = .ok (.getfield 148, 3) := by decide +kernel
theorem dX5_type_47 : decode cX5_type 47 = .ok (.iload_n 1, 1) := by decide +kernel
theorem dX5_type_48 : decode cX5_type 48 = .ok (.i2b, 1) := by decide +kernel
theorem dX5_type_49 : decode cX5_type 49 = .ok (.bastore, 1) := by decide +kernel
theorem dX5_type_50 : decode cX5_type 50 = .ok (.aload_n 0, 1) := by decide +kernel
theorem dX5_type_51 : decode cX5_type 51 = .ok (.getfield 26, 3) := by decide +kernel
theorem dX5_type_54 : decode cX5_type 54 = .ok (.dup, 1) := by decide +kernel
theorem dX5_type_55 : decode cX5_type 55 = .ok (.getfield 148, 3) := by decide +kernel
theorem dX5_type_58 : decode cX5_type 58 = .ok (.iconst 1, 1) := by decide +kernel
theorem dX5_type_59 : decode cX5_type 59 = .ok (.iadd, 1) := by decide +kernel
theorem dX5_type_60 : decode cX5_type 60 = .ok (.putfield 148, 3) := by decide +kernel
theorem dX5_type_63 : decode cX5_type 63 = .ok (.aload_n 0, 1) := by decide +kernel
theorem dX5_type_64 : decode cX5_type 64 = .ok (.getfield 26, 3) := by decide +kernel
theorem dX5_type_67 : decode cX5_type 67 = .ok (.getfield 148, 3) := by decide +kernel
theorem dX5_type_70 : decode cX5_type 70 = .ok (.ireturn, 1) := by decide +kernel
theorem dX5_clear_0 : decode cX5_clear 0 = .ok (.aload_n 0, 1) := by decide +kernel
theorem dX5_clear_1 : decode cX5_clear 1 = .ok (.getfield 26, 3) := by decide +kernel
theorem dX5_clear_4 : decode cX5_clear 4 = .ok (.getfield 148, 3) := by decide +kernel
theorem dX5_clear_7 : decode cX5_clear 7 = .ok (.istore_n 1, 1) := by decide +kernel
theorem dX5_clear_8 : decode cX5_clear 8 = .ok (.aload_n 0, 1) := by decide +kernel
theorem dX5_clear_9 : decode cX5_clear 9 = .ok (.getfield 26, 3) := by decide +kernel
theorem dX5_clear_12 : decode cX5_clear 12 = .ok (.iconst 0, 1) := by decide +kernel
theorem dX5_clear_13 : decode cX5_clear 13 = .ok (.putfield 148, 3) := by decide +kernel
theorem dX5_clear_16 : decode cX5_clear 16 = .ok (.iload_n 1, 1) := by decide +kernel
theorem dX5_clear_17 : decode cX5_clear 17 = .ok (.ireturn, 1) := by decide +kernel
theorem dX5_read_0 : decode cX5_read 0 = .ok (.aload_n 0, 1) := by decide +kernel
theorem dX5_read_1 : decode cX5_read 1 = .ok (.getfield 26, 3) := by decide +kernel
theorem dX5_read_4 : decode cX5_read 4 = .ok (.aload_n 0, 1) := by decide +kernel
theorem dX5_read_5 : decode cX5_read 5 = .ok (.getfield 16, 3) := by decide +kernel
theorem dX5_read_8 : decode cX5_read 8 = .ok (.invokevirtual 155, 3) := by decide +kernel
theorem dX5_read_11 : decode cX5_read 11 = .ok (.istore_n 1, 1) := by decide +kernel
theorem dX5_read_12 : decode cX5_read 12 = .ok (.iload_n 1, 1) := by decide +kernel
theorem dX5_read_13 : decode cX5_read 13 = .ok (.ifCond .lt 14, 3) := by decide +kernel
theorem dX5_read_16 : decode cX5_read 16 = .ok (.aload_n 0, 1) := by decide +kernel
theorem dX5_read_17 : decode cX5_read 17 = .ok (.getfield 10, 3) := by decide +kernel
theorem dX5_read_20 : decode cX5_read 20 = .ok (.aload_n 0, 1) := by decide +kernel
theorem dX5_read_21 : decode cX5_read 21 = .ok (.getfield 16, 3) := by decide +kernel
theorem dX5_read_24 : decode cX5_read 24 = .ok (.invokevirtual 159, 3) := by decide +kernel
theorem dX5_read_27 : decode cX5_read 27 = .ok (.iload_n 1, 1) := by decide +kernel
theorem dX5_read_28 : decode cX5_read 28 = .ok (.ireturn, 1) := by decide +kernel
theorem dX5_slip_0 : decode cX5_slip 0 = .ok (.aload_n 0, 1) := by decide +kernel
theorem dX5_slip_1 : decode cX5_slip 1 = .ok (.iload_n 1, 1) := by decide +kernel
theorem dX5_slip_2 : decode cX5_slip 2 = .ok (.invokevirtual 86, 3) := by decide +kernel
theorem dX5_slip_5 : decode cX5_slip 5 = .ok (.ifCond .eq 8, 3) := by decide +kernel
theorem dX5_slip_8 : decode cX5_slip 8 = .ok (.aload_n 0, 1) := by decide +kernel
theorem dX5_slip_9 : decode cX5_slip 9 = .ok (.invokevirtual 65, 3) := by decide +kernel
theorem dX5_slip_12 : decode cX5_slip 12 = .ok (.ireturn, 1) := by decide +kernel
theorem dX5_slip_13 : decode cX5_slip 13 = .ok (.aload_n 0, 1) := by decide +kernel
theorem dX5_slip_14 : decode cX5_slip 14 = .ok (.getfield 10, 3) := by decide +kernel
theorem dX5_slip_17 : decode cX5_slip 17 = .ok (.getfield 96, 3) := by decide +kernel
theorem dX5_slip_20 : decode cX5_slip 20 = .ok (.iload_n 1, 1) := by decide +kernel
theorem dX5_slip_21 : decode cX5_slip 21 = .ok (.iaload, 1) := by decide +kernel
theorem dX5_slip_22 : decode cX5_slip 22 = .ok (.ireturn, 1) := by decide +kernel
theorem dX5_rank_0 : decode cX5_rank 0 = .ok (.aload_n 0, 1) := by decide +kernel
theorem dX5_rank_1 : decode cX5_rank 1 = .ok (.getfield 10, 3) := by decide +kernel
theorem dX5_rank_4 : decode cX5_rank 4 = .ok (.invokevirtual 108, 3) := by decide +kernel
theorem dX5_rank_7 : decode cX5_rank 7 = .ok (.ireturn, 1) := by decide +kernel
theorem dX5_rings_0 : decode cX5_rings 0 = .ok (.iload_n 1, 1) := by decide +kernel
theorem dX5_rings_1 : decode cX5_rings 1 = .ok (.iconst (-1), 1) := by decide +kernel
theorem dX5_rings_2 : decode cX5_rings 2 = .ok (.if_icmp .ne 21, 3) := by decide +kernel
theorem dX5_rings_5 : decode cX5_rings 5 = .ok (.aload_n 0, 1) := by decide +kernel
theorem dX5_rings_6 : decode cX5_rings 6 = .ok (.getfield 10, 3) := by decide +kernel
theorem dX5_rings_9 : decode cX5_rings 9 = .ok (.getfield 96, 3) := by decide +kernel
theorem dX5_rings_12 : decode cX5_rings 12 = .ok (.aload_n 0, 1) := by decide +kernel
theorem dX5_rings_13 : decode cX5_rings 13 = .ok (.getfield 10, 3) := by decide +kernel
theorem dX5_rings_16 : decode cX5_rings 16 = .ok (.getfield 69, 3) := by decide +kernel
theorem dX5_rings_19 : decode cX5_rings 19 = .ok (.invokestatic 163, 3) := by decide +kernel
theorem dX5_rings_22 : decode cX5_rings 22 = .ok (.ireturn, 1) := by decide +kernel
theorem dX5_rings_23 : decode cX5_rings 23 = .ok (.aload_n 0, 1) := by decide +kernel
theorem dX5_rings_24 : decode cX5_rings 24 = .ok (.iload_n 1, 1) := by decide +kernel
theorem dX5_rings_25 : decode cX5_rings 25 = .ok (.invokevirtual 86, 3) := by decide +kernel
theorem dX5_rings_28 : decode cX5_rings 28 = .ok (.ifCond .eq 8, 3) := by decide +kernel
theorem dX5_rings_31 : decode cX5_rings 31 = .ok (.aload_n 0, 1) := by decide +kernel
theorem dX5_rings_32 : decode cX5_rings 32 = .ok (.invokevirtual 167, 3) := by decide +kernel
theorem dX5_rings_35 : decode cX5_rings 35 = .ok (.ireturn, 1) := by decide +kernel
theorem dX5_rings_36 : decode cX5_rings 36 = .ok (.aload_n 0, 1) := by decide +kernel
theorem dX5_rings_37 : decode cX5_rings 37 = .ok (.getfield 10, 3) := by decide +kernel
theorem dX5_rings_40 : decode cX5_rings 40 = .ok (.getfield 96, 3) := by decide +kernel
theorem dX5_rings_43 : decode cX5_rings 43 = .ok (.aload_n 0, 1) := by decide +kernel
theorem dX5_rings_44 : decode cX5_rings 44 = .ok (.getfield 10, 3) := by decide +kernel
theorem dX5_rings_47 : decode cX5_rings 47 = .ok (.getfield 69, 3) := by decide +kernel
theorem dX5_rings_50 : decode cX5_rings 50 = .ok (.iload_n 1, 1) := by decide +kernel
theorem dX5_rings_51 : decode cX5_rings 51 = .ok (.invokestatic 170, 3) := by decide +kernel
theorem dX5_rings_54 : decode cX5_rings 54 = .ok (.ireturn, 1) := by decide +kernel
theorem dX5_opened_0 : decode cX5_opened 0 = .ok (.aload_n 0, 1) := by decide +kernel
theorem dX5_opened_1 : decode cX5_opened 1 = .ok (.iload_n 1, 1) := by decide +kernel
theorem dX5_opened_2 : decode cX5_opened 2 = .ok (.invokevirtual 86, 3) := by decide +kernel
theorem dX5_opened_5 : decode cX5_opened 5 = .ok (.ifCond .ne 8, 3) := by decide +kernel
theorem dX5_opened_8 : decode cX5_opened 8 = .ok (.iload_n 2, 1) := by decide +kernel
theorem dX5_opened_9 : decode cX5_opened 9 = .ok (.iconst (-1), 1) := by decide +kernel
theorem dX5_opened_10 : decode cX5_opened 10 = .ok (.if_icmp .ge 8, 3) := by decide +kernel
theorem dX5_opened_13 : decode cX5_opened 13 = .ok (.aload_n 0, 1) := by decide +kernel
theorem dX5_opened_14 : decode cX5_opened 14 = .ok (.invokevirtual 167, 3) := by decide +kernel
theorem dX5_opened_17 : decode cX5_opened 17 = .ok (.ireturn, 1) := by decide +kernel
theorem dX5_opened_18 : decode cX5_opened 18 = .ok (.aload_n 0, 1) := by decide +kernel
theorem dX5_opened_19 : decode cX5_opened 19 = .ok (.getfield 33, 3) := by decide +kernel
theorem dX5_opened_22 : decode cX5_opened 22 = .ok (.aload_n 0, 1) := by decide +kernel
theorem dX5_opened_23 : decode cX5_opened 23 = .ok (.getfield 10, 3) := by decide +kernel
theorem dX5_opened_26 : decode cX5_opened 26 = .ok (.aload_n 0, 1) := by decide +kernel
theorem dX5_opened_27 : decode cX5_opened 27 = .ok (.getfield 10, 3) := by decide +kernel
theorem dX5_opened_30 : decode cX5_opened 30 = .ok (.getfield 96, 3) := by decide +kernel
theorem dX5_opened_33 : decode cX5_opened 33 = .ok (.iload_n 1, 1) := by decide +kernel
theorem dX5_opened_34 : decode cX5_opened 34 = .ok (.aload_n 0, 1) := by decide +kernel
theorem dX5_opened_35 : decode cX5_opened 35 = .ok (.getfield 10, 3) := by decide +kernel
theorem dX5_opened_38 : decode cX5_opened 38 = .ok (.getfield 90, 3) := by decide +kernel
theorem dX5_opened_41 : decode cX5_opened 41 = .ok (.iload_n 1, 1) := by decide +kernel
theorem dX5_opened_42 : decode cX5_opened 42 = .ok (.iaload, 1) := by decide +kernel
theorem dX5_opened_43 : decode cX5_opened 43 = .ok (.invokevirtual 174, 3) := by decide +kernel
theorem dX5_opened_46 : decode cX5_opened 46 = .ok (.iload_n 2, 1) := by decide +kernel
theorem dX5_opened_47 : decode cX5_opened 47 = .ok (.iconst (-1), 1) := by decide +kernel
theorem dX5_opened_48 : decode cX5_opened 48 = .ok (.if_icmp .ne 11, 3) := by decide +kernel
theorem dX5_opened_51 : decode cX5_opened 51 = .ok (.aload_n 0, 1) := by decide +kernel
theorem dX5_opened_52 : decode cX5_opened 52 = .ok (.getfield 33, 3) := by decide +kernel
theorem dX5_opened_55 : decode cX5_opened 55 = .ok (.getfield 178, 3) := by decide +kernel
theorem dX5_opened_58 : decode cX5_opened 58 = .ok (.ireturn, 1) := by decide +kernel
theorem dX5_opened_59 : decode cX5_opened 59 = .ok (.iload_n 2, 1) := by decide +kernel
theorem dX5_opened_60 : decode cX5_opened 60 = .ok (.aload_n 0, 1) := by decide +kernel
theorem dX5_opened_61 : decode cX5_opened 61 = .ok (.getfield 33, 3) := by decide +kernel
theorem dX5_opened_64 : decode cX5_opened 64 = .ok (.getfield 178, 3) := by decide +kernel
theorem dX5_opened_67 : decode cX5_opened 67 = .ok (.if_icmp .ge 15, 3) := by decide +kernel
theorem dX5_opened_70 : decode cX5_opened 70 = .ok (.aload_n 0, 1) := by decide +kernel
theorem dX5_opened_71 : decode cX5_opened 71 = .ok (.getfield 33, 3) := by decide +kernel
theorem dX5_opened_74 : decode cX5_opened 74 = .ok (.getfield 181, 3) := by decide +kernel
theorem dX5_opened_77 : decode cX5_opened 77 = .ok (.iload_n 2, 1) := by decide +kernel
theorem dX5_opened_78 : decode cX5_opened 78 = .ok (.iaload, 1) := by decide +kernel
theorem dX5_opened_79 : decode cX5_opened 79 = .ok (.goto 5, 3) := by decide +kernel
theorem dX5_opened_82 : decode cX5_opened 82 = .ok (.bipush (-5), 2) := by decide +kernel
theorem dX5_opened_84 : decode cX5_opened 84 = .ok (.ireturn, 1) := by decide +kernel
theorem dX5_finds_0 : decode cX5_finds 0 = .ok (.aload_n 0, 1) := by decide +kernel
theorem dX5_finds_1 : decode cX5_finds 1 = .ok (.aload_n 0, 1) := by decide +kernel
theorem dX5_finds_2 : decode cX5_finds 2 = .ok (.getfield 10, 3) := by decide +kernel
theorem dX5_finds_5 : decode cX5_finds 5 = .ok (.getfield 96, 3) := by decide +kernel
theorem dX5_finds_8 : decode cX5_finds 8 = .ok (.invokevirtual 184, 3) := by decide +kernel
theorem dX5_finds_11 : decode cX5_finds 11 = .ok (.ireturn, 1) := by decide +kernel
theorem dX5_worked_0 : decode cX5_worked 0 = .ok (.iload_n 1, 1) := by decide +kernel
theorem dX5_worked_1 : decode cX5_worked 1 = .ok (.ifCond .lt 9, 3) := by decide +kernel
theorem dX5_worked_4 : decode cX5_worked 4 = .ok (.iload_n 1, 1) := by decide +kernel
theorem dX5_worked_5 : decode cX5_worked 5 = .ok (.bipush 99, 2) := by decide +kernel
theorem dX5_worked_7 : decode cX5_worked 7 = .ok (.if_icmp .le 8, 3) := by decide +kernel
theorem dX5_worked_10 : decode cX5_worked 10 = .ok (.aload_n 0, 1) := by decide +kernel
theorem dX5_worked_11 : decode cX5_worked 11 = .ok (.invokevirtual 65, 3) := by decide +kernel
theorem dX5_worked_14 : decode cX5_worked 14 = .ok (.ireturn, 1) := by decide +kernel
theorem dX5_worked_15 : decode cX5_worked 15 = .ok (.iconst 0, 1) := by decide +kernel
theorem dX5_worked_16 : decode cX5_worked 16 = .ok (.istore_n 2, 1) := by decide +kernel
theorem dX5_worked_17 : decode cX5_worked 17 = .ok (.iload_n 2, 1) := by decide +kernel
theorem dX5_worked_18 : decode cX5_worked 18 = .ok (.aload_n 0, 1) := by decide +kernel
theorem dX5_worked_19 : decode cX5_worked 19 = .ok (.getfield 10, 3) := by decide +kernel
theorem dX5_worked_22 : decode cX5_worked 22 = .ok (.getfield 69, 3) := by decide +kernel
theorem dX5_worked_25 : decode cX5_worked 25 = .ok (.if_icmp .ge 27, 3) := by decide +kernel
theorem dX5_worked_28 : decode cX5_worked 28 = .ok (.aload_n 0, 1) := by decide +kernel
theorem dX5_worked_29 : decode cX5_worked 29 = .ok (.getfield 37, 3) := by decide +kernel
theorem dX5_worked_32 : decode cX5_worked 32 = .ok (.iload_n 2, 1) := by decide +kernel
theorem dX5_worked_33 : decode cX5_worked 33 = .ok (.aload_n 0, 1) := by decide +kernel
theorem dX5_worked_34 : decode cX5_worked 34 = .ok (.getfield 10, 3) := by decide +kernel
theorem dX5_worked_37 : decode cX5_worked 37 = .ok (.getfield 96, 3) := by decide +kernel
theorem dX5_worked_40 : decode cX5_worked 40 = .ok (.iload_n 2, 1) := by decide +kernel
theorem dX5_worked_41 : decode cX5_worked 41 = .ok (.iload_n 1, 1) := by decide +kernel
theorem dX5_worked_42 : decode cX5_worked 42 = .ok (.invokestatic 188, 3) := by decide +kernel
theorem dX5_worked_45 : decode cX5_worked 45 = .ok (.iastore, 1) := by decide +kernel
theorem dX5_worked_46 : decode cX5_worked 46 = .ok (.iinc 2 1, 3) := by decide +kernel
theorem dX5_worked_49 : decode cX5_worked 49 = .ok (.goto (-32), 3) := by decide +kernel
theorem dX5_worked_52 : decode cX5_worked 52 = .ok (.aload_n 0, 1) := by decide +kernel
theorem dX5_worked_53 : decode cX5_worked 53 = .ok (.getfield 37, 3) := by decide +kernel
theorem dX5_worked_56 : decode cX5_worked 56 = .ok (.aload_n 0, 1) := by decide +kernel
theorem dX5_worked_57 : decode cX5_worked 57 = .ok (.getfield 10, 3) := by decide +kernel
theorem dX5_worked_60 : decode cX5_worked 60 = .ok (.getfield 69, 3) := by decide +kernel
theorem dX5_worked_63 : decode cX5_worked 63 = .ok (.invokestatic 191, 3) := by decide +kernel
theorem dX5_worked_66 : decode cX5_worked 66 = .ok (.ireturn, 1) := by decide +kernel
theorem dX5_back_0 : decode cX5_back 0 = .ok (.lconst 1, 1) := by decide +kernel
theorem dX5_back_1 : decode cX5_back 1 = .ok (.lstore_n 1, 1) := by decide +kernel
theorem dX5_back_2 : decode cX5_back 2 = .ok (.iconst 0, 1) := by decide +kernel
theorem dX5_back_3 : decode cX5_back 3 = .ok (.istore_n 3, 1) := by decide +kernel
theorem dX5_back_4 : decode cX5_back 4 = .ok (.iload_n 3, 1) := by decide +kernel
theorem dX5_back_5 : decode cX5_back 5 = .ok (.aload_n 0, 1) := by decide +kernel
theorem dX5_back_6 : decode cX5_back 6 = .ok (.getfield 10, 3) := by decide +kernel
theorem dX5_back_9 : decode cX5_back 9 = .ok (.getfield 69, 3) := by decide +kernel
theorem dX5_back_12 : decode cX5_back 12 = .ok (.if_icmp .ge 43, 3) := by decide +kernel
theorem dX5_back_15 : decode cX5_back 15 = .ok (.aload_n 0, 1) := by decide +kernel
theorem dX5_back_16 : decode cX5_back 16 = .ok (.getfield 10, 3) := by decide +kernel
theorem dX5_back_19 : decode cX5_back 19 = .ok (.getfield 96, 3) := by decide +kernel
theorem dX5_back_22 : decode cX5_back 22 = .ok (.aload_n 0, 1) := by decide +kernel
theorem dX5_back_23 : decode cX5_back 23 = .ok (.getfield 10, 3) := by decide +kernel
theorem dX5_back_26 : decode cX5_back 26 = .ok (.getfield 69, 3) := by decide +kernel
theorem dX5_back_29 : decode cX5_back 29 = .ok (.iload_n 3, 1) := by decide +kernel
theorem dX5_back_30 : decode cX5_back 30 = .ok (.invokestatic 170, 3) := by decide +kernel
theorem dX5_back_33 : decode cX5_back 33 = .ok (.istore 4, 2) := by decide +kernel
theorem dX5_back_35 : decode cX5_back 35 = .ok (.lload_n 1, 1) := by decide +kernel
theorem dX5_back_36 : decode cX5_back 36 = .ok (.lload_n 1, 1) := by decide +kernel
theorem dX5_back_37 : decode cX5_back 37 = .ok (.iload 4, 2) := by decide +kernel
theorem dX5_back_39 : decode cX5_back 39 = .ok (.i2l, 1) := by decide +kernel
theorem dX5_back_40 : decode cX5_back 40 = .ok (.invokestatic 194, 3) := by decide +kernel
theorem dX5_back_43 : decode cX5_back 43 = .ok (.ldiv, 1) := by decide +kernel
theorem dX5_back_44 : decode cX5_back 44 = .ok (.iload 4, 2) := by decide +kernel
theorem dX5_back_46 : decode cX5_back 46 = .ok (.i2l, 1) := by decide +kernel
theorem dX5_back_47 : decode cX5_back 47 = .ok (.lmul, 1) := by decide +kernel
theorem dX5_back_48 : decode cX5_back 48 = .ok (.lstore_n 1, 1) := by decide +kernel
theorem dX5_back_49 : decode cX5_back 49 = .ok (.iinc 3 1, 3) := by decide +kernel
theorem dX5_back_52 : decode cX5_back 52 = .ok (.goto (-48), 3) := by decide +kernel
theorem dX5_back_55 : decode cX5_back 55 = .ok (.lload_n 1, 1) := by decide +kernel
theorem dX5_back_56 : decode cX5_back 56 = .ok (.l2i, 1) := by decide +kernel
theorem dX5_back_57 : decode cX5_back 57 = .ok (.ireturn, 1) := by decide +kernel
theorem dX5_undoes_0 : decode cX5_undoes 0 = .ok (.iconst 0, 1) := by decide +kernel
theorem dX5_undoes_1 : decode cX5_undoes 1 = .ok (.istore_n 1, 1) := by decide +kernel
theorem dX5_undoes_2 : decode cX5_undoes 2 = .ok (.iload_n 1, 1) := by decide +kernel
theorem dX5_undoes_3 : decode cX5_undoes 3 = .ok (.aload_n 0, 1) := by decide +kernel
theorem dX5_undoes_4 : decode cX5_undoes 4 = .ok (.getfield 10, 3) := by decide +kernel
theorem dX5_undoes_7 : decode cX5_undoes 7 = .ok (.getfield 69, 3) := by decide +kernel
theorem dX5_undoes_10 : decode cX5_undoes 10 = .ok (.if_icmp .ge 24, 3) := by decide +kernel
theorem dX5_undoes_13 : decode cX5_undoes 13 = .ok (.aload_n 0, 1) := by decide +kernel
theorem dX5_undoes_14 : decode cX5_undoes 14 = .ok (.getfield 37, 3) := by decide +kernel
theorem dX5_undoes_17 : decode cX5_undoes 17 = .ok (.aload_n 0, 1) := by decide +kernel
theorem dX5_undoes_18 : decode cX5_undoes 18 = .ok (.getfield 10, 3) := by decide +kernel
theorem dX5_undoes_21 : decode cX5_undoes 21 = .ok (.getfield 96, 3) := by decide +kernel
theorem dX5_undoes_24 : decode cX5_undoes 24 = .ok (.iload_n 1, 1) := by decide +kernel
theorem dX5_undoes_25 : decode cX5_undoes 25 = .ok (.iaload, 1) := by decide +kernel
theorem dX5_undoes_26 : decode cX5_undoes 26 = .ok (.iload_n 1, 1) := by decide +kernel
theorem dX5_undoes_27 : decode cX5_undoes 27 = .ok (.iastore, 1) := by decide +kernel
theorem dX5_undoes_28 : decode cX5_undoes 28 = .ok (.iinc 1 1, 3) := by decide +kernel
theorem dX5_undoes_31 : decode cX5_undoes 31 = .ok (.goto (-29), 3) := by decide +kernel
theorem dX5_undoes_34 : decode cX5_undoes 34 = .ok (.aload_n 0, 1) := by decide +kernel
theorem dX5_undoes_35 : decode cX5_undoes 35 = .ok (.getfield 37, 3) := by decide +kernel
theorem dX5_undoes_38 : decode cX5_undoes 38 = .ok (.aload_n 0, 1) := by decide +kernel
theorem dX5_undoes_39 : decode cX5_undoes 39 = .ok (.getfield 10, 3) := by decide +kernel
theorem dX5_undoes_42 : decode cX5_undoes 42 = .ok (.getfield 69, 3) := by decide +kernel
theorem dX5_undoes_45 : decode cX5_undoes 45 = .ok (.invokestatic 191, 3) := by decide +kernel
theorem dX5_undoes_48 : decode cX5_undoes 48 = .ok (.ireturn, 1) := by decide +kernel
theorem dX5_goesWith_0 : decode cX5_goesWith 0 = .ok (.aload_n 0, 1) := by decide +kernel
theorem dX5_goesWith_1 : decode cX5_goesWith 1 = .ok (.getfield 10, 3) := by decide +kernel
theorem dX5_goesWith_4 : decode cX5_goesWith 4 = .ok (.getfield 69, 3) := by decide +kernel
theorem dX5_goesWith_7 : decode cX5_goesWith 7 = .ok (.istore_n 1, 1) := by decide +kernel
theorem dX5_goesWith_8 : decode cX5_goesWith 8 = .ok (.iconst 0, 1) := by decide +kernel
theorem dX5_goesWith_9 : decode cX5_goesWith 9 = .ok (.istore_n 2, 1) := by decide +kernel
theorem dX5_goesWith_10 : decode cX5_goesWith 10 = .ok (.aload_n 0, 1) := by decide +kernel
theorem dX5_goesWith_11 : decode cX5_goesWith 11 = .ok (.getfield 37, 3) := by decide +kernel
theorem dX5_goesWith_14 : decode cX5_goesWith 14 = .ok (.iload_n 1, 1) := by decide +kernel
theorem dX5_goesWith_15 : decode cX5_goesWith 15 = .ok (.invokestatic 198, 3) := by decide +kernel
theorem dX5_goesWith_18 : decode cX5_goesWith 18 = .ok (.iconst 0, 1) := by decide +kernel
theorem dX5_goesWith_19 : decode cX5_goesWith 19 = .ok (.istore_n 3, 1) := by decide +kernel
theorem dX5_goesWith_20 : decode cX5_goesWith 20 = .ok (.iload_n 3, 1) := by decide +kernel
theorem dX5_goesWith_21 : decode cX5_goesWith 21 = .ok (.getstatic 201, 3) := by decide +kernel
theorem dX5_goesWith_24 : decode cX5_goesWith 24 = .ok (.iload_n 1, 1) := by decide +kernel
theorem dX5_goesWith_25 : decode cX5_goesWith 25 = .ok (.iaload, 1) := by decide +kernel
theorem dX5_goesWith_26 : decode cX5_goesWith 26 = .ok (.if_icmp .ge 38, 3) := by decide +kernel
theorem dX5_goesWith_29 : decode cX5_goesWith 29 = .ok (.aload_n 0, 1) := by decide +kernel
theorem dX5_goesWith_30 : decode cX5_goesWith 30 = .ok (.getfield 10, 3) := by decide +kernel
theorem dX5_goesWith_33 : decode cX5_goesWith 33 = .ok (.getfield 96, 3) := by decide +kernel
theorem dX5_goesWith_36 : decode cX5_goesWith 36 = .ok (.aload_n 0, 1) := by decide +kernel
theorem dX5_goesWith_37 : decode cX5_goesWith 37 = .ok (.getfield 37, 3) := by decide +kernel
theorem dX5_goesWith_40 : decode cX5_goesWith 40 = .ok (.iload_n 1, 1) := by decide +kernel
theorem dX5_goesWith_41 : decode cX5_goesWith 41 = .ok (.invokestatic 204, 3) := by decide +kernel
theorem dX5_goesWith_44 : decode cX5_goesWith 44 = .ok (.ifCond .eq 6, 3) := by decide +kernel
theorem dX5_goesWith_47 : decode cX5_goesWith 47 = .ok (.iinc 2 1, 3) := by decide +kernel
theorem dX5_goesWith_50 : decode cX5_goesWith 50 = .ok (.aload_n 0, 1) := by decide +kernel
theorem dX5_goesWith_51 : decode cX5_goesWith 51 = .ok (.getfield 37, 3) := by decide +kernel
theorem dX5_goesWith_54 : decode cX5_goesWith 54 = .ok (.iload_n 1, 1) := by decide +kernel
theorem dX5_goesWith_55 : decode cX5_goesWith 55 = .ok (.invokestatic 208, 3) := by decide +kernel
theorem dX5_goesWith_58 : decode cX5_goesWith 58 = .ok (.iinc 3 1, 3) := by decide +kernel
theorem dX5_goesWith_61 : decode cX5_goesWith 61 = .ok (.goto (-41), 3) := by decide +kernel
theorem dX5_goesWith_64 : decode cX5_goesWith 64 = .ok (.iload_n 2, 1) := by decide +kernel
theorem dX5_goesWith_65 : decode cX5_goesWith 65 = .ok (.ireturn, 1) := by decide +kernel
theorem dX5_roots_0 : decode cX5_roots 0 = .ok (.iload_n 1, 1) := by decide +kernel
theorem dX5_roots_1 : decode cX5_roots 1 = .ok (.iconst 2, 1) := by decide +kernel
theorem dX5_roots_2 : decode cX5_roots 2 = .ok (.if_icmp .lt 9, 3) := by decide +kernel
theorem dX5_roots_5 : decode cX5_roots 5 = .ok (.iload_n 1, 1) := by decide +kernel
theorem dX5_roots_6 : decode cX5_roots 6 = .ok (.bipush 9, 2) := by decide +kernel
theorem dX5_roots_8 : decode cX5_roots 8 = .ok (.if_icmp .le 8, 3) := by decide +kernel
theorem dX5_roots_11 : decode cX5_roots 11 = .ok (.aload_n 0, 1) := by decide +kernel
theorem dX5_roots_12 : decode cX5_roots 12 = .ok (.invokevirtual 65, 3) := by decide +kernel
theorem dX5_roots_15 : decode cX5_roots 15 = .ok (.ireturn, 1) := by decide +kernel
theorem dX5_roots_16 : decode cX5_roots 16 = .ok (.aload_n 0, 1) := by decide +kernel
theorem dX5_roots_17 : decode cX5_roots 17 = .ok (.getfield 10, 3) := by decide +kernel
theorem dX5_roots_20 : decode cX5_roots 20 = .ok (.getfield 69, 3) := by decide +kernel
theorem dX5_roots_23 : decode cX5_roots 23 = .ok (.istore_n 2, 1) := by decide +kernel
theorem dX5_roots_24 : decode cX5_roots 24 = .ok (.iconst 0, 1) := by decide +kernel
theorem dX5_roots_25 : decode cX5_roots 25 = .ok (.istore_n 3, 1) := by decide +kernel
theorem dX5_roots_26 : decode cX5_roots 26 = .ok (.aload_n 0, 1) := by decide +kernel
theorem dX5_roots_27 : decode cX5_roots 27 = .ok (.getfield 37, 3) := by decide +kernel
theorem dX5_roots_30 : decode cX5_roots 30 = .ok (.iload_n 2, 1) := by decide +kernel
theorem dX5_roots_31 : decode cX5_roots 31 = .ok (.invokestatic 198, 3) := by decide +kernel
theorem dX5_roots_34 : decode cX5_roots 34 = .ok (.iconst 0, 1) := by decide +kernel
theorem dX5_roots_35 : decode cX5_roots 35 = .ok (.istore 4, 2) := by decide +kernel
theorem dX5_roots_37 : decode cX5_roots 37 = .ok (.iload 4, 2) := by decide +kernel
theorem dX5_roots_39 : decode cX5_roots 39 = .ok (.getstatic 201, 3) := by decide +kernel
theorem dX5_roots_42 : decode cX5_roots 42 = .ok (.iload_n 2, 1) := by decide +kernel
theorem dX5_roots_43 : decode cX5_roots 43 = .ok (.iaload, 1) := by decide +kernel
theorem dX5_roots_44 : decode cX5_roots 44 = .ok (.if_icmp .ge 39, 3) := by decide +kernel
theorem dX5_roots_47 : decode cX5_roots 47 = .ok (.aload_n 0, 1) := by decide +kernel
theorem dX5_roots_48 : decode cX5_roots 48 = .ok (.getfield 37, 3) := by decide +kernel
theorem dX5_roots_51 : decode cX5_roots 51 = .ok (.iload_n 1, 1) := by decide +kernel
theorem dX5_roots_52 : decode cX5_roots 52 = .ok (.aload_n 0, 1) := by decide +kernel
theorem dX5_roots_53 : decode cX5_roots 53 = .ok (.getfield 10, 3) := by decide +kernel
theorem dX5_roots_56 : decode cX5_roots 56 = .ok (.getfield 96, 3) := by decide +kernel
theorem dX5_roots_59 : decode cX5_roots 59 = .ok (.iload_n 2, 1) := by decide +kernel
theorem dX5_roots_60 : decode cX5_roots 60 = .ok (.invokestatic 211, 3) := by decide +kernel
theorem dX5_roots_63 : decode cX5_roots 63 = .ok (.ifCond .eq 6, 3) := by decide +kernel
theorem dX5_roots_66 : decode cX5_roots 66 = .ok (.iinc 3 1, 3) := by decide +kernel
theorem dX5_roots_69 : decode cX5_roots 69 = .ok (.aload_n 0, 1) := by decide +kernel
theorem dX5_roots_70 : decode cX5_roots 70 = .ok (.getfield 37, 3) := by decide +kernel
theorem dX5_roots_73 : decode cX5_roots 73 = .ok (.iload_n 2, 1) := by decide +kernel
theorem dX5_roots_74 : decode cX5_roots 74 = .ok (.invokestatic 208, 3) := by decide +kernel
theorem dX5_roots_77 : decode cX5_roots 77 = .ok (.iinc 4 1, 3) := by decide +kernel
theorem dX5_roots_80 : decode cX5_roots 80 = .ok (.goto (-43), 3) := by decide +kernel
theorem dX5_roots_83 : decode cX5_roots 83 = .ok (.iload_n 3, 1) := by decide +kernel
theorem dX5_roots_84 : decode cX5_roots 84 = .ok (.ireturn, 1) := by decide +kernel
theorem dX5_alike_0 : decode cX5_alike 0 = .ok (.aload_n 0, 1) := by decide +kernel
theorem dX5_alike_1 : decode cX5_alike 1 = .ok (.iload_n 1, 1) := by decide +kernel
theorem dX5_alike_2 : decode cX5_alike 2 = .ok (.invokevirtual 105, 3) := by decide +kernel
theorem dX5_alike_5 : decode cX5_alike 5 = .ok (.ifCond .eq 8, 3) := by decide +kernel
theorem dX5_alike_8 : decode cX5_alike 8 = .ok (.aload_n 0, 1) := by decide +kernel
theorem dX5_alike_9 : decode cX5_alike 9 = .ok (.invokevirtual 65, 3) := by decide +kernel
theorem dX5_alike_12 : decode cX5_alike 12 = .ok (.ireturn, 1) := by decide +kernel
theorem dX5_alike_13 : decode cX5_alike 13 = .ok (.aload_n 0, 1) := by decide +kernel
theorem dX5_alike_14 : decode cX5_alike 14 = .ok (.getfield 10, 3) := by decide +kernel
theorem dX5_alike_17 : decode cX5_alike 17 = .ok (.getfield 69, 3) := by decide +kernel
theorem dX5_alike_20 : decode cX5_alike 20 = .ok (.istore_n 2, 1) := by decide +kernel
theorem dX5_alike_21 : decode cX5_alike 21 = .ok (.aload_n 0, 1) := by decide +kernel
theorem dX5_alike_22 : decode cX5_alike 22 = .ok (.getfield 37, 3) := by decide +kernel
theorem dX5_alike_25 : decode cX5_alike 25 = .ok (.iload_n 2, 1) := by decide +kernel
theorem dX5_alike_26 : decode cX5_alike 26 = .ok (.iload_n 1, 1) := by decide +kernel
theorem dX5_alike_27 : decode cX5_alike 27 = .ok (.invokestatic 111, 3) := by decide +kernel
theorem dX5_alike_30 : decode cX5_alike 30 = .ok (.aload_n 0, 1) := by decide +kernel
theorem dX5_alike_31 : decode cX5_alike 31 = .ok (.getfield 37, 3) := by decide +kernel
theorem dX5_alike_34 : decode cX5_alike 34 = .ok (.iload_n 2, 1) := by decide +kernel
theorem dX5_alike_35 : decode cX5_alike 35 = .ok (.invokestatic 215, 3) := by decide +kernel
theorem dX5_alike_38 : decode cX5_alike 38 = .ok (.aload_n 0, 1) := by decide +kernel
theorem dX5_alike_39 : decode cX5_alike 39 = .ok (.getfield 10, 3) := by decide +kernel
theorem dX5_alike_42 : decode cX5_alike 42 = .ok (.getfield 96, 3) := by decide +kernel
theorem dX5_alike_45 : decode cX5_alike 45 = .ok (.iload_n 2, 1) := by decide +kernel
theorem dX5_alike_46 : decode cX5_alike 46 = .ok (.invokestatic 215, 3) := by decide +kernel
theorem dX5_alike_49 : decode cX5_alike 49 = .ok (.lcmp, 1) := by decide +kernel
theorem dX5_alike_50 : decode cX5_alike 50 = .ok (.ifCond .ne 7, 3) := by decide +kernel
theorem dX5_alike_53 : decode cX5_alike 53 = .ok (.iconst 1, 1) := by decide +kernel
theorem dX5_alike_54 : decode cX5_alike 54 = .ok (.goto 4, 3) := by decide +kernel
theorem dX5_alike_57 : decode cX5_alike 57 = .ok (.iconst 0, 1) := by decide +kernel
theorem dX5_alike_58 : decode cX5_alike 58 = .ok (.ireturn, 1) := by decide +kernel
theorem dX5_even_0 : decode cX5_even 0 = .ok (.aload_n 0, 1) := by decide +kernel
theorem dX5_even_1 : decode cX5_even 1 = .ok (.getfield 10, 3) := by decide +kernel
theorem dX5_even_4 : decode cX5_even 4 = .ok (.getfield 69, 3) := by decide +kernel
theorem dX5_even_7 : decode cX5_even 7 = .ok (.aload_n 0, 1) := by decide +kernel
theorem dX5_even_8 : decode cX5_even 8 = .ok (.getfield 10, 3) := by decide +kernel
theorem dX5_even_11 : decode cX5_even 11 = .ok (.getfield 96, 3) := by decide +kernel
theorem dX5_even_14 : decode cX5_even 14 = .ok (.aload_n 0, 1) := by decide +kernel
theorem dX5_even_15 : decode cX5_even 15 = .ok (.getfield 10, 3) := by decide +kernel
theorem dX5_even_18 : decode cX5_even 18 = .ok (.getfield 69, 3) := by decide +kernel
theorem dX5_even_21 : decode cX5_even 21 = .ok (.invokestatic 163, 3) := by decide +kernel
theorem dX5_even_24 : decode cX5_even 24 = .ok (.isub, 1) := by decide +kernel
theorem dX5_even_25 : decode cX5_even 25 = .ok (.istore_n 1, 1) := by decide +kernel
theorem dX5_even_26 : decode cX5_even 26 = .ok (.iload_n 1, 1) := by decide +kernel
theorem dX5_even_27 : decode cX5_even 27 = .ok (.iconst 2, 1) := by decide +kernel
theorem dX5_even_28 : decode cX5_even 28 = .ok (.irem, 1) := by decide +kernel
theorem dX5_even_29 : decode cX5_even 29 = .ok (.ifCond .ne 7, 3) := by decide +kernel
theorem dX5_even_32 : decode cX5_even 32 = .ok (.iconst 1, 1) := by decide +kernel
theorem dX5_even_33 : decode cX5_even 33 = .ok (.goto 4, 3) := by decide +kernel
theorem dX5_even_36 : decode cX5_even 36 = .ok (.iconst 0, 1) := by decide +kernel
theorem dX5_even_37 : decode cX5_even 37 = .ok (.ireturn, 1) := by decide +kernel
theorem dX5_move_0 : decode cX5_move 0 = .ok (.aload_n 0, 1) := by decide +kernel
theorem dX5_move_1 : decode cX5_move 1 = .ok (.iload_n 1, 1) := by decide +kernel
theorem dX5_move_2 : decode cX5_move 2 = .ok (.invokevirtual 105, 3) := by decide +kernel
theorem dX5_move_5 : decode cX5_move 5 = .ok (.ifCond .eq 8, 3) := by decide +kernel
theorem dX5_move_8 : decode cX5_move 8 = .ok (.aload_n 0, 1) := by decide +kernel
theorem dX5_move_9 : decode cX5_move 9 = .ok (.invokevirtual 65, 3) := by decide +kernel
theorem dX5_move_12 : decode cX5_move 12 = .ok (.ireturn, 1) := by decide +kernel
theorem dX5_move_13 : decode cX5_move 13 = .ok (.aload_n 0, 1) := by decide +kernel
theorem dX5_move_14 : decode cX5_move 14 = .ok (.getfield 10, 3) := by decide +kernel
theorem dX5_move_17 : decode cX5_move 17 = .ok (.getfield 219, 3) := by decide +kernel
theorem dX5_move_20 : decode cX5_move 20 = .ok (.iconst 4, 1) := by decide +kernel
theorem dX5_move_21 : decode cX5_move 21 = .ok (.if_icmp .lt 8, 3) := by decide +kernel
theorem dX5_move_24 : decode cX5_move 24 = .ok (.aload_n 0, 1) := by decide +kernel
theorem dX5_move_25 : decode cX5_move 25 = .ok (.invokevirtual 132, 3) := by decide +kernel
theorem dX5_move_28 : decode cX5_move 28 = .ok (.ireturn, 1) := by decide +kernel
theorem dX5_move_29 : decode cX5_move 29 = .ok (.aload_n 0, 1) := by decide +kernel
theorem dX5_move_30 : decode cX5_move 30 = .ok (.getfield 10, 3) := by decide +kernel
theorem dX5_move_33 : decode cX5_move 33 = .ok (.iload_n 1, 1) := by decide +kernel
theorem dX5_move_34 : decode cX5_move 34 = .ok (.invokevirtual 222, 3) := by decide +kernel
theorem dX5_move_37 : decode cX5_move 37 = .ok (.ireturn, 1) := by decide +kernel
theorem dX5_drop_0 : decode cX5_drop 0 = .ok (.aload_n 0, 1) := by decide +kernel
theorem dX5_drop_1 : decode cX5_drop 1 = .ok (.getfield 10, 3) := by decide +kernel
theorem dX5_drop_4 : decode cX5_drop 4 = .ok (.getfield 219, 3) := by decide +kernel
theorem dX5_drop_7 : decode cX5_drop 7 = .ok (.ifCond .ne 8, 3) := by decide +kernel
theorem dX5_drop_10 : decode cX5_drop 10 = .ok (.aload_n 0, 1) := by decide +kernel
theorem dX5_drop_11 : decode cX5_drop 11 = .ok (.invokevirtual 117, 3) := by decide +kernel
theorem dX5_drop_14 : decode cX5_drop 14 = .ok (.ireturn, 1) := by decide +kernel
theorem dX5_drop_15 : decode cX5_drop 15 = .ok (.aload_n 0, 1) := by decide +kernel
theorem dX5_drop_16 : decode cX5_drop 16 = .ok (.getfield 10, 3) := by decide +kernel
theorem dX5_drop_19 : decode cX5_drop 19 = .ok (.dup, 1) := by decide +kernel
theorem dX5_drop_20 : decode cX5_drop 20 = .ok (.getfield 219, 3) := by decide +kernel
theorem dX5_drop_23 : decode cX5_drop 23 = .ok (.iconst 1, 1) := by decide +kernel
theorem dX5_drop_24 : decode cX5_drop 24 = .ok (.isub, 1) := by decide +kernel
theorem dX5_drop_25 : decode cX5_drop 25 = .ok (.putfield 219, 3) := by decide +kernel
theorem dX5_drop_28 : decode cX5_drop 28 = .ok (.aload_n 0, 1) := by decide +kernel
theorem dX5_drop_29 : decode cX5_drop 29 = .ok (.getfield 10, 3) := by decide +kernel
theorem dX5_drop_32 : decode cX5_drop 32 = .ok (.getfield 219, 3) := by decide +kernel
theorem dX5_drop_35 : decode cX5_drop 35 = .ok (.ireturn, 1) := by decide +kernel
theorem dX5_make_0 : decode cX5_make 0 = .ok (.iload_n 1, 1) := by decide +kernel
theorem dX5_make_1 : decode cX5_make 1 = .ok (.ifCond .lt 14, 3) := by decide +kernel
theorem dX5_make_4 : decode cX5_make 4 = .ok (.iload_n 1, 1) := by decide +kernel
theorem dX5_make_5 : decode cX5_make 5 = .ok (.aload_n 0, 1) := by decide +kernel
theorem dX5_make_6 : decode cX5_make 6 = .ok (.getfield 10, 3) := by decide +kernel
theorem dX5_make_9 : decode cX5_make 9 = .ok (.getfield 219, 3) := by decide +kernel
theorem dX5_make_12 : decode cX5_make 12 = .ok (.if_icmp .lt 8, 3) := by decide +kernel
theorem dX5_make_15 : decode cX5_make 15 = .ok (.aload_n 0, 1) := by decide +kernel
theorem dX5_make_16 : decode cX5_make 16 = .ok (.invokevirtual 65, 3) := by decide +kernel
theorem dX5_make_19 : decode cX5_make 19 = .ok (.ireturn, 1) := by decide +kernel
theorem dX5_make_20 : decode cX5_make 20 = .ok (.aload_n 0, 1) := by decide +kernel
theorem dX5_make_21 : decode cX5_make 21 = .ok (.getfield 10, 3) := by decide +kernel
theorem dX5_make_24 : decode cX5_make 24 = .ok (.iload_n 1, 1) := by decide +kernel
theorem dX5_make_25 : decode cX5_make 25 = .ok (.aload_n 0, 1) := by decide +kernel
theorem dX5_make_26 : decode cX5_make 26 = .ok (.getfield 37, 3) := by decide +kernel
theorem dX5_make_29 : decode cX5_make 29 = .ok (.invokevirtual 225, 3) := by decide +kernel
theorem dX5_make_32 : decode cX5_make 32 = .ok (.aload_n 0, 1) := by decide +kernel
theorem dX5_make_33 : decode cX5_make 33 = .ok (.getfield 10, 3) := by decide +kernel
theorem dX5_make_36 : decode cX5_make 36 = .ok (.invokevirtual 108, 3) := by decide +kernel
theorem dX5_make_39 : decode cX5_make 39 = .ok (.ireturn, 1) := by decide +kernel
theorem dX5_group_0 : decode cX5_group 0 = .ok (.aload_n 0, 1) := by decide +kernel
theorem dX5_group_1 : decode cX5_group 1 = .ok (.invokevirtual 229, 3) := by decide +kernel
theorem dX5_group_4 : decode cX5_group 4 = .ok (.getfield 233, 3) := by decide +kernel
theorem dX5_group_7 : decode cX5_group 7 = .ok (.ireturn, 1) := by decide +kernel
theorem dX5_fewest_0 : decode cX5_fewest 0 = .ok (.aload_n 0, 1) := by decide +kernel
theorem dX5_fewest_1 : decode cX5_fewest 1 = .ok (.iload_n 1, 1) := by decide +kernel
theorem dX5_fewest_2 : decode cX5_fewest 2 = .ok (.invokevirtual 105, 3) := by decide +kernel
theorem dX5_fewest_5 : decode cX5_fewest 5 = .ok (.ifCond .ne 8, 3) := by decide +kernel
theorem dX5_fewest_8 : decode cX5_fewest 8 = .ok (.iload_n 2, 1) := by decide +kernel
theorem dX5_fewest_9 : decode cX5_fewest 9 = .ok (.iconst (-1), 1) := by decide +kernel
theorem dX5_fewest_10 : decode cX5_fewest 10 = .ok (.if_icmp .ge 8, 3) := by decide +kernel
theorem dX5_fewest_13 : decode cX5_fewest 13 = .ok (.aload_n 0, 1) := by decide +kernel
theorem dX5_fewest_14 : decode cX5_fewest 14 = .ok (.invokevirtual 167, 3) := by decide +kernel
theorem dX5_fewest_17 : decode cX5_fewest 17 = .ok (.ireturn, 1) := by decide +kernel
theorem dX5_fewest_18 : decode cX5_fewest 18 = .ok (.aload_n 0, 1) := by decide +kernel
theorem dX5_fewest_19 : decode cX5_fewest 19 = .ok (.invokevirtual 229, 3) := by decide +kernel
theorem dX5_fewest_22 : decode cX5_fewest 22 = .ok (.iload_n 1, 1) := by decide +kernel
theorem dX5_fewest_23 : decode cX5_fewest 23 = .ok (.iload_n 2, 1) := by decide +kernel
theorem dX5_fewest_24 : decode cX5_fewest 24 = .ok (.invokevirtual 236, 3) := by decide +kernel
theorem dX5_fewest_27 : decode cX5_fewest 27 = .ok (.ireturn, 1) := by decide +kernel
theorem dX5_till_0 : decode cX5_till 0 = .ok (.iload_n 1, 1) := by decide +kernel
theorem dX5_till_1 : decode cX5_till 1 = .ok (.iconst (-1), 1) := by decide +kernel
theorem dX5_till_2 : decode cX5_till 2 = .ok (.if_icmp .ge 8, 3) := by decide +kernel
theorem dX5_till_5 : decode cX5_till 5 = .ok (.aload_n 0, 1) := by decide +kernel
theorem dX5_till_6 : decode cX5_till 6 = .ok (.invokevirtual 167, 3) := by decide +kernel
theorem dX5_till_9 : decode cX5_till 9 = .ok (.ireturn, 1) := by decide +kernel
theorem dX5_till_10 : decode cX5_till 10 = .ok (.aload_n 0, 1) := by decide +kernel
theorem dX5_till_11 : decode cX5_till 11 = .ok (.invokevirtual 229, 3) := by decide +kernel
theorem dX5_till_14 : decode cX5_till 14 = .ok (.astore_n 2, 1) := by decide +kernel
theorem dX5_till_15 : decode cX5_till 15 = .ok (.iconst 0, 1) := by decide +kernel
theorem dX5_till_16 : decode cX5_till 16 = .ok (.istore_n 3, 1) := by decide +kernel
theorem dX5_till_17 : decode cX5_till 17 = .ok (.iload_n 3, 1) := by decide +kernel
theorem dX5_till_18 : decode cX5_till 18 = .ok (.aload_n 2, 1) := by decide +kernel
theorem dX5_till_19 : decode cX5_till 19 = .ok (.getfield 233, 3) := by decide +kernel
theorem dX5_till_22 : decode cX5_till 22 = .ok (.if_icmp .ge 52, 3) := by decide +kernel
theorem dX5_till_25 : decode cX5_till 25 = .ok (.aload_n 2, 1) := by decide +kernel
theorem dX5_till_26 : decode cX5_till 26 = .ok (.getfield 239, 3) := by decide +kernel
theorem dX5_till_29 : decode cX5_till 29 = .ok (.iload_n 3, 1) := by decide +kernel
theorem dX5_till_30 : decode cX5_till 30 = .ok (.iaload, 1) := by decide +kernel
theorem dX5_till_31 : decode cX5_till 31 = .ok (.istore 4, 2) := by decide +kernel
theorem dX5_till_33 : decode cX5_till 33 = .ok (.aload_n 0, 1) := by decide +kernel
theorem dX5_till_34 : decode cX5_till 34 = .ok (.getfield 37, 3) := by decide +kernel
theorem dX5_till_37 : decode cX5_till 37 = .ok (.aload_n 0, 1) := by decide +kernel
theorem dX5_till_38 : decode cX5_till 38 = .ok (.getfield 10, 3) := by decide +kernel
theorem dX5_till_41 : decode cX5_till 41 = .ok (.getfield 69, 3) := by decide +kernel
theorem dX5_till_44 : decode cX5_till 44 = .ok (.iload 4, 2) := by decide +kernel
theorem dX5_till_46 : decode cX5_till 46 = .ok (.invokestatic 111, 3) := by decide +kernel
theorem dX5_till_49 : decode cX5_till 49 = .ok (.aload_n 0, 1) := by decide +kernel
theorem dX5_till_50 : decode cX5_till 50 = .ok (.aload_n 0, 1) := by decide +kernel
theorem dX5_till_51 : decode cX5_till 51 = .ok (.getfield 37, 3) := by decide +kernel
theorem dX5_till_54 : decode cX5_till 54 = .ok (.invokevirtual 242, 3) := by decide +kernel
theorem dX5_till_57 : decode cX5_till 57 = .ok (.ifCond .eq 11, 3) := by decide +kernel
theorem dX5_till_60 : decode cX5_till 60 = .ok (.aload_n 2, 1) := by decide +kernel
theorem dX5_till_61 : decode cX5_till 61 = .ok (.iload 4, 2) := by decide +kernel
theorem dX5_till_63 : decode cX5_till 63 = .ok (.iload_n 1, 1) := by decide +kernel
theorem dX5_till_64 : decode cX5_till 64 = .ok (.invokevirtual 236, 3) := by decide +kernel
theorem dX5_till_67 : decode cX5_till 67 = .ok (.ireturn, 1) := by decide +kernel
theorem dX5_till_68 : decode cX5_till 68 = .ok (.iinc 3 1, 3) := by decide +kernel
theorem dX5_till_71 : decode cX5_till 71 = .ok (.goto (-54), 3) := by decide +kernel
theorem dX5_till_74 : decode cX5_till 74 = .ok (.iconst (-1), 1) := by decide +kernel
theorem dX5_till_75 : decode cX5_till 75 = .ok (.ireturn, 1) := by decide +kernel
theorem dX5_reachNow_0 : decode cX5_reachNow 0 = .ok (.aload_n 0, 1) := by decide +kernel
theorem dX5_reachNow_1 : decode cX5_reachNow 1 = .ok (.getfield 44, 3) := by decide +kernel
theorem dX5_reachNow_4 : decode cX5_reachNow 4 = .ok (.ifnonnull 14, 3) := by decide +kernel
theorem dX5_reachNow_7 : decode cX5_reachNow 7 = .ok (.aload_n 0, 1) := by decide +kernel
theorem dX5_reachNow_8 : decode cX5_reachNow 8 = .ok (.new 234, 3) := by decide +kernel
theorem dX5_reachNow_11 : decode cX5_reachNow 11 = .ok (.dup, 1) := by decide +kernel
theorem dX5_reachNow_12 : decode cX5_reachNow 12 = .ok (.invokespecial 246, 3) := by decide +kernel
theorem dX5_reachNow_15 : decode cX5_reachNow 15 = .ok (.putfield 44, 3) := by decide +kernel
theorem dX5_reachNow_18 : decode cX5_reachNow 18 = .ok (.aload_n 0, 1) := by decide +kernel
theorem dX5_reachNow_19 : decode cX5_reachNow 19 = .ok (.getfield 44, 3) := by decide +kernel
theorem dX5_reachNow_22 : decode cX5_reachNow 22 = .ok (.aload_n 0, 1) := by decide +kernel
theorem dX5_reachNow_23 : decode cX5_reachNow 23 = .ok (.getfield 10, 3) := by decide +kernel
theorem dX5_reachNow_26 : decode cX5_reachNow 26 = .ok (.invokevirtual 247, 3) := by decide +kernel
theorem dX5_reachNow_29 : decode cX5_reachNow 29 = .ok (.aload_n 0, 1) := by decide +kernel
theorem dX5_reachNow_30 : decode cX5_reachNow 30 = .ok (.getfield 44, 3) := by decide +kernel
theorem dX5_reachNow_33 : decode cX5_reachNow 33 = .ok (.areturn, 1) := by decide +kernel
theorem dX5_mayBe_0 : decode cX5_mayBe 0 = .ok (.iload_n 1, 1) := by decide +kernel
theorem dX5_mayBe_1 : decode cX5_mayBe 1 = .ok (.iconst (-1), 1) := by decide +kernel
theorem dX5_mayBe_2 : decode cX5_mayBe 2 = .ok (.if_icmp .ge 8, 3) := by decide +kernel
theorem dX5_mayBe_5 : decode cX5_mayBe 5 = .ok (.aload_n 0, 1) := by decide +kernel
theorem dX5_mayBe_6 : decode cX5_mayBe 6 = .ok (.invokevirtual 167, 3) := by decide +kernel
theorem dX5_mayBe_9 : decode cX5_mayBe 9 = .ok (.ireturn, 1) := by decide +kernel
theorem dX5_mayBe_10 : decode cX5_mayBe 10 = .ok (.aload_n 0, 1) := by decide +kernel
theorem dX5_mayBe_11 : decode cX5_mayBe 11 = .ok (.getfield 10, 3) := by decide +kernel
theorem dX5_mayBe_14 : decode cX5_mayBe 14 = .ok (.getfield 69, 3) := by decide +kernel
theorem dX5_mayBe_17 : decode cX5_mayBe 17 = .ok (.istore_n 2, 1) := by decide +kernel
theorem dX5_mayBe_18 : decode cX5_mayBe 18 = .ok (.iconst 0, 1) := by decide +kernel
theorem dX5_mayBe_19 : decode cX5_mayBe 19 = .ok (.istore_n 3, 1) := by decide +kernel
theorem dX5_mayBe_20 : decode cX5_mayBe 20 = .ok (.aload_n 0, 1) := by decide +kernel
theorem dX5_mayBe_21 : decode cX5_mayBe 21 = .ok (.getfield 37, 3) := by decide +kernel
theorem dX5_mayBe_24 : decode cX5_mayBe 24 = .ok (.iload_n 2, 1) := by decide +kernel
theorem dX5_mayBe_25 : decode cX5_mayBe 25 = .ok (.invokestatic 198, 3) := by decide +kernel
theorem dX5_mayBe_28 : decode cX5_mayBe 28 = .ok (.iconst 0, 1) := by decide +kernel
theorem dX5_mayBe_29 : decode cX5_mayBe 29 = .ok (.istore 4, 2) := by decide +kernel
theorem dX5_mayBe_31 : decode cX5_mayBe 31 = .ok (.iload 4, 2) := by decide +kernel
theorem dX5_mayBe_33 : decode cX5_mayBe 33 = .ok (.getstatic 201, 3) := by decide +kernel
theorem dX5_mayBe_36 : decode cX5_mayBe 36 = .ok (.iload_n 2, 1) := by decide +kernel
theorem dX5_mayBe_37 : decode cX5_mayBe 37 = .ok (.iaload, 1) := by decide +kernel
theorem dX5_mayBe_38 : decode cX5_mayBe 38 = .ok (.if_icmp .ge 35, 3) := by decide +kernel
theorem dX5_mayBe_41 : decode cX5_mayBe 41 = .ok (.aload_n 0, 1) := by decide +kernel
theorem dX5_mayBe_42 : decode cX5_mayBe 42 = .ok (.invokevirtual 250, 3) := by decide +kernel
theorem dX5_mayBe_45 : decode cX5_mayBe 45 = .ok (.ifCond .eq 14, 3) := by decide +kernel
theorem dX5_mayBe_48 : decode cX5_mayBe 48 = .ok (.iload_n 3, 1) := by decide +kernel
theorem dX5_mayBe_49 : decode cX5_mayBe 49 = .ok (.iload_n 1, 1) := by decide +kernel
theorem dX5_mayBe_50 : decode cX5_mayBe 50 = .ok (.if_icmp .ne 6, 3) := by decide +kernel
theorem dX5_mayBe_53 : decode cX5_mayBe 53 = .ok (.iload 4, 2) := by decide +kernel
theorem dX5_mayBe_55 : decode cX5_mayBe 55 = .ok (.ireturn, 1) := by decide +kernel
theorem dX5_mayBe_56 : decode cX5_mayBe 56 = .ok (.iinc 3 1, 3) := by decide +kernel
theorem dX5_mayBe_59 : decode cX5_mayBe 59 = .ok (.aload_n 0, 1) := by decide +kernel
theorem dX5_mayBe_60 : decode cX5_mayBe 60 = .ok (.getfield 37, 3) := by decide +kernel
theorem dX5_mayBe_63 : decode cX5_mayBe 63 = .ok (.iload_n 2, 1) := by decide +kernel
theorem dX5_mayBe_64 : decode cX5_mayBe 64 = .ok (.invokestatic 208, 3) := by decide +kernel
theorem dX5_mayBe_67 : decode cX5_mayBe 67 = .ok (.iinc 4 1, 3) := by decide +kernel
theorem dX5_mayBe_70 : decode cX5_mayBe 70 = .ok (.goto (-39), 3) := by decide +kernel
theorem dX5_mayBe_73 : decode cX5_mayBe 73 = .ok (.iload_n 1, 1) := by decide +kernel
theorem dX5_mayBe_74 : decode cX5_mayBe 74 = .ok (.iconst (-1), 1) := by decide +kernel
theorem dX5_mayBe_75 : decode cX5_mayBe 75 = .ok (.if_icmp .ne 7, 3) := by decide +kernel
theorem dX5_mayBe_78 : decode cX5_mayBe 78 = .ok (.iload_n 3, 1) := by decide +kernel
theorem dX5_mayBe_79 : decode cX5_mayBe 79 = .ok (.goto 5, 3) := by decide +kernel
theorem dX5_mayBe_82 : decode cX5_mayBe 82 = .ok (.bipush (-5), 2) := by decide +kernel
theorem dX5_mayBe_84 : decode cX5_mayBe 84 = .ok (.ireturn, 1) := by decide +kernel
theorem dX5_chance_0 : decode cX5_chance 0 = .ok (.aload_n 0, 1) := by decide +kernel
theorem dX5_chance_1 : decode cX5_chance 1 = .ok (.getfield 10, 3) := by decide +kernel
theorem dX5_chance_4 : decode cX5_chance 4 = .ok (.getfield 69, 3) := by decide +kernel
theorem dX5_chance_7 : decode cX5_chance 7 = .ok (.istore_n 2, 1) := by decide +kernel
theorem dX5_chance_8 : decode cX5_chance 8 = .ok (.iload_n 1, 1) := by decide +kernel
theorem dX5_chance_9 : decode cX5_chance 9 = .ok (.ifCond .lt 10, 3) := by decide +kernel
theorem dX5_chance_12 : decode cX5_chance 12 = .ok (.iload_n 1, 1) := by decide +kernel
theorem dX5_chance_13 : decode cX5_chance 13 = .ok (.iconst 1, 1) := by decide +kernel
theorem dX5_chance_14 : decode cX5_chance 14 = .ok (.iload_n 2, 1) := by decide +kernel
theorem dX5_chance_15 : decode cX5_chance 15 = .ok (.ishl, 1) := by decide +kernel
theorem dX5_chance_16 : decode cX5_chance 16 = .ok (.if_icmp .lt 8, 3) := by decide +kernel
theorem dX5_chance_19 : decode cX5_chance 19 = .ok (.aload_n 0, 1) := by decide +kernel
theorem dX5_chance_20 : decode cX5_chance 20 = .ok (.invokevirtual 65, 3) := by decide +kernel
theorem dX5_chance_23 : decode cX5_chance 23 = .ok (.ireturn, 1) := by decide +kernel
theorem dX5_chance_24 : decode cX5_chance 24 = .ok (.iconst 0, 1) := by decide +kernel
theorem dX5_chance_25 : decode cX5_chance 25 = .ok (.istore_n 3, 1) := by decide +kernel
theorem dX5_chance_26 : decode cX5_chance 26 = .ok (.iconst 0, 1) := by decide +kernel
theorem dX5_chance_27 : decode cX5_chance 27 = .ok (.istore 4, 2) := by decide +kernel
theorem dX5_chance_29 : decode cX5_chance 29 = .ok (.aload_n 0, 1) := by decide +kernel
theorem dX5_chance_30 : decode cX5_chance 30 = .ok (.getfield 37, 3) := by decide +kernel
theorem dX5_chance_33 : decode cX5_chance 33 = .ok (.iload_n 2, 1) := by decide +kernel
theorem dX5_chance_34 : decode cX5_chance 34 = .ok (.invokestatic 198, 3) := by decide +kernel
theorem dX5_chance_37 : decode cX5_chance 37 = .ok (.iconst 0, 1) := by decide +kernel
theorem dX5_chance_38 : decode cX5_chance 38 = .ok (.istore 5, 2) := by decide +kernel
theorem dX5_chance_40 : decode cX5_chance 40 = .ok (.iload 5, 2) := by decide +kernel
theorem dX5_chance_42 : decode cX5_chance 42 = .ok (.getstatic 201, 3) := by decide +kernel
theorem dX5_chance_45 : decode cX5_chance 45 = .ok (.iload_n 2, 1) := by decide +kernel
theorem dX5_chance_46 : decode cX5_chance 46 = .ok (.iaload, 1) := by decide +kernel
theorem dX5_chance_47 : decode cX5_chance 47 = .ok (.if_icmp .ge 49, 3) := by decide +kernel
theorem dX5_chance_50 : decode cX5_chance 50 = .ok (.aload_n 0, 1) := by decide +kernel
theorem dX5_chance_51 : decode cX5_chance 51 = .ok (.invokevirtual 250, 3) := by decide +kernel
theorem dX5_chance_54 : decode cX5_chance 54 = .ok (.ifCond .eq 28, 3) := by decide +kernel
theorem dX5_chance_57 : decode cX5_chance 57 = .ok (.iinc 3 1, 3) := by decide +kernel
theorem dX5_chance_60 : decode cX5_chance 60 = .ok (.iload 4, 2) := by decide +kernel
theorem dX5_chance_62 : decode cX5_chance 62 = .ok (.aload_n 0, 1) := by decide +kernel
theorem dX5_chance_63 : decode cX5_chance 63 = .ok (.aload_n 0, 1) := by decide +kernel
theorem dX5_chance_64 : decode cX5_chance 64 = .ok (.getfield 37, 3) := by decide +kernel
theorem dX5_chance_67 : decode cX5_chance 67 = .ok (.iload_n 1, 1) := by decide +kernel
theorem dX5_chance_68 : decode cX5_chance 68 = .ok (.invokevirtual 254, 3) := by decide +kernel
theorem dX5_chance_71 : decode cX5_chance 71 = .ok (.ifCond .eq 7, 3) := by decide +kernel
theorem dX5_chance_74 : decode cX5_chance 74 = .ok (.iconst 1, 1) := by decide +kernel
theorem dX5_chance_75 : decode cX5_chance 75 = .ok (.goto 4, 3) := by decide +kernel
theorem dX5_chance_78 : decode cX5_chance 78 = .ok (.iconst 0, 1) := by decide +kernel
theorem dX5_chance_79 : decode cX5_chance 79 = .ok (.iadd, 1) := by decide +kernel
theorem dX5_chance_80 : decode cX5_chance 80 = .ok (.istore 4, 2) := by decide +kernel
theorem dX5_chance_82 : decode cX5_chance 82 = .ok (.aload_n 0, 1) := by decide +kernel
theorem dX5_chance_83 : decode cX5_chance 83 = .ok (.getfield 37, 3) := by decide +kernel
theorem dX5_chance_86 : decode cX5_chance 86 = .ok (.iload_n 2, 1) := by decide +kernel
theorem dX5_chance_87 : decode cX5_chance 87 = .ok (.invokestatic 208, 3) := by decide +kernel
theorem dX5_chance_90 : decode cX5_chance 90 = .ok (.iinc 5 1, 3) := by decide +kernel
theorem dX5_chance_93 : decode cX5_chance 93 = .ok (.goto (-53), 3) := by decide +kernel
theorem dX5_chance_96 : decode cX5_chance 96 = .ok (.iload_n 3, 1) := by decide +kernel
theorem dX5_chance_97 : decode cX5_chance 97 = .ok (.ifCond .ne 8, 3) := by decide +kernel
theorem dX5_chance_100 : decode cX5_chance 100 = .ok (.aload_n 0, 1) := by decide +kernel
theorem dX5_chance_101 : decode cX5_chance 101 = .ok (.invokevirtual 117, 3) := by decide +kernel
theorem dX5_chance_104 : decode cX5_chance 104 = .ok (.ireturn, 1) := by decide +kernel
theorem dX5_chance_105 : decode cX5_chance 105 = .ok (.aload_n 0, 1) := by decide +kernel
theorem dX5_chance_106 : decode cX5_chance 106 = .ok (.iload 4, 2) := by decide +kernel
theorem dX5_chance_108 : decode cX5_chance 108 = .ok (.i2l, 1) := by decide +kernel
theorem dX5_chance_109 : decode cX5_chance 109 = .ok (.iload_n 3, 1) := by decide +kernel
theorem dX5_chance_110 : decode cX5_chance 110 = .ok (.i2l, 1) := by decide +kernel
theorem dX5_chance_111 : decode cX5_chance 111 = .ok (.invokevirtual 258, 3) := by decide +kernel
theorem dX5_chance_114 : decode cX5_chance 114 = .ok (.iconst 1, 1) := by decide +kernel
theorem dX5_chance_115 : decode cX5_chance 115 = .ok (.ireturn, 1) := by decide +kernel
theorem dX5_look_0 : decode cX5_look 0 = .ok (.aload_n 0, 1) := by decide +kernel
theorem dX5_look_1 : decode cX5_look 1 = .ok (.invokevirtual 262, 3) := by decide +kernel
theorem dX5_look_4 : decode cX5_look 4 = .ok (.istore_n 1, 1) := by decide +kernel
theorem dX5_look_5 : decode cX5_look 5 = .ok (.iload_n 1, 1) := by decide +kernel
theorem dX5_look_6 : decode cX5_look 6 = .ok (.ifCond .ne 8, 3) := by decide +kernel
theorem dX5_look_9 : decode cX5_look 9 = .ok (.aload_n 0, 1) := by decide +kernel
theorem dX5_look_10 : decode cX5_look 10 = .ok (.invokevirtual 117, 3) := by decide +kernel
theorem dX5_look_13 : decode cX5_look 13 = .ok (.ireturn, 1) := by decide +kernel
theorem dX5_look_14 : decode cX5_look 14 = .ok (.iconst (-1), 1) := by decide +kernel
theorem dX5_look_15 : decode cX5_look 15 = .ok (.istore_n 2, 1) := by decide +kernel
theorem dX5_look_16 : decode cX5_look 16 = .ok (.lconst 0, 1) := by decide +kernel
theorem dX5_look_17 : decode cX5_look 17 = .ok (.lstore_n 3, 1) := by decide +kernel
theorem dX5_look_18 : decode cX5_look 18 = .ok (.iconst 0, 1) := by decide +kernel
theorem dX5_look_19 : decode cX5_look 19 = .ok (.istore 5, 2) := by decide +kernel
theorem dX5_look_21 : decode cX5_look 21 = .ok (.iload 5, 2) := by decide +kernel
theorem dX5_look_23 : decode cX5_look 23 = .ok (.aload_n 0, 1) := by decide +kernel
theorem dX5_look_24 : decode cX5_look 24 = .ok (.getfield 10, 3) := by decide +kernel
theorem dX5_look_27 : decode cX5_look 27 = .ok (.getfield 69, 3) := by decide +kernel
theorem dX5_look_30 : decode cX5_look 30 = .ok (.if_icmp .ge 49, 3) := by decide +kernel
theorem dX5_look_33 : decode cX5_look 33 = .ok (.aload_n 0, 1) := by decide +kernel
theorem dX5_look_34 : decode cX5_look 34 = .ok (.getfield 10, 3) := by decide +kernel
theorem dX5_look_37 : decode cX5_look 37 = .ok (.getfield 123, 3) := by decide +kernel
theorem dX5_look_40 : decode cX5_look 40 = .ok (.iload 5, 2) := by decide +kernel
theorem dX5_look_42 : decode cX5_look 42 = .ok (.iaload, 1) := by decide +kernel
theorem dX5_look_43 : decode cX5_look 43 = .ok (.iconst (-1), 1) := by decide +kernel
theorem dX5_look_44 : decode cX5_look 44 = .ok (.if_icmp .ne 29, 3) := by decide +kernel
theorem dX5_look_47 : decode cX5_look 47 = .ok (.aload_n 0, 1) := by decide +kernel
theorem dX5_look_48 : decode cX5_look 48 = .ok (.iload 5, 2) := by decide +kernel
theorem dX5_look_50 : decode cX5_look 50 = .ok (.invokevirtual 265, 3) := by decide +kernel
theorem dX5_look_53 : decode cX5_look 53 = .ok (.lstore 6, 2) := by decide +kernel
theorem dX5_look_55 : decode cX5_look 55 = .ok (.iload_n 2, 1) := by decide +kernel
theorem dX5_look_56 : decode cX5_look 56 = .ok (.iconst (-1), 1) := by decide +kernel
theorem dX5_look_57 : decode cX5_look 57 = .ok (.if_icmp .eq 10, 3) := by decide +kernel
theorem dX5_look_60 : decode cX5_look 60 = .ok (.lload 6, 2) := by decide +kernel
theorem dX5_look_62 : decode cX5_look 62 = .ok (.lload_n 3, 1) := by decide +kernel
theorem dX5_look_63 : decode cX5_look 63 = .ok (.lcmp, 1) := by decide +kernel
theorem dX5_look_64 : decode cX5_look 64 = .ok (.ifCond .ge 9, 3) := by decide +kernel
theorem dX5_look_67 : decode cX5_look 67 = .ok (.iload 5, 2) := by decide +kernel
theorem dX5_look_69 : decode cX5_look 69 = .ok (.istore_n 2, 1) := by decide +kernel
theorem dX5_look_70 : decode cX5_look 70 = .ok (.lload 6, 2) := by decide +kernel
theorem dX5_look_72 : decode cX5_look 72 = .ok (.lstore_n 3, 1) := by decide +kernel
theorem dX5_look_73 : decode cX5_look 73 = .ok (.iinc 5 1, 3) := by decide +kernel
theorem dX5_look_76 : decode cX5_look 76 = .ok (.goto (-55), 3) := by decide +kernel
theorem dX5_look_79 : decode cX5_look 79 = .ok (.iload_n 2, 1) := by decide +kernel
theorem dX5_look_80 : decode cX5_look 80 = .ok (.iconst (-1), 1) := by decide +kernel
theorem dX5_look_81 : decode cX5_look 81 = .ok (.if_icmp .eq 10, 3) := by decide +kernel
theorem dX5_look_84 : decode cX5_look 84 = .ok (.aload_n 0, 1) := by decide +kernel
theorem dX5_look_85 : decode cX5_look 85 = .ok (.lload_n 3, 1) := by decide +kernel
theorem dX5_look_86 : decode cX5_look 86 = .ok (.iload_n 1, 1) := by decide +kernel
theorem dX5_look_87 : decode cX5_look 87 = .ok (.i2l, 1) := by decide +kernel
theorem dX5_look_88 : decode cX5_look 88 = .ok (.invokevirtual 258, 3) := by decide +kernel
theorem dX5_look_91 : decode cX5_look 91 = .ok (.iload_n 2, 1) := by decide +kernel
theorem dX5_look_92 : decode cX5_look 92 = .ok (.ireturn, 1) := by decide +kernel
theorem dX5_tallySlips_0 : decode cX5_tallySlips 0 = .ok (.aload_n 0, 1) := by decide +kernel
theorem dX5_tallySlips_1 : decode cX5_tallySlips 1 = .ok (.getfield 10, 3) := by decide +kernel
theorem dX5_tallySlips_4 : decode cX5_tallySlips 4 = .ok (.getfield 69, 3) := by decide +kernel
theorem dX5_tallySlips_7 : decode cX5_tallySlips 7 = .ok (.istore_n 1, 1) := by decide +kernel
theorem dX5_tallySlips_8 : decode cX5_tallySlips 8 = .ok (.iconst 0, 1) := by decide +kernel
theorem dX5_tallySlips_9 : decode cX5_tallySlips 9 = .ok (.istore_n 2, 1) := by decide +kernel
theorem dX5_tallySlips_10 : decode cX5_tallySlips 10 = .ok (.aload_n 0, 1) := by decide +kernel
theorem dX5_tallySlips_11 : decode cX5_tallySlips 11 = .ok (.getfield 41, 3) := by decide +kernel
theorem dX5_tallySlips_14 : decode cX5_tallySlips 14 = .ok (.iconst 0, 1) := by decide +kernel
theorem dX5_tallySlips_15 : decode cX5_tallySlips 15 = .ok (.invokestatic 142, 3) := by decide +kernel
theorem dX5_tallySlips_18 : decode cX5_tallySlips 18 = .ok (.aload_n 0, 1) := by decide +kernel
theorem dX5_tallySlips_19 : decode cX5_tallySlips 19 = .ok (.getfield 37, 3) := by decide +kernel
theorem dX5_tallySlips_22 : decode cX5_tallySlips 22 = .ok (.iload_n 1, 1) := by decide +kernel
theorem dX5_tallySlips_23 : decode cX5_tallySlips 23 = .ok (.invokestatic 198, 3) := by decide +kernel
theorem dX5_tallySlips_26 : decode cX5_tallySlips 26 = .ok (.iconst 0, 1) := by decide +kernel
theorem dX5_tallySlips_27 : decode cX5_tallySlips 27 = .ok (.istore_n 3, 1) := by decide +kernel
theorem dX5_tallySlips_28 : decode cX5_tallySlips 28 = .ok (.iload_n 3, 1) := by decide +kernel
theorem dX5_tallySlips_29 : decode cX5_tallySlips 29 = .ok (.getstatic 201, 3) := by decide +kernel
theorem dX5_tallySlips_32 : decode cX5_tallySlips 32 = .ok (.iload_n 1, 1) := by decide +kernel
theorem dX5_tallySlips_33 : decode cX5_tallySlips 33 = .ok (.iaload, 1) := by decide +kernel
theorem dX5_tallySlips_34 : decode cX5_tallySlips 34 = .ok (.if_icmp .ge 64, 3) := by decide +kernel
theorem dX5_tallySlips_37 : decode cX5_tallySlips 37 = .ok (.aload_n 0, 1) := by decide +kernel
theorem dX5_tallySlips_38 : decode cX5_tallySlips 38 = .ok (.invokevirtual 250, 3) := by decide +kernel
theorem dX5_tallySlips_41 : decode cX5_tallySlips 41 = .ok (.ifCond .eq 43, 3) := by decide +kernel
theorem dX5_tallySlips_44 : decode cX5_tallySlips 44 = .ok (.iinc 2 1, 3) := by decide +kernel
theorem dX5_tallySlips_47 : decode cX5_tallySlips 47 = .ok (.iconst 0, 1) := by decide +kernel
theorem dX5_tallySlips_48 : decode cX5_tallySlips 48 = .ok (.istore 4, 2) := by decide +kernel
theorem dX5_tallySlips_50 : decode cX5_tallySlips 50 = .ok (.iload 4, 2) := by decide +kernel
theorem dX5_tallySlips_52 : decode cX5_tallySlips 52 = .ok (.iload_n 1, 1) := by decide +kernel
