theorem dX6_seek_39 : decode cX6_seek 39 = .ok (.invokevirtual 158, 3) := by decide +kernel
theorem dX6_seek_42 : decode cX6_seek 42 = .ok (.istore_n 3, 1) := by decide +kernel
theorem dX6_seek_43 : decode cX6_seek 43 = .ok (.aload_n 0, 1) := by decide +kernel
theorem dX6_seek_44 : decode cX6_seek 44 = .ok (.getfield 30, 3) := by decide +kernel
theorem dX6_seek_47 : decode cX6_seek 47 = .ok (.aload_n 0, 1) := by decide +kernel
theorem dX6_seek_48 : decode cX6_seek 48 = .ok (.getfield 151, 3) := by decide +kernel
theorem dX6_seek_51 : decode cX6_seek 51 = .ok (.iload_n 3, 1) := by decide +kernel
theorem dX6_seek_52 : decode cX6_seek 52 = .ok (.iastore, 1) := by decide +kernel
theorem dX6_seek_53 : decode cX6_seek 53 = .ok (.aload_n 0, 1) := by decide +kernel
theorem dX6_seek_54 : decode cX6_seek 54 = .ok (.dup, 1) := by decide +kernel
theorem dX6_seek_55 : decode cX6_seek 55 = .ok (.getfield 151, 3) := by decide +kernel
theorem dX6_seek_58 : decode cX6_seek 58 = .ok (.iconst 1, 1) := by decide +kernel
theorem dX6_seek_59 : decode cX6_seek 59 = .ok (.iadd, 1) := by decide +kernel
theorem dX6_seek_60 : decode cX6_seek 60 = .ok (.putfield 151, 3) := by decide +kernel
theorem dX6_seek_63 : decode cX6_seek 63 = .ok (.iload_n 2, 1) := by decide +kernel
theorem dX6_seek_64 : decode cX6_seek 64 = .ok (.iconst 1, 1) := by decide +kernel
theorem dX6_seek_65 : decode cX6_seek 65 = .ok (.iload_n 3, 1) := by decide +kernel
theorem dX6_seek_66 : decode cX6_seek 66 = .ok (.ishl, 1) := by decide +kernel
theorem dX6_seek_67 : decode cX6_seek 67 = .ok (.ior, 1) := by decide +kernel
theorem dX6_seek_68 : decode cX6_seek 68 = .ok (.istore_n 2, 1) := by decide +kernel
theorem dX6_seek_69 : decode cX6_seek 69 = .ok (.aload_n 0, 1) := by decide +kernel
theorem dX6_seek_70 : decode cX6_seek 70 = .ok (.aload_n 0, 1) := by decide +kernel
theorem dX6_seek_71 : decode cX6_seek 71 = .ok (.getfield 27, 3) := by decide +kernel
theorem dX6_seek_74 : decode cX6_seek 74 = .ok (.iload_n 3, 1) := by decide +kernel
theorem dX6_seek_75 : decode cX6_seek 75 = .ok (.iaload, 1) := by decide +kernel
theorem dX6_seek_76 : decode cX6_seek 76 = .ok (.iload_n 1, 1) := by decide +kernel
theorem dX6_seek_77 : decode cX6_seek 77 = .ok (.if_icmp .ne 7, 3) := by decide +kernel
theorem dX6_seek_80 : decode cX6_seek 80 = .ok (.iconst 1, 1) := by decide +kernel
theorem dX6_seek_81 : decode cX6_seek 81 = .ok (.goto 4, 3) := by decide +kernel
theorem dX6_seek_84 : decode cX6_seek 84 = .ok (.iconst 0, 1) := by decide +kernel
theorem dX6_seek_85 : decode cX6_seek 85 = .ok (.putfield 154, 3) := by decide +kernel
theorem dX6_seek_88 : decode cX6_seek 88 = .ok (.goto (-76), 3) := by decide +kernel
theorem dX6_seek_91 : decode cX6_seek 91 = .ok (.return_, 1) := by decide +kernel
theorem dX6_findsHand_0 : decode cX6_findsHand 0 = .ok (.iconst 0, 1) := by decide +kernel
theorem dX6_findsHand_1 : decode cX6_findsHand 1 = .ok (.istore_n 1, 1) := by decide +kernel
theorem dX6_findsHand_2 : decode cX6_findsHand 2 = .ok (.iconst 0, 1) := by decide +kernel
theorem dX6_findsHand_3 : decode cX6_findsHand 3 = .ok (.istore_n 2, 1) := by decide +kernel
theorem dX6_findsHand_4 : decode cX6_findsHand 4 = .ok (.iload_n 2, 1) := by decide +kernel
theorem dX6_findsHand_5 : decode cX6_findsHand 5 = .ok (.aload_n 0, 1) := by decide +kernel
theorem dX6_findsHand_6 : decode cX6_findsHand 6 = .ok (.invokevirtual 73, 3) := by decide +kernel
theorem dX6_findsHand_9 : decode cX6_findsHand 9 = .ok (.if_icmp .ge 31, 3) := by decide +kernel
theorem dX6_findsHand_12 : decode cX6_findsHand 12 = .ok (.aload_n 0, 1) := by decide +kernel
theorem dX6_findsHand_13 : decode cX6_findsHand 13 = .ok (.iload_n 2, 1) := by decide +kernel
theorem dX6_findsHand_14 : decode cX6_findsHand 14 = .ok (.invokevirtual 162, 3) := by decide +kernel
theorem dX6_findsHand_17 : decode cX6_findsHand 17 = .ok (.iload_n 1, 1) := by decide +kernel
theorem dX6_findsHand_18 : decode cX6_findsHand 18 = .ok (.aload_n 0, 1) := by decide +kernel
theorem dX6_findsHand_19 : decode cX6_findsHand 19 = .ok (.getfield 154, 3) := by decide +kernel
theorem dX6_findsHand_22 : decode cX6_findsHand 22 = .ok (.ifCond .eq 9, 3) := by decide +kernel
theorem dX6_findsHand_25 : decode cX6_findsHand 25 = .ok (.iconst 1, 1) := by decide +kernel
theorem dX6_findsHand_26 : decode cX6_findsHand 26 = .ok (.iload_n 2, 1) := by decide +kernel
theorem dX6_findsHand_27 : decode cX6_findsHand 27 = .ok (.ishl, 1) := by decide +kernel
theorem dX6_findsHand_28 : decode cX6_findsHand 28 = .ok (.goto 4, 3) := by decide +kernel
theorem dX6_findsHand_31 : decode cX6_findsHand 31 = .ok (.iconst 0, 1) := by decide +kernel
theorem dX6_findsHand_32 : decode cX6_findsHand 32 = .ok (.ior, 1) := by decide +kernel
theorem dX6_findsHand_33 : decode cX6_findsHand 33 = .ok (.istore_n 1, 1) := by decide +kernel
theorem dX6_findsHand_34 : decode cX6_findsHand 34 = .ok (.iinc 2 1, 3) := by decide +kernel
theorem dX6_findsHand_37 : decode cX6_findsHand 37 = .ok (.goto (-33), 3) := by decide +kernel
theorem dX6_findsHand_40 : decode cX6_findsHand 40 = .ok (.iload_n 1, 1) := by decide +kernel
theorem dX6_findsHand_41 : decode cX6_findsHand 41 = .ok (.ireturn, 1) := by decide +kernel
theorem dX6_all_0 : decode cX6_all 0 = .ok (.iconst 1, 1) := by decide +kernel
theorem dX6_all_1 : decode cX6_all 1 = .ok (.aload_n 0, 1) := by decide +kernel
theorem dX6_all_2 : decode cX6_all 2 = .ok (.invokevirtual 73, 3) := by decide +kernel
theorem dX6_all_5 : decode cX6_all 5 = .ok (.ishl, 1) := by decide +kernel
theorem dX6_all_6 : decode cX6_all 6 = .ok (.iconst 1, 1) := by decide +kernel
theorem dX6_all_7 : decode cX6_all 7 = .ok (.isub, 1) := by decide +kernel
theorem dX6_all_8 : decode cX6_all 8 = .ok (.ireturn, 1) := by decide +kernel
theorem dX6_slip_0 : decode cX6_slip 0 = .ok (.aload_n 0, 1) := by decide +kernel
theorem dX6_slip_1 : decode cX6_slip 1 = .ok (.iload_n 1, 1) := by decide +kernel
theorem dX6_slip_2 : decode cX6_slip 2 = .ok (.invokevirtual 91, 3) := by decide +kernel
theorem dX6_slip_5 : decode cX6_slip 5 = .ok (.ifCond .eq 14, 3) := by decide +kernel
theorem dX6_slip_8 : decode cX6_slip 8 = .ok (.aload_n 0, 1) := by decide +kernel
theorem dX6_slip_9 : decode cX6_slip 9 = .ok (.getfield 7, 3) := by decide +kernel
theorem dX6_slip_12 : decode cX6_slip 12 = .ok (.iconst 3, 1) := by decide +kernel
theorem dX6_slip_13 : decode cX6_slip 13 = .ok (.iload_n 1, 1) := by decide +kernel
theorem dX6_slip_14 : decode cX6_slip 14 = .ok (.iadd, 1) := by decide +kernel
theorem dX6_slip_15 : decode cX6_slip 15 = .ok (.iaload, 1) := by decide +kernel
theorem dX6_slip_16 : decode cX6_slip 16 = .ok (.goto 9, 3) := by decide +kernel
theorem dX6_slip_19 : decode cX6_slip 19 = .ok (.aload_n 0, 1) := by decide +kernel
theorem dX6_slip_20 : decode cX6_slip 20 = .ok (.bipush (-2), 2) := by decide +kernel
theorem dX6_slip_22 : decode cX6_slip 22 = .ok (.invokevirtual 85, 3) := by decide +kernel
theorem dX6_slip_25 : decode cX6_slip 25 = .ok (.ireturn, 1) := by decide +kernel
theorem dX6_rank_0 : decode cX6_rank 0 = .ok (.aload_n 0, 1) := by decide +kernel
theorem dX6_rank_1 : decode cX6_rank 1 = .ok (.invokevirtual 110, 3) := by decide +kernel
theorem dX6_rank_4 : decode cX6_rank 4 = .ok (.ireturn, 1) := by decide +kernel
theorem dX6_ringOf_0 : decode cX6_ringOf 0 = .ok (.iconst 1, 1) := by decide +kernel
theorem dX6_ringOf_1 : decode cX6_ringOf 1 = .ok (.istore_n 2, 1) := by decide +kernel
theorem dX6_ringOf_2 : decode cX6_ringOf 2 = .ok (.aload_n 0, 1) := by decide +kernel
theorem dX6_ringOf_3 : decode cX6_ringOf 3 = .ok (.getfield 27, 3) := by decide +kernel
theorem dX6_ringOf_6 : decode cX6_ringOf 6 = .ok (.iload_n 1, 1) := by decide +kernel
theorem dX6_ringOf_7 : decode cX6_ringOf 7 = .ok (.iaload, 1) := by decide +kernel
theorem dX6_ringOf_8 : decode cX6_ringOf 8 = .ok (.istore_n 3, 1) := by decide +kernel
theorem dX6_ringOf_9 : decode cX6_ringOf 9 = .ok (.iload_n 3, 1) := by decide +kernel
theorem dX6_ringOf_10 : decode cX6_ringOf 10 = .ok (.iload_n 1, 1) := by decide +kernel
theorem dX6_ringOf_11 : decode cX6_ringOf 11 = .ok (.if_icmp .eq 16, 3) := by decide +kernel
theorem dX6_ringOf_14 : decode cX6_ringOf 14 = .ok (.aload_n 0, 1) := by decide +kernel
theorem dX6_ringOf_15 : decode cX6_ringOf 15 = .ok (.getfield 27, 3) := by decide +kernel
theorem dX6_ringOf_18 : decode cX6_ringOf 18 = .ok (.iload_n 3, 1) := by decide +kernel
theorem dX6_ringOf_19 : decode cX6_ringOf 19 = .ok (.iaload, 1) := by decide +kernel
theorem dX6_ringOf_20 : decode cX6_ringOf 20 = .ok (.istore_n 3, 1) := by decide +kernel
theorem dX6_ringOf_21 : decode cX6_ringOf 21 = .ok (.iinc 2 1, 3) := by decide +kernel
theorem dX6_ringOf_24 : decode cX6_ringOf 24 = .ok (.goto (-15), 3) := by decide +kernel
theorem dX6_ringOf_27 : decode cX6_ringOf 27 = .ok (.iload_n 2, 1) := by decide +kernel
theorem dX6_ringOf_28 : decode cX6_ringOf 28 = .ok (.ireturn, 1) := by decide +kernel
theorem dX6_ringsHand_0 : decode cX6_ringsHand 0 = .ok (.iconst 0, 1) := by decide +kernel
theorem dX6_ringsHand_1 : decode cX6_ringsHand 1 = .ok (.istore_n 1, 1) := by decide +kernel
theorem dX6_ringsHand_2 : decode cX6_ringsHand 2 = .ok (.iconst 0, 1) := by decide +kernel
theorem dX6_ringsHand_3 : decode cX6_ringsHand 3 = .ok (.istore_n 2, 1) := by decide +kernel
theorem dX6_ringsHand_4 : decode cX6_ringsHand 4 = .ok (.iload_n 2, 1) := by decide +kernel
theorem dX6_ringsHand_5 : decode cX6_ringsHand 5 = .ok (.aload_n 0, 1) := by decide +kernel
theorem dX6_ringsHand_6 : decode cX6_ringsHand 6 = .ok (.invokevirtual 73, 3) := by decide +kernel
theorem dX6_ringsHand_9 : decode cX6_ringsHand 9 = .ok (.if_icmp .ge 65, 3) := by decide +kernel
theorem dX6_ringsHand_12 : decode cX6_ringsHand 12 = .ok (.iconst 1, 1) := by decide +kernel
theorem dX6_ringsHand_13 : decode cX6_ringsHand 13 = .ok (.istore_n 3, 1) := by decide +kernel
theorem dX6_ringsHand_14 : decode cX6_ringsHand 14 = .ok (.aload_n 0, 1) := by decide +kernel
theorem dX6_ringsHand_15 : decode cX6_ringsHand 15 = .ok (.getfield 27, 3) := by decide +kernel
theorem dX6_ringsHand_18 : decode cX6_ringsHand 18 = .ok (.iload_n 2, 1) := by decide +kernel
theorem dX6_ringsHand_19 : decode cX6_ringsHand 19 = .ok (.iaload, 1) := by decide +kernel
theorem dX6_ringsHand_20 : decode cX6_ringsHand 20 = .ok (.istore 4, 2) := by decide +kernel
theorem dX6_ringsHand_22 : decode cX6_ringsHand 22 = .ok (.iload 4, 2) := by decide +kernel
theorem dX6_ringsHand_24 : decode cX6_ringsHand 24 = .ok (.iload_n 2, 1) := by decide +kernel
theorem dX6_ringsHand_25 : decode cX6_ringsHand 25 = .ok (.if_icmp .eq 31, 3) := by decide +kernel
theorem dX6_ringsHand_28 : decode cX6_ringsHand 28 = .ok (.iload_n 3, 1) := by decide +kernel
theorem dX6_ringsHand_29 : decode cX6_ringsHand 29 = .ok (.ifCond .eq 13, 3) := by decide +kernel
theorem dX6_ringsHand_32 : decode cX6_ringsHand 32 = .ok (.iload 4, 2) := by decide +kernel
theorem dX6_ringsHand_34 : decode cX6_ringsHand 34 = .ok (.iload_n 2, 1) := by decide +kernel
theorem dX6_ringsHand_35 : decode cX6_ringsHand 35 = .ok (.if_icmp .le 7, 3) := by decide +kernel
theorem dX6_ringsHand_38 : decode cX6_ringsHand 38 = .ok (.iconst 1, 1) := by decide +kernel
theorem dX6_ringsHand_39 : decode cX6_ringsHand 39 = .ok (.goto 4, 3) := by decide +kernel
theorem dX6_ringsHand_42 : decode cX6_ringsHand 42 = .ok (.iconst 0, 1) := by decide +kernel
theorem dX6_ringsHand_43 : decode cX6_ringsHand 43 = .ok (.istore_n 3, 1) := by decide +kernel
theorem dX6_ringsHand_44 : decode cX6_ringsHand 44 = .ok (.aload_n 0, 1) := by decide +kernel
theorem dX6_ringsHand_45 : decode cX6_ringsHand 45 = .ok (.getfield 27, 3) := by decide +kernel
theorem dX6_ringsHand_48 : decode cX6_ringsHand 48 = .ok (.iload 4, 2) := by decide +kernel
theorem dX6_ringsHand_50 : decode cX6_ringsHand 50 = .ok (.iaload, 1) := by decide +kernel
theorem dX6_ringsHand_51 : decode cX6_ringsHand 51 = .ok (.istore 4, 2) := by decide +kernel
theorem dX6_ringsHand_53 : decode cX6_ringsHand 53 = .ok (.goto (-31), 3) := by decide +kernel
theorem dX6_ringsHand_56 : decode cX6_ringsHand 56 = .ok (.iload_n 1, 1) := by decide +kernel
theorem dX6_ringsHand_57 : decode cX6_ringsHand 57 = .ok (.iload_n 3, 1) := by decide +kernel
theorem dX6_ringsHand_58 : decode cX6_ringsHand 58 = .ok (.ifCond .eq 7, 3) := by decide +kernel
theorem dX6_ringsHand_61 : decode cX6_ringsHand 61 = .ok (.iconst 1, 1) := by decide +kernel
theorem dX6_ringsHand_62 : decode cX6_ringsHand 62 = .ok (.goto 4, 3) := by decide +kernel
theorem dX6_ringsHand_65 : decode cX6_ringsHand 65 = .ok (.iconst 0, 1) := by decide +kernel
theorem dX6_ringsHand_66 : decode cX6_ringsHand 66 = .ok (.iadd, 1) := by decide +kernel
theorem dX6_ringsHand_67 : decode cX6_ringsHand 67 = .ok (.istore_n 1, 1) := by decide +kernel
theorem dX6_ringsHand_68 : decode cX6_ringsHand 68 = .ok (.iinc 2 1, 3) := by decide +kernel
theorem dX6_ringsHand_71 : decode cX6_ringsHand 71 = .ok (.goto (-67), 3) := by decide +kernel
theorem dX6_ringsHand_74 : decode cX6_ringsHand 74 = .ok (.iload_n 1, 1) := by decide +kernel
theorem dX6_ringsHand_75 : decode cX6_ringsHand 75 = .ok (.ireturn, 1) := by decide +kernel
theorem dX6_rings_0 : decode cX6_rings 0 = .ok (.iload_n 1, 1) := by decide +kernel
theorem dX6_rings_1 : decode cX6_rings 1 = .ok (.iconst (-1), 1) := by decide +kernel
theorem dX6_rings_2 : decode cX6_rings 2 = .ok (.if_icmp .eq 18, 3) := by decide +kernel
theorem dX6_rings_5 : decode cX6_rings 5 = .ok (.aload_n 0, 1) := by decide +kernel
theorem dX6_rings_6 : decode cX6_rings 6 = .ok (.iload_n 1, 1) := by decide +kernel
theorem dX6_rings_7 : decode cX6_rings 7 = .ok (.invokevirtual 91, 3) := by decide +kernel
theorem dX6_rings_10 : decode cX6_rings 10 = .ok (.ifCond .ne 10, 3) := by decide +kernel
theorem dX6_rings_13 : decode cX6_rings 13 = .ok (.aload_n 0, 1) := by decide +kernel
theorem dX6_rings_14 : decode cX6_rings 14 = .ok (.bipush (-10), 2) := by decide +kernel
theorem dX6_rings_16 : decode cX6_rings 16 = .ok (.invokevirtual 85, 3) := by decide +kernel
theorem dX6_rings_19 : decode cX6_rings 19 = .ok (.ireturn, 1) := by decide +kernel
theorem dX6_rings_20 : decode cX6_rings 20 = .ok (.aload_n 0, 1) := by decide +kernel
theorem dX6_rings_21 : decode cX6_rings 21 = .ok (.invokevirtual 100, 3) := by decide +kernel
theorem dX6_rings_24 : decode cX6_rings 24 = .ok (.iload_n 1, 1) := by decide +kernel
theorem dX6_rings_25 : decode cX6_rings 25 = .ok (.iconst (-1), 1) := by decide +kernel
theorem dX6_rings_26 : decode cX6_rings 26 = .ok (.if_icmp .ne 10, 3) := by decide +kernel
theorem dX6_rings_29 : decode cX6_rings 29 = .ok (.aload_n 0, 1) := by decide +kernel
theorem dX6_rings_30 : decode cX6_rings 30 = .ok (.invokevirtual 165, 3) := by decide +kernel
theorem dX6_rings_33 : decode cX6_rings 33 = .ok (.goto 8, 3) := by decide +kernel
theorem dX6_rings_36 : decode cX6_rings 36 = .ok (.aload_n 0, 1) := by decide +kernel
theorem dX6_rings_37 : decode cX6_rings 37 = .ok (.iload_n 1, 1) := by decide +kernel
theorem dX6_rings_38 : decode cX6_rings 38 = .ok (.invokevirtual 168, 3) := by decide +kernel
theorem dX6_rings_41 : decode cX6_rings 41 = .ok (.ireturn, 1) := by decide +kernel
theorem dX6_opened_0 : decode cX6_opened 0 = .ok (.aload_n 0, 1) := by decide +kernel
theorem dX6_opened_1 : decode cX6_opened 1 = .ok (.iload_n 1, 1) := by decide +kernel
theorem dX6_opened_2 : decode cX6_opened 2 = .ok (.invokevirtual 91, 3) := by decide +kernel
theorem dX6_opened_5 : decode cX6_opened 5 = .ok (.ifCond .eq 8, 3) := by decide +kernel
theorem dX6_opened_8 : decode cX6_opened 8 = .ok (.iload_n 2, 1) := by decide +kernel
theorem dX6_opened_9 : decode cX6_opened 9 = .ok (.iconst (-1), 1) := by decide +kernel
theorem dX6_opened_10 : decode cX6_opened 10 = .ok (.if_icmp .ge 10, 3) := by decide +kernel
theorem dX6_opened_13 : decode cX6_opened 13 = .ok (.aload_n 0, 1) := by decide +kernel
theorem dX6_opened_14 : decode cX6_opened 14 = .ok (.bipush (-10), 2) := by decide +kernel
theorem dX6_opened_16 : decode cX6_opened 16 = .ok (.invokevirtual 85, 3) := by decide +kernel
theorem dX6_opened_19 : decode cX6_opened 19 = .ok (.ireturn, 1) := by decide +kernel
theorem dX6_opened_20 : decode cX6_opened 20 = .ok (.aload_n 0, 1) := by decide +kernel
theorem dX6_opened_21 : decode cX6_opened 21 = .ok (.invokevirtual 100, 3) := by decide +kernel
theorem dX6_opened_24 : decode cX6_opened 24 = .ok (.aload_n 0, 1) := by decide +kernel
theorem dX6_opened_25 : decode cX6_opened 25 = .ok (.iload_n 1, 1) := by decide +kernel
theorem dX6_opened_26 : decode cX6_opened 26 = .ok (.invokevirtual 162, 3) := by decide +kernel
theorem dX6_opened_29 : decode cX6_opened 29 = .ok (.iload_n 2, 1) := by decide +kernel
theorem dX6_opened_30 : decode cX6_opened 30 = .ok (.iconst (-1), 1) := by decide +kernel
theorem dX6_opened_31 : decode cX6_opened 31 = .ok (.if_icmp .ne 10, 3) := by decide +kernel
theorem dX6_opened_34 : decode cX6_opened 34 = .ok (.aload_n 0, 1) := by decide +kernel
theorem dX6_opened_35 : decode cX6_opened 35 = .ok (.getfield 151, 3) := by decide +kernel
theorem dX6_opened_38 : decode cX6_opened 38 = .ok (.goto 22, 3) := by decide +kernel
theorem dX6_opened_41 : decode cX6_opened 41 = .ok (.iload_n 2, 1) := by decide +kernel
theorem dX6_opened_42 : decode cX6_opened 42 = .ok (.aload_n 0, 1) := by decide +kernel
theorem dX6_opened_43 : decode cX6_opened 43 = .ok (.getfield 151, 3) := by decide +kernel
theorem dX6_opened_46 : decode cX6_opened 46 = .ok (.if_icmp .ge 12, 3) := by decide +kernel
theorem dX6_opened_49 : decode cX6_opened 49 = .ok (.aload_n 0, 1) := by decide +kernel
theorem dX6_opened_50 : decode cX6_opened 50 = .ok (.getfield 30, 3) := by decide +kernel
theorem dX6_opened_53 : decode cX6_opened 53 = .ok (.iload_n 2, 1) := by decide +kernel
theorem dX6_opened_54 : decode cX6_opened 54 = .ok (.iaload, 1) := by decide +kernel
theorem dX6_opened_55 : decode cX6_opened 55 = .ok (.goto 5, 3) := by decide +kernel
theorem dX6_opened_58 : decode cX6_opened 58 = .ok (.bipush (-5), 2) := by decide +kernel
theorem dX6_opened_60 : decode cX6_opened 60 = .ok (.ireturn, 1) := by decide +kernel
theorem dX6_finds_0 : decode cX6_finds 0 = .ok (.aload_n 0, 1) := by decide +kernel
theorem dX6_finds_1 : decode cX6_finds 1 = .ok (.invokevirtual 100, 3) := by decide +kernel
theorem dX6_finds_4 : decode cX6_finds 4 = .ok (.aload_n 0, 1) := by decide +kernel
theorem dX6_finds_5 : decode cX6_finds 5 = .ok (.invokevirtual 171, 3) := by decide +kernel
theorem dX6_finds_8 : decode cX6_finds 8 = .ok (.ireturn, 1) := by decide +kernel
theorem dX6_workHand_0 : decode cX6_workHand 0 = .ok (.iconst 0, 1) := by decide +kernel
theorem dX6_workHand_1 : decode cX6_workHand 1 = .ok (.istore_n 2, 1) := by decide +kernel
theorem dX6_workHand_2 : decode cX6_workHand 2 = .ok (.iload_n 2, 1) := by decide +kernel
theorem dX6_workHand_3 : decode cX6_workHand 3 = .ok (.aload_n 0, 1) := by decide +kernel
theorem dX6_workHand_4 : decode cX6_workHand 4 = .ok (.invokevirtual 73, 3) := by decide +kernel
theorem dX6_workHand_7 : decode cX6_workHand 7 = .ok (.if_icmp .ge 42, 3) := by decide +kernel
theorem dX6_workHand_10 : decode cX6_workHand 10 = .ok (.iload_n 2, 1) := by decide +kernel
theorem dX6_workHand_11 : decode cX6_workHand 11 = .ok (.istore_n 3, 1) := by decide +kernel
theorem dX6_workHand_12 : decode cX6_workHand 12 = .ok (.iconst 0, 1) := by decide +kernel
theorem dX6_workHand_13 : decode cX6_workHand 13 = .ok (.istore 4, 2) := by decide +kernel
theorem dX6_workHand_15 : decode cX6_workHand 15 = .ok (.iload 4, 2) := by decide +kernel
theorem dX6_workHand_17 : decode cX6_workHand 17 = .ok (.iload_n 1, 1) := by decide +kernel
theorem dX6_workHand_18 : decode cX6_workHand 18 = .ok (.if_icmp .ge 18, 3) := by decide +kernel
theorem dX6_workHand_21 : decode cX6_workHand 21 = .ok (.aload_n 0, 1) := by decide +kernel
theorem dX6_workHand_22 : decode cX6_workHand 22 = .ok (.getfield 7, 3) := by decide +kernel
theorem dX6_workHand_25 : decode cX6_workHand 25 = .ok (.iconst 3, 1) := by decide +kernel
theorem dX6_workHand_26 : decode cX6_workHand 26 = .ok (.iload_n 3, 1) := by decide +kernel
theorem dX6_workHand_27 : decode cX6_workHand 27 = .ok (.iadd, 1) := by decide +kernel
theorem dX6_workHand_28 : decode cX6_workHand 28 = .ok (.iaload, 1) := by decide +kernel
theorem dX6_workHand_29 : decode cX6_workHand 29 = .ok (.istore_n 3, 1) := by decide +kernel
theorem dX6_workHand_30 : decode cX6_workHand 30 = .ok (.iinc 4 1, 3) := by decide +kernel
theorem dX6_workHand_33 : decode cX6_workHand 33 = .ok (.goto (-18), 3) := by decide +kernel
theorem dX6_workHand_36 : decode cX6_workHand 36 = .ok (.aload_n 0, 1) := by decide +kernel
theorem dX6_workHand_37 : decode cX6_workHand 37 = .ok (.getfield 27, 3) := by decide +kernel
theorem dX6_workHand_40 : decode cX6_workHand 40 = .ok (.iload_n 2, 1) := by decide +kernel
theorem dX6_workHand_41 : decode cX6_workHand 41 = .ok (.iload_n 3, 1) := by decide +kernel
theorem dX6_workHand_42 : decode cX6_workHand 42 = .ok (.iastore, 1) := by decide +kernel
theorem dX6_workHand_43 : decode cX6_workHand 43 = .ok (.iinc 2 1, 3) := by decide +kernel
theorem dX6_workHand_46 : decode cX6_workHand 46 = .ok (.goto (-44), 3) := by decide +kernel
theorem dX6_workHand_49 : decode cX6_workHand 49 = .ok (.return_, 1) := by decide +kernel
theorem dX6_worked_0 : decode cX6_worked 0 = .ok (.iload_n 1, 1) := by decide +kernel
theorem dX6_worked_1 : decode cX6_worked 1 = .ok (.i2l, 1) := by decide +kernel
theorem dX6_worked_2 : decode cX6_worked 2 = .ok (.lconst 0, 1) := by decide +kernel
theorem dX6_worked_3 : decode cX6_worked 3 = .ok (.ldc2_w 174, 3) := by decide +kernel
theorem dX6_worked_6 : decode cX6_worked 6 = .ok (.invokestatic 77, 3) := by decide +kernel
theorem dX6_worked_9 : decode cX6_worked 9 = .ok (.ifCond .ne 10, 3) := by decide +kernel
theorem dX6_worked_12 : decode cX6_worked 12 = .ok (.aload_n 0, 1) := by decide +kernel
theorem dX6_worked_13 : decode cX6_worked 13 = .ok (.bipush (-2), 2) := by decide +kernel
theorem dX6_worked_15 : decode cX6_worked 15 = .ok (.invokevirtual 85, 3) := by decide +kernel
theorem dX6_worked_18 : decode cX6_worked 18 = .ok (.ireturn, 1) := by decide +kernel
theorem dX6_worked_19 : decode cX6_worked 19 = .ok (.aload_n 0, 1) := by decide +kernel
theorem dX6_worked_20 : decode cX6_worked 20 = .ok (.iload_n 1, 1) := by decide +kernel
theorem dX6_worked_21 : decode cX6_worked 21 = .ok (.invokevirtual 176, 3) := by decide +kernel
theorem dX6_worked_24 : decode cX6_worked 24 = .ok (.aload_n 0, 1) := by decide +kernel
theorem dX6_worked_25 : decode cX6_worked 25 = .ok (.invokevirtual 103, 3) := by decide +kernel
theorem dX6_worked_28 : decode cX6_worked 28 = .ok (.ireturn, 1) := by decide +kernel
theorem dX6_back_0 : decode cX6_back 0 = .ok (.iconst 1, 1) := by decide +kernel
theorem dX6_back_1 : decode cX6_back 1 = .ok (.istore_n 1, 1) := by decide +kernel
theorem dX6_back_2 : decode cX6_back 2 = .ok (.aload_n 0, 1) := by decide +kernel
theorem dX6_back_3 : decode cX6_back 3 = .ok (.iconst 1, 1) := by decide +kernel
theorem dX6_back_4 : decode cX6_back 4 = .ok (.invokevirtual 176, 3) := by decide +kernel
theorem dX6_back_7 : decode cX6_back 7 = .ok (.aload_n 0, 1) := by decide +kernel
theorem dX6_back_8 : decode cX6_back 8 = .ok (.invokevirtual 103, 3) := by decide +kernel
theorem dX6_back_11 : decode cX6_back 11 = .ok (.ifCond .eq 14, 3) := by decide +kernel
theorem dX6_back_14 : decode cX6_back 14 = .ok (.iinc 1 1, 3) := by decide +kernel
theorem dX6_back_17 : decode cX6_back 17 = .ok (.aload_n 0, 1) := by decide +kernel
theorem dX6_back_18 : decode cX6_back 18 = .ok (.iload_n 1, 1) := by decide +kernel
theorem dX6_back_19 : decode cX6_back 19 = .ok (.invokevirtual 176, 3) := by decide +kernel
theorem dX6_back_22 : decode cX6_back 22 = .ok (.goto (-15), 3) := by decide +kernel
theorem dX6_back_25 : decode cX6_back 25 = .ok (.iload_n 1, 1) := by decide +kernel
theorem dX6_back_26 : decode cX6_back 26 = .ok (.ireturn, 1) := by decide +kernel
theorem dX6_undoes_0 : decode cX6_undoes 0 = .ok (.iconst 0, 1) := by decide +kernel
theorem dX6_undoes_1 : decode cX6_undoes 1 = .ok (.istore_n 1, 1) := by decide +kernel
theorem dX6_undoes_2 : decode cX6_undoes 2 = .ok (.iload_n 1, 1) := by decide +kernel
theorem dX6_undoes_3 : decode cX6_undoes 3 = .ok (.aload_n 0, 1) := by decide +kernel
theorem dX6_undoes_4 : decode cX6_undoes 4 = .ok (.invokevirtual 73, 3) := by decide +kernel
theorem dX6_undoes_7 : decode cX6_undoes 7 = .ok (.if_icmp .ge 23, 3) := by decide +kernel
theorem dX6_undoes_10 : decode cX6_undoes 10 = .ok (.aload_n 0, 1) := by decide +kernel
theorem dX6_undoes_11 : decode cX6_undoes 11 = .ok (.getfield 27, 3) := by decide +kernel
theorem dX6_undoes_14 : decode cX6_undoes 14 = .ok (.aload_n 0, 1) := by decide +kernel
theorem dX6_undoes_15 : decode cX6_undoes 15 = .ok (.getfield 7, 3) := by decide +kernel
theorem dX6_undoes_18 : decode cX6_undoes 18 = .ok (.iconst 3, 1) := by decide +kernel
theorem dX6_undoes_19 : decode cX6_undoes 19 = .ok (.iload_n 1, 1) := by decide +kernel
theorem dX6_undoes_20 : decode cX6_undoes 20 = .ok (.iadd, 1) := by decide +kernel
theorem dX6_undoes_21 : decode cX6_undoes 21 = .ok (.iaload, 1) := by decide +kernel
theorem dX6_undoes_22 : decode cX6_undoes 22 = .ok (.iload_n 1, 1) := by decide +kernel
theorem dX6_undoes_23 : decode cX6_undoes 23 = .ok (.iastore, 1) := by decide +kernel
theorem dX6_undoes_24 : decode cX6_undoes 24 = .ok (.iinc 1 1, 3) := by decide +kernel
theorem dX6_undoes_27 : decode cX6_undoes 27 = .ok (.goto (-25), 3) := by decide +kernel
theorem dX6_undoes_30 : decode cX6_undoes 30 = .ok (.aload_n 0, 1) := by decide +kernel
theorem dX6_undoes_31 : decode cX6_undoes 31 = .ok (.invokevirtual 103, 3) := by decide +kernel
theorem dX6_undoes_34 : decode cX6_undoes 34 = .ok (.ireturn, 1) := by decide +kernel
theorem dX6_goes_0 : decode cX6_goes 0 = .ok (.aload_n 0, 1) := by decide +kernel
theorem dX6_goes_1 : decode cX6_goes 1 = .ok (.iload_n 1, 1) := by decide +kernel
theorem dX6_goes_2 : decode cX6_goes 2 = .ok (.invokevirtual 123, 3) := by decide +kernel
theorem dX6_goes_5 : decode cX6_goes 5 = .ok (.iconst 1, 1) := by decide +kernel
theorem dX6_goes_6 : decode cX6_goes 6 = .ok (.istore_n 2, 1) := by decide +kernel
theorem dX6_goes_7 : decode cX6_goes 7 = .ok (.iconst 0, 1) := by decide +kernel
theorem dX6_goes_8 : decode cX6_goes 8 = .ok (.istore_n 3, 1) := by decide +kernel
theorem dX6_goes_9 : decode cX6_goes 9 = .ok (.iload_n 3, 1) := by decide +kernel
theorem dX6_goes_10 : decode cX6_goes 10 = .ok (.aload_n 0, 1) := by decide +kernel
theorem dX6_goes_11 : decode cX6_goes 11 = .ok (.invokevirtual 73, 3) := by decide +kernel
theorem dX6_goes_14 : decode cX6_goes 14 = .ok (.if_icmp .ge 48, 3) := by decide +kernel
theorem dX6_goes_17 : decode cX6_goes 17 = .ok (.iload_n 2, 1) := by decide +kernel
theorem dX6_goes_18 : decode cX6_goes 18 = .ok (.ifCond .eq 36, 3) := by decide +kernel
theorem dX6_goes_21 : decode cX6_goes 21 = .ok (.aload_n 0, 1) := by decide +kernel
theorem dX6_goes_22 : decode cX6_goes 22 = .ok (.getfield 27, 3) := by decide +kernel
theorem dX6_goes_25 : decode cX6_goes 25 = .ok (.aload_n 0, 1) := by decide +kernel
theorem dX6_goes_26 : decode cX6_goes 26 = .ok (.getfield 7, 3) := by decide +kernel
theorem dX6_goes_29 : decode cX6_goes 29 = .ok (.iconst 3, 1) := by decide +kernel
theorem dX6_goes_30 : decode cX6_goes 30 = .ok (.iload_n 3, 1) := by decide +kernel
theorem dX6_goes_31 : decode cX6_goes 31 = .ok (.iadd, 1) := by decide +kernel
theorem dX6_goes_32 : decode cX6_goes 32 = .ok (.iaload, 1) := by decide +kernel
theorem dX6_goes_33 : decode cX6_goes 33 = .ok (.iaload, 1) := by decide +kernel
theorem dX6_goes_34 : decode cX6_goes 34 = .ok (.aload_n 0, 1) := by decide +kernel
theorem dX6_goes_35 : decode cX6_goes 35 = .ok (.getfield 7, 3) := by decide +kernel
theorem dX6_goes_38 : decode cX6_goes 38 = .ok (.iconst 3, 1) := by decide +kernel
theorem dX6_goes_39 : decode cX6_goes 39 = .ok (.aload_n 0, 1) := by decide +kernel
theorem dX6_goes_40 : decode cX6_goes 40 = .ok (.getfield 27, 3) := by decide +kernel
theorem dX6_goes_43 : decode cX6_goes 43 = .ok (.iload_n 3, 1) := by decide +kernel
theorem dX6_goes_44 : decode cX6_goes 44 = .ok (.iaload, 1) := by decide +kernel
theorem dX6_goes_45 : decode cX6_goes 45 = .ok (.iadd, 1) := by decide +kernel
theorem dX6_goes_46 : decode cX6_goes 46 = .ok (.iaload, 1) := by decide +kernel
theorem dX6_goes_47 : decode cX6_goes 47 = .ok (.if_icmp .ne 7, 3) := by decide +kernel
theorem dX6_goes_50 : decode cX6_goes 50 = .ok (.iconst 1, 1) := by decide +kernel
theorem dX6_goes_51 : decode cX6_goes 51 = .ok (.goto 4, 3) := by decide +kernel
theorem dX6_goes_54 : decode cX6_goes 54 = .ok (.iconst 0, 1) := by decide +kernel
theorem dX6_goes_55 : decode cX6_goes 55 = .ok (.istore_n 2, 1) := by decide +kernel
theorem dX6_goes_56 : decode cX6_goes 56 = .ok (.iinc 3 1, 3) := by decide +kernel
theorem dX6_goes_59 : decode cX6_goes 59 = .ok (.goto (-50), 3) := by decide +kernel
theorem dX6_goes_62 : decode cX6_goes 62 = .ok (.iload_n 2, 1) := by decide +kernel
theorem dX6_goes_63 : decode cX6_goes 63 = .ok (.ireturn, 1) := by decide +kernel
theorem dX6_goesWith_0 : decode cX6_goesWith 0 = .ok (.iconst 0, 1) := by decide +kernel
theorem dX6_goesWith_1 : decode cX6_goesWith 1 = .ok (.istore_n 1, 1) := by decide +kernel
theorem dX6_goesWith_2 : decode cX6_goesWith 2 = .ok (.iconst 0, 1) := by decide +kernel
theorem dX6_goesWith_3 : decode cX6_goesWith 3 = .ok (.istore_n 2, 1) := by decide +kernel
theorem dX6_goesWith_4 : decode cX6_goesWith 4 = .ok (.iload_n 2, 1) := by decide +kernel
theorem dX6_goesWith_5 : decode cX6_goesWith 5 = .ok (.aload_n 0, 1) := by decide +kernel
theorem dX6_goesWith_6 : decode cX6_goesWith 6 = .ok (.invokevirtual 120, 3) := by decide +kernel
theorem dX6_goesWith_9 : decode cX6_goesWith 9 = .ok (.if_icmp .ge 25, 3) := by decide +kernel
theorem dX6_goesWith_12 : decode cX6_goesWith 12 = .ok (.iload_n 1, 1) := by decide +kernel
theorem dX6_goesWith_13 : decode cX6_goesWith 13 = .ok (.aload_n 0, 1) := by decide +kernel
theorem dX6_goesWith_14 : decode cX6_goesWith 14 = .ok (.iload_n 2, 1) := by decide +kernel
theorem dX6_goesWith_15 : decode cX6_goesWith 15 = .ok (.invokevirtual 179, 3) := by decide +kernel
theorem dX6_goesWith_18 : decode cX6_goesWith 18 = .ok (.ifCond .eq 7, 3) := by decide +kernel
theorem dX6_goesWith_21 : decode cX6_goesWith 21 = .ok (.iconst 1, 1) := by decide +kernel
theorem dX6_goesWith_22 : decode cX6_goesWith 22 = .ok (.goto 4, 3) := by decide +kernel
theorem dX6_goesWith_25 : decode cX6_goesWith 25 = .ok (.iconst 0, 1) := by decide +kernel
theorem dX6_goesWith_26 : decode cX6_goesWith 26 = .ok (.iadd, 1) := by decide +kernel
theorem dX6_goesWith_27 : decode cX6_goesWith 27 = .ok (.istore_n 1, 1) := by decide +kernel
theorem dX6_goesWith_28 : decode cX6_goesWith 28 = .ok (.iinc 2 1, 3) := by decide +kernel
theorem dX6_goesWith_31 : decode cX6_goesWith 31 = .ok (.goto (-27), 3) := by decide +kernel
theorem dX6_goesWith_34 : decode cX6_goesWith 34 = .ok (.iload_n 1, 1) := by decide +kernel
theorem dX6_goesWith_35 : decode cX6_goesWith 35 = .ok (.ireturn, 1) := by decide +kernel
theorem dX6_isRoot_0 : decode cX6_isRoot 0 = .ok (.aload_n 0, 1) := by decide +kernel
theorem dX6_isRoot_1 : decode cX6_isRoot 1 = .ok (.iload_n 1, 1) := by decide +kernel
theorem dX6_isRoot_2 : decode cX6_isRoot 2 = .ok (.invokevirtual 123, 3) := by decide +kernel
theorem dX6_isRoot_5 : decode cX6_isRoot 5 = .ok (.iconst 1, 1) := by decide +kernel
theorem dX6_isRoot_6 : decode cX6_isRoot 6 = .ok (.istore_n 3, 1) := by decide +kernel
theorem dX6_isRoot_7 : decode cX6_isRoot 7 = .ok (.iconst 0, 1) := by decide +kernel
theorem dX6_isRoot_8 : decode cX6_isRoot 8 = .ok (.istore 4, 2) := by decide +kernel
theorem dX6_isRoot_10 : decode cX6_isRoot 10 = .ok (.iload 4, 2) := by decide +kernel
theorem dX6_isRoot_12 : decode cX6_isRoot 12 = .ok (.aload_n 0, 1) := by decide +kernel
theorem dX6_isRoot_13 : decode cX6_isRoot 13 = .ok (.invokevirtual 73, 3) := by decide +kernel
theorem dX6_isRoot_16 : decode cX6_isRoot 16 = .ok (.if_icmp .ge 61, 3) := by decide +kernel
theorem dX6_isRoot_19 : decode cX6_isRoot 19 = .ok (.iload_n 3, 1) := by decide +kernel
theorem dX6_isRoot_20 : decode cX6_isRoot 20 = .ok (.ifCond .eq 57, 3) := by decide +kernel
theorem dX6_isRoot_23 : decode cX6_isRoot 23 = .ok (.iload 4, 2) := by decide +kernel
theorem dX6_isRoot_25 : decode cX6_isRoot 25 = .ok (.istore 5, 2) := by decide +kernel
theorem dX6_isRoot_27 : decode cX6_isRoot 27 = .ok (.iconst 0, 1) := by decide +kernel
theorem dX6_isRoot_28 : decode cX6_isRoot 28 = .ok (.istore 6, 2) := by decide +kernel
theorem dX6_isRoot_30 : decode cX6_isRoot 30 = .ok (.iload 6, 2) := by decide +kernel
theorem dX6_isRoot_32 : decode cX6_isRoot 32 = .ok (.iload_n 2, 1) := by decide +kernel
theorem dX6_isRoot_33 : decode cX6_isRoot 33 = .ok (.if_icmp .ge 18, 3) := by decide +kernel
theorem dX6_isRoot_36 : decode cX6_isRoot 36 = .ok (.aload_n 0, 1) := by decide +kernel
theorem dX6_isRoot_37 : decode cX6_isRoot 37 = .ok (.getfield 27, 3) := by decide +kernel
theorem dX6_isRoot_40 : decode cX6_isRoot 40 = .ok (.iload 5, 2) := by decide +kernel
theorem dX6_isRoot_42 : decode cX6_isRoot 42 = .ok (.iaload, 1) := by decide +kernel
theorem dX6_isRoot_43 : decode cX6_isRoot 43 = .ok (.istore 5, 2) := by decide +kernel
theorem dX6_isRoot_45 : decode cX6_isRoot 45 = .ok (.iinc 6 1, 3) := by decide +kernel
theorem dX6_isRoot_48 : decode cX6_isRoot 48 = .ok (.goto (-18), 3) := by decide +kernel
theorem dX6_isRoot_51 : decode cX6_isRoot 51 = .ok (.iload 5, 2) := by decide +kernel
theorem dX6_isRoot_53 : decode cX6_isRoot 53 = .ok (.aload_n 0, 1) := by decide +kernel
theorem dX6_isRoot_54 : decode cX6_isRoot 54 = .ok (.getfield 7, 3) := by decide +kernel
theorem dX6_isRoot_57 : decode cX6_isRoot 57 = .ok (.iconst 3, 1) := by decide +kernel
theorem dX6_isRoot_58 : decode cX6_isRoot 58 = .ok (.iload 4, 2) := by decide +kernel
theorem dX6_isRoot_60 : decode cX6_isRoot 60 = .ok (.iadd, 1) := by decide +kernel
theorem dX6_isRoot_61 : decode cX6_isRoot 61 = .ok (.iaload, 1) := by decide +kernel
theorem dX6_isRoot_62 : decode cX6_isRoot 62 = .ok (.if_icmp .ne 7, 3) := by decide +kernel
theorem dX6_isRoot_65 : decode cX6_isRoot 65 = .ok (.iconst 1, 1) := by decide +kernel
theorem dX6_isRoot_66 : decode cX6_isRoot 66 = .ok (.goto 4, 3) := by decide +kernel
theorem dX6_isRoot_69 : decode cX6_isRoot 69 = .ok (.iconst 0, 1) := by decide +kernel
theorem dX6_isRoot_70 : decode cX6_isRoot 70 = .ok (.istore_n 3, 1) := by decide +kernel
theorem dX6_isRoot_71 : decode cX6_isRoot 71 = .ok (.iinc 4 1, 3) := by decide +kernel
theorem dX6_isRoot_74 : decode cX6_isRoot 74 = .ok (.goto (-64), 3) := by decide +kernel
theorem dX6_isRoot_77 : decode cX6_isRoot 77 = .ok (.iload_n 3, 1) := by decide +kernel
theorem dX6_isRoot_78 : decode cX6_isRoot 78 = .ok (.ireturn, 1) := by decide +kernel
theorem dX6_roots_0 : decode cX6_roots 0 = .ok (.iload_n 1, 1) := by decide +kernel
theorem dX6_roots_1 : decode cX6_roots 1 = .ok (.i2l, 1) := by decide +kernel
theorem dX6_roots_2 : decode cX6_roots 2 = .ok (.ldc2_w 81, 3) := by decide +kernel
theorem dX6_roots_5 : decode cX6_roots 5 = .ok (.ldc2_w 182, 3) := by decide +kernel
theorem dX6_roots_8 : decode cX6_roots 8 = .ok (.invokestatic 77, 3) := by decide +kernel
theorem dX6_roots_11 : decode cX6_roots 11 = .ok (.ifCond .ne 10, 3) := by decide +kernel
theorem dX6_roots_14 : decode cX6_roots 14 = .ok (.aload_n 0, 1) := by decide +kernel
theorem dX6_roots_15 : decode cX6_roots 15 = .ok (.bipush (-2), 2) := by decide +kernel
theorem dX6_roots_17 : decode cX6_roots 17 = .ok (.invokevirtual 85, 3) := by decide +kernel
theorem dX6_roots_20 : decode cX6_roots 20 = .ok (.ireturn, 1) := by decide +kernel
theorem dX6_roots_21 : decode cX6_roots 21 = .ok (.iconst 0, 1) := by decide +kernel
theorem dX6_roots_22 : decode cX6_roots 22 = .ok (.istore_n 2, 1) := by decide +kernel
theorem dX6_roots_23 : decode cX6_roots 23 = .ok (.iconst 0, 1) := by decide +kernel
theorem dX6_roots_24 : decode cX6_roots 24 = .ok (.istore_n 3, 1) := by decide +kernel
theorem dX6_roots_25 : decode cX6_roots 25 = .ok (.iload_n 3, 1) := by decide +kernel
theorem dX6_roots_26 : decode cX6_roots 26 = .ok (.aload_n 0, 1) := by decide +kernel
theorem dX6_roots_27 : decode cX6_roots 27 = .ok (.invokevirtual 120, 3) := by decide +kernel
theorem dX6_roots_30 : decode cX6_roots 30 = .ok (.if_icmp .ge 26, 3) := by decide +kernel
theorem dX6_roots_33 : decode cX6_roots 33 = .ok (.iload_n 2, 1) := by decide +kernel
theorem dX6_roots_34 : decode cX6_roots 34 = .ok (.aload_n 0, 1) := by decide +kernel
theorem dX6_roots_35 : decode cX6_roots 35 = .ok (.iload_n 3, 1) := by decide +kernel
theorem dX6_roots_36 : decode cX6_roots 36 = .ok (.iload_n 1, 1) := by decide +kernel
theorem dX6_roots_37 : decode cX6_roots 37 = .ok (.invokevirtual 184, 3) := by decide +kernel
theorem dX6_roots_40 : decode cX6_roots 40 = .ok (.ifCond .eq 7, 3) := by decide +kernel
theorem dX6_roots_43 : decode cX6_roots 43 = .ok (.iconst 1, 1) := by decide +kernel
theorem dX6_roots_44 : decode cX6_roots 44 = .ok (.goto 4, 3) := by decide +kernel
theorem dX6_roots_47 : decode cX6_roots 47 = .ok (.iconst 0, 1) := by decide +kernel
theorem dX6_roots_48 : decode cX6_roots 48 = .ok (.iadd, 1) := by decide +kernel
theorem dX6_roots_49 : decode cX6_roots 49 = .ok (.istore_n 2, 1) := by decide +kernel
theorem dX6_roots_50 : decode cX6_roots 50 = .ok (.iinc 3 1, 3) := by decide +kernel
theorem dX6_roots_53 : decode cX6_roots 53 = .ok (.goto (-28), 3) := by decide +kernel
theorem dX6_roots_56 : decode cX6_roots 56 = .ok (.iload_n 2, 1) := by decide +kernel
theorem dX6_roots_57 : decode cX6_roots 57 = .ok (.ireturn, 1) := by decide +kernel
theorem dX6_lengths_0 : decode cX6_lengths 0 = .ok (.iconst 0, 1) := by decide +kernel
theorem dX6_lengths_1 : decode cX6_lengths 1 = .ok (.istore_n 1, 1) := by decide +kernel
theorem dX6_lengths_2 : decode cX6_lengths 2 = .ok (.iconst 0, 1) := by decide +kernel
theorem dX6_lengths_3 : decode cX6_lengths 3 = .ok (.istore_n 2, 1) := by decide +kernel
theorem dX6_lengths_4 : decode cX6_lengths 4 = .ok (.iload_n 2, 1) := by decide +kernel
theorem dX6_lengths_5 : decode cX6_lengths 5 = .ok (.aload_n 0, 1) := by decide +kernel
theorem dX6_lengths_6 : decode cX6_lengths 6 = .ok (.invokevirtual 73, 3) := by decide +kernel
theorem dX6_lengths_9 : decode cX6_lengths 9 = .ok (.if_icmp .ge 23, 3) := by decide +kernel
theorem dX6_lengths_12 : decode cX6_lengths 12 = .ok (.iload_n 1, 1) := by decide +kernel
theorem dX6_lengths_13 : decode cX6_lengths 13 = .ok (.iconst 1, 1) := by decide +kernel
theorem dX6_lengths_14 : decode cX6_lengths 14 = .ok (.iconst 3, 1) := by decide +kernel
theorem dX6_lengths_15 : decode cX6_lengths 15 = .ok (.aload_n 0, 1) := by decide +kernel
theorem dX6_lengths_16 : decode cX6_lengths 16 = .ok (.iload_n 2, 1) := by decide +kernel
theorem dX6_lengths_17 : decode cX6_lengths 17 = .ok (.invokevirtual 168, 3) := by decide +kernel
theorem dX6_lengths_20 : decode cX6_lengths 20 = .ok (.iconst 1, 1) := by decide +kernel
theorem dX6_lengths_21 : decode cX6_lengths 21 = .ok (.isub, 1) := by decide +kernel
theorem dX6_lengths_22 : decode cX6_lengths 22 = .ok (.imul, 1) := by decide +kernel
theorem dX6_lengths_23 : decode cX6_lengths 23 = .ok (.ishl, 1) := by decide +kernel
theorem dX6_lengths_24 : decode cX6_lengths 24 = .ok (.iadd, 1) := by decide +kernel
theorem dX6_lengths_25 : decode cX6_lengths 25 = .ok (.istore_n 1, 1) := by decide +kernel
theorem dX6_lengths_26 : decode cX6_lengths 26 = .ok (.iinc 2 1, 3) := by decide +kernel
theorem dX6_lengths_29 : decode cX6_lengths 29 = .ok (.goto (-25), 3) := by decide +kernel
theorem dX6_lengths_32 : decode cX6_lengths 32 = .ok (.iload_n 1, 1) := by decide +kernel
theorem dX6_lengths_33 : decode cX6_lengths 33 = .ok (.ireturn, 1) := by decide +kernel
theorem dX6_isRank_0 : decode cX6_isRank 0 = .ok (.iload_n 1, 1) := by decide +kernel
theorem dX6_isRank_1 : decode cX6_isRank 1 = .ok (.i2l, 1) := by decide +kernel
theorem dX6_isRank_2 : decode cX6_isRank 2 = .ok (.lconst 0, 1) := by decide +kernel
theorem dX6_isRank_3 : decode cX6_isRank 3 = .ok (.aload_n 0, 1) := by decide +kernel
theorem dX6_isRank_4 : decode cX6_isRank 4 = .ok (.invokevirtual 120, 3) := by decide +kernel
theorem dX6_isRank_7 : decode cX6_isRank 7 = .ok (.iconst 1, 1) := by decide +kernel
theorem dX6_isRank_8 : decode cX6_isRank 8 = .ok (.isub, 1) := by decide +kernel
theorem dX6_isRank_9 : decode cX6_isRank 9 = .ok (.i2l, 1) := by decide +kernel
theorem dX6_isRank_10 : decode cX6_isRank 10 = .ok (.invokestatic 77, 3) := by decide +kernel
theorem dX6_isRank_13 : decode cX6_isRank 13 = .ok (.ireturn, 1) := by decide +kernel
theorem dX6_alike_0 : decode cX6_alike 0 = .ok (.aload_n 0, 1) := by decide +kernel
theorem dX6_alike_1 : decode cX6_alike 1 = .ok (.iload_n 1, 1) := by decide +kernel
theorem dX6_alike_2 : decode cX6_alike 2 = .ok (.invokevirtual 188, 3) := by decide +kernel
theorem dX6_alike_5 : decode cX6_alike 5 = .ok (.ifCond .ne 10, 3) := by decide +kernel
theorem dX6_alike_8 : decode cX6_alike 8 = .ok (.aload_n 0, 1) := by decide +kernel
theorem dX6_alike_9 : decode cX6_alike 9 = .ok (.bipush (-2), 2) := by decide +kernel
theorem dX6_alike_11 : decode cX6_alike 11 = .ok (.invokevirtual 85, 3) := by decide +kernel
theorem dX6_alike_14 : decode cX6_alike 14 = .ok (.ireturn, 1) := by decide +kernel
theorem dX6_alike_15 : decode cX6_alike 15 = .ok (.aload_n 0, 1) := by decide +kernel
theorem dX6_alike_16 : decode cX6_alike 16 = .ok (.invokevirtual 100, 3) := by decide +kernel
theorem dX6_alike_19 : decode cX6_alike 19 = .ok (.aload_n 0, 1) := by decide +kernel
theorem dX6_alike_20 : decode cX6_alike 20 = .ok (.invokevirtual 191, 3) := by decide +kernel
theorem dX6_alike_23 : decode cX6_alike 23 = .ok (.istore_n 2, 1) := by decide +kernel
theorem dX6_alike_24 : decode cX6_alike 24 = .ok (.aload_n 0, 1) := by decide +kernel
theorem dX6_alike_25 : decode cX6_alike 25 = .ok (.iload_n 1, 1) := by decide +kernel
theorem dX6_alike_26 : decode cX6_alike 26 = .ok (.invokevirtual 123, 3) := by decide +kernel
theorem dX6_alike_29 : decode cX6_alike 29 = .ok (.aload_n 0, 1) := by decide +kernel
theorem dX6_alike_30 : decode cX6_alike 30 = .ok (.invokevirtual 191, 3) := by decide +kernel
theorem dX6_alike_33 : decode cX6_alike 33 = .ok (.iload_n 2, 1) := by decide +kernel
theorem dX6_alike_34 : decode cX6_alike 34 = .ok (.if_icmp .ne 7, 3) := by decide +kernel
theorem dX6_alike_37 : decode cX6_alike 37 = .ok (.iconst 1, 1) := by decide +kernel
theorem dX6_alike_38 : decode cX6_alike 38 = .ok (.goto 4, 3) := by decide +kernel
theorem dX6_alike_41 : decode cX6_alike 41 = .ok (.iconst 0, 1) := by decide +kernel
theorem dX6_alike_42 : decode cX6_alike 42 = .ok (.ireturn, 1) := by decide +kernel
theorem dX6_even_0 : decode cX6_even 0 = .ok (.aload_n 0, 1) := by decide +kernel
theorem dX6_even_1 : decode cX6_even 1 = .ok (.invokevirtual 100, 3) := by decide +kernel
theorem dX6_even_4 : decode cX6_even 4 = .ok (.aload_n 0, 1) := by decide +kernel
theorem dX6_even_5 : decode cX6_even 5 = .ok (.invokevirtual 73, 3) := by decide +kernel
theorem dX6_even_8 : decode cX6_even 8 = .ok (.aload_n 0, 1) := by decide +kernel
theorem dX6_even_9 : decode cX6_even 9 = .ok (.invokevirtual 165, 3) := by decide +kernel
theorem dX6_even_12 : decode cX6_even 12 = .ok (.isub, 1) := by decide +kernel
theorem dX6_even_13 : decode cX6_even 13 = .ok (.iconst 2, 1) := by decide +kernel
theorem dX6_even_14 : decode cX6_even 14 = .ok (.irem, 1) := by decide +kernel
theorem dX6_even_15 : decode cX6_even 15 = .ok (.ifCond .ne 7, 3) := by decide +kernel
theorem dX6_even_18 : decode cX6_even 18 = .ok (.iconst 1, 1) := by decide +kernel
theorem dX6_even_19 : decode cX6_even 19 = .ok (.goto 4, 3) := by decide +kernel
theorem dX6_even_22 : decode cX6_even 22 = .ok (.iconst 0, 1) := by decide +kernel
theorem dX6_even_23 : decode cX6_even 23 = .ok (.ireturn, 1) := by decide +kernel
theorem dX6_move_0 : decode cX6_move 0 = .ok (.aload_n 0, 1) := by decide +kernel
theorem dX6_move_1 : decode cX6_move 1 = .ok (.iload_n 1, 1) := by decide +kernel
theorem dX6_move_2 : decode cX6_move 2 = .ok (.invokevirtual 188, 3) := by decide +kernel
theorem dX6_move_5 : decode cX6_move 5 = .ok (.ifCond .ne 10, 3) := by decide +kernel
theorem dX6_move_8 : decode cX6_move 8 = .ok (.aload_n 0, 1) := by decide +kernel
theorem dX6_move_9 : decode cX6_move 9 = .ok (.bipush (-2), 2) := by decide +kernel
theorem dX6_move_11 : decode cX6_move 11 = .ok (.invokevirtual 85, 3) := by decide +kernel
theorem dX6_move_14 : decode cX6_move 14 = .ok (.ireturn, 1) := by decide +kernel
theorem dX6_move_15 : decode cX6_move 15 = .ok (.aload_n 0, 1) := by decide +kernel
theorem dX6_move_16 : decode cX6_move 16 = .ok (.getfield 7, 3) := by decide +kernel
theorem dX6_move_19 : decode cX6_move 19 = .ok (.bipush 41, 2) := by decide +kernel
theorem dX6_move_21 : decode cX6_move 21 = .ok (.iaload, 1) := by decide +kernel
theorem dX6_move_22 : decode cX6_move 22 = .ok (.iconst 4, 1) := by decide +kernel
theorem dX6_move_23 : decode cX6_move 23 = .ok (.if_icmp .ne 8, 3) := by decide +kernel
theorem dX6_move_26 : decode cX6_move 26 = .ok (.aload_n 0, 1) := by decide +kernel
theorem dX6_move_27 : decode cX6_move 27 = .ok (.invokevirtual 134, 3) := by decide +kernel
theorem dX6_move_30 : decode cX6_move 30 = .ok (.ireturn, 1) := by decide +kernel
theorem dX6_move_31 : decode cX6_move 31 = .ok (.aload_n 0, 1) := by decide +kernel
theorem dX6_move_32 : decode cX6_move 32 = .ok (.getfield 7, 3) := by decide +kernel
theorem dX6_move_35 : decode cX6_move 35 = .ok (.bipush 42, 2) := by decide +kernel
theorem dX6_move_37 : decode cX6_move 37 = .ok (.aload_n 0, 1) := by decide +kernel
theorem dX6_move_38 : decode cX6_move 38 = .ok (.getfield 7, 3) := by decide +kernel
theorem dX6_move_41 : decode cX6_move 41 = .ok (.bipush 41, 2) := by decide +kernel
theorem dX6_move_43 : decode cX6_move 43 = .ok (.iaload, 1) := by decide +kernel
theorem dX6_move_44 : decode cX6_move 44 = .ok (.iadd, 1) := by decide +kernel
theorem dX6_move_45 : decode cX6_move 45 = .ok (.iload_n 1, 1) := by decide +kernel
theorem dX6_move_46 : decode cX6_move 46 = .ok (.iastore, 1) := by decide +kernel
theorem dX6_move_47 : decode cX6_move 47 = .ok (.aload_n 0, 1) := by decide +kernel
theorem dX6_move_48 : decode cX6_move 48 = .ok (.getfield 7, 3) := by decide +kernel
theorem dX6_move_51 : decode cX6_move 51 = .ok (.bipush 41, 2) := by decide +kernel
theorem dX6_move_53 : decode cX6_move 53 = .ok (.dup2, 1) := by decide +kernel
theorem dX6_move_54 : decode cX6_move 54 = .ok (.iaload, 1) := by decide +kernel
theorem dX6_move_55 : decode cX6_move 55 = .ok (.iconst 1, 1) := by decide +kernel
theorem dX6_move_56 : decode cX6_move 56 = .ok (.iadd, 1) := by decide +kernel
theorem dX6_move_57 : decode cX6_move 57 = .ok (.iastore, 1) := by decide +kernel
theorem dX6_move_58 : decode cX6_move 58 = .ok (.aload_n 0, 1) := by decide +kernel
theorem dX6_move_59 : decode cX6_move 59 = .ok (.getfield 7, 3) := by decide +kernel
theorem dX6_move_62 : decode cX6_move 62 = .ok (.bipush 41, 2) := by decide +kernel
theorem dX6_move_64 : decode cX6_move 64 = .ok (.iaload, 1) := by decide +kernel
theorem dX6_move_65 : decode cX6_move 65 = .ok (.iconst 1, 1) := by decide +kernel
theorem dX6_move_66 : decode cX6_move 66 = .ok (.isub, 1) := by decide +kernel
theorem dX6_move_67 : decode cX6_move 67 = .ok (.ireturn, 1) := by decide +kernel
theorem dX6_drop_0 : decode cX6_drop 0 = .ok (.aload_n 0, 1) := by decide +kernel
theorem dX6_drop_1 : decode cX6_drop 1 = .ok (.getfield 7, 3) := by decide +kernel
theorem dX6_drop_4 : decode cX6_drop 4 = .ok (.bipush 41, 2) := by decide +kernel
theorem dX6_drop_6 : decode cX6_drop 6 = .ok (.iaload, 1) := by decide +kernel
theorem dX6_drop_7 : decode cX6_drop 7 = .ok (.ifCond .ne 8, 3) := by decide +kernel
theorem dX6_drop_10 : decode cX6_drop 10 = .ok (.aload_n 0, 1) := by decide +kernel
theorem dX6_drop_11 : decode cX6_drop 11 = .ok (.invokevirtual 127, 3) := by decide +kernel
theorem dX6_drop_14 : decode cX6_drop 14 = .ok (.ireturn, 1) := by decide +kernel
theorem dX6_drop_15 : decode cX6_drop 15 = .ok (.aload_n 0, 1) := by decide +kernel
theorem dX6_drop_16 : decode cX6_drop 16 = .ok (.getfield 7, 3) := by decide +kernel
theorem dX6_drop_19 : decode cX6_drop 19 = .ok (.bipush 41, 2) := by decide +kernel
theorem dX6_drop_21 : decode cX6_drop 21 = .ok (.dup2, 1) := by decide +kernel
theorem dX6_drop_22 : decode cX6_drop 22 = .ok (.iaload, 1) := by decide +kernel
theorem dX6_drop_23 : decode cX6_drop 23 = .ok (.iconst 1, 1) := by decide +kernel
theorem dX6_drop_24 : decode cX6_drop 24 = .ok (.isub, 1) := by decide +kernel
theorem dX6_drop_25 : decode cX6_drop 25 = .ok (.iastore, 1) := by decide +kernel
theorem dX6_drop_26 : decode cX6_drop 26 = .ok (.aload_n 0, 1) := by decide +kernel
theorem dX6_drop_27 : decode cX6_drop 27 = .ok (.getfield 7, 3) := by decide +kernel
theorem dX6_drop_30 : decode cX6_drop 30 = .ok (.bipush 41, 2) := by decide +kernel
theorem dX6_drop_32 : decode cX6_drop 32 = .ok (.iaload, 1) := by decide +kernel
theorem dX6_drop_33 : decode cX6_drop 33 = .ok (.ireturn, 1) := by decide +kernel
theorem dX6_makeHand_0 : decode cX6_makeHand 0 = .ok (.iconst 0, 1) := by decide +kernel
theorem dX6_makeHand_1 : decode cX6_makeHand 1 = .ok (.istore_n 2, 1) := by decide +kernel
theorem dX6_makeHand_2 : decode cX6_makeHand 2 = .ok (.iload_n 2, 1) := by decide +kernel
theorem dX6_makeHand_3 : decode cX6_makeHand 3 = .ok (.aload_n 0, 1) := by decide +kernel
theorem dX6_makeHand_4 : decode cX6_makeHand 4 = .ok (.invokevirtual 73, 3) := by decide +kernel
theorem dX6_makeHand_7 : decode cX6_makeHand 7 = .ok (.if_icmp .ge 21, 3) := by decide +kernel
theorem dX6_makeHand_10 : decode cX6_makeHand 10 = .ok (.aload_n 0, 1) := by decide +kernel
theorem dX6_makeHand_11 : decode cX6_makeHand 11 = .ok (.getfield 36, 3) := by decide +kernel
theorem dX6_makeHand_14 : decode cX6_makeHand 14 = .ok (.iload_n 2, 1) := by decide +kernel
theorem dX6_makeHand_15 : decode cX6_makeHand 15 = .ok (.aload_n 0, 1) := by decide +kernel
theorem dX6_makeHand_16 : decode cX6_makeHand 16 = .ok (.getfield 27, 3) := by decide +kernel
theorem dX6_makeHand_19 : decode cX6_makeHand 19 = .ok (.iload_n 2, 1) := by decide +kernel
theorem dX6_makeHand_20 : decode cX6_makeHand 20 = .ok (.iaload, 1) := by decide +kernel
theorem dX6_makeHand_21 : decode cX6_makeHand 21 = .ok (.iastore, 1) := by decide +kernel
theorem dX6_makeHand_22 : decode cX6_makeHand 22 = .ok (.iinc 2 1, 3) := by decide +kernel
theorem dX6_makeHand_25 : decode cX6_makeHand 25 = .ok (.goto (-23), 3) := by decide +kernel
theorem dX6_makeHand_28 : decode cX6_makeHand 28 = .ok (.aload_n 0, 1) := by decide +kernel
theorem dX6_makeHand_29 : decode cX6_makeHand 29 = .ok (.aload_n 0, 1) := by decide +kernel
theorem dX6_makeHand_30 : decode cX6_makeHand 30 = .ok (.getfield 7, 3) := by decide +kernel
theorem dX6_makeHand_33 : decode cX6_makeHand 33 = .ok (.bipush 42, 2) := by decide +kernel
theorem dX6_makeHand_35 : decode cX6_makeHand 35 = .ok (.iload_n 1, 1) := by decide +kernel
theorem dX6_makeHand_36 : decode cX6_makeHand 36 = .ok (.iadd, 1) := by decide +kernel
theorem dX6_makeHand_37 : decode cX6_makeHand 37 = .ok (.iaload, 1) := by decide +kernel
theorem dX6_makeHand_38 : decode cX6_makeHand 38 = .ok (.invokevirtual 123, 3) := by decide +kernel
theorem dX6_makeHand_41 : decode cX6_makeHand 41 = .ok (.iconst 0, 1) := by decide +kernel
theorem dX6_makeHand_42 : decode cX6_makeHand 42 = .ok (.istore_n 2, 1) := by decide +kernel
theorem dX6_makeHand_43 : decode cX6_makeHand 43 = .ok (.iload_n 2, 1) := by decide +kernel
theorem dX6_makeHand_44 : decode cX6_makeHand 44 = .ok (.aload_n 0, 1) := by decide +kernel
theorem dX6_makeHand_45 : decode cX6_makeHand 45 = .ok (.invokevirtual 73, 3) := by decide +kernel
theorem dX6_makeHand_48 : decode cX6_makeHand 48 = .ok (.if_icmp .ge 21, 3) := by decide +kernel
theorem dX6_makeHand_51 : decode cX6_makeHand 51 = .ok (.aload_n 0, 1) := by decide +kernel
theorem dX6_makeHand_52 : decode cX6_makeHand 52 = .ok (.getfield 33, 3) := by decide +kernel
theorem dX6_makeHand_55 : decode cX6_makeHand 55 = .ok (.iload_n 2, 1) := by decide +kernel
theorem dX6_makeHand_56 : decode cX6_makeHand 56 = .ok (.aload_n 0, 1) := by decide +kernel
theorem dX6_makeHand_57 : decode cX6_makeHand 57 = .ok (.getfield 27, 3) := by decide +kernel
theorem dX6_makeHand_60 : decode cX6_makeHand 60 = .ok (.iload_n 2, 1) := by decide +kernel
theorem dX6_makeHand_61 : decode cX6_makeHand 61 = .ok (.iaload, 1) := by decide +kernel
theorem dX6_makeHand_62 : decode cX6_makeHand 62 = .ok (.iastore, 1) := by decide +kernel
theorem dX6_makeHand_63 : decode cX6_makeHand 63 = .ok (.iinc 2 1, 3) := by decide +kernel
theorem dX6_makeHand_66 : decode cX6_makeHand 66 = .ok (.goto (-23), 3) := by decide +kernel
theorem dX6_makeHand_69 : decode cX6_makeHand 69 = .ok (.iconst 0, 1) := by decide +kernel
theorem dX6_makeHand_70 : decode cX6_makeHand 70 = .ok (.istore_n 2, 1) := by decide +kernel
theorem dX6_makeHand_71 : decode cX6_makeHand 71 = .ok (.iload_n 2, 1) := by decide +kernel
theorem dX6_makeHand_72 : decode cX6_makeHand 72 = .ok (.aload_n 0, 1) := by decide +kernel
theorem dX6_makeHand_73 : decode cX6_makeHand 73 = .ok (.invokevirtual 73, 3) := by decide +kernel
theorem dX6_makeHand_76 : decode cX6_makeHand 76 = .ok (.if_icmp .ge 26, 3) := by decide +kernel
theorem dX6_makeHand_79 : decode cX6_makeHand 79 = .ok (.aload_n 0, 1) := by decide +kernel
theorem dX6_makeHand_80 : decode cX6_makeHand 80 = .ok (.getfield 27, 3) := by decide +kernel
theorem dX6_makeHand_83 : decode cX6_makeHand 83 = .ok (.aload_n 0, 1) := by decide +kernel
theorem dX6_makeHand_84 : decode cX6_makeHand 84 = .ok (.getfield 33, 3) := by decide +kernel
theorem dX6_makeHand_87 : decode cX6_makeHand 87 = .ok (.iload_n 2, 1) := by decide +kernel
theorem dX6_makeHand_88 : decode cX6_makeHand 88 = .ok (.iaload, 1) := by decide +kernel
theorem dX6_makeHand_89 : decode cX6_makeHand 89 = .ok (.aload_n 0, 1) := by decide +kernel
theorem dX6_makeHand_90 : decode cX6_makeHand 90 = .ok (.getfield 36, 3) := by decide +kernel
theorem dX6_makeHand_93 : decode cX6_makeHand 93 = .ok (.iload_n 2, 1) := by decide +kernel
theorem dX6_makeHand_94 : decode cX6_makeHand 94 = .ok (.iaload, 1) := by decide +kernel
theorem dX6_makeHand_95 : decode cX6_makeHand 95 = .ok (.iastore, 1) := by decide +kernel
theorem dX6_makeHand_96 : decode cX6_makeHand 96 = .ok (.iinc 2 1, 3) := by decide +kernel
theorem dX6_makeHand_99 : decode cX6_makeHand 99 = .ok (.goto (-28), 3) := by decide +kernel
theorem dX6_makeHand_102 : decode cX6_makeHand 102 = .ok (.return_, 1) := by decide +kernel
theorem dX6_make_0 : decode cX6_make 0 = .ok (.iload_n 1, 1) := by decide +kernel
theorem dX6_make_1 : decode cX6_make 1 = .ok (.i2l, 1) := by decide +kernel
theorem dX6_make_2 : decode cX6_make 2 = .ok (.lconst 0, 1) := by decide +kernel
theorem dX6_make_3 : decode cX6_make 3 = .ok (.aload_n 0, 1) := by decide +kernel
theorem dX6_make_4 : decode cX6_make 4 = .ok (.getfield 7, 3) := by decide +kernel
theorem dX6_make_7 : decode cX6_make 7 = .ok (.bipush 41, 2) := by decide +kernel
theorem dX6_make_9 : decode cX6_make 9 = .ok (.iaload, 1) := by decide +kernel
theorem dX6_make_10 : decode cX6_make 10 = .ok (.iconst 1, 1) := by decide +kernel
theorem dX6_make_11 : decode cX6_make 11 = .ok (.isub, 1) := by decide +kernel
theorem dX6_make_12 : decode cX6_make 12 = .ok (.i2l, 1) := by decide +kernel
theorem dX6_make_13 : decode cX6_make 13 = .ok (.invokestatic 77, 3) := by decide +kernel
theorem dX6_make_16 : decode cX6_make 16 = .ok (.ifCond .ne 10, 3) := by decide +kernel
theorem dX6_make_19 : decode cX6_make 19 = .ok (.aload_n 0, 1) := by decide +kernel
theorem dX6_make_20 : decode cX6_make 20 = .ok (.bipush (-2), 2) := by decide +kernel
theorem dX6_make_22 : decode cX6_make 22 = .ok (.invokevirtual 85, 3) := by decide +kernel
theorem dX6_make_25 : decode cX6_make 25 = .ok (.ireturn, 1) := by decide +kernel
theorem dX6_make_26 : decode cX6_make 26 = .ok (.aload_n 0, 1) := by decide +kernel
theorem dX6_make_27 : decode cX6_make 27 = .ok (.aload_n 0, 1) := by decide +kernel
theorem dX6_make_28 : decode cX6_make 28 = .ok (.invokevirtual 110, 3) := by decide +kernel
theorem dX6_make_31 : decode cX6_make 31 = .ok (.putfield 106, 3) := by decide +kernel
theorem dX6_make_34 : decode cX6_make 34 = .ok (.aload_n 0, 1) := by decide +kernel
theorem dX6_make_35 : decode cX6_make 35 = .ok (.iload_n 1, 1) := by decide +kernel
theorem dX6_make_36 : decode cX6_make 36 = .ok (.invokevirtual 194, 3) := by decide +kernel
theorem dX6_make_39 : decode cX6_make 39 = .ok (.aload_n 0, 1) := by decide +kernel
theorem dX6_make_40 : decode cX6_make 40 = .ok (.invokevirtual 117, 3) := by decide +kernel
theorem dX6_make_43 : decode cX6_make 43 = .ok (.aload_n 0, 1) := by decide +kernel
theorem dX6_make_44 : decode cX6_make 44 = .ok (.invokevirtual 103, 3) := by decide +kernel
theorem dX6_make_47 : decode cX6_make 47 = .ok (.ireturn, 1) := by decide +kernel
theorem dX6_behind_0 : decode cX6_behind 0 = .ok (.aload_n 0, 1) := by decide +kernel
theorem dX6_behind_1 : decode cX6_behind 1 = .ok (.iload_n 1, 1) := by decide +kernel
theorem dX6_behind_2 : decode cX6_behind 2 = .ok (.invokevirtual 123, 3) := by decide +kernel
theorem dX6_behind_5 : decode cX6_behind 5 = .ok (.aload_n 0, 1) := by decide +kernel
theorem dX6_behind_6 : decode cX6_behind 6 = .ok (.iload_n 2, 1) := by decide +kernel
theorem dX6_behind_7 : decode cX6_behind 7 = .ok (.invokevirtual 194, 3) := by decide +kernel
theorem dX6_behind_10 : decode cX6_behind 10 = .ok (.aload_n 0, 1) := by decide +kernel
theorem dX6_behind_11 : decode cX6_behind 11 = .ok (.invokevirtual 103, 3) := by decide +kernel
theorem dX6_behind_14 : decode cX6_behind 14 = .ok (.ireturn, 1) := by decide +kernel
theorem dX6_findFar_0 : decode cX6_findFar 0 = .ok (.iconst 0, 1) := by decide +kernel
theorem dX6_findFar_1 : decode cX6_findFar 1 = .ok (.istore_n 1, 1) := by decide +kernel
theorem dX6_findFar_2 : decode cX6_findFar 2 = .ok (.iload_n 1, 1) := by decide +kernel
theorem dX6_findFar_3 : decode cX6_findFar 3 = .ok (.aload_n 0, 1) := by decide +kernel
theorem dX6_findFar_4 : decode cX6_findFar 4 = .ok (.invokevirtual 120, 3) := by decide +kernel
theorem dX6_findFar_7 : decode cX6_findFar 7 = .ok (.if_icmp .ge 24, 3) := by decide +kernel
theorem dX6_findFar_10 : decode cX6_findFar 10 = .ok (.aload_n 0, 1) := by decide +kernel
theorem dX6_findFar_11 : decode cX6_findFar 11 = .ok (.getfield 39, 3) := by decide +kernel
theorem dX6_findFar_14 : decode cX6_findFar 14 = .ok (.iload_n 1, 1) := by decide +kernel
theorem dX6_findFar_15 : decode cX6_findFar 15 = .ok (.ldc 197, 2) := by decide +kernel
theorem dX6_findFar_17 : decode cX6_findFar 17 = .ok (.iastore, 1) := by decide +kernel
theorem dX6_findFar_18 : decode cX6_findFar 18 = .ok (.aload_n 0, 1) := by decide +kernel
theorem dX6_findFar_19 : decode cX6_findFar 19 = .ok (.getfield 45, 3) := by decide +kernel
theorem dX6_findFar_22 : decode cX6_findFar 22 = .ok (.iload_n 1, 1) := by decide +kernel
theorem dX6_findFar_23 : decode cX6_findFar 23 = .ok (.iconst 0, 1) := by decide +kernel
theorem dX6_findFar_24 : decode cX6_findFar 24 = .ok (.bastore, 1) := by decide +kernel
theorem dX6_findFar_25 : decode cX6_findFar 25 = .ok (.iinc 1 1, 3) := by decide +kernel
theorem dX6_findFar_28 : decode cX6_findFar 28 = .ok (.goto (-26), 3) := by decide +kernel
theorem dX6_findFar_31 : decode cX6_findFar 31 = .ok (.aload_n 0, 1) := by decide +kernel
theorem dX6_findFar_32 : decode cX6_findFar 32 = .ok (.getfield 42, 3) := by decide +kernel
theorem dX6_findFar_35 : decode cX6_findFar 35 = .ok (.iconst 0, 1) := by decide +kernel
theorem dX6_findFar_36 : decode cX6_findFar 36 = .ok (.aload_n 0, 1) := by decide +kernel
theorem dX6_findFar_37 : decode cX6_findFar 37 = .ok (.invokevirtual 110, 3) := by decide +kernel
theorem dX6_findFar_40 : decode cX6_findFar 40 = .ok (.iastore, 1) := by decide +kernel
theorem dX6_findFar_41 : decode cX6_findFar 41 = .ok (.aload_n 0, 1) := by decide +kernel
theorem dX6_findFar_42 : decode cX6_findFar 42 = .ok (.getfield 39, 3) := by decide +kernel
theorem dX6_findFar_45 : decode cX6_findFar 45 = .ok (.aload_n 0, 1) := by decide +kernel
theorem dX6_findFar_46 : decode cX6_findFar 46 = .ok (.getfield 42, 3) := by decide +kernel
theorem dX6_findFar_49 : decode cX6_findFar 49 = .ok (.iconst 0, 1) := by decide +kernel
theorem dX6_findFar_50 : decode cX6_findFar 50 = .ok (.iaload, 1) := by decide +kernel
theorem dX6_findFar_51 : decode cX6_findFar 51 = .ok (.iconst 0, 1) := by decide +kernel
theorem dX6_findFar_52 : decode cX6_findFar 52 = .ok (.iastore, 1) := by decide +kernel
theorem dX6_findFar_53 : decode cX6_findFar 53 = .ok (.aload_n 0, 1) := by decide +kernel
theorem dX6_findFar_54 : decode cX6_findFar 54 = .ok (.iconst 1, 1) := by decide +kernel
theorem dX6_findFar_55 : decode cX6_findFar 55 = .ok (.putfield 198, 3) := by decide +kernel
theorem dX6_findFar_58 : decode cX6_findFar 58 = .ok (.iconst 0, 1) := by decide +kernel
theorem dX6_findFar_59 : decode cX6_findFar 59 = .ok (.istore_n 1, 1) := by decide +kernel
theorem dX6_findFar_60 : decode cX6_findFar 60 = .ok (.iload_n 1, 1) := by decide +kernel
theorem dX6_findFar_61 : decode cX6_findFar 61 = .ok (.aload_n 0, 1) := by decide +kernel
theorem dX6_findFar_62 : decode cX6_findFar 62 = .ok (.getfield 198, 3) := by decide +kernel
theorem dX6_findFar_65 : decode cX6_findFar 65 = .ok (.if_icmp .ge 90, 3) := by decide +kernel
theorem dX6_findFar_68 : decode cX6_findFar 68 = .ok (.iconst 0, 1) := by decide +kernel
theorem dX6_findFar_69 : decode cX6_findFar 69 = .ok (.istore_n 2, 1) := by decide +kernel
theorem dX6_findFar_70 : decode cX6_findFar 70 = .ok (.iload_n 2, 1) := by decide +kernel
theorem dX6_findFar_71 : decode cX6_findFar 71 = .ok (.aload_n 0, 1) := by decide +kernel
theorem dX6_findFar_72 : decode cX6_findFar 72 = .ok (.getfield 7, 3) := by decide +kernel
theorem dX6_findFar_75 : decode cX6_findFar 75 = .ok (.bipush 41, 2) := by decide +kernel
theorem dX6_findFar_77 : decode cX6_findFar 77 = .ok (.iaload, 1) := by decide +kernel
theorem dX6_findFar_78 : decode cX6_findFar 78 = .ok (.if_icmp .ge 71, 3) := by decide +kernel
theorem dX6_findFar_81 : decode cX6_findFar 81 = .ok (.aload_n 0, 1) := by decide +kernel
theorem dX6_findFar_82 : decode cX6_findFar 82 = .ok (.aload_n 0, 1) := by decide +kernel
theorem dX6_findFar_83 : decode cX6_findFar 83 = .ok (.getfield 42, 3) := by decide +kernel
theorem dX6_findFar_86 : decode cX6_findFar 86 = .ok (.iload_n 1, 1) := by decide +kernel
theorem dX6_findFar_87 : decode cX6_findFar 87 = .ok (.iaload, 1) := by decide +kernel
theorem dX6_findFar_88 : decode cX6_findFar 88 = .ok (.iload_n 2, 1) := by decide +kernel
theorem dX6_findFar_89 : decode cX6_findFar 89 = .ok (.invokevirtual 201, 3) := by decide +kernel
theorem dX6_findFar_92 : decode cX6_findFar 92 = .ok (.istore_n 3, 1) := by decide +kernel
theorem dX6_findFar_93 : decode cX6_findFar 93 = .ok (.aload_n 0, 1) := by decide +kernel
theorem dX6_findFar_94 : decode cX6_findFar 94 = .ok (.getfield 39, 3) := by decide +kernel
theorem dX6_findFar_97 : decode cX6_findFar 97 = .ok (.iload_n 3, 1) := by decide +kernel
theorem dX6_findFar_98 : decode cX6_findFar 98 = .ok (.iaload, 1) := by decide +kernel
theorem dX6_findFar_99 : decode cX6_findFar 99 = .ok (.ldc 197, 2) := by decide +kernel
theorem dX6_findFar_101 : decode cX6_findFar 101 = .ok (.if_icmp .ne 42, 3) := by decide +kernel
theorem dX6_findFar_104 : decode cX6_findFar 104 = .ok (.aload_n 0, 1) := by decide +kernel
theorem dX6_findFar_105 : decode cX6_findFar 105 = .ok (.getfield 39, 3) := by decide +kernel
theorem dX6_findFar_108 : decode cX6_findFar 108 = .ok (.iload_n 3, 1) := by decide +kernel
theorem dX6_findFar_109 : decode cX6_findFar 109 = .ok (.aload_n 0, 1) := by decide +kernel
theorem dX6_findFar_110 : decode cX6_findFar 110 = .ok (.getfield 39, 3) := by decide +kernel
theorem dX6_findFar_113 : decode cX6_findFar 113 = .ok (.aload_n 0, 1) := by decide +kernel
theorem dX6_findFar_114 : decode cX6_findFar 114 = .ok (.getfield 42, 3) := by decide +kernel
theorem dX6_findFar_117 : decode cX6_findFar 117 = .ok (.iload_n 1, 1) := by decide +kernel
theorem dX6_findFar_118 : decode cX6_findFar 118 = .ok (.iaload, 1) := by decide +kernel
theorem dX6_findFar_119 : decode cX6_findFar 119 = .ok (.iaload, 1) := by decide +kernel
theorem dX6_findFar_120 : decode cX6_findFar 120 = .ok (.iconst 1, 1) := by decide +kernel
theorem dX6_findFar_121 : decode cX6_findFar 121 = .ok (.iadd, 1) := by decide +kernel
theorem dX6_findFar_122 : decode cX6_findFar 122 = .ok (.iastore, 1) := by decide +kernel
theorem dX6_findFar_123 : decode cX6_findFar 123 = .ok (.aload_n 0, 1) := by decide +kernel
theorem dX6_findFar_124 : decode cX6_findFar 124 = .ok (.getfield 42, 3) := by decide +kernel
theorem dX6_findFar_127 : decode cX6_findFar 127 = .ok (.aload_n 0, 1) := by decide +kernel
theorem dX6_findFar_128 : decode cX6_findFar 128 = .ok (.getfield 198, 3) := by decide +kernel
theorem dX6_findFar_131 : decode cX6_findFar 131 = .ok (.iload_n 3, 1) := by decide +kernel
theorem dX6_findFar_132 : decode cX6_findFar 132 = .ok (.iastore, 1) := by decide +kernel
theorem dX6_findFar_133 : decode cX6_findFar 133 = .ok (.aload_n 0, 1) := by decide +kernel
theorem dX6_findFar_134 : decode cX6_findFar 134 = .ok (.dup, 1) := by decide +kernel
theorem dX6_findFar_135 : decode cX6_findFar 135 = .ok (.getfield 198, 3) := by decide +kernel
theorem dX6_findFar_138 : decode cX6_findFar 138 = .ok (.iconst 1, 1) := by decide +kernel
theorem dX6_findFar_139 : decode cX6_findFar 139 = .ok (.iadd, 1) := by decide +kernel
theorem dX6_findFar_140 : decode cX6_findFar 140 = .ok (.putfield 198, 3) := by decide +kernel
theorem dX6_findFar_143 : decode cX6_findFar 143 = .ok (.iinc 2 1, 3) := by decide +kernel
theorem dX6_findFar_146 : decode cX6_findFar 146 = .ok (.goto (-76), 3) := by decide +kernel
theorem dX6_findFar_149 : decode cX6_findFar 149 = .ok (.iinc 1 1, 3) := by decide +kernel
theorem dX6_findFar_152 : decode cX6_findFar 152 = .ok (.goto (-92), 3) := by decide +kernel
theorem dX6_findFar_155 : decode cX6_findFar 155 = .ok (.return_, 1) := by decide +kernel
theorem dX6_group_0 : decode cX6_group 0 = .ok (.aload_n 0, 1) := by decide +kernel
theorem dX6_group_1 : decode cX6_group 1 = .ok (.invokevirtual 204, 3) := by decide +kernel
theorem dX6_group_4 : decode cX6_group 4 = .ok (.aload_n 0, 1) := by decide +kernel
theorem dX6_group_5 : decode cX6_group 5 = .ok (.getfield 198, 3) := by decide +kernel
theorem dX6_group_8 : decode cX6_group 8 = .ok (.ireturn, 1) := by decide +kernel
theorem dX6_isSought_0 : decode cX6_isSought 0 = .ok (.iload_n 2, 1) := by decide +kernel
theorem dX6_isSought_1 : decode cX6_isSought 1 = .ok (.iconst (-1), 1) := by decide +kernel
theorem dX6_isSought_2 : decode cX6_isSought 2 = .ok (.if_icmp .eq 14, 3) := by decide +kernel
theorem dX6_isSought_5 : decode cX6_isSought 5 = .ok (.iload_n 1, 1) := by decide +kernel
theorem dX6_isSought_6 : decode cX6_isSought 6 = .ok (.iload_n 2, 1) := by decide +kernel
theorem dX6_isSought_7 : decode cX6_isSought 7 = .ok (.if_icmp .ne 7, 3) := by decide +kernel
theorem dX6_isSought_10 : decode cX6_isSought 10 = .ok (.iconst 1, 1) := by decide +kernel
theorem dX6_isSought_11 : decode cX6_isSought 11 = .ok (.goto 4, 3) := by decide +kernel
theorem dX6_isSought_14 : decode cX6_isSought 14 = .ok (.iconst 0, 1) := by decide +kernel
theorem dX6_isSought_15 : decode cX6_isSought 15 = .ok (.ireturn, 1) := by decide +kernel
theorem dX6_isSought_16 : decode cX6_isSought 16 = .ok (.aload_n 0, 1) := by decide +kernel
theorem dX6_isSought_17 : decode cX6_isSought 17 = .ok (.iload_n 1, 1) := by decide +kernel
theorem dX6_isSought_18 : decode cX6_isSought 18 = .ok (.invokevirtual 123, 3) := by decide +kernel
theorem dX6_isSought_21 : decode cX6_isSought 21 = .ok (.aload_n 0, 1) := by decide +kernel
theorem dX6_isSought_22 : decode cX6_isSought 22 = .ok (.invokevirtual 171, 3) := by decide +kernel
theorem dX6_isSought_25 : decode cX6_isSought 25 = .ok (.aload_n 0, 1) := by decide +kernel
theorem dX6_isSought_26 : decode cX6_isSought 26 = .ok (.invokevirtual 207, 3) := by decide +kernel
theorem dX6_isSought_29 : decode cX6_isSought 29 = .ok (.if_icmp .ne 7, 3) := by decide +kernel
theorem dX6_isSought_32 : decode cX6_isSought 32 = .ok (.iconst 1, 1) := by decide +kernel
theorem dX6_isSought_33 : decode cX6_isSought 33 = .ok (.goto 4, 3) := by decide +kernel
theorem dX6_isSought_36 : decode cX6_isSought 36 = .ok (.iconst 0, 1) := by decide +kernel
theorem dX6_isSought_37 : decode cX6_isSought 37 = .ok (.ireturn, 1) := by decide +kernel
theorem dX6_leadsOn_0 : decode cX6_leadsOn 0 = .ok (.aload_n 0, 1) := by decide +kernel
theorem dX6_leadsOn_1 : decode cX6_leadsOn 1 = .ok (.iload_n 1, 1) := by decide +kernel
theorem dX6_leadsOn_2 : decode cX6_leadsOn 2 = .ok (.iload_n 2, 1) := by decide +kernel
theorem dX6_leadsOn_3 : decode cX6_leadsOn 3 = .ok (.invokevirtual 201, 3) := by decide +kernel
theorem dX6_leadsOn_6 : decode cX6_leadsOn 6 = .ok (.istore_n 3, 1) := by decide +kernel
theorem dX6_leadsOn_7 : decode cX6_leadsOn 7 = .ok (.aload_n 0, 1) := by decide +kernel
theorem dX6_leadsOn_8 : decode cX6_leadsOn 8 = .ok (.getfield 39, 3) := by decide +kernel
theorem dX6_leadsOn_11 : decode cX6_leadsOn 11 = .ok (.iload_n 3, 1) := by decide +kernel
theorem dX6_leadsOn_12 : decode cX6_leadsOn 12 = .ok (.iaload, 1) := by decide +kernel
theorem dX6_leadsOn_13 : decode cX6_leadsOn 13 = .ok (.aload_n 0, 1) := by decide +kernel
theorem dX6_leadsOn_14 : decode cX6_leadsOn 14 = .ok (.getfield 39, 3) := by decide +kernel
theorem dX6_leadsOn_17 : decode cX6_leadsOn 17 = .ok (.iload_n 1, 1) := by decide +kernel
theorem dX6_leadsOn_18 : decode cX6_leadsOn 18 = .ok (.iaload, 1) := by decide +kernel
theorem dX6_leadsOn_19 : decode cX6_leadsOn 19 = .ok (.iconst 1, 1) := by decide +kernel
theorem dX6_leadsOn_20 : decode cX6_leadsOn 20 = .ok (.iadd, 1) := by decide +kernel
theorem dX6_leadsOn_21 : decode cX6_leadsOn 21 = .ok (.if_icmp .ne 16, 3) := by decide +kernel
theorem dX6_leadsOn_24 : decode cX6_leadsOn 24 = .ok (.aload_n 0, 1) := by decide +kernel
theorem dX6_leadsOn_25 : decode cX6_leadsOn 25 = .ok (.getfield 45, 3) := by decide +kernel
theorem dX6_leadsOn_28 : decode cX6_leadsOn 28 = .ok (.iload_n 3, 1) := by decide +kernel
theorem dX6_leadsOn_29 : decode cX6_leadsOn 29 = .ok (.baload, 1) := by decide +kernel
theorem dX6_leadsOn_30 : decode cX6_leadsOn 30 = .ok (.ifCond .eq 7, 3) := by decide +kernel
theorem dX6_leadsOn_33 : decode cX6_leadsOn 33 = .ok (.iconst 1, 1) := by decide +kernel
theorem dX6_leadsOn_34 : decode cX6_leadsOn 34 = .ok (.goto 4, 3) := by decide +kernel
theorem dX6_leadsOn_37 : decode cX6_leadsOn 37 = .ok (.iconst 0, 1) := by decide +kernel
theorem dX6_leadsOn_38 : decode cX6_leadsOn 38 = .ok (.ireturn, 1) := by decide +kernel
theorem dX6_fewestTo_0 : decode cX6_fewestTo 0 = .ok (.aload_n 0, 1) := by decide +kernel
theorem dX6_fewestTo_1 : decode cX6_fewestTo 1 = .ok (.invokevirtual 204, 3) := by decide +kernel
theorem dX6_fewestTo_4 : decode cX6_fewestTo 4 = .ok (.iconst 0, 1) := by decide +kernel
theorem dX6_fewestTo_5 : decode cX6_fewestTo 5 = .ok (.istore_n 3, 1) := by decide +kernel
theorem dX6_fewestTo_6 : decode cX6_fewestTo 6 = .ok (.iload_n 3, 1) := by decide +kernel
theorem dX6_fewestTo_7 : decode cX6_fewestTo 7 = .ok (.aload_n 0, 1) := by decide +kernel
theorem dX6_fewestTo_8 : decode cX6_fewestTo 8 = .ok (.getfield 198, 3) := by decide +kernel
theorem dX6_fewestTo_11 : decode cX6_fewestTo 11 = .ok (.if_icmp .ge 23, 3) := by decide +kernel
theorem dX6_fewestTo_14 : decode cX6_fewestTo 14 = .ok (.aload_n 0, 1) := by decide +kernel
theorem dX6_fewestTo_15 : decode cX6_fewestTo 15 = .ok (.aload_n 0, 1) := by decide +kernel
theorem dX6_fewestTo_16 : decode cX6_fewestTo 16 = .ok (.getfield 42, 3) := by decide +kernel
theorem dX6_fewestTo_19 : decode cX6_fewestTo 19 = .ok (.iload_n 3, 1) := by decide +kernel
theorem dX6_fewestTo_20 : decode cX6_fewestTo 20 = .ok (.iaload, 1) := by decide +kernel
theorem dX6_fewestTo_21 : decode cX6_fewestTo 21 = .ok (.iload_n 1, 1) := by decide +kernel
theorem dX6_fewestTo_22 : decode cX6_fewestTo 22 = .ok (.invokevirtual 210, 3) := by decide +kernel
theorem dX6_fewestTo_25 : decode cX6_fewestTo 25 = .ok (.ifCond .ne 9, 3) := by decide +kernel
theorem dX6_fewestTo_28 : decode cX6_fewestTo 28 = .ok (.iinc 3 1, 3) := by decide +kernel
theorem dX6_fewestTo_31 : decode cX6_fewestTo 31 = .ok (.goto (-25), 3) := by decide +kernel
theorem dX6_fewestTo_34 : decode cX6_fewestTo 34 = .ok (.iload_n 3, 1) := by decide +kernel
theorem dX6_fewestTo_35 : decode cX6_fewestTo 35 = .ok (.aload_n 0, 1) := by decide +kernel
theorem dX6_fewestTo_36 : decode cX6_fewestTo 36 = .ok (.getfield 198, 3) := by decide +kernel
theorem dX6_fewestTo_39 : decode cX6_fewestTo 39 = .ok (.if_icmp .eq 8, 3) := by decide +kernel
theorem dX6_fewestTo_42 : decode cX6_fewestTo 42 = .ok (.iload_n 2, 1) := by decide +kernel
theorem dX6_fewestTo_43 : decode cX6_fewestTo 43 = .ok (.iconst (-1), 1) := by decide +kernel
theorem dX6_fewestTo_44 : decode cX6_fewestTo 44 = .ok (.if_icmp .ne 27, 3) := by decide +kernel
theorem dX6_fewestTo_47 : decode cX6_fewestTo 47 = .ok (.iload_n 3, 1) := by decide +kernel
theorem dX6_fewestTo_48 : decode cX6_fewestTo 48 = .ok (.aload_n 0, 1) := by decide +kernel
theorem dX6_fewestTo_49 : decode cX6_fewestTo 49 = .ok (.getfield 198, 3) := by decide +kernel
theorem dX6_fewestTo_52 : decode cX6_fewestTo 52 = .ok (.if_icmp .ne 7, 3) := by decide +kernel
theorem dX6_fewestTo_55 : decode cX6_fewestTo 55 = .ok (.iconst (-1), 1) := by decide +kernel
theorem dX6_fewestTo_56 : decode cX6_fewestTo 56 = .ok (.goto 14, 3) := by decide +kernel
theorem dX6_fewestTo_59 : decode cX6_fewestTo 59 = .ok (.aload_n 0, 1) := by decide +kernel
theorem dX6_fewestTo_60 : decode cX6_fewestTo 60 = .ok (.getfield 39, 3) := by decide +kernel
theorem dX6_fewestTo_63 : decode cX6_fewestTo 63 = .ok (.aload_n 0, 1) := by decide +kernel
theorem dX6_fewestTo_64 : decode cX6_fewestTo 64 = .ok (.getfield 42, 3) := by decide +kernel
theorem dX6_fewestTo_67 : decode cX6_fewestTo 67 = .ok (.iload_n 3, 1) := by decide +kernel
theorem dX6_fewestTo_68 : decode cX6_fewestTo 68 = .ok (.iaload, 1) := by decide +kernel
theorem dX6_fewestTo_69 : decode cX6_fewestTo 69 = .ok (.iaload, 1) := by decide +kernel
theorem dX6_fewestTo_70 : decode cX6_fewestTo 70 = .ok (.ireturn, 1) := by decide +kernel
theorem dX6_fewestTo_71 : decode cX6_fewestTo 71 = .ok (.aload_n 0, 1) := by decide +kernel
theorem dX6_fewestTo_72 : decode cX6_fewestTo 72 = .ok (.getfield 39, 3) := by decide +kernel
theorem dX6_fewestTo_75 : decode cX6_fewestTo 75 = .ok (.aload_n 0, 1) := by decide +kernel
theorem dX6_fewestTo_76 : decode cX6_fewestTo 76 = .ok (.getfield 42, 3) := by decide +kernel
theorem dX6_fewestTo_79 : decode cX6_fewestTo 79 = .ok (.iload_n 3, 1) := by decide +kernel
theorem dX6_fewestTo_80 : decode cX6_fewestTo 80 = .ok (.iaload, 1) := by decide +kernel
theorem dX6_fewestTo_81 : decode cX6_fewestTo 81 = .ok (.iaload, 1) := by decide +kernel
theorem dX6_fewestTo_82 : decode cX6_fewestTo 82 = .ok (.istore 4, 2) := by decide +kernel
theorem dX6_fewestTo_84 : decode cX6_fewestTo 84 = .ok (.iload_n 2, 1) := by decide +kernel
theorem dX6_fewestTo_85 : decode cX6_fewestTo 85 = .ok (.iload 4, 2) := by decide +kernel
theorem dX6_fewestTo_87 : decode cX6_fewestTo 87 = .ok (.if_icmp .lt 6, 3) := by decide +kernel
theorem dX6_fewestTo_90 : decode cX6_fewestTo 90 = .ok (.bipush (-5), 2) := by decide +kernel
theorem dX6_fewestTo_92 : decode cX6_fewestTo 92 = .ok (.ireturn, 1) := by decide +kernel
theorem dX6_fewestTo_93 : decode cX6_fewestTo 93 = .ok (.aload_n 0, 1) := by decide +kernel
theorem dX6_fewestTo_94 : decode cX6_fewestTo 94 = .ok (.getfield 198, 3) := by decide +kernel
theorem dX6_fewestTo_97 : decode cX6_fewestTo 97 = .ok (.iconst 1, 1) := by decide +kernel
theorem dX6_fewestTo_98 : decode cX6_fewestTo 98 = .ok (.isub, 1) := by decide +kernel
theorem dX6_fewestTo_99 : decode cX6_fewestTo 99 = .ok (.istore 5, 2) := by decide +kernel
theorem dX6_fewestTo_101 : decode cX6_fewestTo 101 = .ok (.iload 5, 2) := by decide +kernel
theorem dX6_fewestTo_103 : decode cX6_fewestTo 103 = .ok (.ifCond .lt 118, 3) := by decide +kernel
theorem dX6_fewestTo_106 : decode cX6_fewestTo 106 = .ok (.aload_n 0, 1) := by decide +kernel
theorem dX6_fewestTo_107 : decode cX6_fewestTo 107 = .ok (.getfield 42, 3) := by decide +kernel
theorem dX6_fewestTo_110 : decode cX6_fewestTo 110 = .ok (.iload 5, 2) := by decide +kernel
theorem dX6_fewestTo_112 : decode cX6_fewestTo 112 = .ok (.iaload, 1) := by decide +kernel
theorem dX6_fewestTo_113 : decode cX6_fewestTo 113 = .ok (.istore 6, 2) := by decide +kernel
theorem dX6_fewestTo_115 : decode cX6_fewestTo 115 = .ok (.aload_n 0, 1) := by decide +kernel
theorem dX6_fewestTo_116 : decode cX6_fewestTo 116 = .ok (.getfield 45, 3) := by decide +kernel
theorem dX6_fewestTo_119 : decode cX6_fewestTo 119 = .ok (.iload 6, 2) := by decide +kernel
theorem dX6_fewestTo_121 : decode cX6_fewestTo 121 = .ok (.aload_n 0, 1) := by decide +kernel
theorem dX6_fewestTo_122 : decode cX6_fewestTo 122 = .ok (.getfield 39, 3) := by decide +kernel
theorem dX6_fewestTo_125 : decode cX6_fewestTo 125 = .ok (.iload 6, 2) := by decide +kernel
theorem dX6_fewestTo_127 : decode cX6_fewestTo 127 = .ok (.iaload, 1) := by decide +kernel
theorem dX6_fewestTo_128 : decode cX6_fewestTo 128 = .ok (.iload 4, 2) := by decide +kernel
theorem dX6_fewestTo_130 : decode cX6_fewestTo 130 = .ok (.if_icmp .ne 17, 3) := by decide +kernel
theorem dX6_fewestTo_133 : decode cX6_fewestTo 133 = .ok (.aload_n 0, 1) := by decide +kernel
theorem dX6_fewestTo_134 : decode cX6_fewestTo 134 = .ok (.iload 6, 2) := by decide +kernel
theorem dX6_fewestTo_136 : decode cX6_fewestTo 136 = .ok (.iload_n 1, 1) := by decide +kernel
theorem dX6_fewestTo_137 : decode cX6_fewestTo 137 = .ok (.invokevirtual 210, 3) := by decide +kernel
theorem dX6_fewestTo_140 : decode cX6_fewestTo 140 = .ok (.ifCond .eq 7, 3) := by decide +kernel
theorem dX6_fewestTo_143 : decode cX6_fewestTo 143 = .ok (.iconst 1, 1) := by decide +kernel
theorem dX6_fewestTo_144 : decode cX6_fewestTo 144 = .ok (.goto 4, 3) := by decide +kernel
theorem dX6_fewestTo_147 : decode cX6_fewestTo 147 = .ok (.iconst 0, 1) := by decide +kernel
theorem dX6_fewestTo_148 : decode cX6_fewestTo 148 = .ok (.bastore, 1) := by decide +kernel
theorem dX6_fewestTo_149 : decode cX6_fewestTo 149 = .ok (.iconst 0, 1) := by decide +kernel
theorem dX6_fewestTo_150 : decode cX6_fewestTo 150 = .ok (.istore 7, 2) := by decide +kernel
theorem dX6_fewestTo_152 : decode cX6_fewestTo 152 = .ok (.iload 7, 2) := by decide +kernel
theorem dX6_fewestTo_154 : decode cX6_fewestTo 154 = .ok (.aload_n 0, 1) := by decide +kernel
theorem dX6_fewestTo_155 : decode cX6_fewestTo 155 = .ok (.getfield 7, 3) := by decide +kernel
theorem dX6_fewestTo_158 : decode cX6_fewestTo 158 = .ok (.bipush 41, 2) := by decide +kernel
theorem dX6_fewestTo_160 : decode cX6_fewestTo 160 = .ok (.iaload, 1) := by decide +kernel
theorem dX6_fewestTo_161 : decode cX6_fewestTo 161 = .ok (.if_icmp .ge 54, 3) := by decide +kernel
theorem dX6_fewestTo_164 : decode cX6_fewestTo 164 = .ok (.aload_n 0, 1) := by decide +kernel
theorem dX6_fewestTo_165 : decode cX6_fewestTo 165 = .ok (.getfield 39, 3) := by decide +kernel
theorem dX6_fewestTo_168 : decode cX6_fewestTo 168 = .ok (.iload 6, 2) := by decide +kernel
theorem dX6_fewestTo_170 : decode cX6_fewestTo 170 = .ok (.iaload, 1) := by decide +kernel
theorem dX6_fewestTo_171 : decode cX6_fewestTo 171 = .ok (.iload 4, 2) := by decide +kernel
theorem dX6_fewestTo_173 : decode cX6_fewestTo 173 = .ok (.if_icmp .ge 42, 3) := by decide +kernel
theorem dX6_fewestTo_176 : decode cX6_fewestTo 176 = .ok (.aload_n 0, 1) := by decide +kernel
theorem dX6_fewestTo_177 : decode cX6_fewestTo 177 = .ok (.getfield 45, 3) := by decide +kernel
theorem dX6_fewestTo_180 : decode cX6_fewestTo 180 = .ok (.iload 6, 2) := by decide +kernel
theorem dX6_fewestTo_182 : decode cX6_fewestTo 182 = .ok (.aload_n 0, 1) := by decide +kernel
theorem dX6_fewestTo_183 : decode cX6_fewestTo 183 = .ok (.getfield 45, 3) := by decide +kernel
theorem dX6_fewestTo_186 : decode cX6_fewestTo 186 = .ok (.iload 6, 2) := by decide +kernel
theorem dX6_fewestTo_188 : decode cX6_fewestTo 188 = .ok (.baload, 1) := by decide +kernel
theorem dX6_fewestTo_189 : decode cX6_fewestTo 189 = .ok (.ifCond .ne 14, 3) := by decide +kernel
theorem dX6_fewestTo_192 : decode cX6_fewestTo 192 = .ok (.aload_n 0, 1) := by decide +kernel
theorem dX6_fewestTo_193 : decode cX6_fewestTo 193 = .ok (.iload 6, 2) := by decide +kernel
theorem dX6_fewestTo_195 : decode cX6_fewestTo 195 = .ok (.iload 7, 2) := by decide +kernel
theorem dX6_fewestTo_197 : decode cX6_fewestTo 197 = .ok (.invokevirtual 213, 3) := by decide +kernel
theorem dX6_fewestTo_200 : decode cX6_fewestTo 200 = .ok (.ifCond .eq 7, 3) := by decide +kernel
theorem dX6_fewestTo_203 : decode cX6_fewestTo 203 = .ok (.iconst 1, 1) := by decide +kernel
theorem dX6_fewestTo_204 : decode cX6_fewestTo 204 = .ok (.goto 4, 3) := by decide +kernel
theorem dX6_fewestTo_207 : decode cX6_fewestTo 207 = .ok (.iconst 0, 1) := by decide +kernel
theorem dX6_fewestTo_208 : decode cX6_fewestTo 208 = .ok (.bastore, 1) := by decide +kernel
theorem dX6_fewestTo_209 : decode cX6_fewestTo 209 = .ok (.iinc 7 1, 3) := by decide +kernel
theorem dX6_fewestTo_212 : decode cX6_fewestTo 212 = .ok (.goto (-60), 3) := by decide +kernel
theorem dX6_fewestTo_215 : decode cX6_fewestTo 215 = .ok (.iinc 5 (-1), 3) := by decide +kernel
theorem dX6_fewestTo_218 : decode cX6_fewestTo 218 = .ok (.goto (-117), 3) := by decide +kernel
theorem dX6_fewestTo_221 : decode cX6_fewestTo 221 = .ok (.aload_n 0, 1) := by decide +kernel
theorem dX6_fewestTo_222 : decode cX6_fewestTo 222 = .ok (.getfield 42, 3) := by decide +kernel
theorem dX6_fewestTo_225 : decode cX6_fewestTo 225 = .ok (.iconst 0, 1) := by decide +kernel
theorem dX6_fewestTo_226 : decode cX6_fewestTo 226 = .ok (.iaload, 1) := by decide +kernel
theorem dX6_fewestTo_227 : decode cX6_fewestTo 227 = .ok (.istore 5, 2) := by decide +kernel
theorem dX6_fewestTo_229 : decode cX6_fewestTo 229 = .ok (.iconst 0, 1) := by decide +kernel
theorem dX6_fewestTo_230 : decode cX6_fewestTo 230 = .ok (.istore 6, 2) := by decide +kernel
theorem dX6_fewestTo_232 : decode cX6_fewestTo 232 = .ok (.iload 6, 2) := by decide +kernel
theorem dX6_fewestTo_234 : decode cX6_fewestTo 234 = .ok (.iload_n 2, 1) := by decide +kernel
theorem dX6_fewestTo_235 : decode cX6_fewestTo 235 = .ok (.if_icmp .gt 52, 3) := by decide +kernel
theorem dX6_fewestTo_238 : decode cX6_fewestTo 238 = .ok (.aload_n 0, 1) := by decide +kernel
theorem dX6_fewestTo_239 : decode cX6_fewestTo 239 = .ok (.iconst 0, 1) := by decide +kernel
theorem dX6_fewestTo_240 : decode cX6_fewestTo 240 = .ok (.putfield 216, 3) := by decide +kernel
theorem dX6_fewestTo_243 : decode cX6_fewestTo 243 = .ok (.aload_n 0, 1) := by decide +kernel
theorem dX6_fewestTo_244 : decode cX6_fewestTo 244 = .ok (.iload 5, 2) := by decide +kernel
theorem dX6_fewestTo_246 : decode cX6_fewestTo 246 = .ok (.aload_n 0, 1) := by decide +kernel
theorem dX6_fewestTo_247 : decode cX6_fewestTo 247 = .ok (.getfield 216, 3) := by decide +kernel
theorem dX6_fewestTo_250 : decode cX6_fewestTo 250 = .ok (.invokevirtual 213, 3) := by decide +kernel
theorem dX6_fewestTo_253 : decode cX6_fewestTo 253 = .ok (.ifCond .ne 16, 3) := by decide +kernel
theorem dX6_fewestTo_256 : decode cX6_fewestTo 256 = .ok (.aload_n 0, 1) := by decide +kernel
theorem dX6_fewestTo_257 : decode cX6_fewestTo 257 = .ok (.dup, 1) := by decide +kernel
theorem dX6_fewestTo_258 : decode cX6_fewestTo 258 = .ok (.getfield 216, 3) := by decide +kernel
theorem dX6_fewestTo_261 : decode cX6_fewestTo 261 = .ok (.iconst 1, 1) := by decide +kernel
theorem dX6_fewestTo_262 : decode cX6_fewestTo 262 = .ok (.iadd, 1) := by decide +kernel
theorem dX6_fewestTo_263 : decode cX6_fewestTo 263 = .ok (.putfield 216, 3) := by decide +kernel
theorem dX6_fewestTo_266 : decode cX6_fewestTo 266 = .ok (.goto (-23), 3) := by decide +kernel
theorem dX6_fewestTo_269 : decode cX6_fewestTo 269 = .ok (.aload_n 0, 1) := by decide +kernel
theorem dX6_fewestTo_270 : decode cX6_fewestTo 270 = .ok (.iload 5, 2) := by decide +kernel
theorem dX6_fewestTo_272 : decode cX6_fewestTo 272 = .ok (.aload_n 0, 1) := by decide +kernel
theorem dX6_fewestTo_273 : decode cX6_fewestTo 273 = .ok (.getfield 216, 3) := by decide +kernel
theorem dX6_fewestTo_276 : decode cX6_fewestTo 276 = .ok (.invokevirtual 201, 3) := by decide +kernel
theorem dX6_fewestTo_279 : decode cX6_fewestTo 279 = .ok (.istore 5, 2) := by decide +kernel
theorem dX6_fewestTo_281 : decode cX6_fewestTo 281 = .ok (.iinc 6 1, 3) := by decide +kernel
theorem dX6_fewestTo_284 : decode cX6_fewestTo 284 = .ok (.goto (-52), 3) := by decide +kernel
theorem dX6_fewestTo_287 : decode cX6_fewestTo 287 = .ok (.aload_n 0, 1) := by decide +kernel
theorem dX6_fewestTo_288 : decode cX6_fewestTo 288 = .ok (.getfield 216, 3) := by decide +kernel
theorem dX6_fewestTo_291 : decode cX6_fewestTo 291 = .ok (.ireturn, 1) := by decide +kernel
theorem dX6_fewest_0 : decode cX6_fewest 0 = .ok (.aload_n 0, 1) := by decide +kernel
theorem dX6_fewest_1 : decode cX6_fewest 1 = .ok (.iload_n 1, 1) := by decide +kernel
theorem dX6_fewest_2 : decode cX6_fewest 2 = .ok (.invokevirtual 188, 3) := by decide +kernel
theorem dX6_fewest_5 : decode cX6_fewest 5 = .ok (.ifCond .eq 17, 3) := by decide +kernel
theorem dX6_fewest_8 : decode cX6_fewest 8 = .ok (.iload_n 2, 1) := by decide +kernel
theorem dX6_fewest_9 : decode cX6_fewest 9 = .ok (.iconst (-1), 1) := by decide +kernel
theorem dX6_fewest_10 : decode cX6_fewest 10 = .ok (.if_icmp .lt 12, 3) := by decide +kernel
theorem dX6_fewest_13 : decode cX6_fewest 13 = .ok (.aload_n 0, 1) := by decide +kernel
theorem dX6_fewest_14 : decode cX6_fewest 14 = .ok (.iload_n 1, 1) := by decide +kernel
theorem dX6_fewest_15 : decode cX6_fewest 15 = .ok (.iload_n 2, 1) := by decide +kernel
theorem dX6_fewest_16 : decode cX6_fewest 16 = .ok (.invokevirtual 219, 3) := by decide +kernel
theorem dX6_fewest_19 : decode cX6_fewest 19 = .ok (.goto 9, 3) := by decide +kernel
theorem dX6_fewest_22 : decode cX6_fewest 22 = .ok (.aload_n 0, 1) := by decide +kernel
theorem dX6_fewest_23 : decode cX6_fewest 23 = .ok (.bipush (-10), 2) := by decide +kernel
theorem dX6_fewest_25 : decode cX6_fewest 25 = .ok (.invokevirtual 85, 3) := by decide +kernel
theorem dX6_fewest_28 : decode cX6_fewest 28 = .ok (.ireturn, 1) := by decide +kernel
theorem dX6_till_0 : decode cX6_till 0 = .ok (.iload_n 1, 1) := by decide +kernel
theorem dX6_till_1 : decode cX6_till 1 = .ok (.iconst (-1), 1) := by decide +kernel
theorem dX6_till_2 : decode cX6_till 2 = .ok (.if_icmp .lt 12, 3) := by decide +kernel
theorem dX6_till_5 : decode cX6_till 5 = .ok (.aload_n 0, 1) := by decide +kernel
theorem dX6_till_6 : decode cX6_till 6 = .ok (.iconst (-1), 1) := by decide +kernel
theorem dX6_till_7 : decode cX6_till 7 = .ok (.iload_n 1, 1) := by decide +kernel
theorem dX6_till_8 : decode cX6_till 8 = .ok (.invokevirtual 219, 3) := by decide +kernel
theorem dX6_till_11 : decode cX6_till 11 = .ok (.goto 9, 3) := by decide +kernel
theorem dX6_till_14 : decode cX6_till 14 = .ok (.aload_n 0, 1) := by decide +kernel
theorem dX6_till_15 : decode cX6_till 15 = .ok (.bipush (-10), 2) := by decide +kernel
theorem dX6_till_17 : decode cX6_till 17 = .ok (.invokevirtual 85, 3) := by decide +kernel
theorem dX6_till_20 : decode cX6_till 20 = .ok (.ireturn, 1) := by decide +kernel
theorem dX6_isSo_0 : decode cX6_isSo 0 = .ok (.iconst 1, 1) := by decide +kernel
theorem dX6_isSo_1 : decode cX6_isSo 1 = .ok (.istore_n 1, 1) := by decide +kernel
theorem dX6_isSo_2 : decode cX6_isSo 2 = .ok (.iconst 0, 1) := by decide +kernel
theorem dX6_isSo_3 : decode cX6_isSo 3 = .ok (.istore_n 2, 1) := by decide +kernel
theorem dX6_isSo_4 : decode cX6_isSo 4 = .ok (.iload_n 2, 1) := by decide +kernel
theorem dX6_isSo_5 : decode cX6_isSo 5 = .ok (.aload_n 0, 1) := by decide +kernel
theorem dX6_isSo_6 : decode cX6_isSo 6 = .ok (.invokevirtual 73, 3) := by decide +kernel
theorem dX6_isSo_9 : decode cX6_isSo 9 = .ok (.if_icmp .ge 50, 3) := by decide +kernel
theorem dX6_isSo_12 : decode cX6_isSo 12 = .ok (.iload_n 1, 1) := by decide +kernel
theorem dX6_isSo_13 : decode cX6_isSo 13 = .ok (.ifCond .eq 38, 3) := by decide +kernel
theorem dX6_isSo_16 : decode cX6_isSo 16 = .ok (.aload_n 0, 1) := by decide +kernel
theorem dX6_isSo_17 : decode cX6_isSo 17 = .ok (.getfield 7, 3) := by decide +kernel
