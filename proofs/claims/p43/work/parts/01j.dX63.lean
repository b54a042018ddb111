theorem dX6_lookAt_200 : decode cX6_lookAt 200 = .ok (.ifCond .eq 7, 3) := by decide +kernel
theorem dX6_lookAt_203 : decode cX6_lookAt 203 = .ok (.iconst 1, 1) := by decide +kernel
theorem dX6_lookAt_204 : decode cX6_lookAt 204 = .ok (.goto 4, 3) := by decide +kernel
theorem dX6_lookAt_207 : decode cX6_lookAt 207 = .ok (.iconst 0, 1) := by decide +kernel
theorem dX6_lookAt_208 : decode cX6_lookAt 208 = .ok (.iadd, 1) := by decide +kernel
theorem dX6_lookAt_209 : decode cX6_lookAt 209 = .ok (.putfield 285, 3) := by decide +kernel
theorem dX6_lookAt_212 : decode cX6_lookAt 212 = .ok (.goto (-76), 3) := by decide +kernel
theorem dX6_lookAt_215 : decode cX6_lookAt 215 = .ok (.iconst 0, 1) := by decide +kernel
theorem dX6_lookAt_216 : decode cX6_lookAt 216 = .ok (.istore 4, 2) := by decide +kernel
theorem dX6_lookAt_218 : decode cX6_lookAt 218 = .ok (.iload 4, 2) := by decide +kernel
theorem dX6_lookAt_220 : decode cX6_lookAt 220 = .ok (.aload_n 0, 1) := by decide +kernel
theorem dX6_lookAt_221 : decode cX6_lookAt 221 = .ok (.getfield 285, 3) := by decide +kernel
theorem dX6_lookAt_224 : decode cX6_lookAt 224 = .ok (.if_icmp .ge 50, 3) := by decide +kernel
theorem dX6_lookAt_227 : decode cX6_lookAt 227 = .ok (.iload 4, 2) := by decide +kernel
theorem dX6_lookAt_229 : decode cX6_lookAt 229 = .ok (.iconst 4, 1) := by decide +kernel
theorem dX6_lookAt_230 : decode cX6_lookAt 230 = .ok (.if_icmp .ge 44, 3) := by decide +kernel
theorem dX6_lookAt_233 : decode cX6_lookAt 233 = .ok (.aload_n 0, 1) := by decide +kernel
theorem dX6_lookAt_234 : decode cX6_lookAt 234 = .ok (.getfield 288, 3) := by decide +kernel
theorem dX6_lookAt_237 : decode cX6_lookAt 237 = .ok (.iconst 2, 1) := by decide +kernel
theorem dX6_lookAt_238 : decode cX6_lookAt 238 = .ok (.if_icmp .ne 36, 3) := by decide +kernel
theorem dX6_lookAt_241 : decode cX6_lookAt 241 = .ok (.aload_n 0, 1) := by decide +kernel
theorem dX6_lookAt_242 : decode cX6_lookAt 242 = .ok (.bipush 10, 2) := by decide +kernel
theorem dX6_lookAt_244 : decode cX6_lookAt 244 = .ok (.aload_n 0, 1) := by decide +kernel
theorem dX6_lookAt_245 : decode cX6_lookAt 245 = .ok (.getfield 291, 3) := by decide +kernel
theorem dX6_lookAt_248 : decode cX6_lookAt 248 = .ok (.imul, 1) := by decide +kernel
theorem dX6_lookAt_249 : decode cX6_lookAt 249 = .ok (.aload_n 0, 1) := by decide +kernel
theorem dX6_lookAt_250 : decode cX6_lookAt 250 = .ok (.getfield 60, 3) := by decide +kernel
theorem dX6_lookAt_253 : decode cX6_lookAt 253 = .ok (.aload_n 0, 1) := by decide +kernel
theorem dX6_lookAt_254 : decode cX6_lookAt 254 = .ok (.getfield 282, 3) := by decide +kernel
theorem dX6_lookAt_257 : decode cX6_lookAt 257 = .ok (.iload 4, 2) := by decide +kernel
theorem dX6_lookAt_259 : decode cX6_lookAt 259 = .ok (.iadd, 1) := by decide +kernel
theorem dX6_lookAt_260 : decode cX6_lookAt 260 = .ok (.iaload, 1) := by decide +kernel
theorem dX6_lookAt_261 : decode cX6_lookAt 261 = .ok (.iadd, 1) := by decide +kernel
theorem dX6_lookAt_262 : decode cX6_lookAt 262 = .ok (.bipush 48, 2) := by decide +kernel
theorem dX6_lookAt_264 : decode cX6_lookAt 264 = .ok (.isub, 1) := by decide +kernel
theorem dX6_lookAt_265 : decode cX6_lookAt 265 = .ok (.putfield 291, 3) := by decide +kernel
theorem dX6_lookAt_268 : decode cX6_lookAt 268 = .ok (.iinc 4 1, 3) := by decide +kernel
theorem dX6_lookAt_271 : decode cX6_lookAt 271 = .ok (.goto (-53), 3) := by decide +kernel
theorem dX6_lookAt_274 : decode cX6_lookAt 274 = .ok (.aload_n 0, 1) := by decide +kernel
theorem dX6_lookAt_275 : decode cX6_lookAt 275 = .ok (.aload_n 0, 1) := by decide +kernel
theorem dX6_lookAt_276 : decode cX6_lookAt 276 = .ok (.getfield 288, 3) := by decide +kernel
theorem dX6_lookAt_279 : decode cX6_lookAt 279 = .ok (.iconst 2, 1) := by decide +kernel
theorem dX6_lookAt_280 : decode cX6_lookAt 280 = .ok (.if_icmp .ne 15, 3) := by decide +kernel
theorem dX6_lookAt_283 : decode cX6_lookAt 283 = .ok (.aload_n 0, 1) := by decide +kernel
theorem dX6_lookAt_284 : decode cX6_lookAt 284 = .ok (.getfield 285, 3) := by decide +kernel
theorem dX6_lookAt_287 : decode cX6_lookAt 287 = .ok (.iconst 4, 1) := by decide +kernel
theorem dX6_lookAt_288 : decode cX6_lookAt 288 = .ok (.if_icmp .le 7, 3) := by decide +kernel
theorem dX6_lookAt_291 : decode cX6_lookAt 291 = .ok (.iconst 4, 1) := by decide +kernel
theorem dX6_lookAt_292 : decode cX6_lookAt 292 = .ok (.goto 7, 3) := by decide +kernel
theorem dX6_lookAt_295 : decode cX6_lookAt 295 = .ok (.aload_n 0, 1) := by decide +kernel
theorem dX6_lookAt_296 : decode cX6_lookAt 296 = .ok (.getfield 288, 3) := by decide +kernel
theorem dX6_lookAt_299 : decode cX6_lookAt 299 = .ok (.putfield 288, 3) := by decide +kernel
theorem dX6_lookAt_302 : decode cX6_lookAt 302 = .ok (.return_, 1) := by decide +kernel
theorem dX6_goOn_0 : decode cX6_goOn 0 = .ok (.aload_n 0, 1) := by decide +kernel
theorem dX6_goOn_1 : decode cX6_goOn 1 = .ok (.aload_n 0, 1) := by decide +kernel
theorem dX6_goOn_2 : decode cX6_goOn 2 = .ok (.getfield 282, 3) := by decide +kernel
theorem dX6_goOn_5 : decode cX6_goOn 5 = .ok (.aload_n 0, 1) := by decide +kernel
theorem dX6_goOn_6 : decode cX6_goOn 6 = .ok (.getfield 285, 3) := by decide +kernel
theorem dX6_goOn_9 : decode cX6_goOn 9 = .ok (.iadd, 1) := by decide +kernel
theorem dX6_goOn_10 : decode cX6_goOn 10 = .ok (.invokevirtual 300, 3) := by decide +kernel
theorem dX6_goOn_13 : decode cX6_goOn 13 = .ok (.return_, 1) := by decide +kernel
theorem dX6_isWord_0 : decode cX6_isWord 0 = .ok (.iload 5, 2) := by decide +kernel
theorem dX6_isWord_2 : decode cX6_isWord 2 = .ok (.ifCond .ne 7, 3) := by decide +kernel
theorem dX6_isWord_5 : decode cX6_isWord 5 = .ok (.iconst 4, 1) := by decide +kernel
theorem dX6_isWord_6 : decode cX6_isWord 6 = .ok (.goto 14, 3) := by decide +kernel
theorem dX6_isWord_9 : decode cX6_isWord 9 = .ok (.iload 6, 2) := by decide +kernel
theorem dX6_isWord_11 : decode cX6_isWord 11 = .ok (.ifCond .ne 7, 3) := by decide +kernel
theorem dX6_isWord_14 : decode cX6_isWord 14 = .ok (.iconst 5, 1) := by decide +kernel
theorem dX6_isWord_15 : decode cX6_isWord 15 = .ok (.goto 5, 3) := by decide +kernel
theorem dX6_isWord_18 : decode cX6_isWord 18 = .ok (.bipush 6, 2) := by decide +kernel
theorem dX6_isWord_20 : decode cX6_isWord 20 = .ok (.istore 7, 2) := by decide +kernel
theorem dX6_isWord_22 : decode cX6_isWord 22 = .ok (.aload_n 0, 1) := by decide +kernel
theorem dX6_isWord_23 : decode cX6_isWord 23 = .ok (.getfield 288, 3) := by decide +kernel
theorem dX6_isWord_26 : decode cX6_isWord 26 = .ok (.iconst 1, 1) := by decide +kernel
theorem dX6_isWord_27 : decode cX6_isWord 27 = .ok (.if_icmp .ne 16, 3) := by decide +kernel
theorem dX6_isWord_30 : decode cX6_isWord 30 = .ok (.aload_n 0, 1) := by decide +kernel
theorem dX6_isWord_31 : decode cX6_isWord 31 = .ok (.getfield 285, 3) := by decide +kernel
theorem dX6_isWord_34 : decode cX6_isWord 34 = .ok (.iload 7, 2) := by decide +kernel
theorem dX6_isWord_36 : decode cX6_isWord 36 = .ok (.if_icmp .ne 7, 3) := by decide +kernel
theorem dX6_isWord_39 : decode cX6_isWord 39 = .ok (.iconst 1, 1) := by decide +kernel
theorem dX6_isWord_40 : decode cX6_isWord 40 = .ok (.goto 4, 3) := by decide +kernel
theorem dX6_isWord_43 : decode cX6_isWord 43 = .ok (.iconst 0, 1) := by decide +kernel
theorem dX6_isWord_44 : decode cX6_isWord 44 = .ok (.istore 8, 2) := by decide +kernel
theorem dX6_isWord_46 : decode cX6_isWord 46 = .ok (.iconst 0, 1) := by decide +kernel
theorem dX6_isWord_47 : decode cX6_isWord 47 = .ok (.istore 9, 2) := by decide +kernel
theorem dX6_isWord_49 : decode cX6_isWord 49 = .ok (.iload 9, 2) := by decide +kernel
theorem dX6_isWord_51 : decode cX6_isWord 51 = .ok (.iload 7, 2) := by decide +kernel
theorem dX6_isWord_53 : decode cX6_isWord 53 = .ok (.if_icmp .ge 89, 3) := by decide +kernel
theorem dX6_isWord_56 : decode cX6_isWord 56 = .ok (.iload 8, 2) := by decide +kernel
theorem dX6_isWord_58 : decode cX6_isWord 58 = .ok (.ifCond .eq 84, 3) := by decide +kernel
theorem dX6_isWord_61 : decode cX6_isWord 61 = .ok (.aload_n 0, 1) := by decide +kernel
theorem dX6_isWord_62 : decode cX6_isWord 62 = .ok (.getfield 60, 3) := by decide +kernel
theorem dX6_isWord_65 : decode cX6_isWord 65 = .ok (.aload_n 0, 1) := by decide +kernel
theorem dX6_isWord_66 : decode cX6_isWord 66 = .ok (.getfield 282, 3) := by decide +kernel
theorem dX6_isWord_69 : decode cX6_isWord 69 = .ok (.iload 9, 2) := by decide +kernel
theorem dX6_isWord_71 : decode cX6_isWord 71 = .ok (.iadd, 1) := by decide +kernel
theorem dX6_isWord_72 : decode cX6_isWord 72 = .ok (.iaload, 1) := by decide +kernel
theorem dX6_isWord_73 : decode cX6_isWord 73 = .ok (.iload 9, 2) := by decide +kernel
theorem dX6_isWord_75 : decode cX6_isWord 75 = .ok (.ifCond .ne 7, 3) := by decide +kernel
theorem dX6_isWord_78 : decode cX6_isWord 78 = .ok (.iload_n 1, 1) := by decide +kernel
theorem dX6_isWord_79 : decode cX6_isWord 79 = .ok (.goto 47, 3) := by decide +kernel
theorem dX6_isWord_82 : decode cX6_isWord 82 = .ok (.iload 9, 2) := by decide +kernel
theorem dX6_isWord_84 : decode cX6_isWord 84 = .ok (.iconst 1, 1) := by decide +kernel
theorem dX6_isWord_85 : decode cX6_isWord 85 = .ok (.if_icmp .ne 7, 3) := by decide +kernel
theorem dX6_isWord_88 : decode cX6_isWord 88 = .ok (.iload_n 2, 1) := by decide +kernel
theorem dX6_isWord_89 : decode cX6_isWord 89 = .ok (.goto 37, 3) := by decide +kernel
theorem dX6_isWord_92 : decode cX6_isWord 92 = .ok (.iload 9, 2) := by decide +kernel
theorem dX6_isWord_94 : decode cX6_isWord 94 = .ok (.iconst 2, 1) := by decide +kernel
theorem dX6_isWord_95 : decode cX6_isWord 95 = .ok (.if_icmp .ne 7, 3) := by decide +kernel
theorem dX6_isWord_98 : decode cX6_isWord 98 = .ok (.iload_n 3, 1) := by decide +kernel
theorem dX6_isWord_99 : decode cX6_isWord 99 = .ok (.goto 27, 3) := by decide +kernel
theorem dX6_isWord_102 : decode cX6_isWord 102 = .ok (.iload 9, 2) := by decide +kernel
theorem dX6_isWord_104 : decode cX6_isWord 104 = .ok (.iconst 3, 1) := by decide +kernel
theorem dX6_isWord_105 : decode cX6_isWord 105 = .ok (.if_icmp .ne 8, 3) := by decide +kernel
theorem dX6_isWord_108 : decode cX6_isWord 108 = .ok (.iload 4, 2) := by decide +kernel
theorem dX6_isWord_110 : decode cX6_isWord 110 = .ok (.goto 16, 3) := by decide +kernel
theorem dX6_isWord_113 : decode cX6_isWord 113 = .ok (.iload 9, 2) := by decide +kernel
theorem dX6_isWord_115 : decode cX6_isWord 115 = .ok (.iconst 4, 1) := by decide +kernel
theorem dX6_isWord_116 : decode cX6_isWord 116 = .ok (.if_icmp .ne 8, 3) := by decide +kernel
theorem dX6_isWord_119 : decode cX6_isWord 119 = .ok (.iload 5, 2) := by decide +kernel
theorem dX6_isWord_121 : decode cX6_isWord 121 = .ok (.goto 5, 3) := by decide +kernel
theorem dX6_isWord_124 : decode cX6_isWord 124 = .ok (.iload 6, 2) := by decide +kernel
theorem dX6_isWord_126 : decode cX6_isWord 126 = .ok (.if_icmp .ne 7, 3) := by decide +kernel
theorem dX6_isWord_129 : decode cX6_isWord 129 = .ok (.iconst 1, 1) := by decide +kernel
theorem dX6_isWord_130 : decode cX6_isWord 130 = .ok (.goto 4, 3) := by decide +kernel
theorem dX6_isWord_133 : decode cX6_isWord 133 = .ok (.iconst 0, 1) := by decide +kernel
theorem dX6_isWord_134 : decode cX6_isWord 134 = .ok (.istore 8, 2) := by decide +kernel
theorem dX6_isWord_136 : decode cX6_isWord 136 = .ok (.iinc 9 1, 3) := by decide +kernel
theorem dX6_isWord_139 : decode cX6_isWord 139 = .ok (.goto (-90), 3) := by decide +kernel
theorem dX6_isWord_142 : decode cX6_isWord 142 = .ok (.iload 8, 2) := by decide +kernel
theorem dX6_isWord_144 : decode cX6_isWord 144 = .ok (.ireturn, 1) := by decide +kernel
theorem dX6_takes_0 : decode cX6_takes 0 = .ok (.aload_n 0, 1) := by decide +kernel
theorem dX6_takes_1 : decode cX6_takes 1 = .ok (.getfield 288, 3) := by decide +kernel
theorem dX6_takes_4 : decode cX6_takes 4 = .ok (.iconst 2, 1) := by decide +kernel
theorem dX6_takes_5 : decode cX6_takes 5 = .ok (.if_icmp .ne 18, 3) := by decide +kernel
theorem dX6_takes_8 : decode cX6_takes 8 = .ok (.aload_n 0, 1) := by decide +kernel
theorem dX6_takes_9 : decode cX6_takes 9 = .ok (.getfield 291, 3) := by decide +kernel
theorem dX6_takes_12 : decode cX6_takes 12 = .ok (.i2l, 1) := by decide +kernel
theorem dX6_takes_13 : decode cX6_takes 13 = .ok (.iload_n 2, 1) := by decide +kernel
theorem dX6_takes_14 : decode cX6_takes 14 = .ok (.i2l, 1) := by decide +kernel
theorem dX6_takes_15 : decode cX6_takes 15 = .ok (.iload_n 3, 1) := by decide +kernel
theorem dX6_takes_16 : decode cX6_takes 16 = .ok (.i2l, 1) := by decide +kernel
theorem dX6_takes_17 : decode cX6_takes 17 = .ok (.invokestatic 77, 3) := by decide +kernel
theorem dX6_takes_20 : decode cX6_takes 20 = .ok (.ifCond .ne 5, 3) := by decide +kernel
theorem dX6_takes_23 : decode cX6_takes 23 = .ok (.iconst 0, 1) := by decide +kernel
theorem dX6_takes_24 : decode cX6_takes 24 = .ok (.ireturn, 1) := by decide +kernel
theorem dX6_takes_25 : decode cX6_takes 25 = .ok (.aload_n 0, 1) := by decide +kernel
theorem dX6_takes_26 : decode cX6_takes 26 = .ok (.getfield 66, 3) := by decide +kernel
theorem dX6_takes_29 : decode cX6_takes 29 = .ok (.iload_n 1, 1) := by decide +kernel
theorem dX6_takes_30 : decode cX6_takes 30 = .ok (.aload_n 0, 1) := by decide +kernel
theorem dX6_takes_31 : decode cX6_takes 31 = .ok (.getfield 291, 3) := by decide +kernel
theorem dX6_takes_34 : decode cX6_takes 34 = .ok (.iastore, 1) := by decide +kernel
theorem dX6_takes_35 : decode cX6_takes 35 = .ok (.aload_n 0, 1) := by decide +kernel
theorem dX6_takes_36 : decode cX6_takes 36 = .ok (.invokevirtual 303, 3) := by decide +kernel
theorem dX6_takes_39 : decode cX6_takes 39 = .ok (.iconst 1, 1) := by decide +kernel
theorem dX6_takes_40 : decode cX6_takes 40 = .ok (.ireturn, 1) := by decide +kernel
theorem dX6_last_0 : decode cX6_last 0 = .ok (.aload_n 0, 1) := by decide +kernel
theorem dX6_last_1 : decode cX6_last 1 = .ok (.getfield 63, 3) := by decide +kernel
theorem dX6_last_4 : decode cX6_last 4 = .ok (.iconst 0, 1) := by decide +kernel
theorem dX6_last_5 : decode cX6_last 5 = .ok (.iaload, 1) := by decide +kernel
theorem dX6_last_6 : decode cX6_last 6 = .ok (.iconst 1, 1) := by decide +kernel
theorem dX6_last_7 : decode cX6_last 7 = .ok (.isub, 1) := by decide +kernel
theorem dX6_last_8 : decode cX6_last 8 = .ok (.ireturn, 1) := by decide +kernel
theorem dX6_readsFirst_0 : decode cX6_readsFirst 0 = .ok (.aload_n 0, 1) := by decide +kernel
theorem dX6_readsFirst_1 : decode cX6_readsFirst 1 = .ok (.bipush 98, 2) := by decide +kernel
theorem dX6_readsFirst_3 : decode cX6_readsFirst 3 = .ok (.bipush 111, 2) := by decide +kernel
theorem dX6_readsFirst_5 : decode cX6_readsFirst 5 = .ok (.bipush 120, 2) := by decide +kernel
theorem dX6_readsFirst_7 : decode cX6_readsFirst 7 = .ok (.bipush 101, 2) := by decide +kernel
theorem dX6_readsFirst_9 : decode cX6_readsFirst 9 = .ok (.bipush 115, 2) := by decide +kernel
theorem dX6_readsFirst_11 : decode cX6_readsFirst 11 = .ok (.iconst 0, 1) := by decide +kernel
theorem dX6_readsFirst_12 : decode cX6_readsFirst 12 = .ok (.invokevirtual 306, 3) := by decide +kernel
theorem dX6_readsFirst_15 : decode cX6_readsFirst 15 = .ok (.ifCond .ne 5, 3) := by decide +kernel
theorem dX6_readsFirst_18 : decode cX6_readsFirst 18 = .ok (.iconst 0, 1) := by decide +kernel
theorem dX6_readsFirst_19 : decode cX6_readsFirst 19 = .ok (.ireturn, 1) := by decide +kernel
theorem dX6_readsFirst_20 : decode cX6_readsFirst 20 = .ok (.aload_n 0, 1) := by decide +kernel
theorem dX6_readsFirst_21 : decode cX6_readsFirst 21 = .ok (.invokevirtual 303, 3) := by decide +kernel
theorem dX6_readsFirst_24 : decode cX6_readsFirst 24 = .ok (.aload_n 0, 1) := by decide +kernel
theorem dX6_readsFirst_25 : decode cX6_readsFirst 25 = .ok (.iconst 0, 1) := by decide +kernel
theorem dX6_readsFirst_26 : decode cX6_readsFirst 26 = .ok (.iconst 2, 1) := by decide +kernel
theorem dX6_readsFirst_27 : decode cX6_readsFirst 27 = .ok (.bipush 7, 2) := by decide +kernel
theorem dX6_readsFirst_29 : decode cX6_readsFirst 29 = .ok (.invokevirtual 310, 3) := by decide +kernel
theorem dX6_readsFirst_32 : decode cX6_readsFirst 32 = .ok (.istore_n 1, 1) := by decide +kernel
theorem dX6_readsFirst_33 : decode cX6_readsFirst 33 = .ok (.aload_n 0, 1) := by decide +kernel
theorem dX6_readsFirst_34 : decode cX6_readsFirst 34 = .ok (.getfield 63, 3) := by decide +kernel
theorem dX6_readsFirst_37 : decode cX6_readsFirst 37 = .ok (.iload_n 1, 1) := by decide +kernel
theorem dX6_readsFirst_38 : decode cX6_readsFirst 38 = .ok (.ifCond .eq 12, 3) := by decide +kernel
theorem dX6_readsFirst_41 : decode cX6_readsFirst 41 = .ok (.aload_n 0, 1) := by decide +kernel
theorem dX6_readsFirst_42 : decode cX6_readsFirst 42 = .ok (.getfield 66, 3) := by decide +kernel
theorem dX6_readsFirst_45 : decode cX6_readsFirst 45 = .ok (.iconst 0, 1) := by decide +kernel
theorem dX6_readsFirst_46 : decode cX6_readsFirst 46 = .ok (.iaload, 1) := by decide +kernel
theorem dX6_readsFirst_47 : decode cX6_readsFirst 47 = .ok (.goto 4, 3) := by decide +kernel
theorem dX6_readsFirst_50 : decode cX6_readsFirst 50 = .ok (.iconst 2, 1) := by decide +kernel
theorem dX6_readsFirst_51 : decode cX6_readsFirst 51 = .ok (.invokestatic 69, 3) := by decide +kernel
theorem dX6_readsFirst_54 : decode cX6_readsFirst 54 = .ok (.iload_n 1, 1) := by decide +kernel
theorem dX6_readsFirst_55 : decode cX6_readsFirst 55 = .ok (.ifCond .eq 15, 3) := by decide +kernel
theorem dX6_readsFirst_58 : decode cX6_readsFirst 58 = .ok (.aload_n 0, 1) := by decide +kernel
theorem dX6_readsFirst_59 : decode cX6_readsFirst 59 = .ok (.getfield 288, 3) := by decide +kernel
theorem dX6_readsFirst_62 : decode cX6_readsFirst 62 = .ok (.iconst 3, 1) := by decide +kernel
theorem dX6_readsFirst_63 : decode cX6_readsFirst 63 = .ok (.if_icmp .ne 7, 3) := by decide +kernel
theorem dX6_readsFirst_66 : decode cX6_readsFirst 66 = .ok (.iconst 1, 1) := by decide +kernel
theorem dX6_readsFirst_67 : decode cX6_readsFirst 67 = .ok (.goto 4, 3) := by decide +kernel
theorem dX6_readsFirst_70 : decode cX6_readsFirst 70 = .ok (.iconst 0, 1) := by decide +kernel
theorem dX6_readsFirst_71 : decode cX6_readsFirst 71 = .ok (.ireturn, 1) := by decide +kernel
theorem dX6_readsSwap_0 : decode cX6_readsSwap 0 = .ok (.aload_n 0, 1) := by decide +kernel
theorem dX6_readsSwap_1 : decode cX6_readsSwap 1 = .ok (.invokevirtual 303, 3) := by decide +kernel
theorem dX6_readsSwap_4 : decode cX6_readsSwap 4 = .ok (.aload_n 0, 1) := by decide +kernel
theorem dX6_readsSwap_5 : decode cX6_readsSwap 5 = .ok (.iconst 0, 1) := by decide +kernel
theorem dX6_readsSwap_6 : decode cX6_readsSwap 6 = .ok (.iconst 0, 1) := by decide +kernel
theorem dX6_readsSwap_7 : decode cX6_readsSwap 7 = .ok (.aload_n 0, 1) := by decide +kernel
theorem dX6_readsSwap_8 : decode cX6_readsSwap 8 = .ok (.invokevirtual 314, 3) := by decide +kernel
theorem dX6_readsSwap_11 : decode cX6_readsSwap 11 = .ok (.invokevirtual 310, 3) := by decide +kernel
theorem dX6_readsSwap_14 : decode cX6_readsSwap 14 = .ok (.ifCond .eq 37, 3) := by decide +kernel
theorem dX6_readsSwap_17 : decode cX6_readsSwap 17 = .ok (.aload_n 0, 1) := by decide +kernel
theorem dX6_readsSwap_18 : decode cX6_readsSwap 18 = .ok (.getfield 288, 3) := by decide +kernel
theorem dX6_readsSwap_21 : decode cX6_readsSwap 21 = .ok (.iconst 2, 1) := by decide +kernel
theorem dX6_readsSwap_22 : decode cX6_readsSwap 22 = .ok (.if_icmp .ne 16, 3) := by decide +kernel
theorem dX6_readsSwap_25 : decode cX6_readsSwap 25 = .ok (.aload_n 0, 1) := by decide +kernel
theorem dX6_readsSwap_26 : decode cX6_readsSwap 26 = .ok (.getfield 291, 3) := by decide +kernel
theorem dX6_readsSwap_29 : decode cX6_readsSwap 29 = .ok (.aload_n 0, 1) := by decide +kernel
theorem dX6_readsSwap_30 : decode cX6_readsSwap 30 = .ok (.getfield 66, 3) := by decide +kernel
theorem dX6_readsSwap_33 : decode cX6_readsSwap 33 = .ok (.iconst 0, 1) := by decide +kernel
theorem dX6_readsSwap_34 : decode cX6_readsSwap 34 = .ok (.iaload, 1) := by decide +kernel
theorem dX6_readsSwap_35 : decode cX6_readsSwap 35 = .ok (.if_icmp .eq 16, 3) := by decide +kernel
theorem dX6_readsSwap_38 : decode cX6_readsSwap 38 = .ok (.aload_n 0, 1) := by decide +kernel
theorem dX6_readsSwap_39 : decode cX6_readsSwap 39 = .ok (.iconst 1, 1) := by decide +kernel
theorem dX6_readsSwap_40 : decode cX6_readsSwap 40 = .ok (.iconst 0, 1) := by decide +kernel
theorem dX6_readsSwap_41 : decode cX6_readsSwap 41 = .ok (.aload_n 0, 1) := by decide +kernel
theorem dX6_readsSwap_42 : decode cX6_readsSwap 42 = .ok (.invokevirtual 314, 3) := by decide +kernel
theorem dX6_readsSwap_45 : decode cX6_readsSwap 45 = .ok (.invokevirtual 310, 3) := by decide +kernel
theorem dX6_readsSwap_48 : decode cX6_readsSwap 48 = .ok (.ifCond .ne 5, 3) := by decide +kernel
theorem dX6_readsSwap_51 : decode cX6_readsSwap 51 = .ok (.iconst 0, 1) := by decide +kernel
theorem dX6_readsSwap_52 : decode cX6_readsSwap 52 = .ok (.ireturn, 1) := by decide +kernel
theorem dX6_readsSwap_53 : decode cX6_readsSwap 53 = .ok (.aload_n 0, 1) := by decide +kernel
theorem dX6_readsSwap_54 : decode cX6_readsSwap 54 = .ok (.getfield 63, 3) := by decide +kernel
theorem dX6_readsSwap_57 : decode cX6_readsSwap 57 = .ok (.iconst 3, 1) := by decide +kernel
theorem dX6_readsSwap_58 : decode cX6_readsSwap 58 = .ok (.aload_n 0, 1) := by decide +kernel
theorem dX6_readsSwap_59 : decode cX6_readsSwap 59 = .ok (.getfield 66, 3) := by decide +kernel
theorem dX6_readsSwap_62 : decode cX6_readsSwap 62 = .ok (.iconst 0, 1) := by decide +kernel
theorem dX6_readsSwap_63 : decode cX6_readsSwap 63 = .ok (.iaload, 1) := by decide +kernel
theorem dX6_readsSwap_64 : decode cX6_readsSwap 64 = .ok (.iadd, 1) := by decide +kernel
theorem dX6_readsSwap_65 : decode cX6_readsSwap 65 = .ok (.iaload, 1) := by decide +kernel
theorem dX6_readsSwap_66 : decode cX6_readsSwap 66 = .ok (.istore_n 1, 1) := by decide +kernel
theorem dX6_readsSwap_67 : decode cX6_readsSwap 67 = .ok (.aload_n 0, 1) := by decide +kernel
theorem dX6_readsSwap_68 : decode cX6_readsSwap 68 = .ok (.getfield 63, 3) := by decide +kernel
theorem dX6_readsSwap_71 : decode cX6_readsSwap 71 = .ok (.iconst 3, 1) := by decide +kernel
theorem dX6_readsSwap_72 : decode cX6_readsSwap 72 = .ok (.aload_n 0, 1) := by decide +kernel
theorem dX6_readsSwap_73 : decode cX6_readsSwap 73 = .ok (.getfield 66, 3) := by decide +kernel
theorem dX6_readsSwap_76 : decode cX6_readsSwap 76 = .ok (.iconst 0, 1) := by decide +kernel
theorem dX6_readsSwap_77 : decode cX6_readsSwap 77 = .ok (.iaload, 1) := by decide +kernel
theorem dX6_readsSwap_78 : decode cX6_readsSwap 78 = .ok (.iadd, 1) := by decide +kernel
theorem dX6_readsSwap_79 : decode cX6_readsSwap 79 = .ok (.aload_n 0, 1) := by decide +kernel
theorem dX6_readsSwap_80 : decode cX6_readsSwap 80 = .ok (.getfield 63, 3) := by decide +kernel
theorem dX6_readsSwap_83 : decode cX6_readsSwap 83 = .ok (.iconst 3, 1) := by decide +kernel
theorem dX6_readsSwap_84 : decode cX6_readsSwap 84 = .ok (.aload_n 0, 1) := by decide +kernel
theorem dX6_readsSwap_85 : decode cX6_readsSwap 85 = .ok (.getfield 66, 3) := by decide +kernel
theorem dX6_readsSwap_88 : decode cX6_readsSwap 88 = .ok (.iconst 1, 1) := by decide +kernel
theorem dX6_readsSwap_89 : decode cX6_readsSwap 89 = .ok (.iaload, 1) := by decide +kernel
theorem dX6_readsSwap_90 : decode cX6_readsSwap 90 = .ok (.iadd, 1) := by decide +kernel
theorem dX6_readsSwap_91 : decode cX6_readsSwap 91 = .ok (.iaload, 1) := by decide +kernel
theorem dX6_readsSwap_92 : decode cX6_readsSwap 92 = .ok (.iastore, 1) := by decide +kernel
theorem dX6_readsSwap_93 : decode cX6_readsSwap 93 = .ok (.aload_n 0, 1) := by decide +kernel
theorem dX6_readsSwap_94 : decode cX6_readsSwap 94 = .ok (.getfield 63, 3) := by decide +kernel
theorem dX6_readsSwap_97 : decode cX6_readsSwap 97 = .ok (.iconst 3, 1) := by decide +kernel
theorem dX6_readsSwap_98 : decode cX6_readsSwap 98 = .ok (.aload_n 0, 1) := by decide +kernel
theorem dX6_readsSwap_99 : decode cX6_readsSwap 99 = .ok (.getfield 66, 3) := by decide +kernel
theorem dX6_readsSwap_102 : decode cX6_readsSwap 102 = .ok (.iconst 1, 1) := by decide +kernel
theorem dX6_readsSwap_103 : decode cX6_readsSwap 103 = .ok (.iaload, 1) := by decide +kernel
theorem dX6_readsSwap_104 : decode cX6_readsSwap 104 = .ok (.iadd, 1) := by decide +kernel
theorem dX6_readsSwap_105 : decode cX6_readsSwap 105 = .ok (.iload_n 1, 1) := by decide +kernel
theorem dX6_readsSwap_106 : decode cX6_readsSwap 106 = .ok (.iastore, 1) := by decide +kernel
theorem dX6_readsSwap_107 : decode cX6_readsSwap 107 = .ok (.iconst 1, 1) := by decide +kernel
theorem dX6_readsSwap_108 : decode cX6_readsSwap 108 = .ok (.ireturn, 1) := by decide +kernel
theorem dX6_readsReport_0 : decode cX6_readsReport 0 = .ok (.aload_n 0, 1) := by decide +kernel
theorem dX6_readsReport_1 : decode cX6_readsReport 1 = .ok (.getfield 63, 3) := by decide +kernel
theorem dX6_readsReport_4 : decode cX6_readsReport 4 = .ok (.bipush 24, 2) := by decide +kernel
theorem dX6_readsReport_6 : decode cX6_readsReport 6 = .ok (.iaload, 1) := by decide +kernel
theorem dX6_readsReport_7 : decode cX6_readsReport 7 = .ok (.bipush 8, 2) := by decide +kernel
theorem dX6_readsReport_9 : decode cX6_readsReport 9 = .ok (.if_icmp .ne 5, 3) := by decide +kernel
theorem dX6_readsReport_12 : decode cX6_readsReport 12 = .ok (.iconst 0, 1) := by decide +kernel
theorem dX6_readsReport_13 : decode cX6_readsReport 13 = .ok (.ireturn, 1) := by decide +kernel
theorem dX6_readsReport_14 : decode cX6_readsReport 14 = .ok (.aload_n 0, 1) := by decide +kernel
theorem dX6_readsReport_15 : decode cX6_readsReport 15 = .ok (.invokevirtual 303, 3) := by decide +kernel
theorem dX6_readsReport_18 : decode cX6_readsReport 18 = .ok (.aload_n 0, 1) := by decide +kernel
theorem dX6_readsReport_19 : decode cX6_readsReport 19 = .ok (.getfield 66, 3) := by decide +kernel
theorem dX6_readsReport_22 : decode cX6_readsReport 22 = .ok (.iconst 1, 1) := by decide +kernel
theorem dX6_readsReport_23 : decode cX6_readsReport 23 = .ok (.iconst 0, 1) := by decide +kernel
theorem dX6_readsReport_24 : decode cX6_readsReport 24 = .ok (.iastore, 1) := by decide +kernel
theorem dX6_readsReport_25 : decode cX6_readsReport 25 = .ok (.aload_n 0, 1) := by decide +kernel
theorem dX6_readsReport_26 : decode cX6_readsReport 26 = .ok (.iconst 0, 1) := by decide +kernel
theorem dX6_readsReport_27 : decode cX6_readsReport 27 = .ok (.iconst 0, 1) := by decide +kernel
theorem dX6_readsReport_28 : decode cX6_readsReport 28 = .ok (.aload_n 0, 1) := by decide +kernel
theorem dX6_readsReport_29 : decode cX6_readsReport 29 = .ok (.invokevirtual 314, 3) := by decide +kernel
theorem dX6_readsReport_32 : decode cX6_readsReport 32 = .ok (.invokevirtual 310, 3) := by decide +kernel
theorem dX6_readsReport_35 : decode cX6_readsReport 35 = .ok (.ifCond .eq 22, 3) := by decide +kernel
theorem dX6_readsReport_38 : decode cX6_readsReport 38 = .ok (.iload_n 1, 1) := by decide +kernel
theorem dX6_readsReport_39 : decode cX6_readsReport 39 = .ok (.ifCond .eq 20, 3) := by decide +kernel
theorem dX6_readsReport_42 : decode cX6_readsReport 42 = .ok (.aload_n 0, 1) := by decide +kernel
theorem dX6_readsReport_43 : decode cX6_readsReport 43 = .ok (.iconst 1, 1) := by decide +kernel
theorem dX6_readsReport_44 : decode cX6_readsReport 44 = .ok (.iconst 1, 1) := by decide +kernel
theorem dX6_readsReport_45 : decode cX6_readsReport 45 = .ok (.aload_n 0, 1) := by decide +kernel
theorem dX6_readsReport_46 : decode cX6_readsReport 46 = .ok (.getfield 63, 3) := by decide +kernel
theorem dX6_readsReport_49 : decode cX6_readsReport 49 = .ok (.iconst 0, 1) := by decide +kernel
theorem dX6_readsReport_50 : decode cX6_readsReport 50 = .ok (.iaload, 1) := by decide +kernel
theorem dX6_readsReport_51 : decode cX6_readsReport 51 = .ok (.invokevirtual 310, 3) := by decide +kernel
theorem dX6_readsReport_54 : decode cX6_readsReport 54 = .ok (.ifCond .ne 5, 3) := by decide +kernel
theorem dX6_readsReport_57 : decode cX6_readsReport 57 = .ok (.iconst 0, 1) := by decide +kernel
theorem dX6_readsReport_58 : decode cX6_readsReport 58 = .ok (.ireturn, 1) := by decide +kernel
theorem dX6_readsReport_59 : decode cX6_readsReport 59 = .ok (.aload_n 0, 1) := by decide +kernel
theorem dX6_readsReport_60 : decode cX6_readsReport 60 = .ok (.getfield 63, 3) := by decide +kernel
theorem dX6_readsReport_63 : decode cX6_readsReport 63 = .ok (.aload_n 0, 1) := by decide +kernel
theorem dX6_readsReport_64 : decode cX6_readsReport 64 = .ok (.getfield 66, 3) := by decide +kernel
theorem dX6_readsReport_67 : decode cX6_readsReport 67 = .ok (.iconst 0, 1) := by decide +kernel
theorem dX6_readsReport_68 : decode cX6_readsReport 68 = .ok (.iaload, 1) := by decide +kernel
theorem dX6_readsReport_69 : decode cX6_readsReport 69 = .ok (.aload_n 0, 1) := by decide +kernel
theorem dX6_readsReport_70 : decode cX6_readsReport 70 = .ok (.getfield 66, 3) := by decide +kernel
theorem dX6_readsReport_73 : decode cX6_readsReport 73 = .ok (.iconst 1, 1) := by decide +kernel
theorem dX6_readsReport_74 : decode cX6_readsReport 74 = .ok (.iaload, 1) := by decide +kernel
theorem dX6_readsReport_75 : decode cX6_readsReport 75 = .ok (.invokestatic 137, 3) := by decide +kernel
theorem dX6_readsReport_78 : decode cX6_readsReport 78 = .ok (.iconst 1, 1) := by decide +kernel
theorem dX6_readsReport_79 : decode cX6_readsReport 79 = .ok (.ireturn, 1) := by decide +kernel
theorem dX6_readsKnown_0 : decode cX6_readsKnown 0 = .ok (.aload_n 0, 1) := by decide +kernel
theorem dX6_readsKnown_1 : decode cX6_readsKnown 1 = .ok (.invokevirtual 303, 3) := by decide +kernel
theorem dX6_readsKnown_4 : decode cX6_readsKnown 4 = .ok (.aload_n 0, 1) := by decide +kernel
theorem dX6_readsKnown_5 : decode cX6_readsKnown 5 = .ok (.getfield 288, 3) := by decide +kernel
theorem dX6_readsKnown_8 : decode cX6_readsKnown 8 = .ok (.iconst 2, 1) := by decide +kernel
theorem dX6_readsKnown_9 : decode cX6_readsKnown 9 = .ok (.if_icmp .ne 36, 3) := by decide +kernel
theorem dX6_readsKnown_12 : decode cX6_readsKnown 12 = .ok (.aload_n 0, 1) := by decide +kernel
theorem dX6_readsKnown_13 : decode cX6_readsKnown 13 = .ok (.getfield 291, 3) := by decide +kernel
theorem dX6_readsKnown_16 : decode cX6_readsKnown 16 = .ok (.i2l, 1) := by decide +kernel
theorem dX6_readsKnown_17 : decode cX6_readsKnown 17 = .ok (.lconst 0, 1) := by decide +kernel
theorem dX6_readsKnown_18 : decode cX6_readsKnown 18 = .ok (.aload_n 0, 1) := by decide +kernel
theorem dX6_readsKnown_19 : decode cX6_readsKnown 19 = .ok (.invokevirtual 314, 3) := by decide +kernel
theorem dX6_readsKnown_22 : decode cX6_readsKnown 22 = .ok (.i2l, 1) := by decide +kernel
theorem dX6_readsKnown_23 : decode cX6_readsKnown 23 = .ok (.invokestatic 77, 3) := by decide +kernel
theorem dX6_readsKnown_26 : decode cX6_readsKnown 26 = .ok (.ifCond .eq 19, 3) := by decide +kernel
theorem dX6_readsKnown_29 : decode cX6_readsKnown 29 = .ok (.aload_n 0, 1) := by decide +kernel
theorem dX6_readsKnown_30 : decode cX6_readsKnown 30 = .ok (.getfield 63, 3) := by decide +kernel
theorem dX6_readsKnown_33 : decode cX6_readsKnown 33 = .ok (.bipush 17, 2) := by decide +kernel
theorem dX6_readsKnown_35 : decode cX6_readsKnown 35 = .ok (.aload_n 0, 1) := by decide +kernel
theorem dX6_readsKnown_36 : decode cX6_readsKnown 36 = .ok (.getfield 291, 3) := by decide +kernel
theorem dX6_readsKnown_39 : decode cX6_readsKnown 39 = .ok (.iadd, 1) := by decide +kernel
theorem dX6_readsKnown_40 : decode cX6_readsKnown 40 = .ok (.iaload, 1) := by decide +kernel
theorem dX6_readsKnown_41 : decode cX6_readsKnown 41 = .ok (.iconst (-1), 1) := by decide +kernel
theorem dX6_readsKnown_42 : decode cX6_readsKnown 42 = .ok (.if_icmp .eq 5, 3) := by decide +kernel
theorem dX6_readsKnown_45 : decode cX6_readsKnown 45 = .ok (.iconst 0, 1) := by decide +kernel
theorem dX6_readsKnown_46 : decode cX6_readsKnown 46 = .ok (.ireturn, 1) := by decide +kernel
theorem dX6_readsKnown_47 : decode cX6_readsKnown 47 = .ok (.aload_n 0, 1) := by decide +kernel
theorem dX6_readsKnown_48 : decode cX6_readsKnown 48 = .ok (.getfield 291, 3) := by decide +kernel
theorem dX6_readsKnown_51 : decode cX6_readsKnown 51 = .ok (.istore_n 1, 1) := by decide +kernel
theorem dX6_readsKnown_52 : decode cX6_readsKnown 52 = .ok (.aload_n 0, 1) := by decide +kernel
theorem dX6_readsKnown_53 : decode cX6_readsKnown 53 = .ok (.invokevirtual 303, 3) := by decide +kernel
theorem dX6_readsKnown_56 : decode cX6_readsKnown 56 = .ok (.aload_n 0, 1) := by decide +kernel
theorem dX6_readsKnown_57 : decode cX6_readsKnown 57 = .ok (.getfield 288, 3) := by decide +kernel
theorem dX6_readsKnown_60 : decode cX6_readsKnown 60 = .ok (.iconst 2, 1) := by decide +kernel
theorem dX6_readsKnown_61 : decode cX6_readsKnown 61 = .ok (.if_icmp .ne 34, 3) := by decide +kernel
theorem dX6_readsKnown_64 : decode cX6_readsKnown 64 = .ok (.aload_n 0, 1) := by decide +kernel
theorem dX6_readsKnown_65 : decode cX6_readsKnown 65 = .ok (.getfield 291, 3) := by decide +kernel
theorem dX6_readsKnown_68 : decode cX6_readsKnown 68 = .ok (.i2l, 1) := by decide +kernel
theorem dX6_readsKnown_69 : decode cX6_readsKnown 69 = .ok (.lconst 0, 1) := by decide +kernel
theorem dX6_readsKnown_70 : decode cX6_readsKnown 70 = .ok (.aload_n 0, 1) := by decide +kernel
theorem dX6_readsKnown_71 : decode cX6_readsKnown 71 = .ok (.invokevirtual 314, 3) := by decide +kernel
theorem dX6_readsKnown_74 : decode cX6_readsKnown 74 = .ok (.i2l, 1) := by decide +kernel
theorem dX6_readsKnown_75 : decode cX6_readsKnown 75 = .ok (.invokestatic 77, 3) := by decide +kernel
theorem dX6_readsKnown_78 : decode cX6_readsKnown 78 = .ok (.ifCond .eq 17, 3) := by decide +kernel
theorem dX6_readsKnown_81 : decode cX6_readsKnown 81 = .ok (.aload_n 0, 1) := by decide +kernel
theorem dX6_readsKnown_82 : decode cX6_readsKnown 82 = .ok (.getfield 63, 3) := by decide +kernel
theorem dX6_readsKnown_85 : decode cX6_readsKnown 85 = .ok (.aload_n 0, 1) := by decide +kernel
theorem dX6_readsKnown_86 : decode cX6_readsKnown 86 = .ok (.getfield 291, 3) := by decide +kernel
theorem dX6_readsKnown_89 : decode cX6_readsKnown 89 = .ok (.invokestatic 130, 3) := by decide +kernel
theorem dX6_readsKnown_92 : decode cX6_readsKnown 92 = .ok (.ifCond .eq 5, 3) := by decide +kernel
theorem dX6_readsKnown_95 : decode cX6_readsKnown 95 = .ok (.iconst 0, 1) := by decide +kernel
theorem dX6_readsKnown_96 : decode cX6_readsKnown 96 = .ok (.ireturn, 1) := by decide +kernel
theorem dX6_readsKnown_97 : decode cX6_readsKnown 97 = .ok (.aload_n 0, 1) := by decide +kernel
theorem dX6_readsKnown_98 : decode cX6_readsKnown 98 = .ok (.getfield 63, 3) := by decide +kernel
theorem dX6_readsKnown_101 : decode cX6_readsKnown 101 = .ok (.bipush 17, 2) := by decide +kernel
theorem dX6_readsKnown_103 : decode cX6_readsKnown 103 = .ok (.iload_n 1, 1) := by decide +kernel
theorem dX6_readsKnown_104 : decode cX6_readsKnown 104 = .ok (.iadd, 1) := by decide +kernel
theorem dX6_readsKnown_105 : decode cX6_readsKnown 105 = .ok (.aload_n 0, 1) := by decide +kernel
theorem dX6_readsKnown_106 : decode cX6_readsKnown 106 = .ok (.getfield 291, 3) := by decide +kernel
theorem dX6_readsKnown_109 : decode cX6_readsKnown 109 = .ok (.iastore, 1) := by decide +kernel
theorem dX6_readsKnown_110 : decode cX6_readsKnown 110 = .ok (.aload_n 0, 1) := by decide +kernel
theorem dX6_readsKnown_111 : decode cX6_readsKnown 111 = .ok (.invokevirtual 303, 3) := by decide +kernel
theorem dX6_readsKnown_114 : decode cX6_readsKnown 114 = .ok (.iconst 1, 1) := by decide +kernel
theorem dX6_readsKnown_115 : decode cX6_readsKnown 115 = .ok (.ireturn, 1) := by decide +kernel
theorem dX6_readsMove_0 : decode cX6_readsMove 0 = .ok (.aload_n 0, 1) := by decide +kernel
theorem dX6_readsMove_1 : decode cX6_readsMove 1 = .ok (.getfield 63, 3) := by decide +kernel
theorem dX6_readsMove_4 : decode cX6_readsMove 4 = .ok (.bipush 41, 2) := by decide +kernel
theorem dX6_readsMove_6 : decode cX6_readsMove 6 = .ok (.iaload, 1) := by decide +kernel
theorem dX6_readsMove_7 : decode cX6_readsMove 7 = .ok (.istore_n 1, 1) := by decide +kernel
theorem dX6_readsMove_8 : decode cX6_readsMove 8 = .ok (.iload_n 1, 1) := by decide +kernel
theorem dX6_readsMove_9 : decode cX6_readsMove 9 = .ok (.iconst 4, 1) := by decide +kernel
theorem dX6_readsMove_10 : decode cX6_readsMove 10 = .ok (.if_icmp .ne 5, 3) := by decide +kernel
theorem dX6_readsMove_13 : decode cX6_readsMove 13 = .ok (.iconst 0, 1) := by decide +kernel
theorem dX6_readsMove_14 : decode cX6_readsMove 14 = .ok (.ireturn, 1) := by decide +kernel
theorem dX6_readsMove_15 : decode cX6_readsMove 15 = .ok (.aload_n 0, 1) := by decide +kernel
theorem dX6_readsMove_16 : decode cX6_readsMove 16 = .ok (.invokevirtual 303, 3) := by decide +kernel
theorem dX6_readsMove_19 : decode cX6_readsMove 19 = .ok (.aload_n 0, 1) := by decide +kernel
theorem dX6_readsMove_20 : decode cX6_readsMove 20 = .ok (.iconst 0, 1) := by decide +kernel
theorem dX6_readsMove_21 : decode cX6_readsMove 21 = .ok (.iconst 0, 1) := by decide +kernel
theorem dX6_readsMove_22 : decode cX6_readsMove 22 = .ok (.aload_n 0, 1) := by decide +kernel
theorem dX6_readsMove_23 : decode cX6_readsMove 23 = .ok (.getfield 63, 3) := by decide +kernel
theorem dX6_readsMove_26 : decode cX6_readsMove 26 = .ok (.iconst 0, 1) := by decide +kernel
theorem dX6_readsMove_27 : decode cX6_readsMove 27 = .ok (.iaload, 1) := by decide +kernel
theorem dX6_readsMove_28 : decode cX6_readsMove 28 = .ok (.invokestatic 97, 3) := by decide +kernel
theorem dX6_readsMove_31 : decode cX6_readsMove 31 = .ok (.iconst 1, 1) := by decide +kernel
theorem dX6_readsMove_32 : decode cX6_readsMove 32 = .ok (.isub, 1) := by decide +kernel
theorem dX6_readsMove_33 : decode cX6_readsMove 33 = .ok (.invokevirtual 310, 3) := by decide +kernel
theorem dX6_readsMove_36 : decode cX6_readsMove 36 = .ok (.istore_n 2, 1) := by decide +kernel
theorem dX6_readsMove_37 : decode cX6_readsMove 37 = .ok (.aload_n 0, 1) := by decide +kernel
theorem dX6_readsMove_38 : decode cX6_readsMove 38 = .ok (.getfield 63, 3) := by decide +kernel
theorem dX6_readsMove_41 : decode cX6_readsMove 41 = .ok (.bipush 42, 2) := by decide +kernel
theorem dX6_readsMove_43 : decode cX6_readsMove 43 = .ok (.iload_n 1, 1) := by decide +kernel
theorem dX6_readsMove_44 : decode cX6_readsMove 44 = .ok (.iadd, 1) := by decide +kernel
theorem dX6_readsMove_45 : decode cX6_readsMove 45 = .ok (.iload_n 2, 1) := by decide +kernel
theorem dX6_readsMove_46 : decode cX6_readsMove 46 = .ok (.ifCond .eq 12, 3) := by decide +kernel
theorem dX6_readsMove_49 : decode cX6_readsMove 49 = .ok (.aload_n 0, 1) := by decide +kernel
theorem dX6_readsMove_50 : decode cX6_readsMove 50 = .ok (.getfield 66, 3) := by decide +kernel
theorem dX6_readsMove_53 : decode cX6_readsMove 53 = .ok (.iconst 0, 1) := by decide +kernel
theorem dX6_readsMove_54 : decode cX6_readsMove 54 = .ok (.iaload, 1) := by decide +kernel
theorem dX6_readsMove_55 : decode cX6_readsMove 55 = .ok (.goto 4, 3) := by decide +kernel
theorem dX6_readsMove_58 : decode cX6_readsMove 58 = .ok (.iconst 0, 1) := by decide +kernel
theorem dX6_readsMove_59 : decode cX6_readsMove 59 = .ok (.iastore, 1) := by decide +kernel
theorem dX6_readsMove_60 : decode cX6_readsMove 60 = .ok (.aload_n 0, 1) := by decide +kernel
theorem dX6_readsMove_61 : decode cX6_readsMove 61 = .ok (.getfield 63, 3) := by decide +kernel
theorem dX6_readsMove_64 : decode cX6_readsMove 64 = .ok (.bipush 41, 2) := by decide +kernel
theorem dX6_readsMove_66 : decode cX6_readsMove 66 = .ok (.dup2, 1) := by decide +kernel
theorem dX6_readsMove_67 : decode cX6_readsMove 67 = .ok (.iaload, 1) := by decide +kernel
theorem dX6_readsMove_68 : decode cX6_readsMove 68 = .ok (.iconst 1, 1) := by decide +kernel
theorem dX6_readsMove_69 : decode cX6_readsMove 69 = .ok (.iadd, 1) := by decide +kernel
theorem dX6_readsMove_70 : decode cX6_readsMove 70 = .ok (.iastore, 1) := by decide +kernel
theorem dX6_readsMove_71 : decode cX6_readsMove 71 = .ok (.iload_n 2, 1) := by decide +kernel
theorem dX6_readsMove_72 : decode cX6_readsMove 72 = .ok (.ireturn, 1) := by decide +kernel
theorem dX6_readsItem_0 : decode cX6_readsItem 0 = .ok (.aload_n 0, 1) := by decide +kernel
theorem dX6_readsItem_1 : decode cX6_readsItem 1 = .ok (.bipush 108, 2) := by decide +kernel
theorem dX6_readsItem_3 : decode cX6_readsItem 3 = .ok (.bipush 101, 2) := by decide +kernel
theorem dX6_readsItem_5 : decode cX6_readsItem 5 = .ok (.bipush 97, 2) := by decide +kernel
theorem dX6_readsItem_7 : decode cX6_readsItem 7 = .ok (.bipush 118, 2) := by decide +kernel
theorem dX6_readsItem_9 : decode cX6_readsItem 9 = .ok (.bipush 101, 2) := by decide +kernel
theorem dX6_readsItem_11 : decode cX6_readsItem 11 = .ok (.iconst 0, 1) := by decide +kernel
theorem dX6_readsItem_12 : decode cX6_readsItem 12 = .ok (.invokevirtual 306, 3) := by decide +kernel
theorem dX6_readsItem_15 : decode cX6_readsItem 15 = .ok (.ifCond .eq 42, 3) := by decide +kernel
theorem dX6_readsItem_18 : decode cX6_readsItem 18 = .ok (.aload_n 0, 1) := by decide +kernel
theorem dX6_readsItem_19 : decode cX6_readsItem 19 = .ok (.invokevirtual 303, 3) := by decide +kernel
theorem dX6_readsItem_22 : decode cX6_readsItem 22 = .ok (.aload_n 0, 1) := by decide +kernel
theorem dX6_readsItem_23 : decode cX6_readsItem 23 = .ok (.iconst 0, 1) := by decide +kernel
theorem dX6_readsItem_24 : decode cX6_readsItem 24 = .ok (.iconst 1, 1) := by decide +kernel
theorem dX6_readsItem_25 : decode cX6_readsItem 25 = .ok (.aload_n 0, 1) := by decide +kernel
theorem dX6_readsItem_26 : decode cX6_readsItem 26 = .ok (.getfield 63, 3) := by decide +kernel
theorem dX6_readsItem_29 : decode cX6_readsItem 29 = .ok (.iconst 0, 1) := by decide +kernel
theorem dX6_readsItem_30 : decode cX6_readsItem 30 = .ok (.iaload, 1) := by decide +kernel
theorem dX6_readsItem_31 : decode cX6_readsItem 31 = .ok (.invokevirtual 310, 3) := by decide +kernel
theorem dX6_readsItem_34 : decode cX6_readsItem 34 = .ok (.istore_n 1, 1) := by decide +kernel
theorem dX6_readsItem_35 : decode cX6_readsItem 35 = .ok (.aload_n 0, 1) := by decide +kernel
theorem dX6_readsItem_36 : decode cX6_readsItem 36 = .ok (.getfield 63, 3) := by decide +kernel
theorem dX6_readsItem_39 : decode cX6_readsItem 39 = .ok (.iconst 1, 1) := by decide +kernel
theorem dX6_readsItem_40 : decode cX6_readsItem 40 = .ok (.iload_n 1, 1) := by decide +kernel
theorem dX6_readsItem_41 : decode cX6_readsItem 41 = .ok (.ifCond .eq 12, 3) := by decide +kernel
theorem dX6_readsItem_44 : decode cX6_readsItem 44 = .ok (.aload_n 0, 1) := by decide +kernel
theorem dX6_readsItem_45 : decode cX6_readsItem 45 = .ok (.getfield 66, 3) := by decide +kernel
theorem dX6_readsItem_48 : decode cX6_readsItem 48 = .ok (.iconst 0, 1) := by decide +kernel
theorem dX6_readsItem_49 : decode cX6_readsItem 49 = .ok (.iaload, 1) := by decide +kernel
theorem dX6_readsItem_50 : decode cX6_readsItem 50 = .ok (.goto 4, 3) := by decide +kernel
theorem dX6_readsItem_53 : decode cX6_readsItem 53 = .ok (.iconst 1, 1) := by decide +kernel
theorem dX6_readsItem_54 : decode cX6_readsItem 54 = .ok (.iastore, 1) := by decide +kernel
theorem dX6_readsItem_55 : decode cX6_readsItem 55 = .ok (.iload_n 1, 1) := by decide +kernel
theorem dX6_readsItem_56 : decode cX6_readsItem 56 = .ok (.ireturn, 1) := by decide +kernel
theorem dX6_readsItem_57 : decode cX6_readsItem 57 = .ok (.aload_n 0, 1) := by decide +kernel
theorem dX6_readsItem_58 : decode cX6_readsItem 58 = .ok (.bipush 116, 2) := by decide +kernel
theorem dX6_readsItem_60 : decode cX6_readsItem 60 = .ok (.bipush 117, 2) := by decide +kernel
theorem dX6_readsItem_62 : decode cX6_readsItem 62 = .ok (.bipush 114, 2) := by decide +kernel
theorem dX6_readsItem_64 : decode cX6_readsItem 64 = .ok (.bipush 110, 2) := by decide +kernel
theorem dX6_readsItem_66 : decode cX6_readsItem 66 = .ok (.iconst 0, 1) := by decide +kernel
theorem dX6_readsItem_67 : decode cX6_readsItem 67 = .ok (.iconst 0, 1) := by decide +kernel
theorem dX6_readsItem_68 : decode cX6_readsItem 68 = .ok (.invokevirtual 306, 3) := by decide +kernel
theorem dX6_readsItem_71 : decode cX6_readsItem 71 = .ok (.ifCond .eq 38, 3) := by decide +kernel
theorem dX6_readsItem_74 : decode cX6_readsItem 74 = .ok (.aload_n 0, 1) := by decide +kernel
theorem dX6_readsItem_75 : decode cX6_readsItem 75 = .ok (.invokevirtual 303, 3) := by decide +kernel
theorem dX6_readsItem_78 : decode cX6_readsItem 78 = .ok (.aload_n 0, 1) := by decide +kernel
theorem dX6_readsItem_79 : decode cX6_readsItem 79 = .ok (.iconst 0, 1) := by decide +kernel
theorem dX6_readsItem_80 : decode cX6_readsItem 80 = .ok (.iconst 0, 1) := by decide +kernel
theorem dX6_readsItem_81 : decode cX6_readsItem 81 = .ok (.bipush 6, 2) := by decide +kernel
theorem dX6_readsItem_83 : decode cX6_readsItem 83 = .ok (.invokevirtual 310, 3) := by decide +kernel
theorem dX6_readsItem_86 : decode cX6_readsItem 86 = .ok (.istore_n 1, 1) := by decide +kernel
theorem dX6_readsItem_87 : decode cX6_readsItem 87 = .ok (.aload_n 0, 1) := by decide +kernel
theorem dX6_readsItem_88 : decode cX6_readsItem 88 = .ok (.getfield 63, 3) := by decide +kernel
theorem dX6_readsItem_91 : decode cX6_readsItem 91 = .ok (.iconst 2, 1) := by decide +kernel
theorem dX6_readsItem_92 : decode cX6_readsItem 92 = .ok (.iload_n 1, 1) := by decide +kernel
theorem dX6_readsItem_93 : decode cX6_readsItem 93 = .ok (.ifCond .eq 12, 3) := by decide +kernel
theorem dX6_readsItem_96 : decode cX6_readsItem 96 = .ok (.aload_n 0, 1) := by decide +kernel
theorem dX6_readsItem_97 : decode cX6_readsItem 97 = .ok (.getfield 66, 3) := by decide +kernel
theorem dX6_readsItem_100 : decode cX6_readsItem 100 = .ok (.iconst 0, 1) := by decide +kernel
theorem dX6_readsItem_101 : decode cX6_readsItem 101 = .ok (.iaload, 1) := by decide +kernel
theorem dX6_readsItem_102 : decode cX6_readsItem 102 = .ok (.goto 4, 3) := by decide +kernel
theorem dX6_readsItem_105 : decode cX6_readsItem 105 = .ok (.iconst 0, 1) := by decide +kernel
theorem dX6_readsItem_106 : decode cX6_readsItem 106 = .ok (.iastore, 1) := by decide +kernel
theorem dX6_readsItem_107 : decode cX6_readsItem 107 = .ok (.iload_n 1, 1) := by decide +kernel
theorem dX6_readsItem_108 : decode cX6_readsItem 108 = .ok (.ireturn, 1) := by decide +kernel
theorem dX6_readsItem_109 : decode cX6_readsItem 109 = .ok (.aload_n 0, 1) := by decide +kernel
theorem dX6_readsItem_110 : decode cX6_readsItem 110 = .ok (.bipush 114, 2) := by decide +kernel
theorem dX6_readsItem_112 : decode cX6_readsItem 112 = .ok (.bipush 117, 2) := by decide +kernel
theorem dX6_readsItem_114 : decode cX6_readsItem 114 = .ok (.bipush 108, 2) := by decide +kernel
theorem dX6_readsItem_116 : decode cX6_readsItem 116 = .ok (.bipush 101, 2) := by decide +kernel
theorem dX6_readsItem_118 : decode cX6_readsItem 118 = .ok (.iconst 0, 1) := by decide +kernel
theorem dX6_readsItem_119 : decode cX6_readsItem 119 = .ok (.iconst 0, 1) := by decide +kernel
theorem dX6_readsItem_120 : decode cX6_readsItem 120 = .ok (.invokevirtual 306, 3) := by decide +kernel
theorem dX6_readsItem_123 : decode cX6_readsItem 123 = .ok (.ifCond .eq 62, 3) := by decide +kernel
theorem dX6_readsItem_126 : decode cX6_readsItem 126 = .ok (.aload_n 0, 1) := by decide +kernel
theorem dX6_readsItem_127 : decode cX6_readsItem 127 = .ok (.invokevirtual 303, 3) := by decide +kernel
theorem dX6_readsItem_130 : decode cX6_readsItem 130 = .ok (.aload_n 0, 1) := by decide +kernel
theorem dX6_readsItem_131 : decode cX6_readsItem 131 = .ok (.iconst 0, 1) := by decide +kernel
theorem dX6_readsItem_132 : decode cX6_readsItem 132 = .ok (.iconst 0, 1) := by decide +kernel
theorem dX6_readsItem_133 : decode cX6_readsItem 133 = .ok (.aload_n 0, 1) := by decide +kernel
theorem dX6_readsItem_134 : decode cX6_readsItem 134 = .ok (.invokevirtual 314, 3) := by decide +kernel
theorem dX6_readsItem_137 : decode cX6_readsItem 137 = .ok (.invokevirtual 310, 3) := by decide +kernel
theorem dX6_readsItem_140 : decode cX6_readsItem 140 = .ok (.ifCond .eq 17, 3) := by decide +kernel
theorem dX6_readsItem_143 : decode cX6_readsItem 143 = .ok (.aload_n 0, 1) := by decide +kernel
theorem dX6_readsItem_144 : decode cX6_readsItem 144 = .ok (.iconst 1, 1) := by decide +kernel
theorem dX6_readsItem_145 : decode cX6_readsItem 145 = .ok (.iconst 0, 1) := by decide +kernel
theorem dX6_readsItem_146 : decode cX6_readsItem 146 = .ok (.iconst 5, 1) := by decide +kernel
theorem dX6_readsItem_147 : decode cX6_readsItem 147 = .ok (.invokevirtual 310, 3) := by decide +kernel
theorem dX6_readsItem_150 : decode cX6_readsItem 150 = .ok (.ifCond .eq 7, 3) := by decide +kernel
theorem dX6_readsItem_153 : decode cX6_readsItem 153 = .ok (.iconst 1, 1) := by decide +kernel
theorem dX6_readsItem_154 : decode cX6_readsItem 154 = .ok (.goto 4, 3) := by decide +kernel
theorem dX6_readsItem_157 : decode cX6_readsItem 157 = .ok (.iconst 0, 1) := by decide +kernel
theorem dX6_readsItem_158 : decode cX6_readsItem 158 = .ok (.istore_n 1, 1) := by decide +kernel
theorem dX6_readsItem_159 : decode cX6_readsItem 159 = .ok (.iload_n 1, 1) := by decide +kernel
theorem dX6_readsItem_160 : decode cX6_readsItem 160 = .ok (.ifCond .eq 23, 3) := by decide +kernel
theorem dX6_readsItem_163 : decode cX6_readsItem 163 = .ok (.aload_n 0, 1) := by decide +kernel
theorem dX6_readsItem_164 : decode cX6_readsItem 164 = .ok (.getfield 63, 3) := by decide +kernel
theorem dX6_readsItem_167 : decode cX6_readsItem 167 = .ok (.bipush 10, 2) := by decide +kernel
theorem dX6_readsItem_169 : decode cX6_readsItem 169 = .ok (.aload_n 0, 1) := by decide +kernel
theorem dX6_readsItem_170 : decode cX6_readsItem 170 = .ok (.getfield 66, 3) := by decide +kernel
theorem dX6_readsItem_173 : decode cX6_readsItem 173 = .ok (.iconst 0, 1) := by decide +kernel
theorem dX6_readsItem_174 : decode cX6_readsItem 174 = .ok (.iaload, 1) := by decide +kernel
theorem dX6_readsItem_175 : decode cX6_readsItem 175 = .ok (.iadd, 1) := by decide +kernel
theorem dX6_readsItem_176 : decode cX6_readsItem 176 = .ok (.aload_n 0, 1) := by decide +kernel
theorem dX6_readsItem_177 : decode cX6_readsItem 177 = .ok (.getfield 66, 3) := by decide +kernel
theorem dX6_readsItem_180 : decode cX6_readsItem 180 = .ok (.iconst 1, 1) := by decide +kernel
theorem dX6_readsItem_181 : decode cX6_readsItem 181 = .ok (.iaload, 1) := by decide +kernel
theorem dX6_readsItem_182 : decode cX6_readsItem 182 = .ok (.iastore, 1) := by decide +kernel
theorem dX6_readsItem_183 : decode cX6_readsItem 183 = .ok (.iload_n 1, 1) := by decide +kernel
theorem dX6_readsItem_184 : decode cX6_readsItem 184 = .ok (.ireturn, 1) := by decide +kernel
theorem dX6_readsItem_185 : decode cX6_readsItem 185 = .ok (.aload_n 0, 1) := by decide +kernel
theorem dX6_readsItem_186 : decode cX6_readsItem 186 = .ok (.bipush 115, 2) := by decide +kernel
theorem dX6_readsItem_188 : decode cX6_readsItem 188 = .ok (.bipush 119, 2) := by decide +kernel
theorem dX6_readsItem_190 : decode cX6_readsItem 190 = .ok (.bipush 97, 2) := by decide +kernel
theorem dX6_readsItem_192 : decode cX6_readsItem 192 = .ok (.bipush 112, 2) := by decide +kernel
theorem dX6_readsItem_194 : decode cX6_readsItem 194 = .ok (.iconst 0, 1) := by decide +kernel
theorem dX6_readsItem_195 : decode cX6_readsItem 195 = .ok (.iconst 0, 1) := by decide +kernel
theorem dX6_readsItem_196 : decode cX6_readsItem 196 = .ok (.invokevirtual 306, 3) := by decide +kernel
theorem dX6_readsItem_199 : decode cX6_readsItem 199 = .ok (.ifCond .eq 8, 3) := by decide +kernel
theorem dX6_readsItem_202 : decode cX6_readsItem 202 = .ok (.aload_n 0, 1) := by decide +kernel
theorem dX6_readsItem_203 : decode cX6_readsItem 203 = .ok (.invokevirtual 317, 3) := by decide +kernel
theorem dX6_readsItem_206 : decode cX6_readsItem 206 = .ok (.ireturn, 1) := by decide +kernel
theorem dX6_readsItem_207 : decode cX6_readsItem 207 = .ok (.aload_n 0, 1) := by decide +kernel
theorem dX6_readsItem_208 : decode cX6_readsItem 208 = .ok (.bipush 107, 2) := by decide +kernel
theorem dX6_readsItem_210 : decode cX6_readsItem 210 = .ok (.bipush 110, 2) := by decide +kernel
theorem dX6_readsItem_212 : decode cX6_readsItem 212 = .ok (.bipush 111, 2) := by decide +kernel
theorem dX6_readsItem_214 : decode cX6_readsItem 214 = .ok (.bipush 119, 2) := by decide +kernel
theorem dX6_readsItem_216 : decode cX6_readsItem 216 = .ok (.bipush 110, 2) := by decide +kernel
theorem dX6_readsItem_218 : decode cX6_readsItem 218 = .ok (.iconst 0, 1) := by decide +kernel
theorem dX6_readsItem_219 : decode cX6_readsItem 219 = .ok (.invokevirtual 306, 3) := by decide +kernel
theorem dX6_readsItem_222 : decode cX6_readsItem 222 = .ok (.ifCond .eq 8, 3) := by decide +kernel
theorem dX6_readsItem_225 : decode cX6_readsItem 225 = .ok (.aload_n 0, 1) := by decide +kernel
theorem dX6_readsItem_226 : decode cX6_readsItem 226 = .ok (.invokevirtual 320, 3) := by decide +kernel
theorem dX6_readsItem_229 : decode cX6_readsItem 229 = .ok (.ireturn, 1) := by decide +kernel
theorem dX6_readsItem_230 : decode cX6_readsItem 230 = .ok (.aload_n 0, 1) := by decide +kernel
theorem dX6_readsItem_231 : decode cX6_readsItem 231 = .ok (.bipush 109, 2) := by decide +kernel
theorem dX6_readsItem_233 : decode cX6_readsItem 233 = .ok (.bipush 111, 2) := by decide +kernel
theorem dX6_readsItem_235 : decode cX6_readsItem 235 = .ok (.bipush 118, 2) := by decide +kernel
theorem dX6_readsItem_237 : decode cX6_readsItem 237 = .ok (.bipush 101, 2) := by decide +kernel
theorem dX6_readsItem_239 : decode cX6_readsItem 239 = .ok (.iconst 0, 1) := by decide +kernel
theorem dX6_readsItem_240 : decode cX6_readsItem 240 = .ok (.iconst 0, 1) := by decide +kernel
theorem dX6_readsItem_241 : decode cX6_readsItem 241 = .ok (.invokevirtual 306, 3) := by decide +kernel
theorem dX6_readsItem_244 : decode cX6_readsItem 244 = .ok (.ifCond .eq 8, 3) := by decide +kernel
theorem dX6_readsItem_247 : decode cX6_readsItem 247 = .ok (.aload_n 0, 1) := by decide +kernel
theorem dX6_readsItem_248 : decode cX6_readsItem 248 = .ok (.invokevirtual 323, 3) := by decide +kernel
theorem dX6_readsItem_251 : decode cX6_readsItem 251 = .ok (.ireturn, 1) := by decide +kernel
theorem dX6_readsItem_252 : decode cX6_readsItem 252 = .ok (.aload_n 0, 1) := by decide +kernel
theorem dX6_readsItem_253 : decode cX6_readsItem 253 = .ok (.bipush 102, 2) := by decide +kernel
theorem dX6_readsItem_255 : decode cX6_readsItem 255 = .ok (.bipush 111, 2) := by decide +kernel
theorem dX6_readsItem_257 : decode cX6_readsItem 257 = .ok (.bipush 117, 2) := by decide +kernel
theorem dX6_readsItem_259 : decode cX6_readsItem 259 = .ok (.bipush 110, 2) := by decide +kernel
theorem dX6_readsItem_261 : decode cX6_readsItem 261 = .ok (.bipush 100, 2) := by decide +kernel
theorem dX6_readsItem_263 : decode cX6_readsItem 263 = .ok (.iconst 0, 1) := by decide +kernel
theorem dX6_readsItem_264 : decode cX6_readsItem 264 = .ok (.invokevirtual 306, 3) := by decide +kernel
theorem dX6_readsItem_267 : decode cX6_readsItem 267 = .ok (.istore_n 1, 1) := by decide +kernel
theorem dX6_readsItem_268 : decode cX6_readsItem 268 = .ok (.iload_n 1, 1) := by decide +kernel
theorem dX6_readsItem_269 : decode cX6_readsItem 269 = .ok (.ifCond .ne 22, 3) := by decide +kernel
theorem dX6_readsItem_272 : decode cX6_readsItem 272 = .ok (.aload_n 0, 1) := by decide +kernel
theorem dX6_readsItem_273 : decode cX6_readsItem 273 = .ok (.bipush 109, 2) := by decide +kernel
theorem dX6_readsItem_275 : decode cX6_readsItem 275 = .ok (.bipush 105, 2) := by decide +kernel
theorem dX6_readsItem_277 : decode cX6_readsItem 277 = .ok (.bipush 115, 2) := by decide +kernel
theorem dX6_readsItem_279 : decode cX6_readsItem 279 = .ok (.bipush 115, 2) := by decide +kernel
theorem dX6_readsItem_281 : decode cX6_readsItem 281 = .ok (.bipush 101, 2) := by decide +kernel
theorem dX6_readsItem_283 : decode cX6_readsItem 283 = .ok (.bipush 100, 2) := by decide +kernel
theorem dX6_readsItem_285 : decode cX6_readsItem 285 = .ok (.invokevirtual 306, 3) := by decide +kernel
theorem dX6_readsItem_288 : decode cX6_readsItem 288 = .ok (.ifCond .eq 15, 3) := by decide +kernel
theorem dX6_readsItem_291 : decode cX6_readsItem 291 = .ok (.aload_n 0, 1) := by decide +kernel
theorem dX6_readsItem_292 : decode cX6_readsItem 292 = .ok (.iload_n 1, 1) := by decide +kernel
theorem dX6_readsItem_293 : decode cX6_readsItem 293 = .ok (.invokevirtual 326, 3) := by decide +kernel
theorem dX6_readsItem_296 : decode cX6_readsItem 296 = .ok (.ifCond .eq 7, 3) := by decide +kernel
theorem dX6_readsItem_299 : decode cX6_readsItem 299 = .ok (.iconst 1, 1) := by decide +kernel
theorem dX6_readsItem_300 : decode cX6_readsItem 300 = .ok (.goto 4, 3) := by decide +kernel
theorem dX6_readsItem_303 : decode cX6_readsItem 303 = .ok (.iconst 0, 1) := by decide +kernel
theorem dX6_readsItem_304 : decode cX6_readsItem 304 = .ok (.ireturn, 1) := by decide +kernel
theorem dX6_read_0 : decode cX6_read 0 = .ok (.aload_n 0, 1) := by decide +kernel
theorem dX6_read_1 : decode cX6_read 1 = .ok (.iconst 0, 1) := by decide +kernel
theorem dX6_read_2 : decode cX6_read 2 = .ok (.invokevirtual 300, 3) := by decide +kernel
theorem dX6_read_5 : decode cX6_read 5 = .ok (.aload_n 0, 1) := by decide +kernel
theorem dX6_read_6 : decode cX6_read 6 = .ok (.invokevirtual 330, 3) := by decide +kernel
theorem dX6_read_9 : decode cX6_read 9 = .ok (.ifCond .ne 11, 3) := by decide +kernel
theorem dX6_read_12 : decode cX6_read 12 = .ok (.bipush (-10), 2) := by decide +kernel
theorem dX6_read_14 : decode cX6_read 14 = .ok (.aload_n 0, 1) := by decide +kernel
theorem dX6_read_15 : decode cX6_read 15 = .ok (.getfield 282, 3) := by decide +kernel
theorem dX6_read_18 : decode cX6_read 18 = .ok (.isub, 1) := by decide +kernel
theorem dX6_read_19 : decode cX6_read 19 = .ok (.ireturn, 1) := by decide +kernel
theorem dX6_read_20 : decode cX6_read 20 = .ok (.aload_n 0, 1) := by decide +kernel
theorem dX6_read_21 : decode cX6_read 21 = .ok (.invokevirtual 303, 3) := by decide +kernel
theorem dX6_read_24 : decode cX6_read 24 = .ok (.iconst 1, 1) := by decide +kernel
theorem dX6_read_25 : decode cX6_read 25 = .ok (.istore_n 1, 1) := by decide +kernel
theorem dX6_read_26 : decode cX6_read 26 = .ok (.aload_n 0, 1) := by decide +kernel
theorem dX6_read_27 : decode cX6_read 27 = .ok (.getfield 288, 3) := by decide +kernel
theorem dX6_read_30 : decode cX6_read 30 = .ok (.ifCond .eq 36, 3) := by decide +kernel
theorem dX6_read_33 : decode cX6_read 33 = .ok (.aload_n 0, 1) := by decide +kernel
theorem dX6_read_34 : decode cX6_read 34 = .ok (.invokevirtual 333, 3) := by decide +kernel
theorem dX6_read_37 : decode cX6_read 37 = .ok (.ifCond .eq 11, 3) := by decide +kernel
theorem dX6_read_40 : decode cX6_read 40 = .ok (.aload_n 0, 1) := by decide +kernel
theorem dX6_read_41 : decode cX6_read 41 = .ok (.getfield 288, 3) := by decide +kernel
theorem dX6_read_44 : decode cX6_read 44 = .ok (.iconst 3, 1) := by decide +kernel
theorem dX6_read_45 : decode cX6_read 45 = .ok (.if_icmp .eq 11, 3) := by decide +kernel
theorem dX6_read_48 : decode cX6_read 48 = .ok (.bipush (-10), 2) := by decide +kernel
theorem dX6_read_50 : decode cX6_read 50 = .ok (.aload_n 0, 1) := by decide +kernel
theorem dX6_read_51 : decode cX6_read 51 = .ok (.getfield 282, 3) := by decide +kernel
theorem dX6_read_54 : decode cX6_read 54 = .ok (.isub, 1) := by decide +kernel
theorem dX6_read_55 : decode cX6_read 55 = .ok (.ireturn, 1) := by decide +kernel
theorem dX6_read_56 : decode cX6_read 56 = .ok (.aload_n 0, 1) := by decide +kernel
theorem dX6_read_57 : decode cX6_read 57 = .ok (.invokevirtual 303, 3) := by decide +kernel
theorem dX6_read_60 : decode cX6_read 60 = .ok (.iinc 1 1, 3) := by decide +kernel
theorem dX6_read_63 : decode cX6_read 63 = .ok (.goto (-37), 3) := by decide +kernel
theorem dX6_read_66 : decode cX6_read 66 = .ok (.iconst 0, 1) := by decide +kernel
theorem dX6_read_67 : decode cX6_read 67 = .ok (.istore_n 2, 1) := by decide +kernel
theorem dX6_read_68 : decode cX6_read 68 = .ok (.iload_n 2, 1) := by decide +kernel
theorem dX6_read_69 : decode cX6_read 69 = .ok (.bipush 47, 2) := by decide +kernel
theorem dX6_read_71 : decode cX6_read 71 = .ok (.if_icmp .ge 21, 3) := by decide +kernel
theorem dX6_read_74 : decode cX6_read 74 = .ok (.aload_n 0, 1) := by decide +kernel
theorem dX6_read_75 : decode cX6_read 75 = .ok (.getfield 7, 3) := by decide +kernel
theorem dX6_read_78 : decode cX6_read 78 = .ok (.iload_n 2, 1) := by decide +kernel
theorem dX6_read_79 : decode cX6_read 79 = .ok (.aload_n 0, 1) := by decide +kernel
theorem dX6_read_80 : decode cX6_read 80 = .ok (.getfield 63, 3) := by decide +kernel
theorem dX6_read_83 : decode cX6_read 83 = .ok (.iload_n 2, 1) := by decide +kernel
theorem dX6_read_84 : decode cX6_read 84 = .ok (.iaload, 1) := by decide +kernel
theorem dX6_read_85 : decode cX6_read 85 = .ok (.iastore, 1) := by decide +kernel
theorem dX6_read_86 : decode cX6_read 86 = .ok (.iinc 2 1, 3) := by decide +kernel
theorem dX6_read_89 : decode cX6_read 89 = .ok (.goto (-21), 3) := by decide +kernel
theorem dX6_read_92 : decode cX6_read 92 = .ok (.iload_n 1, 1) := by decide +kernel
theorem dX6_read_93 : decode cX6_read 93 = .ok (.ireturn, 1) := by decide +kernel
theorem dX6_part_0 : decode cX6_part 0 = .ok (.iload_n 1, 1) := by decide +kernel
theorem dX6_part_1 : decode cX6_part 1 = .ok (.ifCond .ne 10, 3) := by decide +kernel
theorem dX6_part_4 : decode cX6_part 4 = .ok (.aload_n 0, 1) := by decide +kernel
theorem dX6_part_5 : decode cX6_part 5 = .ok (.getfield 226, 3) := by decide +kernel
theorem dX6_part_8 : decode cX6_part 8 = .ok (.goto 22, 3) := by decide +kernel
theorem dX6_part_11 : decode cX6_part 11 = .ok (.iload_n 1, 1) := by decide +kernel
theorem dX6_part_12 : decode cX6_part 12 = .ok (.iconst 1, 1) := by decide +kernel
theorem dX6_part_13 : decode cX6_part 13 = .ok (.if_icmp .ne 10, 3) := by decide +kernel
theorem dX6_part_16 : decode cX6_part 16 = .ok (.aload_n 0, 1) := by decide +kernel
theorem dX6_part_17 : decode cX6_part 17 = .ok (.getfield 23, 3) := by decide +kernel
theorem dX6_part_20 : decode cX6_part 20 = .ok (.goto 10, 3) := by decide +kernel
theorem dX6_part_23 : decode cX6_part 23 = .ok (.aload_n 0, 1) := by decide +kernel
theorem dX6_part_24 : decode cX6_part 24 = .ok (.bipush (-2), 2) := by decide +kernel
theorem dX6_part_26 : decode cX6_part 26 = .ok (.invokevirtual 85, 3) := by decide +kernel
theorem dX6_part_29 : decode cX6_part 29 = .ok (.i2l, 1) := by decide +kernel
theorem dX6_part_30 : decode cX6_part 30 = .ok (.lreturn, 1) := by decide +kernel
theorem dX6_image_0 : decode cX6_image 0 = .ok (.iload_n 1, 1) := by decide +kernel
theorem dX6_image_1 : decode cX6_image 1 = .ok (.i2l, 1) := by decide +kernel
theorem dX6_image_2 : decode cX6_image 2 = .ok (.lconst 0, 1) := by decide +kernel
theorem dX6_image_3 : decode cX6_image 3 = .ok (.lconst 1, 1) := by decide +kernel
theorem dX6_image_4 : decode cX6_image 4 = .ok (.invokestatic 77, 3) := by decide +kernel
theorem dX6_image_7 : decode cX6_image 7 = .ok (.ifCond .ne 10, 3) := by decide +kernel
theorem dX6_image_10 : decode cX6_image 10 = .ok (.aload_n 0, 1) := by decide +kernel
theorem dX6_image_11 : decode cX6_image 11 = .ok (.bipush (-2), 2) := by decide +kernel
theorem dX6_image_13 : decode cX6_image 13 = .ok (.invokevirtual 85, 3) := by decide +kernel
theorem dX6_image_16 : decode cX6_image 16 = .ok (.ireturn, 1) := by decide +kernel
theorem dX6_image_17 : decode cX6_image 17 = .ok (.iconst 0, 1) := by decide +kernel
theorem dX6_image_18 : decode cX6_image 18 = .ok (.istore_n 2, 1) := by decide +kernel
theorem dX6_image_19 : decode cX6_image 19 = .ok (.iload_n 2, 1) := by decide +kernel
theorem dX6_image_20 : decode cX6_image 20 = .ok (.bipush 57, 2) := by decide +kernel
theorem dX6_image_22 : decode cX6_image 22 = .ok (.if_icmp .ge 26, 3) := by decide +kernel
theorem dX6_image_25 : decode cX6_image 25 = .ok (.aload_n 0, 1) := by decide +kernel
theorem dX6_image_26 : decode cX6_image 26 = .ok (.getfield 13, 3) := by decide +kernel
theorem dX6_image_29 : decode cX6_image 29 = .ok (.bipush 57, 2) := by decide +kernel
theorem dX6_image_31 : decode cX6_image 31 = .ok (.iload_n 1, 1) := by decide +kernel
theorem dX6_image_32 : decode cX6_image 32 = .ok (.imul, 1) := by decide +kernel
theorem dX6_image_33 : decode cX6_image 33 = .ok (.iload_n 2, 1) := by decide +kernel
theorem dX6_image_34 : decode cX6_image 34 = .ok (.iadd, 1) := by decide +kernel
theorem dX6_image_35 : decode cX6_image 35 = .ok (.aload_n 0, 1) := by decide +kernel
theorem dX6_image_36 : decode cX6_image 36 = .ok (.getfield 7, 3) := by decide +kernel
theorem dX6_image_39 : decode cX6_image 39 = .ok (.iload_n 2, 1) := by decide +kernel
theorem dX6_image_40 : decode cX6_image 40 = .ok (.iaload, 1) := by decide +kernel
theorem dX6_image_41 : decode cX6_image 41 = .ok (.iastore, 1) := by decide +kernel
theorem dX6_image_42 : decode cX6_image 42 = .ok (.iinc 2 1, 3) := by decide +kernel
theorem dX6_image_45 : decode cX6_image 45 = .ok (.goto (-26), 3) := by decide +kernel
theorem dX6_image_48 : decode cX6_image 48 = .ok (.aload_n 0, 1) := by decide +kernel
theorem dX6_image_49 : decode cX6_image 49 = .ok (.getfield 16, 3) := by decide +kernel
theorem dX6_image_52 : decode cX6_image 52 = .ok (.iload_n 1, 1) := by decide +kernel
theorem dX6_image_53 : decode cX6_image 53 = .ok (.iconst 1, 1) := by decide +kernel
theorem dX6_image_54 : decode cX6_image 54 = .ok (.bastore, 1) := by decide +kernel
theorem dX6_image_55 : decode cX6_image 55 = .ok (.iconst 1, 1) := by decide +kernel
theorem dX6_image_56 : decode cX6_image 56 = .ok (.ireturn, 1) := by decide +kernel
theorem dX6_from_0 : decode cX6_from 0 = .ok (.iload_n 1, 1) := by decide +kernel
theorem dX6_from_1 : decode cX6_from 1 = .ok (.i2l, 1) := by decide +kernel
theorem dX6_from_2 : decode cX6_from 2 = .ok (.lconst 0, 1) := by decide +kernel
theorem dX6_from_3 : decode cX6_from 3 = .ok (.lconst 1, 1) := by decide +kernel
theorem dX6_from_4 : decode cX6_from 4 = .ok (.invokestatic 77, 3) := by decide +kernel
theorem dX6_from_7 : decode cX6_from 7 = .ok (.ifCond .ne 10, 3) := by decide +kernel
theorem dX6_from_10 : decode cX6_from 10 = .ok (.aload_n 0, 1) := by decide +kernel
theorem dX6_from_11 : decode cX6_from 11 = .ok (.bipush (-2), 2) := by decide +kernel
theorem dX6_from_13 : decode cX6_from 13 = .ok (.invokevirtual 85, 3) := by decide +kernel
theorem dX6_from_16 : decode cX6_from 16 = .ok (.ireturn, 1) := by decide +kernel
theorem dX6_from_17 : decode cX6_from 17 = .ok (.aload_n 0, 1) := by decide +kernel
theorem dX6_from_18 : decode cX6_from 18 = .ok (.getfield 16, 3) := by decide +kernel
theorem dX6_from_21 : decode cX6_from 21 = .ok (.iload_n 1, 1) := by decide +kernel
theorem dX6_from_22 : decode cX6_from 22 = .ok (.baload, 1) := by decide +kernel
theorem dX6_from_23 : decode cX6_from 23 = .ok (.ifCond .ne 8, 3) := by decide +kernel
theorem dX6_from_26 : decode cX6_from 26 = .ok (.aload_n 0, 1) := by decide +kernel
theorem dX6_from_27 : decode cX6_from 27 = .ok (.invokevirtual 127, 3) := by decide +kernel
theorem dX6_from_30 : decode cX6_from 30 = .ok (.ireturn, 1) := by decide +kernel
theorem dX6_from_31 : decode cX6_from 31 = .ok (.iconst 0, 1) := by decide +kernel
theorem dX6_from_32 : decode cX6_from 32 = .ok (.istore_n 2, 1) := by decide +kernel
theorem dX6_from_33 : decode cX6_from 33 = .ok (.iload_n 2, 1) := by decide +kernel
theorem dX6_from_34 : decode cX6_from 34 = .ok (.bipush 57, 2) := by decide +kernel
theorem dX6_from_36 : decode cX6_from 36 = .ok (.if_icmp .ge 26, 3) := by decide +kernel
theorem dX6_from_39 : decode cX6_from 39 = .ok (.aload_n 0, 1) := by decide +kernel
theorem dX6_from_40 : decode cX6_from 40 = .ok (.getfield 7, 3) := by decide +kernel
theorem dX6_from_43 : decode cX6_from 43 = .ok (.iload_n 2, 1) := by decide +kernel
theorem dX6_from_44 : decode cX6_from 44 = .ok (.aload_n 0, 1) := by decide +kernel
theorem dX6_from_45 : decode cX6_from 45 = .ok (.getfield 13, 3) := by decide +kernel
theorem dX6_from_48 : decode cX6_from 48 = .ok (.bipush 57, 2) := by decide +kernel
theorem dX6_from_50 : decode cX6_from 50 = .ok (.iload_n 1, 1) := by decide +kernel
theorem dX6_from_51 : decode cX6_from 51 = .ok (.imul, 1) := by decide +kernel
theorem dX6_from_52 : decode cX6_from 52 = .ok (.iload_n 2, 1) := by decide +kernel
theorem dX6_from_53 : decode cX6_from 53 = .ok (.iadd, 1) := by decide +kernel
theorem dX6_from_54 : decode cX6_from 54 = .ok (.iaload, 1) := by decide +kernel
theorem dX6_from_55 : decode cX6_from 55 = .ok (.iastore, 1) := by decide +kernel
theorem dX6_from_56 : decode cX6_from 56 = .ok (.iinc 2 1, 3) := by decide +kernel
theorem dX6_from_59 : decode cX6_from 59 = .ok (.goto (-26), 3) := by decide +kernel
theorem dX6_from_62 : decode cX6_from 62 = .ok (.iconst 1, 1) := by decide +kernel
theorem dX6_from_63 : decode cX6_from 63 = .ok (.ireturn, 1) := by decide +kernel
theorem dX6_status_0 : decode cX6_status 0 = .ok (.iload_n 1, 1) := by decide +kernel
theorem dX6_status_1 : decode cX6_status 1 = .ok (.i2l, 1) := by decide +kernel
theorem dX6_status_2 : decode cX6_status 2 = .ok (.lconst 0, 1) := by decide +kernel
theorem dX6_status_3 : decode cX6_status 3 = .ok (.ldc2_w 81, 3) := by decide +kernel
theorem dX6_status_6 : decode cX6_status 6 = .ok (.invokestatic 77, 3) := by decide +kernel
theorem dX6_status_9 : decode cX6_status 9 = .ok (.ifCond .eq 12, 3) := by decide +kernel
theorem dX6_status_12 : decode cX6_status 12 = .ok (.aload_n 0, 1) := by decide +kernel
theorem dX6_status_13 : decode cX6_status 13 = .ok (.getfield 20, 3) := by decide +kernel
theorem dX6_status_16 : decode cX6_status 16 = .ok (.iload_n 1, 1) := by decide +kernel
theorem dX6_status_17 : decode cX6_status 17 = .ok (.iaload, 1) := by decide +kernel
theorem dX6_status_18 : decode cX6_status 18 = .ok (.goto 8, 3) := by decide +kernel
theorem dX6_status_21 : decode cX6_status 21 = .ok (.aload_n 0, 1) := by decide +kernel
theorem dX6_status_22 : decode cX6_status 22 = .ok (.iconst (-1), 1) := by decide +kernel
theorem dX6_status_23 : decode cX6_status 23 = .ok (.invokevirtual 85, 3) := by decide +kernel
theorem dX6_status_26 : decode cX6_status 26 = .ok (.ireturn, 1) := by decide +kernel
theorem dX6_counted_0 : decode cX6_counted 0 = .ok (.iload_n 1, 1) := by decide +kernel
theorem dX6_counted_1 : decode cX6_counted 1 = .ok (.tableswitch 78 0 6 #[43, 43, 43, 52, 57, 65, 73], 43) := by decide +kernel
theorem dX6_counted_44 : decode cX6_counted 44 = .ok (.aload_n 0, 1) := by decide +kernel
theorem dX6_counted_45 : decode cX6_counted 45 = .ok (.getfield 7, 3) := by decide +kernel
theorem dX6_counted_48 : decode cX6_counted 48 = .ok (.iconst 0, 1) := by decide +kernel
theorem dX6_counted_49 : decode cX6_counted 49 = .ok (.iload_n 1, 1) := by decide +kernel
theorem dX6_counted_50 : decode cX6_counted 50 = .ok (.iadd, 1) := by decide +kernel
theorem dX6_counted_51 : decode cX6_counted 51 = .ok (.iaload, 1) := by decide +kernel
theorem dX6_counted_52 : decode cX6_counted 52 = .ok (.ireturn, 1) := by decide +kernel
theorem dX6_counted_53 : decode cX6_counted 53 = .ok (.aload_n 0, 1) := by decide +kernel
theorem dX6_counted_54 : decode cX6_counted 54 = .ok (.invokevirtual 141, 3) := by decide +kernel
theorem dX6_counted_57 : decode cX6_counted 57 = .ok (.ireturn, 1) := by decide +kernel
theorem dX6_counted_58 : decode cX6_counted 58 = .ok (.aload_n 0, 1) := by decide +kernel
theorem dX6_counted_59 : decode cX6_counted 59 = .ok (.getfield 7, 3) := by decide +kernel
theorem dX6_counted_62 : decode cX6_counted 62 = .ok (.bipush 24, 2) := by decide +kernel
theorem dX6_counted_64 : decode cX6_counted 64 = .ok (.iaload, 1) := by decide +kernel
theorem dX6_counted_65 : decode cX6_counted 65 = .ok (.ireturn, 1) := by decide +kernel
theorem dX6_counted_66 : decode cX6_counted 66 = .ok (.aload_n 0, 1) := by decide +kernel
theorem dX6_counted_67 : decode cX6_counted 67 = .ok (.getfield 7, 3) := by decide +kernel
theorem dX6_counted_70 : decode cX6_counted 70 = .ok (.bipush 46, 2) := by decide +kernel
theorem dX6_counted_72 : decode cX6_counted 72 = .ok (.iaload, 1) := by decide +kernel
theorem dX6_counted_73 : decode cX6_counted 73 = .ok (.ireturn, 1) := by decide +kernel
theorem dX6_counted_74 : decode cX6_counted 74 = .ok (.aload_n 0, 1) := by decide +kernel
theorem dX6_counted_75 : decode cX6_counted 75 = .ok (.getfield 271, 3) := by decide +kernel
theorem dX6_counted_78 : decode cX6_counted 78 = .ok (.ireturn, 1) := by decide +kernel
theorem dX6_counted_79 : decode cX6_counted 79 = .ok (.aload_n 0, 1) := by decide +kernel
theorem dX6_counted_80 : decode cX6_counted 80 = .ok (.getfield 7, 3) := by decide +kernel
theorem dX6_counted_83 : decode cX6_counted 83 = .ok (.bipush 41, 2) := by decide +kernel
theorem dX6_counted_85 : decode cX6_counted 85 = .ok (.iaload, 1) := by decide +kernel
theorem dX6_counted_86 : decode cX6_counted 86 = .ok (.ireturn, 1) := by decide +kernel
theorem dX6_count_0 : decode cX6_count 0 = .ok (.iload_n 1, 1) := by decide +kernel
theorem dX6_count_1 : decode cX6_count 1 = .ok (.i2l, 1) := by decide +kernel
theorem dX6_count_2 : decode cX6_count 2 = .ok (.lconst 0, 1) := by decide +kernel
theorem dX6_count_3 : decode cX6_count 3 = .ok (.ldc2_w 83, 3) := by decide +kernel
theorem dX6_count_6 : decode cX6_count 6 = .ok (.invokestatic 77, 3) := by decide +kernel
theorem dX6_count_9 : decode cX6_count 9 = .ok (.ifCond .eq 11, 3) := by decide +kernel
theorem dX6_count_12 : decode cX6_count 12 = .ok (.aload_n 0, 1) := by decide +kernel
theorem dX6_count_13 : decode cX6_count 13 = .ok (.iload_n 1, 1) := by decide +kernel
theorem dX6_count_14 : decode cX6_count 14 = .ok (.invokevirtual 336, 3) := by decide +kernel
theorem dX6_count_17 : decode cX6_count 17 = .ok (.goto 9, 3) := by decide +kernel
theorem dX6_count_20 : decode cX6_count 20 = .ok (.aload_n 0, 1) := by decide +kernel
theorem dX6_count_21 : decode cX6_count 21 = .ok (.bipush (-2), 2) := by decide +kernel
theorem dX6_count_23 : decode cX6_count 23 = .ok (.invokevirtual 85, 3) := by decide +kernel
theorem dX6_count_26 : decode cX6_count 26 = .ok (.ireturn, 1) := by decide +kernel
theorem dX6_digest_0 : decode cX6_digest 0 = .ok (.ldc2_w 339, 3) := by decide +kernel
theorem dX6_digest_3 : decode cX6_digest 3 = .ok (.lstore_n 1, 1) := by decide +kernel
theorem dX6_digest_4 : decode cX6_digest 4 = .ok (.iconst 0, 1) := by decide +kernel
theorem dX6_digest_5 : decode cX6_digest 5 = .ok (.istore_n 3, 1) := by decide +kernel
theorem dX6_digest_6 : decode cX6_digest 6 = .ok (.iload_n 3, 1) := by decide +kernel
theorem dX6_digest_7 : decode cX6_digest 7 = .ok (.bipush 8, 2) := by decide +kernel
theorem dX6_digest_9 : decode cX6_digest 9 = .ok (.if_icmp .ge 22, 3) := by decide +kernel
theorem dX6_digest_12 : decode cX6_digest 12 = .ok (.ldc2_w 341, 3) := by decide +kernel
theorem dX6_digest_15 : decode cX6_digest 15 = .ok (.lload_n 1, 1) := by decide +kernel
theorem dX6_digest_16 : decode cX6_digest 16 = .ok (.lmul, 1) := by decide +kernel
theorem dX6_digest_17 : decode cX6_digest 17 = .ok (.aload_n 0, 1) := by decide +kernel
theorem dX6_digest_18 : decode cX6_digest 18 = .ok (.iload_n 3, 1) := by decide +kernel
theorem dX6_digest_19 : decode cX6_digest 19 = .ok (.invokevirtual 336, 3) := by decide +kernel
theorem dX6_digest_22 : decode cX6_digest 22 = .ok (.i2l, 1) := by decide +kernel
theorem dX6_digest_23 : decode cX6_digest 23 = .ok (.ladd, 1) := by decide +kernel
theorem dX6_digest_24 : decode cX6_digest 24 = .ok (.lstore_n 1, 1) := by decide +kernel
theorem dX6_digest_25 : decode cX6_digest 25 = .ok (.iinc 3 1, 3) := by decide +kernel
theorem dX6_digest_28 : decode cX6_digest 28 = .ok (.goto (-22), 3) := by decide +kernel
theorem dX6_digest_31 : decode cX6_digest 31 = .ok (.iconst 0, 1) := by decide +kernel
theorem dX6_digest_32 : decode cX6_digest 32 = .ok (.istore_n 3, 1) := by decide +kernel
theorem dX6_digest_33 : decode cX6_digest 33 = .ok (.iload_n 3, 1) := by decide +kernel
theorem dX6_digest_34 : decode cX6_digest 34 = .ok (.aload_n 0, 1) := by decide +kernel
theorem dX6_digest_35 : decode cX6_digest 35 = .ok (.invokevirtual 73, 3) := by decide +kernel
theorem dX6_digest_38 : decode cX6_digest 38 = .ok (.if_icmp .ge 40, 3) := by decide +kernel
theorem dX6_digest_41 : decode cX6_digest 41 = .ok (.ldc2_w 341, 3) := by decide +kernel
theorem dX6_digest_44 : decode cX6_digest 44 = .ok (.ldc2_w 341, 3) := by decide +kernel
theorem dX6_digest_47 : decode cX6_digest 47 = .ok (.lload_n 1, 1) := by decide +kernel
theorem dX6_digest_48 : decode cX6_digest 48 = .ok (.lmul, 1) := by decide +kernel
theorem dX6_digest_49 : decode cX6_digest 49 = .ok (.aload_n 0, 1) := by decide +kernel
theorem dX6_digest_50 : decode cX6_digest 50 = .ok (.getfield 7, 3) := by decide +kernel
theorem dX6_digest_53 : decode cX6_digest 53 = .ok (.iconst 3, 1) := by decide +kernel
theorem dX6_digest_54 : decode cX6_digest 54 = .ok (.iload_n 3, 1) := by decide +kernel
theorem dX6_digest_55 : decode cX6_digest 55 = .ok (.iadd, 1) := by decide +kernel
theorem dX6_digest_56 : decode cX6_digest 56 = .ok (.iaload, 1) := by decide +kernel
theorem dX6_digest_57 : decode cX6_digest 57 = .ok (.i2l, 1) := by decide +kernel
theorem dX6_digest_58 : decode cX6_digest 58 = .ok (.ladd, 1) := by decide +kernel
theorem dX6_digest_59 : decode cX6_digest 59 = .ok (.lmul, 1) := by decide +kernel
theorem dX6_digest_60 : decode cX6_digest 60 = .ok (.aload_n 0, 1) := by decide +kernel
theorem dX6_digest_61 : decode cX6_digest 61 = .ok (.getfield 7, 3) := by decide +kernel
theorem dX6_digest_64 : decode cX6_digest 64 = .ok (.bipush 17, 2) := by decide +kernel
theorem dX6_digest_66 : decode cX6_digest 66 = .ok (.iload_n 3, 1) := by decide +kernel
theorem dX6_digest_67 : decode cX6_digest 67 = .ok (.iadd, 1) := by decide +kernel
theorem dX6_digest_68 : decode cX6_digest 68 = .ok (.iaload, 1) := by decide +kernel
theorem dX6_digest_69 : decode cX6_digest 69 = .ok (.i2l, 1) := by decide +kernel
theorem dX6_digest_70 : decode cX6_digest 70 = .ok (.ladd, 1) := by decide +kernel
theorem dX6_digest_71 : decode cX6_digest 71 = .ok (.lstore_n 1, 1) := by decide +kernel
theorem dX6_digest_72 : decode cX6_digest 72 = .ok (.iinc 3 1, 3) := by decide +kernel
theorem dX6_digest_75 : decode cX6_digest 75 = .ok (.goto (-42), 3) := by decide +kernel
theorem dX6_digest_78 : decode cX6_digest 78 = .ok (.iconst 0, 1) := by decide +kernel
theorem dX6_digest_79 : decode cX6_digest 79 = .ok (.istore_n 3, 1) := by decide +kernel
theorem dX6_digest_80 : decode cX6_digest 80 = .ok (.iload_n 3, 1) := by decide +kernel
theorem dX6_digest_81 : decode cX6_digest 81 = .ok (.aload_n 0, 1) := by decide +kernel
theorem dX6_digest_82 : decode cX6_digest 82 = .ok (.invokevirtual 73, 3) := by decide +kernel
theorem dX6_digest_85 : decode cX6_digest 85 = .ok (.if_icmp .ge 26, 3) := by decide +kernel
theorem dX6_digest_88 : decode cX6_digest 88 = .ok (.ldc2_w 341, 3) := by decide +kernel
theorem dX6_digest_91 : decode cX6_digest 91 = .ok (.lload_n 1, 1) := by decide +kernel
theorem dX6_digest_92 : decode cX6_digest 92 = .ok (.lmul, 1) := by decide +kernel
theorem dX6_digest_93 : decode cX6_digest 93 = .ok (.aload_n 0, 1) := by decide +kernel
theorem dX6_digest_94 : decode cX6_digest 94 = .ok (.getfield 7, 3) := by decide +kernel
theorem dX6_digest_97 : decode cX6_digest 97 = .ok (.bipush 10, 2) := by decide +kernel
theorem dX6_digest_99 : decode cX6_digest 99 = .ok (.iload_n 3, 1) := by decide +kernel
theorem dX6_digest_100 : decode cX6_digest 100 = .ok (.iadd, 1) := by decide +kernel
theorem dX6_digest_101 : decode cX6_digest 101 = .ok (.iaload, 1) := by decide +kernel
theorem dX6_digest_102 : decode cX6_digest 102 = .ok (.i2l, 1) := by decide +kernel
theorem dX6_digest_103 : decode cX6_digest 103 = .ok (.ladd, 1) := by decide +kernel
theorem dX6_digest_104 : decode cX6_digest 104 = .ok (.lstore_n 1, 1) := by decide +kernel
theorem dX6_digest_105 : decode cX6_digest 105 = .ok (.iinc 3 1, 3) := by decide +kernel
theorem dX6_digest_108 : decode cX6_digest 108 = .ok (.goto (-28), 3) := by decide +kernel
theorem dX6_digest_111 : decode cX6_digest 111 = .ok (.iconst 0, 1) := by decide +kernel
theorem dX6_digest_112 : decode cX6_digest 112 = .ok (.istore_n 3, 1) := by decide +kernel
theorem dX6_digest_113 : decode cX6_digest 113 = .ok (.iload_n 3, 1) := by decide +kernel
theorem dX6_digest_114 : decode cX6_digest 114 = .ok (.iconst 2, 1) := by decide +kernel
theorem dX6_digest_115 : decode cX6_digest 115 = .ok (.aload_n 0, 1) := by decide +kernel
theorem dX6_digest_116 : decode cX6_digest 116 = .ok (.getfield 7, 3) := by decide +kernel
theorem dX6_digest_119 : decode cX6_digest 119 = .ok (.bipush 24, 2) := by decide +kernel
theorem dX6_digest_121 : decode cX6_digest 121 = .ok (.iaload, 1) := by decide +kernel
theorem dX6_digest_122 : decode cX6_digest 122 = .ok (.imul, 1) := by decide +kernel
theorem dX6_digest_123 : decode cX6_digest 123 = .ok (.if_icmp .ge 26, 3) := by decide +kernel
theorem dX6_digest_126 : decode cX6_digest 126 = .ok (.ldc2_w 341, 3) := by decide +kernel
theorem dX6_digest_129 : decode cX6_digest 129 = .ok (.lload_n 1, 1) := by decide +kernel
theorem dX6_digest_130 : decode cX6_digest 130 = .ok (.lmul, 1) := by decide +kernel
theorem dX6_digest_131 : decode cX6_digest 131 = .ok (.aload_n 0, 1) := by decide +kernel
theorem dX6_digest_132 : decode cX6_digest 132 = .ok (.getfield 7, 3) := by decide +kernel
theorem dX6_digest_135 : decode cX6_digest 135 = .ok (.bipush 25, 2) := by decide +kernel
theorem dX6_digest_137 : decode cX6_digest 137 = .ok (.iload_n 3, 1) := by decide +kernel
theorem dX6_digest_138 : decode cX6_digest 138 = .ok (.iadd, 1) := by decide +kernel
theorem dX6_digest_139 : decode cX6_digest 139 = .ok (.iaload, 1) := by decide +kernel
theorem dX6_digest_140 : decode cX6_digest 140 = .ok (.i2l, 1) := by decide +kernel
theorem dX6_digest_141 : decode cX6_digest 141 = .ok (.ladd, 1) := by decide +kernel
theorem dX6_digest_142 : decode cX6_digest 142 = .ok (.lstore_n 1, 1) := by decide +kernel
theorem dX6_digest_143 : decode cX6_digest 143 = .ok (.iinc 3 1, 3) := by decide +kernel
theorem dX6_digest_146 : decode cX6_digest 146 = .ok (.goto (-33), 3) := by decide +kernel
theorem dX6_digest_149 : decode cX6_digest 149 = .ok (.iconst 0, 1) := by decide +kernel
theorem dX6_digest_150 : decode cX6_digest 150 = .ok (.istore_n 3, 1) := by decide +kernel
theorem dX6_digest_151 : decode cX6_digest 151 = .ok (.iload_n 3, 1) := by decide +kernel
theorem dX6_digest_152 : decode cX6_digest 152 = .ok (.aload_n 0, 1) := by decide +kernel
theorem dX6_digest_153 : decode cX6_digest 153 = .ok (.getfield 7, 3) := by decide +kernel
theorem dX6_digest_156 : decode cX6_digest 156 = .ok (.bipush 41, 2) := by decide +kernel
theorem dX6_digest_158 : decode cX6_digest 158 = .ok (.iaload, 1) := by decide +kernel
theorem dX6_digest_159 : decode cX6_digest 159 = .ok (.if_icmp .ge 26, 3) := by decide +kernel
theorem dX6_digest_162 : decode cX6_digest 162 = .ok (.ldc2_w 341, 3) := by decide +kernel
theorem dX6_digest_165 : decode cX6_digest 165 = .ok (.lload_n 1, 1) := by decide +kernel
theorem dX6_digest_166 : decode cX6_digest 166 = .ok (.lmul, 1) := by decide +kernel
theorem dX6_digest_167 : decode cX6_digest 167 = .ok (.aload_n 0, 1) := by decide +kernel
theorem dX6_digest_168 : decode cX6_digest 168 = .ok (.getfield 7, 3) := by decide +kernel
theorem dX6_digest_171 : decode cX6_digest 171 = .ok (.bipush 42, 2) := by decide +kernel
theorem dX6_digest_173 : decode cX6_digest 173 = .ok (.iload_n 3, 1) := by decide +kernel
theorem dX6_digest_174 : decode cX6_digest 174 = .ok (.iadd, 1) := by decide +kernel
theorem dX6_digest_175 : decode cX6_digest 175 = .ok (.iaload, 1) := by decide +kernel
theorem dX6_digest_176 : decode cX6_digest 176 = .ok (.i2l, 1) := by decide +kernel
theorem dX6_digest_177 : decode cX6_digest 177 = .ok (.ladd, 1) := by decide +kernel
theorem dX6_digest_178 : decode cX6_digest 178 = .ok (.lstore_n 1, 1) := by decide +kernel
theorem dX6_digest_179 : decode cX6_digest 179 = .ok (.iinc 3 1, 3) := by decide +kernel
theorem dX6_digest_182 : decode cX6_digest 182 = .ok (.goto (-31), 3) := by decide +kernel
theorem dX6_digest_185 : decode cX6_digest 185 = .ok (.ldc2_w 341, 3) := by decide +kernel
theorem dX6_digest_188 : decode cX6_digest 188 = .ok (.ldc2_w 341, 3) := by decide +kernel
theorem dX6_digest_191 : decode cX6_digest 191 = .ok (.lload_n 1, 1) := by decide +kernel
theorem dX6_digest_192 : decode cX6_digest 192 = .ok (.lmul, 1) := by decide +kernel
theorem dX6_digest_193 : decode cX6_digest 193 = .ok (.aload_n 0, 1) := by decide +kernel
theorem dX6_digest_194 : decode cX6_digest 194 = .ok (.getfield 226, 3) := by decide +kernel
theorem dX6_digest_197 : decode cX6_digest 197 = .ok (.ladd, 1) := by decide +kernel
theorem dX6_digest_198 : decode cX6_digest 198 = .ok (.lmul, 1) := by decide +kernel
theorem dX6_digest_199 : decode cX6_digest 199 = .ok (.aload_n 0, 1) := by decide +kernel
theorem dX6_digest_200 : decode cX6_digest 200 = .ok (.getfield 23, 3) := by decide +kernel
theorem dX6_digest_203 : decode cX6_digest 203 = .ok (.ladd, 1) := by decide +kernel
theorem dX6_digest_204 : decode cX6_digest 204 = .ok (.lreturn, 1) := by decide +kernel
