theorem dX8_fault_131 : decode cX8_fault 131 = .ok (.return_, 1) := by decide +kernel
theorem dX8_below_0 : decode cX8_below 0 = .ok (.iload_n 1, 1) := by decide +kernel
theorem dX8_below_1 : decode cX8_below 1 = .ok (.ldc 132, 2) := by decide +kernel
theorem dX8_below_3 : decode cX8_below 3 = .ok (.iadd, 1) := by decide +kernel
theorem dX8_below_4 : decode cX8_below 4 = .ok (.iload_n 2, 1) := by decide +kernel
theorem dX8_below_5 : decode cX8_below 5 = .ok (.ldc 132, 2) := by decide +kernel
theorem dX8_below_7 : decode cX8_below 7 = .ok (.iadd, 1) := by decide +kernel
theorem dX8_below_8 : decode cX8_below 8 = .ok (.if_icmp .ge 7, 3) := by decide +kernel
theorem dX8_below_11 : decode cX8_below 11 = .ok (.iconst 1, 1) := by decide +kernel
theorem dX8_below_12 : decode cX8_below 12 = .ok (.goto 4, 3) := by decide +kernel
theorem dX8_below_15 : decode cX8_below 15 = .ok (.iconst 0, 1) := by decide +kernel
theorem dX8_below_16 : decode cX8_below 16 = .ok (.ireturn, 1) := by decide +kernel
theorem dX8_sum_0 : decode cX8_sum 0 = .ok (.iload_n 1, 1) := by decide +kernel
theorem dX8_sum_1 : decode cX8_sum 1 = .ok (.tableswitch 111 0 6 #[43, 58, 62, 73, 88, 92, 107], 43) := by decide +kernel
theorem dX8_sum_44 : decode cX8_sum 44 = .ok (.iload 4, 2) := by decide +kernel
theorem dX8_sum_46 : decode cX8_sum 46 = .ok (.ifCond .eq 9, 3) := by decide +kernel
theorem dX8_sum_49 : decode cX8_sum 49 = .ok (.iload_n 2, 1) := by decide +kernel
theorem dX8_sum_50 : decode cX8_sum 50 = .ok (.iload_n 3, 1) := by decide +kernel
theorem dX8_sum_51 : decode cX8_sum 51 = .ok (.isub, 1) := by decide +kernel
theorem dX8_sum_52 : decode cX8_sum 52 = .ok (.goto 6, 3) := by decide +kernel
theorem dX8_sum_55 : decode cX8_sum 55 = .ok (.iload_n 2, 1) := by decide +kernel
theorem dX8_sum_56 : decode cX8_sum 56 = .ok (.iload_n 3, 1) := by decide +kernel
theorem dX8_sum_57 : decode cX8_sum 57 = .ok (.iadd, 1) := by decide +kernel
theorem dX8_sum_58 : decode cX8_sum 58 = .ok (.ireturn, 1) := by decide +kernel
theorem dX8_sum_59 : decode cX8_sum 59 = .ok (.iload_n 2, 1) := by decide +kernel
theorem dX8_sum_60 : decode cX8_sum 60 = .ok (.iload_n 3, 1) := by decide +kernel
theorem dX8_sum_61 : decode cX8_sum 61 = .ok (.ishl, 1) := by decide +kernel
theorem dX8_sum_62 : decode cX8_sum 62 = .ok (.ireturn, 1) := by decide +kernel
theorem dX8_sum_63 : decode cX8_sum 63 = .ok (.iload_n 2, 1) := by decide +kernel
theorem dX8_sum_64 : decode cX8_sum 64 = .ok (.iload_n 3, 1) := by decide +kernel
theorem dX8_sum_65 : decode cX8_sum 65 = .ok (.if_icmp .ge 7, 3) := by decide +kernel
theorem dX8_sum_68 : decode cX8_sum 68 = .ok (.iconst 1, 1) := by decide +kernel
theorem dX8_sum_69 : decode cX8_sum 69 = .ok (.goto 4, 3) := by decide +kernel
theorem dX8_sum_72 : decode cX8_sum 72 = .ok (.iconst 0, 1) := by decide +kernel
theorem dX8_sum_73 : decode cX8_sum 73 = .ok (.ireturn, 1) := by decide +kernel
theorem dX8_sum_74 : decode cX8_sum 74 = .ok (.aload_n 0, 1) := by decide +kernel
theorem dX8_sum_75 : decode cX8_sum 75 = .ok (.iload_n 2, 1) := by decide +kernel
theorem dX8_sum_76 : decode cX8_sum 76 = .ok (.iload_n 3, 1) := by decide +kernel
theorem dX8_sum_77 : decode cX8_sum 77 = .ok (.invokevirtual 133, 3) := by decide +kernel
theorem dX8_sum_80 : decode cX8_sum 80 = .ok (.ifCond .eq 7, 3) := by decide +kernel
theorem dX8_sum_83 : decode cX8_sum 83 = .ok (.iconst 1, 1) := by decide +kernel
theorem dX8_sum_84 : decode cX8_sum 84 = .ok (.goto 4, 3) := by decide +kernel
theorem dX8_sum_87 : decode cX8_sum 87 = .ok (.iconst 0, 1) := by decide +kernel
theorem dX8_sum_88 : decode cX8_sum 88 = .ok (.ireturn, 1) := by decide +kernel
theorem dX8_sum_89 : decode cX8_sum 89 = .ok (.iload_n 2, 1) := by decide +kernel
theorem dX8_sum_90 : decode cX8_sum 90 = .ok (.iload_n 3, 1) := by decide +kernel
theorem dX8_sum_91 : decode cX8_sum 91 = .ok (.ixor, 1) := by decide +kernel
theorem dX8_sum_92 : decode cX8_sum 92 = .ok (.ireturn, 1) := by decide +kernel
theorem dX8_sum_93 : decode cX8_sum 93 = .ok (.iload 4, 2) := by decide +kernel
theorem dX8_sum_95 : decode cX8_sum 95 = .ok (.ifCond .eq 9, 3) := by decide +kernel
theorem dX8_sum_98 : decode cX8_sum 98 = .ok (.iload_n 2, 1) := by decide +kernel
theorem dX8_sum_99 : decode cX8_sum 99 = .ok (.iload_n 3, 1) := by decide +kernel
theorem dX8_sum_100 : decode cX8_sum 100 = .ok (.ishr, 1) := by decide +kernel
theorem dX8_sum_101 : decode cX8_sum 101 = .ok (.goto 6, 3) := by decide +kernel
theorem dX8_sum_104 : decode cX8_sum 104 = .ok (.iload_n 2, 1) := by decide +kernel
theorem dX8_sum_105 : decode cX8_sum 105 = .ok (.iload_n 3, 1) := by decide +kernel
theorem dX8_sum_106 : decode cX8_sum 106 = .ok (.iushr, 1) := by decide +kernel
theorem dX8_sum_107 : decode cX8_sum 107 = .ok (.ireturn, 1) := by decide +kernel
theorem dX8_sum_108 : decode cX8_sum 108 = .ok (.iload_n 2, 1) := by decide +kernel
theorem dX8_sum_109 : decode cX8_sum 109 = .ok (.iload_n 3, 1) := by decide +kernel
theorem dX8_sum_110 : decode cX8_sum 110 = .ok (.ior, 1) := by decide +kernel
theorem dX8_sum_111 : decode cX8_sum 111 = .ok (.ireturn, 1) := by decide +kernel
theorem dX8_sum_112 : decode cX8_sum 112 = .ok (.iload_n 2, 1) := by decide +kernel
theorem dX8_sum_113 : decode cX8_sum 113 = .ok (.iload_n 3, 1) := by decide +kernel
theorem dX8_sum_114 : decode cX8_sum 114 = .ok (.iand, 1) := by decide +kernel
theorem dX8_sum_115 : decode cX8_sum 115 = .ok (.ireturn, 1) := by decide +kernel
theorem dX8_goes_0 : decode cX8_goes 0 = .ok (.iload_n 1, 1) := by decide +kernel
theorem dX8_goes_1 : decode cX8_goes 1 = .ok (.iconst 2, 1) := by decide +kernel
theorem dX8_goes_2 : decode cX8_goes 2 = .ok (.if_icmp .ge 16, 3) := by decide +kernel
theorem dX8_goes_5 : decode cX8_goes 5 = .ok (.iload_n 2, 1) := by decide +kernel
theorem dX8_goes_6 : decode cX8_goes 6 = .ok (.iload_n 3, 1) := by decide +kernel
theorem dX8_goes_7 : decode cX8_goes 7 = .ok (.if_icmp .ne 7, 3) := by decide +kernel
theorem dX8_goes_10 : decode cX8_goes 10 = .ok (.iconst 1, 1) := by decide +kernel
theorem dX8_goes_11 : decode cX8_goes 11 = .ok (.goto 32, 3) := by decide +kernel
theorem dX8_goes_14 : decode cX8_goes 14 = .ok (.iconst 0, 1) := by decide +kernel
theorem dX8_goes_15 : decode cX8_goes 15 = .ok (.goto 28, 3) := by decide +kernel
theorem dX8_goes_18 : decode cX8_goes 18 = .ok (.iload_n 1, 1) := by decide +kernel
theorem dX8_goes_19 : decode cX8_goes 19 = .ok (.bipush 6, 2) := by decide +kernel
theorem dX8_goes_21 : decode cX8_goes 21 = .ok (.if_icmp .ge 16, 3) := by decide +kernel
theorem dX8_goes_24 : decode cX8_goes 24 = .ok (.iload_n 2, 1) := by decide +kernel
theorem dX8_goes_25 : decode cX8_goes 25 = .ok (.iload_n 3, 1) := by decide +kernel
theorem dX8_goes_26 : decode cX8_goes 26 = .ok (.if_icmp .ge 7, 3) := by decide +kernel
theorem dX8_goes_29 : decode cX8_goes 29 = .ok (.iconst 1, 1) := by decide +kernel
theorem dX8_goes_30 : decode cX8_goes 30 = .ok (.goto 13, 3) := by decide +kernel
theorem dX8_goes_33 : decode cX8_goes 33 = .ok (.iconst 0, 1) := by decide +kernel
theorem dX8_goes_34 : decode cX8_goes 34 = .ok (.goto 9, 3) := by decide +kernel
theorem dX8_goes_37 : decode cX8_goes 37 = .ok (.aload_n 0, 1) := by decide +kernel
theorem dX8_goes_38 : decode cX8_goes 38 = .ok (.iload_n 2, 1) := by decide +kernel
theorem dX8_goes_39 : decode cX8_goes 39 = .ok (.iload_n 3, 1) := by decide +kernel
theorem dX8_goes_40 : decode cX8_goes 40 = .ok (.invokevirtual 133, 3) := by decide +kernel
theorem dX8_goes_43 : decode cX8_goes 43 = .ok (.istore 4, 2) := by decide +kernel
theorem dX8_goes_45 : decode cX8_goes 45 = .ok (.iload 4, 2) := by decide +kernel
theorem dX8_goes_47 : decode cX8_goes 47 = .ok (.iload_n 1, 1) := by decide +kernel
theorem dX8_goes_48 : decode cX8_goes 48 = .ok (.iconst 2, 1) := by decide +kernel
theorem dX8_goes_49 : decode cX8_goes 49 = .ok (.irem, 1) := by decide +kernel
theorem dX8_goes_50 : decode cX8_goes 50 = .ok (.ifCond .ne 7, 3) := by decide +kernel
theorem dX8_goes_53 : decode cX8_goes 53 = .ok (.iconst 1, 1) := by decide +kernel
theorem dX8_goes_54 : decode cX8_goes 54 = .ok (.goto 4, 3) := by decide +kernel
theorem dX8_goes_57 : decode cX8_goes 57 = .ok (.iconst 0, 1) := by decide +kernel
theorem dX8_goes_58 : decode cX8_goes 58 = .ok (.if_icmp .ne 7, 3) := by decide +kernel
theorem dX8_goes_61 : decode cX8_goes 61 = .ok (.iconst 1, 1) := by decide +kernel
theorem dX8_goes_62 : decode cX8_goes 62 = .ok (.goto 4, 3) := by decide +kernel
theorem dX8_goes_65 : decode cX8_goes 65 = .ok (.iconst 0, 1) := by decide +kernel
theorem dX8_goes_66 : decode cX8_goes 66 = .ok (.ireturn, 1) := by decide +kernel
theorem dX8_put_0 : decode cX8_put 0 = .ok (.iload_n 2, 1) := by decide +kernel
theorem dX8_put_1 : decode cX8_put 1 = .ok (.ifCond .eq 15, 3) := by decide +kernel
theorem dX8_put_4 : decode cX8_put 4 = .ok (.aload_n 0, 1) := by decide +kernel
theorem dX8_put_5 : decode cX8_put 5 = .ok (.getfield 16, 3) := by decide +kernel
theorem dX8_put_8 : decode cX8_put 8 = .ok (.iload_n 1, 1) := by decide +kernel
theorem dX8_put_9 : decode cX8_put 9 = .ok (.bipush 16, 2) := by decide +kernel
theorem dX8_put_11 : decode cX8_put 11 = .ok (.imul, 1) := by decide +kernel
theorem dX8_put_12 : decode cX8_put 12 = .ok (.iload_n 2, 1) := by decide +kernel
theorem dX8_put_13 : decode cX8_put 13 = .ok (.iadd, 1) := by decide +kernel
theorem dX8_put_14 : decode cX8_put 14 = .ok (.iload_n 3, 1) := by decide +kernel
theorem dX8_put_15 : decode cX8_put 15 = .ok (.iastore, 1) := by decide +kernel
theorem dX8_put_16 : decode cX8_put 16 = .ok (.return_, 1) := by decide +kernel
theorem dX8_known_0 : decode cX8_known 0 = .ok (.iload_n 1, 1) := by decide +kernel
theorem dX8_known_1 : decode cX8_known 1 = .ok (.bipush 127, 2) := by decide +kernel
theorem dX8_known_3 : decode cX8_known 3 = .ok (.iand, 1) := by decide +kernel
theorem dX8_known_4 : decode cX8_known 4 = .ok (.istore_n 2, 1) := by decide +kernel
theorem dX8_known_5 : decode cX8_known 5 = .ok (.iload_n 1, 1) := by decide +kernel
theorem dX8_known_6 : decode cX8_known 6 = .ok (.bipush 12, 2) := by decide +kernel
theorem dX8_known_8 : decode cX8_known 8 = .ok (.iushr, 1) := by decide +kernel
theorem dX8_known_9 : decode cX8_known 9 = .ok (.bipush 7, 2) := by decide +kernel
theorem dX8_known_11 : decode cX8_known 11 = .ok (.iand, 1) := by decide +kernel
theorem dX8_known_12 : decode cX8_known 12 = .ok (.istore_n 3, 1) := by decide +kernel
theorem dX8_known_13 : decode cX8_known 13 = .ok (.iload_n 1, 1) := by decide +kernel
theorem dX8_known_14 : decode cX8_known 14 = .ok (.bipush 25, 2) := by decide +kernel
theorem dX8_known_16 : decode cX8_known 16 = .ok (.iushr, 1) := by decide +kernel
theorem dX8_known_17 : decode cX8_known 17 = .ok (.istore 4, 2) := by decide +kernel
theorem dX8_known_19 : decode cX8_known 19 = .ok (.iload_n 1, 1) := by decide +kernel
theorem dX8_known_20 : decode cX8_known 20 = .ok (.bipush 7, 2) := by decide +kernel
theorem dX8_known_22 : decode cX8_known 22 = .ok (.iushr, 1) := by decide +kernel
theorem dX8_known_23 : decode cX8_known 23 = .ok (.bipush 31, 2) := by decide +kernel
theorem dX8_known_25 : decode cX8_known 25 = .ok (.iand, 1) := by decide +kernel
theorem dX8_known_26 : decode cX8_known 26 = .ok (.bipush 16, 2) := by decide +kernel
theorem dX8_known_28 : decode cX8_known 28 = .ok (.if_icmp .ge 7, 3) := by decide +kernel
theorem dX8_known_31 : decode cX8_known 31 = .ok (.iconst 1, 1) := by decide +kernel
theorem dX8_known_32 : decode cX8_known 32 = .ok (.goto 4, 3) := by decide +kernel
theorem dX8_known_35 : decode cX8_known 35 = .ok (.iconst 0, 1) := by decide +kernel
theorem dX8_known_36 : decode cX8_known 36 = .ok (.istore 5, 2) := by decide +kernel
theorem dX8_known_38 : decode cX8_known 38 = .ok (.iload_n 1, 1) := by decide +kernel
theorem dX8_known_39 : decode cX8_known 39 = .ok (.bipush 15, 2) := by decide +kernel
theorem dX8_known_41 : decode cX8_known 41 = .ok (.iushr, 1) := by decide +kernel
theorem dX8_known_42 : decode cX8_known 42 = .ok (.bipush 31, 2) := by decide +kernel
theorem dX8_known_44 : decode cX8_known 44 = .ok (.iand, 1) := by decide +kernel
theorem dX8_known_45 : decode cX8_known 45 = .ok (.bipush 16, 2) := by decide +kernel
theorem dX8_known_47 : decode cX8_known 47 = .ok (.if_icmp .ge 7, 3) := by decide +kernel
theorem dX8_known_50 : decode cX8_known 50 = .ok (.iconst 1, 1) := by decide +kernel
theorem dX8_known_51 : decode cX8_known 51 = .ok (.goto 4, 3) := by decide +kernel
theorem dX8_known_54 : decode cX8_known 54 = .ok (.iconst 0, 1) := by decide +kernel
theorem dX8_known_55 : decode cX8_known 55 = .ok (.istore 6, 2) := by decide +kernel
theorem dX8_known_57 : decode cX8_known 57 = .ok (.iload_n 1, 1) := by decide +kernel
theorem dX8_known_58 : decode cX8_known 58 = .ok (.bipush 20, 2) := by decide +kernel
theorem dX8_known_60 : decode cX8_known 60 = .ok (.iushr, 1) := by decide +kernel
theorem dX8_known_61 : decode cX8_known 61 = .ok (.bipush 31, 2) := by decide +kernel
theorem dX8_known_63 : decode cX8_known 63 = .ok (.iand, 1) := by decide +kernel
theorem dX8_known_64 : decode cX8_known 64 = .ok (.bipush 16, 2) := by decide +kernel
theorem dX8_known_66 : decode cX8_known 66 = .ok (.if_icmp .ge 7, 3) := by decide +kernel
theorem dX8_known_69 : decode cX8_known 69 = .ok (.iconst 1, 1) := by decide +kernel
theorem dX8_known_70 : decode cX8_known 70 = .ok (.goto 4, 3) := by decide +kernel
theorem dX8_known_73 : decode cX8_known 73 = .ok (.iconst 0, 1) := by decide +kernel
theorem dX8_known_74 : decode cX8_known 74 = .ok (.istore 7, 2) := by decide +kernel
theorem dX8_known_76 : decode cX8_known 76 = .ok (.iload_n 2, 1) := by decide +kernel
theorem dX8_known_77 : decode cX8_known 77 = .ok (.lookupswitch 259 #[(3, 132), (19, 174), (23, 83), (35, 153), (51, 217), (55, 83), (99, 106), (103, 86), (111, 83)], 83) := by decide +kernel
theorem dX8_known_160 : decode cX8_known 160 = .ok (.iload 5, 2) := by decide +kernel
theorem dX8_known_162 : decode cX8_known 162 = .ok (.ireturn, 1) := by decide +kernel
theorem dX8_known_163 : decode cX8_known 163 = .ok (.iload_n 3, 1) := by decide +kernel
theorem dX8_known_164 : decode cX8_known 164 = .ok (.ifCond .ne 17, 3) := by decide +kernel
theorem dX8_known_167 : decode cX8_known 167 = .ok (.iload 5, 2) := by decide +kernel
theorem dX8_known_169 : decode cX8_known 169 = .ok (.ifCond .eq 12, 3) := by decide +kernel
theorem dX8_known_172 : decode cX8_known 172 = .ok (.iload 6, 2) := by decide +kernel
theorem dX8_known_174 : decode cX8_known 174 = .ok (.ifCond .eq 7, 3) := by decide +kernel
theorem dX8_known_177 : decode cX8_known 177 = .ok (.iconst 1, 1) := by decide +kernel
theorem dX8_known_178 : decode cX8_known 178 = .ok (.goto 4, 3) := by decide +kernel
theorem dX8_known_181 : decode cX8_known 181 = .ok (.iconst 0, 1) := by decide +kernel
theorem dX8_known_182 : decode cX8_known 182 = .ok (.ireturn, 1) := by decide +kernel
theorem dX8_known_183 : decode cX8_known 183 = .ok (.iload_n 3, 1) := by decide +kernel
theorem dX8_known_184 : decode cX8_known 184 = .ok (.iconst 2, 1) := by decide +kernel
theorem dX8_known_185 : decode cX8_known 185 = .ok (.if_icmp .eq 22, 3) := by decide +kernel
theorem dX8_known_188 : decode cX8_known 188 = .ok (.iload_n 3, 1) := by decide +kernel
theorem dX8_known_189 : decode cX8_known 189 = .ok (.iconst 3, 1) := by decide +kernel
theorem dX8_known_190 : decode cX8_known 190 = .ok (.if_icmp .eq 17, 3) := by decide +kernel
theorem dX8_known_193 : decode cX8_known 193 = .ok (.iload 6, 2) := by decide +kernel
theorem dX8_known_195 : decode cX8_known 195 = .ok (.ifCond .eq 12, 3) := by decide +kernel
theorem dX8_known_198 : decode cX8_known 198 = .ok (.iload 7, 2) := by decide +kernel
theorem dX8_known_200 : decode cX8_known 200 = .ok (.ifCond .eq 7, 3) := by decide +kernel
theorem dX8_known_203 : decode cX8_known 203 = .ok (.iconst 1, 1) := by decide +kernel
theorem dX8_known_204 : decode cX8_known 204 = .ok (.goto 4, 3) := by decide +kernel
theorem dX8_known_207 : decode cX8_known 207 = .ok (.iconst 0, 1) := by decide +kernel
theorem dX8_known_208 : decode cX8_known 208 = .ok (.ireturn, 1) := by decide +kernel
theorem dX8_known_209 : decode cX8_known 209 = .ok (.iload_n 3, 1) := by decide +kernel
theorem dX8_known_210 : decode cX8_known 210 = .ok (.iconst 2, 1) := by decide +kernel
theorem dX8_known_211 : decode cX8_known 211 = .ok (.if_icmp .ne 17, 3) := by decide +kernel
theorem dX8_known_214 : decode cX8_known 214 = .ok (.iload 5, 2) := by decide +kernel
theorem dX8_known_216 : decode cX8_known 216 = .ok (.ifCond .eq 12, 3) := by decide +kernel
theorem dX8_known_219 : decode cX8_known 219 = .ok (.iload 6, 2) := by decide +kernel
theorem dX8_known_221 : decode cX8_known 221 = .ok (.ifCond .eq 7, 3) := by decide +kernel
theorem dX8_known_224 : decode cX8_known 224 = .ok (.iconst 1, 1) := by decide +kernel
theorem dX8_known_225 : decode cX8_known 225 = .ok (.goto 4, 3) := by decide +kernel
theorem dX8_known_228 : decode cX8_known 228 = .ok (.iconst 0, 1) := by decide +kernel
theorem dX8_known_229 : decode cX8_known 229 = .ok (.ireturn, 1) := by decide +kernel
theorem dX8_known_230 : decode cX8_known 230 = .ok (.iload_n 3, 1) := by decide +kernel
theorem dX8_known_231 : decode cX8_known 231 = .ok (.iconst 2, 1) := by decide +kernel
theorem dX8_known_232 : decode cX8_known 232 = .ok (.if_icmp .ne 17, 3) := by decide +kernel
theorem dX8_known_235 : decode cX8_known 235 = .ok (.iload 6, 2) := by decide +kernel
theorem dX8_known_237 : decode cX8_known 237 = .ok (.ifCond .eq 12, 3) := by decide +kernel
theorem dX8_known_240 : decode cX8_known 240 = .ok (.iload 7, 2) := by decide +kernel
theorem dX8_known_242 : decode cX8_known 242 = .ok (.ifCond .eq 7, 3) := by decide +kernel
theorem dX8_known_245 : decode cX8_known 245 = .ok (.iconst 1, 1) := by decide +kernel
theorem dX8_known_246 : decode cX8_known 246 = .ok (.goto 4, 3) := by decide +kernel
theorem dX8_known_249 : decode cX8_known 249 = .ok (.iconst 0, 1) := by decide +kernel
theorem dX8_known_250 : decode cX8_known 250 = .ok (.ireturn, 1) := by decide +kernel
theorem dX8_known_251 : decode cX8_known 251 = .ok (.iload 5, 2) := by decide +kernel
theorem dX8_known_253 : decode cX8_known 253 = .ok (.ifCond .eq 39, 3) := by decide +kernel
theorem dX8_known_256 : decode cX8_known 256 = .ok (.iload 6, 2) := by decide +kernel
theorem dX8_known_258 : decode cX8_known 258 = .ok (.ifCond .eq 34, 3) := by decide +kernel
theorem dX8_known_261 : decode cX8_known 261 = .ok (.iload_n 3, 1) := by decide +kernel
theorem dX8_known_262 : decode cX8_known 262 = .ok (.iconst 1, 1) := by decide +kernel
theorem dX8_known_263 : decode cX8_known 263 = .ok (.if_icmp .ne 8, 3) := by decide +kernel
theorem dX8_known_266 : decode cX8_known 266 = .ok (.iload 4, 2) := by decide +kernel
theorem dX8_known_268 : decode cX8_known 268 = .ok (.ifCond .ne 24, 3) := by decide +kernel
theorem dX8_known_271 : decode cX8_known 271 = .ok (.iload_n 3, 1) := by decide +kernel
theorem dX8_known_272 : decode cX8_known 272 = .ok (.iconst 5, 1) := by decide +kernel
theorem dX8_known_273 : decode cX8_known 273 = .ok (.if_icmp .ne 15, 3) := by decide +kernel
theorem dX8_known_276 : decode cX8_known 276 = .ok (.iload 4, 2) := by decide +kernel
theorem dX8_known_278 : decode cX8_known 278 = .ok (.ifCond .eq 10, 3) := by decide +kernel
theorem dX8_known_281 : decode cX8_known 281 = .ok (.iload 4, 2) := by decide +kernel
theorem dX8_known_283 : decode cX8_known 283 = .ok (.bipush 32, 2) := by decide +kernel
theorem dX8_known_285 : decode cX8_known 285 = .ok (.if_icmp .ne 7, 3) := by decide +kernel
theorem dX8_known_288 : decode cX8_known 288 = .ok (.iconst 1, 1) := by decide +kernel
theorem dX8_known_289 : decode cX8_known 289 = .ok (.goto 4, 3) := by decide +kernel
theorem dX8_known_292 : decode cX8_known 292 = .ok (.iconst 0, 1) := by decide +kernel
theorem dX8_known_293 : decode cX8_known 293 = .ok (.ireturn, 1) := by decide +kernel
theorem dX8_known_294 : decode cX8_known 294 = .ok (.iload 5, 2) := by decide +kernel
theorem dX8_known_296 : decode cX8_known 296 = .ok (.ifCond .eq 38, 3) := by decide +kernel
theorem dX8_known_299 : decode cX8_known 299 = .ok (.iload 6, 2) := by decide +kernel
theorem dX8_known_301 : decode cX8_known 301 = .ok (.ifCond .eq 33, 3) := by decide +kernel
theorem dX8_known_304 : decode cX8_known 304 = .ok (.iload 7, 2) := by decide +kernel
theorem dX8_known_306 : decode cX8_known 306 = .ok (.ifCond .eq 28, 3) := by decide +kernel
theorem dX8_known_309 : decode cX8_known 309 = .ok (.iload 4, 2) := by decide +kernel
theorem dX8_known_311 : decode cX8_known 311 = .ok (.ifCond .eq 19, 3) := by decide +kernel
theorem dX8_known_314 : decode cX8_known 314 = .ok (.iload 4, 2) := by decide +kernel
theorem dX8_known_316 : decode cX8_known 316 = .ok (.bipush 32, 2) := by decide +kernel
theorem dX8_known_318 : decode cX8_known 318 = .ok (.if_icmp .ne 16, 3) := by decide +kernel
theorem dX8_known_321 : decode cX8_known 321 = .ok (.iload_n 3, 1) := by decide +kernel
theorem dX8_known_322 : decode cX8_known 322 = .ok (.ifCond .eq 8, 3) := by decide +kernel
theorem dX8_known_325 : decode cX8_known 325 = .ok (.iload_n 3, 1) := by decide +kernel
theorem dX8_known_326 : decode cX8_known 326 = .ok (.iconst 5, 1) := by decide +kernel
theorem dX8_known_327 : decode cX8_known 327 = .ok (.if_icmp .ne 7, 3) := by decide +kernel
theorem dX8_known_330 : decode cX8_known 330 = .ok (.iconst 1, 1) := by decide +kernel
theorem dX8_known_331 : decode cX8_known 331 = .ok (.goto 4, 3) := by decide +kernel
theorem dX8_known_334 : decode cX8_known 334 = .ok (.iconst 0, 1) := by decide +kernel
theorem dX8_known_335 : decode cX8_known 335 = .ok (.ireturn, 1) := by decide +kernel
theorem dX8_known_336 : decode cX8_known 336 = .ok (.iload_n 1, 1) := by decide +kernel
theorem dX8_known_337 : decode cX8_known 337 = .ok (.bipush 115, 2) := by decide +kernel
theorem dX8_known_339 : decode cX8_known 339 = .ok (.if_icmp .eq 9, 3) := by decide +kernel
theorem dX8_known_342 : decode cX8_known 342 = .ok (.iload_n 1, 1) := by decide +kernel
theorem dX8_known_343 : decode cX8_known 343 = .ok (.ldc 136, 2) := by decide +kernel
theorem dX8_known_345 : decode cX8_known 345 = .ok (.if_icmp .ne 7, 3) := by decide +kernel
theorem dX8_known_348 : decode cX8_known 348 = .ok (.iconst 1, 1) := by decide +kernel
theorem dX8_known_349 : decode cX8_known 349 = .ok (.goto 4, 3) := by decide +kernel
theorem dX8_known_352 : decode cX8_known 352 = .ok (.iconst 0, 1) := by decide +kernel
theorem dX8_known_353 : decode cX8_known 353 = .ok (.ireturn, 1) := by decide +kernel
theorem dX8_at_0 : decode cX8_at 0 = .ok (.iload_n 1, 1) := by decide +kernel
theorem dX8_at_1 : decode cX8_at 1 = .ok (.sipush 4096, 3) := by decide +kernel
theorem dX8_at_4 : decode cX8_at 4 = .ok (.if_icmp .lt 20, 3) := by decide +kernel
theorem dX8_at_7 : decode cX8_at 7 = .ok (.iload_n 1, 1) := by decide +kernel
theorem dX8_at_8 : decode cX8_at 8 = .ok (.sipush 4108, 3) := by decide +kernel
theorem dX8_at_11 : decode cX8_at 11 = .ok (.if_icmp .gt 13, 3) := by decide +kernel
theorem dX8_at_14 : decode cX8_at 14 = .ok (.iload_n 1, 1) := by decide +kernel
theorem dX8_at_15 : decode cX8_at 15 = .ok (.sipush 4096, 3) := by decide +kernel
theorem dX8_at_18 : decode cX8_at 18 = .ok (.isub, 1) := by decide +kernel
theorem dX8_at_19 : decode cX8_at 19 = .ok (.iconst 4, 1) := by decide +kernel
theorem dX8_at_20 : decode cX8_at 20 = .ok (.idiv, 1) := by decide +kernel
theorem dX8_at_21 : decode cX8_at 21 = .ok (.goto 4, 3) := by decide +kernel
theorem dX8_at_24 : decode cX8_at 24 = .ok (.iconst (-1), 1) := by decide +kernel
theorem dX8_at_25 : decode cX8_at 25 = .ok (.ireturn, 1) := by decide +kernel
theorem dX8_inside_0 : decode cX8_inside 0 = .ok (.iload_n 2, 1) := by decide +kernel
theorem dX8_inside_1 : decode cX8_inside 1 = .ok (.ifCond .lt 21, 3) := by decide +kernel
theorem dX8_inside_4 : decode cX8_inside 4 = .ok (.iload_n 2, 1) := by decide +kernel
theorem dX8_inside_5 : decode cX8_inside 5 = .ok (.iconst 4, 1) := by decide +kernel
theorem dX8_inside_6 : decode cX8_inside 6 = .ok (.aload_n 0, 1) := by decide +kernel
theorem dX8_inside_7 : decode cX8_inside 7 = .ok (.getfield 22, 3) := by decide +kernel
theorem dX8_inside_10 : decode cX8_inside 10 = .ok (.iload_n 1, 1) := by decide +kernel
theorem dX8_inside_11 : decode cX8_inside 11 = .ok (.iaload, 1) := by decide +kernel
theorem dX8_inside_12 : decode cX8_inside 12 = .ok (.imul, 1) := by decide +kernel
theorem dX8_inside_13 : decode cX8_inside 13 = .ok (.iconst 4, 1) := by decide +kernel
theorem dX8_inside_14 : decode cX8_inside 14 = .ok (.isub, 1) := by decide +kernel
theorem dX8_inside_15 : decode cX8_inside 15 = .ok (.if_icmp .gt 7, 3) := by decide +kernel
theorem dX8_inside_18 : decode cX8_inside 18 = .ok (.iconst 1, 1) := by decide +kernel
theorem dX8_inside_19 : decode cX8_inside 19 = .ok (.goto 4, 3) := by decide +kernel
theorem dX8_inside_22 : decode cX8_inside 22 = .ok (.iconst 0, 1) := by decide +kernel
theorem dX8_inside_23 : decode cX8_inside 23 = .ok (.ireturn, 1) := by decide +kernel
theorem dX8_loads_0 : decode cX8_loads 0 = .ok (.aload_n 0, 1) := by decide +kernel
theorem dX8_loads_1 : decode cX8_loads 1 = .ok (.iload_n 2, 1) := by decide +kernel
theorem dX8_loads_2 : decode cX8_loads 2 = .ok (.invokevirtual 137, 3) := by decide +kernel
theorem dX8_loads_5 : decode cX8_loads 5 = .ok (.istore 4, 2) := by decide +kernel
theorem dX8_loads_7 : decode cX8_loads 7 = .ok (.iload_n 2, 1) := by decide +kernel
theorem dX8_loads_8 : decode cX8_loads 8 = .ok (.iconst 3, 1) := by decide +kernel
theorem dX8_loads_9 : decode cX8_loads 9 = .ok (.iand, 1) := by decide +kernel
theorem dX8_loads_10 : decode cX8_loads 10 = .ok (.ifCond .eq 5, 3) := by decide +kernel
theorem dX8_loads_13 : decode cX8_loads 13 = .ok (.iconst 2, 1) := by decide +kernel
theorem dX8_loads_14 : decode cX8_loads 14 = .ok (.ireturn, 1) := by decide +kernel
theorem dX8_loads_15 : decode cX8_loads 15 = .ok (.aload_n 0, 1) := by decide +kernel
theorem dX8_loads_16 : decode cX8_loads 16 = .ok (.iload_n 1, 1) := by decide +kernel
theorem dX8_loads_17 : decode cX8_loads 17 = .ok (.iload_n 2, 1) := by decide +kernel
theorem dX8_loads_18 : decode cX8_loads 18 = .ok (.invokevirtual 140, 3) := by decide +kernel
theorem dX8_loads_21 : decode cX8_loads 21 = .ok (.ifCond .eq 27, 3) := by decide +kernel
theorem dX8_loads_24 : decode cX8_loads 24 = .ok (.aload_n 0, 1) := by decide +kernel
theorem dX8_loads_25 : decode cX8_loads 25 = .ok (.iload_n 1, 1) := by decide +kernel
theorem dX8_loads_26 : decode cX8_loads 26 = .ok (.iload_n 3, 1) := by decide +kernel
theorem dX8_loads_27 : decode cX8_loads 27 = .ok (.aload_n 0, 1) := by decide +kernel
theorem dX8_loads_28 : decode cX8_loads 28 = .ok (.getfield 7, 3) := by decide +kernel
theorem dX8_loads_31 : decode cX8_loads 31 = .ok (.aload_n 0, 1) := by decide +kernel
theorem dX8_loads_32 : decode cX8_loads 32 = .ok (.getfield 19, 3) := by decide +kernel
theorem dX8_loads_35 : decode cX8_loads 35 = .ok (.iload_n 1, 1) := by decide +kernel
theorem dX8_loads_36 : decode cX8_loads 36 = .ok (.iaload, 1) := by decide +kernel
theorem dX8_loads_37 : decode cX8_loads 37 = .ok (.iload_n 2, 1) := by decide +kernel
theorem dX8_loads_38 : decode cX8_loads 38 = .ok (.iconst 4, 1) := by decide +kernel
theorem dX8_loads_39 : decode cX8_loads 39 = .ok (.idiv, 1) := by decide +kernel
theorem dX8_loads_40 : decode cX8_loads 40 = .ok (.iadd, 1) := by decide +kernel
theorem dX8_loads_41 : decode cX8_loads 41 = .ok (.iaload, 1) := by decide +kernel
theorem dX8_loads_42 : decode cX8_loads 42 = .ok (.invokevirtual 143, 3) := by decide +kernel
theorem dX8_loads_45 : decode cX8_loads 45 = .ok (.goto 54, 3) := by decide +kernel
theorem dX8_loads_48 : decode cX8_loads 48 = .ok (.iload 4, 2) := by decide +kernel
theorem dX8_loads_50 : decode cX8_loads 50 = .ok (.ifCond .lt 47, 3) := by decide +kernel
theorem dX8_loads_53 : decode cX8_loads 53 = .ok (.aload_n 0, 1) := by decide +kernel
theorem dX8_loads_54 : decode cX8_loads 54 = .ok (.getfield 62, 3) := by decide +kernel
theorem dX8_loads_57 : decode cX8_loads 57 = .ok (.iload 4, 2) := by decide +kernel
theorem dX8_loads_59 : decode cX8_loads 59 = .ok (.iaload, 1) := by decide +kernel
theorem dX8_loads_60 : decode cX8_loads 60 = .ok (.iload_n 1, 1) := by decide +kernel
theorem dX8_loads_61 : decode cX8_loads 61 = .ok (.ishr, 1) := by decide +kernel
theorem dX8_loads_62 : decode cX8_loads 62 = .ok (.iconst 1, 1) := by decide +kernel
theorem dX8_loads_63 : decode cX8_loads 63 = .ok (.iand, 1) := by decide +kernel
theorem dX8_loads_64 : decode cX8_loads 64 = .ok (.ifCond .eq 33, 3) := by decide +kernel
theorem dX8_loads_67 : decode cX8_loads 67 = .ok (.aload_n 0, 1) := by decide +kernel
theorem dX8_loads_68 : decode cX8_loads 68 = .ok (.iload_n 1, 1) := by decide +kernel
theorem dX8_loads_69 : decode cX8_loads 69 = .ok (.iload_n 3, 1) := by decide +kernel
theorem dX8_loads_70 : decode cX8_loads 70 = .ok (.aload_n 0, 1) := by decide +kernel
theorem dX8_loads_71 : decode cX8_loads 71 = .ok (.getfield 50, 3) := by decide +kernel
theorem dX8_loads_74 : decode cX8_loads 74 = .ok (.iload 4, 2) := by decide +kernel
theorem dX8_loads_76 : decode cX8_loads 76 = .ok (.baload, 1) := by decide +kernel
theorem dX8_loads_77 : decode cX8_loads 77 = .ok (.ifCond .eq 13, 3) := by decide +kernel
theorem dX8_loads_80 : decode cX8_loads 80 = .ok (.aload_n 0, 1) := by decide +kernel
theorem dX8_loads_81 : decode cX8_loads 81 = .ok (.getfield 68, 3) := by decide +kernel
theorem dX8_loads_84 : decode cX8_loads 84 = .ok (.iload 4, 2) := by decide +kernel
theorem dX8_loads_86 : decode cX8_loads 86 = .ok (.iaload, 1) := by decide +kernel
theorem dX8_loads_87 : decode cX8_loads 87 = .ok (.goto 4, 3) := by decide +kernel
theorem dX8_loads_90 : decode cX8_loads 90 = .ok (.iconst 0, 1) := by decide +kernel
theorem dX8_loads_91 : decode cX8_loads 91 = .ok (.invokevirtual 143, 3) := by decide +kernel
theorem dX8_loads_94 : decode cX8_loads 94 = .ok (.goto 5, 3) := by decide +kernel
theorem dX8_loads_97 : decode cX8_loads 97 = .ok (.iconst 3, 1) := by decide +kernel
theorem dX8_loads_98 : decode cX8_loads 98 = .ok (.ireturn, 1) := by decide +kernel
theorem dX8_loads_99 : decode cX8_loads 99 = .ok (.iconst 0, 1) := by decide +kernel
theorem dX8_loads_100 : decode cX8_loads 100 = .ok (.ireturn, 1) := by decide +kernel
theorem dX8_stores_0 : decode cX8_stores 0 = .ok (.aload_n 0, 1) := by decide +kernel
theorem dX8_stores_1 : decode cX8_stores 1 = .ok (.iload_n 2, 1) := by decide +kernel
theorem dX8_stores_2 : decode cX8_stores 2 = .ok (.invokevirtual 137, 3) := by decide +kernel
theorem dX8_stores_5 : decode cX8_stores 5 = .ok (.istore 4, 2) := by decide +kernel
theorem dX8_stores_7 : decode cX8_stores 7 = .ok (.iload_n 2, 1) := by decide +kernel
theorem dX8_stores_8 : decode cX8_stores 8 = .ok (.iconst 3, 1) := by decide +kernel
theorem dX8_stores_9 : decode cX8_stores 9 = .ok (.iand, 1) := by decide +kernel
theorem dX8_stores_10 : decode cX8_stores 10 = .ok (.ifCond .eq 5, 3) := by decide +kernel
theorem dX8_stores_13 : decode cX8_stores 13 = .ok (.iconst 2, 1) := by decide +kernel
theorem dX8_stores_14 : decode cX8_stores 14 = .ok (.ireturn, 1) := by decide +kernel
theorem dX8_stores_15 : decode cX8_stores 15 = .ok (.aload_n 0, 1) := by decide +kernel
theorem dX8_stores_16 : decode cX8_stores 16 = .ok (.iload_n 1, 1) := by decide +kernel
theorem dX8_stores_17 : decode cX8_stores 17 = .ok (.iload_n 2, 1) := by decide +kernel
theorem dX8_stores_18 : decode cX8_stores 18 = .ok (.invokevirtual 140, 3) := by decide +kernel
theorem dX8_stores_21 : decode cX8_stores 21 = .ok (.ifCond .eq 22, 3) := by decide +kernel
theorem dX8_stores_24 : decode cX8_stores 24 = .ok (.aload_n 0, 1) := by decide +kernel
theorem dX8_stores_25 : decode cX8_stores 25 = .ok (.getfield 7, 3) := by decide +kernel
theorem dX8_stores_28 : decode cX8_stores 28 = .ok (.aload_n 0, 1) := by decide +kernel
theorem dX8_stores_29 : decode cX8_stores 29 = .ok (.getfield 19, 3) := by decide +kernel
theorem dX8_stores_32 : decode cX8_stores 32 = .ok (.iload_n 1, 1) := by decide +kernel
theorem dX8_stores_33 : decode cX8_stores 33 = .ok (.iaload, 1) := by decide +kernel
theorem dX8_stores_34 : decode cX8_stores 34 = .ok (.iload_n 2, 1) := by decide +kernel
theorem dX8_stores_35 : decode cX8_stores 35 = .ok (.iconst 4, 1) := by decide +kernel
theorem dX8_stores_36 : decode cX8_stores 36 = .ok (.idiv, 1) := by decide +kernel
theorem dX8_stores_37 : decode cX8_stores 37 = .ok (.iadd, 1) := by decide +kernel
theorem dX8_stores_38 : decode cX8_stores 38 = .ok (.iload_n 3, 1) := by decide +kernel
theorem dX8_stores_39 : decode cX8_stores 39 = .ok (.iastore, 1) := by decide +kernel
theorem dX8_stores_40 : decode cX8_stores 40 = .ok (.goto 51, 3) := by decide +kernel
theorem dX8_stores_43 : decode cX8_stores 43 = .ok (.iload 4, 2) := by decide +kernel
theorem dX8_stores_45 : decode cX8_stores 45 = .ok (.ifCond .lt 44, 3) := by decide +kernel
theorem dX8_stores_48 : decode cX8_stores 48 = .ok (.aload_n 0, 1) := by decide +kernel
theorem dX8_stores_49 : decode cX8_stores 49 = .ok (.getfield 59, 3) := by decide +kernel
theorem dX8_stores_52 : decode cX8_stores 52 = .ok (.iload 4, 2) := by decide +kernel
theorem dX8_stores_54 : decode cX8_stores 54 = .ok (.iaload, 1) := by decide +kernel
theorem dX8_stores_55 : decode cX8_stores 55 = .ok (.iload_n 1, 1) := by decide +kernel
theorem dX8_stores_56 : decode cX8_stores 56 = .ok (.if_icmp .ne 33, 3) := by decide +kernel
theorem dX8_stores_59 : decode cX8_stores 59 = .ok (.aload_n 0, 1) := by decide +kernel
theorem dX8_stores_60 : decode cX8_stores 60 = .ok (.getfield 50, 3) := by decide +kernel
theorem dX8_stores_63 : decode cX8_stores 63 = .ok (.iload 4, 2) := by decide +kernel
theorem dX8_stores_65 : decode cX8_stores 65 = .ok (.iconst 1, 1) := by decide +kernel
theorem dX8_stores_66 : decode cX8_stores 66 = .ok (.bastore, 1) := by decide +kernel
theorem dX8_stores_67 : decode cX8_stores 67 = .ok (.aload_n 0, 1) := by decide +kernel
theorem dX8_stores_68 : decode cX8_stores 68 = .ok (.getfield 68, 3) := by decide +kernel
theorem dX8_stores_71 : decode cX8_stores 71 = .ok (.iload 4, 2) := by decide +kernel
theorem dX8_stores_73 : decode cX8_stores 73 = .ok (.iload_n 3, 1) := by decide +kernel
theorem dX8_stores_74 : decode cX8_stores 74 = .ok (.iastore, 1) := by decide +kernel
theorem dX8_stores_75 : decode cX8_stores 75 = .ok (.aload_n 0, 1) := by decide +kernel
theorem dX8_stores_76 : decode cX8_stores 76 = .ok (.getfield 71, 3) := by decide +kernel
theorem dX8_stores_79 : decode cX8_stores 79 = .ok (.iload 4, 2) := by decide +kernel
theorem dX8_stores_81 : decode cX8_stores 81 = .ok (.aload_n 0, 1) := by decide +kernel
theorem dX8_stores_82 : decode cX8_stores 82 = .ok (.getfield 109, 3) := by decide +kernel
theorem dX8_stores_85 : decode cX8_stores 85 = .ok (.iastore, 1) := by decide +kernel
theorem dX8_stores_86 : decode cX8_stores 86 = .ok (.goto 5, 3) := by decide +kernel
theorem dX8_stores_89 : decode cX8_stores 89 = .ok (.iconst 3, 1) := by decide +kernel
theorem dX8_stores_90 : decode cX8_stores 90 = .ok (.ireturn, 1) := by decide +kernel
theorem dX8_stores_91 : decode cX8_stores 91 = .ok (.iconst 0, 1) := by decide +kernel
theorem dX8_stores_92 : decode cX8_stores 92 = .ok (.ireturn, 1) := by decide +kernel
theorem dX8_calls_0 : decode cX8_calls 0 = .ok (.aload_n 0, 1) := by decide +kernel
theorem dX8_calls_1 : decode cX8_calls 1 = .ok (.getfield 16, 3) := by decide +kernel
theorem dX8_calls_4 : decode cX8_calls 4 = .ok (.iload_n 1, 1) := by decide +kernel
theorem dX8_calls_5 : decode cX8_calls 5 = .ok (.bipush 16, 2) := by decide +kernel
theorem dX8_calls_7 : decode cX8_calls 7 = .ok (.imul, 1) := by decide +kernel
theorem dX8_calls_8 : decode cX8_calls 8 = .ok (.bipush 15, 2) := by decide +kernel
theorem dX8_calls_10 : decode cX8_calls 10 = .ok (.iadd, 1) := by decide +kernel
theorem dX8_calls_11 : decode cX8_calls 11 = .ok (.iaload, 1) := by decide +kernel
theorem dX8_calls_12 : decode cX8_calls 12 = .ok (.istore_n 2, 1) := by decide +kernel
theorem dX8_calls_13 : decode cX8_calls 13 = .ok (.aload_n 0, 1) := by decide +kernel
theorem dX8_calls_14 : decode cX8_calls 14 = .ok (.getfield 16, 3) := by decide +kernel
theorem dX8_calls_17 : decode cX8_calls 17 = .ok (.iload_n 1, 1) := by decide +kernel
theorem dX8_calls_18 : decode cX8_calls 18 = .ok (.bipush 16, 2) := by decide +kernel
theorem dX8_calls_20 : decode cX8_calls 20 = .ok (.imul, 1) := by decide +kernel
theorem dX8_calls_21 : decode cX8_calls 21 = .ok (.bipush 10, 2) := by decide +kernel
theorem dX8_calls_23 : decode cX8_calls 23 = .ok (.iadd, 1) := by decide +kernel
theorem dX8_calls_24 : decode cX8_calls 24 = .ok (.iaload, 1) := by decide +kernel
theorem dX8_calls_25 : decode cX8_calls 25 = .ok (.istore_n 3, 1) := by decide +kernel
theorem dX8_calls_26 : decode cX8_calls 26 = .ok (.aload_n 0, 1) := by decide +kernel
theorem dX8_calls_27 : decode cX8_calls 27 = .ok (.getfield 16, 3) := by decide +kernel
theorem dX8_calls_30 : decode cX8_calls 30 = .ok (.iload_n 1, 1) := by decide +kernel
theorem dX8_calls_31 : decode cX8_calls 31 = .ok (.bipush 16, 2) := by decide +kernel
theorem dX8_calls_33 : decode cX8_calls 33 = .ok (.imul, 1) := by decide +kernel
theorem dX8_calls_34 : decode cX8_calls 34 = .ok (.bipush 11, 2) := by decide +kernel
theorem dX8_calls_36 : decode cX8_calls 36 = .ok (.iadd, 1) := by decide +kernel
theorem dX8_calls_37 : decode cX8_calls 37 = .ok (.iaload, 1) := by decide +kernel
theorem dX8_calls_38 : decode cX8_calls 38 = .ok (.istore 4, 2) := by decide +kernel
theorem dX8_calls_40 : decode cX8_calls 40 = .ok (.iload_n 2, 1) := by decide +kernel
theorem dX8_calls_41 : decode cX8_calls 41 = .ok (.ifCond .lt 44, 3) := by decide +kernel
theorem dX8_calls_44 : decode cX8_calls 44 = .ok (.iload_n 2, 1) := by decide +kernel
theorem dX8_calls_45 : decode cX8_calls 45 = .ok (.iconst 4, 1) := by decide +kernel
theorem dX8_calls_46 : decode cX8_calls 46 = .ok (.if_icmp .gt 39, 3) := by decide +kernel
theorem dX8_calls_49 : decode cX8_calls 49 = .ok (.iload_n 2, 1) := by decide +kernel
theorem dX8_calls_50 : decode cX8_calls 50 = .ok (.ifCond .le 17, 3) := by decide +kernel
theorem dX8_calls_53 : decode cX8_calls 53 = .ok (.iload_n 2, 1) := by decide +kernel
theorem dX8_calls_54 : decode cX8_calls 54 = .ok (.iconst 4, 1) := by decide +kernel
theorem dX8_calls_55 : decode cX8_calls 55 = .ok (.if_icmp .ge 12, 3) := by decide +kernel
theorem dX8_calls_58 : decode cX8_calls 58 = .ok (.aload_n 0, 1) := by decide +kernel
theorem dX8_calls_59 : decode cX8_calls 59 = .ok (.iload_n 3, 1) := by decide +kernel
theorem dX8_calls_60 : decode cX8_calls 60 = .ok (.iconst 3, 1) := by decide +kernel
theorem dX8_calls_61 : decode cX8_calls 61 = .ok (.invokevirtual 92, 3) := by decide +kernel
theorem dX8_calls_64 : decode cX8_calls 64 = .ok (.ifCond .ne 21, 3) := by decide +kernel
theorem dX8_calls_67 : decode cX8_calls 67 = .ok (.iload_n 2, 1) := by decide +kernel
theorem dX8_calls_68 : decode cX8_calls 68 = .ok (.iconst 1, 1) := by decide +kernel
theorem dX8_calls_69 : decode cX8_calls 69 = .ok (.if_icmp .ne 18, 3) := by decide +kernel
theorem dX8_calls_72 : decode cX8_calls 72 = .ok (.aload_n 0, 1) := by decide +kernel
theorem dX8_calls_73 : decode cX8_calls 73 = .ok (.getfield 62, 3) := by decide +kernel
theorem dX8_calls_76 : decode cX8_calls 76 = .ok (.iload_n 3, 1) := by decide +kernel
theorem dX8_calls_77 : decode cX8_calls 77 = .ok (.iaload, 1) := by decide +kernel
theorem dX8_calls_78 : decode cX8_calls 78 = .ok (.iload_n 1, 1) := by decide +kernel
theorem dX8_calls_79 : decode cX8_calls 79 = .ok (.ishr, 1) := by decide +kernel
theorem dX8_calls_80 : decode cX8_calls 80 = .ok (.iconst 1, 1) := by decide +kernel
theorem dX8_calls_81 : decode cX8_calls 81 = .ok (.iand, 1) := by decide +kernel
theorem dX8_calls_82 : decode cX8_calls 82 = .ok (.ifCond .ne 5, 3) := by decide +kernel
theorem dX8_calls_85 : decode cX8_calls 85 = .ok (.iconst 3, 1) := by decide +kernel
theorem dX8_calls_86 : decode cX8_calls 86 = .ok (.ireturn, 1) := by decide +kernel
theorem dX8_calls_87 : decode cX8_calls 87 = .ok (.aload_n 0, 1) := by decide +kernel
theorem dX8_calls_88 : decode cX8_calls 88 = .ok (.aload_n 0, 1) := by decide +kernel
theorem dX8_calls_89 : decode cX8_calls 89 = .ok (.getfield 80, 3) := by decide +kernel
theorem dX8_calls_92 : decode cX8_calls 92 = .ok (.aload_n 0, 1) := by decide +kernel
theorem dX8_calls_93 : decode cX8_calls 93 = .ok (.getfield 43, 3) := by decide +kernel
theorem dX8_calls_96 : decode cX8_calls 96 = .ok (.iload_n 1, 1) := by decide +kernel
theorem dX8_calls_97 : decode cX8_calls 97 = .ok (.iaload, 1) := by decide +kernel
theorem dX8_calls_98 : decode cX8_calls 98 = .ok (.invokevirtual 128, 3) := by decide +kernel
theorem dX8_calls_101 : decode cX8_calls 101 = .ok (.istore 5, 2) := by decide +kernel
theorem dX8_calls_103 : decode cX8_calls 103 = .ok (.iload_n 2, 1) := by decide +kernel
theorem dX8_calls_104 : decode cX8_calls 104 = .ok (.ifCond .ne 11, 3) := by decide +kernel
theorem dX8_calls_107 : decode cX8_calls 107 = .ok (.aload_n 0, 1) := by decide +kernel
theorem dX8_calls_108 : decode cX8_calls 108 = .ok (.iconst 1, 1) := by decide +kernel
theorem dX8_calls_109 : decode cX8_calls 109 = .ok (.putfield 118, 3) := by decide +kernel
theorem dX8_calls_112 : decode cX8_calls 112 = .ok (.goto 206, 3) := by decide +kernel
theorem dX8_calls_115 : decode cX8_calls 115 = .ok (.iload_n 2, 1) := by decide +kernel
theorem dX8_calls_116 : decode cX8_calls 116 = .ok (.iconst 1, 1) := by decide +kernel
theorem dX8_calls_117 : decode cX8_calls 117 = .ok (.if_icmp .ne 57, 3) := by decide +kernel
theorem dX8_calls_120 : decode cX8_calls 120 = .ok (.aload_n 0, 1) := by decide +kernel
theorem dX8_calls_121 : decode cX8_calls 121 = .ok (.iload_n 1, 1) := by decide +kernel
theorem dX8_calls_122 : decode cX8_calls 122 = .ok (.bipush 10, 2) := by decide +kernel
theorem dX8_calls_124 : decode cX8_calls 124 = .ok (.aload_n 0, 1) := by decide +kernel
theorem dX8_calls_125 : decode cX8_calls 125 = .ok (.getfield 50, 3) := by decide +kernel
theorem dX8_calls_128 : decode cX8_calls 128 = .ok (.iload_n 3, 1) := by decide +kernel
theorem dX8_calls_129 : decode cX8_calls 129 = .ok (.baload, 1) := by decide +kernel
theorem dX8_calls_130 : decode cX8_calls 130 = .ok (.ifCond .eq 23, 3) := by decide +kernel
theorem dX8_calls_133 : decode cX8_calls 133 = .ok (.aload_n 0, 1) := by decide +kernel
theorem dX8_calls_134 : decode cX8_calls 134 = .ok (.getfield 109, 3) := by decide +kernel
theorem dX8_calls_137 : decode cX8_calls 137 = .ok (.aload_n 0, 1) := by decide +kernel
theorem dX8_calls_138 : decode cX8_calls 138 = .ok (.getfield 71, 3) := by decide +kernel
theorem dX8_calls_141 : decode cX8_calls 141 = .ok (.iload_n 3, 1) := by decide +kernel
theorem dX8_calls_142 : decode cX8_calls 142 = .ok (.iaload, 1) := by decide +kernel
theorem dX8_calls_143 : decode cX8_calls 143 = .ok (.isub, 1) := by decide +kernel
theorem dX8_calls_144 : decode cX8_calls 144 = .ok (.aload_n 0, 1) := by decide +kernel
theorem dX8_calls_145 : decode cX8_calls 145 = .ok (.getfield 65, 3) := by decide +kernel
theorem dX8_calls_148 : decode cX8_calls 148 = .ok (.iload_n 3, 1) := by decide +kernel
theorem dX8_calls_149 : decode cX8_calls 149 = .ok (.iaload, 1) := by decide +kernel
theorem dX8_calls_150 : decode cX8_calls 150 = .ok (.if_icmp .le 7, 3) := by decide +kernel
theorem dX8_calls_153 : decode cX8_calls 153 = .ok (.iconst (-1), 1) := by decide +kernel
theorem dX8_calls_154 : decode cX8_calls 154 = .ok (.goto 14, 3) := by decide +kernel
theorem dX8_calls_157 : decode cX8_calls 157 = .ok (.aload_n 0, 1) := by decide +kernel
theorem dX8_calls_158 : decode cX8_calls 158 = .ok (.getfield 109, 3) := by decide +kernel
theorem dX8_calls_161 : decode cX8_calls 161 = .ok (.aload_n 0, 1) := by decide +kernel
theorem dX8_calls_162 : decode cX8_calls 162 = .ok (.getfield 71, 3) := by decide +kernel
theorem dX8_calls_165 : decode cX8_calls 165 = .ok (.iload_n 3, 1) := by decide +kernel
theorem dX8_calls_166 : decode cX8_calls 166 = .ok (.iaload, 1) := by decide +kernel
theorem dX8_calls_167 : decode cX8_calls 167 = .ok (.isub, 1) := by decide +kernel
theorem dX8_calls_168 : decode cX8_calls 168 = .ok (.invokevirtual 143, 3) := by decide +kernel
theorem dX8_calls_171 : decode cX8_calls 171 = .ok (.goto 147, 3) := by decide +kernel
theorem dX8_calls_174 : decode cX8_calls 174 = .ok (.iload_n 2, 1) := by decide +kernel
theorem dX8_calls_175 : decode cX8_calls 175 = .ok (.iconst 2, 1) := by decide +kernel
theorem dX8_calls_176 : decode cX8_calls 176 = .ok (.if_icmp .ne 43, 3) := by decide +kernel
theorem dX8_calls_179 : decode cX8_calls 179 = .ok (.aload_n 0, 1) := by decide +kernel
theorem dX8_calls_180 : decode cX8_calls 180 = .ok (.getfield 74, 3) := by decide +kernel
theorem dX8_calls_183 : decode cX8_calls 183 = .ok (.iload_n 3, 1) := by decide +kernel
theorem dX8_calls_184 : decode cX8_calls 184 = .ok (.iload 4, 2) := by decide +kernel
theorem dX8_calls_186 : decode cX8_calls 186 = .ok (.iload 5, 2) := by decide +kernel
theorem dX8_calls_188 : decode cX8_calls 188 = .ok (.ixor, 1) := by decide +kernel
theorem dX8_calls_189 : decode cX8_calls 189 = .ok (.iastore, 1) := by decide +kernel
theorem dX8_calls_190 : decode cX8_calls 190 = .ok (.aload_n 0, 1) := by decide +kernel
theorem dX8_calls_191 : decode cX8_calls 191 = .ok (.getfield 77, 3) := by decide +kernel
theorem dX8_calls_194 : decode cX8_calls 194 = .ok (.iload_n 3, 1) := by decide +kernel
theorem dX8_calls_195 : decode cX8_calls 195 = .ok (.aload_n 0, 1) := by decide +kernel
theorem dX8_calls_196 : decode cX8_calls 196 = .ok (.aload_n 0, 1) := by decide +kernel
theorem dX8_calls_197 : decode cX8_calls 197 = .ok (.aload_n 0, 1) := by decide +kernel
theorem dX8_calls_198 : decode cX8_calls 198 = .ok (.getfield 80, 3) := by decide +kernel
theorem dX8_calls_201 : decode cX8_calls 201 = .ok (.iload 4, 2) := by decide +kernel
theorem dX8_calls_203 : decode cX8_calls 203 = .ok (.invokevirtual 128, 3) := by decide +kernel
theorem dX8_calls_206 : decode cX8_calls 206 = .ok (.aload_n 0, 1) := by decide +kernel
theorem dX8_calls_207 : decode cX8_calls 207 = .ok (.getfield 43, 3) := by decide +kernel
theorem dX8_calls_210 : decode cX8_calls 210 = .ok (.iload_n 1, 1) := by decide +kernel
theorem dX8_calls_211 : decode cX8_calls 211 = .ok (.iaload, 1) := by decide +kernel
theorem dX8_calls_212 : decode cX8_calls 212 = .ok (.invokevirtual 128, 3) := by decide +kernel
theorem dX8_calls_215 : decode cX8_calls 215 = .ok (.iastore, 1) := by decide +kernel
theorem dX8_calls_216 : decode cX8_calls 216 = .ok (.goto 102, 3) := by decide +kernel
theorem dX8_calls_219 : decode cX8_calls 219 = .ok (.iload_n 2, 1) := by decide +kernel
theorem dX8_calls_220 : decode cX8_calls 220 = .ok (.iconst 3, 1) := by decide +kernel
theorem dX8_calls_221 : decode cX8_calls 221 = .ok (.if_icmp .ne 84, 3) := by decide +kernel
theorem dX8_calls_224 : decode cX8_calls 224 = .ok (.aload_n 0, 1) := by decide +kernel
theorem dX8_calls_225 : decode cX8_calls 225 = .ok (.getfield 74, 3) := by decide +kernel
theorem dX8_calls_228 : decode cX8_calls 228 = .ok (.iload_n 3, 1) := by decide +kernel
theorem dX8_calls_229 : decode cX8_calls 229 = .ok (.iaload, 1) := by decide +kernel
theorem dX8_calls_230 : decode cX8_calls 230 = .ok (.iload 5, 2) := by decide +kernel
theorem dX8_calls_232 : decode cX8_calls 232 = .ok (.ixor, 1) := by decide +kernel
theorem dX8_calls_233 : decode cX8_calls 233 = .ok (.istore 6, 2) := by decide +kernel
theorem dX8_calls_235 : decode cX8_calls 235 = .ok (.aload_n 0, 1) := by decide +kernel
theorem dX8_calls_236 : decode cX8_calls 236 = .ok (.getfield 77, 3) := by decide +kernel
theorem dX8_calls_239 : decode cX8_calls 239 = .ok (.iload_n 3, 1) := by decide +kernel
theorem dX8_calls_240 : decode cX8_calls 240 = .ok (.iaload, 1) := by decide +kernel
theorem dX8_calls_241 : decode cX8_calls 241 = .ok (.aload_n 0, 1) := by decide +kernel
theorem dX8_calls_242 : decode cX8_calls 242 = .ok (.aload_n 0, 1) := by decide +kernel
theorem dX8_calls_243 : decode cX8_calls 243 = .ok (.aload_n 0, 1) := by decide +kernel
theorem dX8_calls_244 : decode cX8_calls 244 = .ok (.getfield 80, 3) := by decide +kernel
theorem dX8_calls_247 : decode cX8_calls 247 = .ok (.iload 6, 2) := by decide +kernel
theorem dX8_calls_249 : decode cX8_calls 249 = .ok (.invokevirtual 128, 3) := by decide +kernel
theorem dX8_calls_252 : decode cX8_calls 252 = .ok (.aload_n 0, 1) := by decide +kernel
theorem dX8_calls_253 : decode cX8_calls 253 = .ok (.getfield 43, 3) := by decide +kernel
theorem dX8_calls_256 : decode cX8_calls 256 = .ok (.iload_n 1, 1) := by decide +kernel
theorem dX8_calls_257 : decode cX8_calls 257 = .ok (.iaload, 1) := by decide +kernel
theorem dX8_calls_258 : decode cX8_calls 258 = .ok (.invokevirtual 128, 3) := by decide +kernel
theorem dX8_calls_261 : decode cX8_calls 261 = .ok (.if_icmp .ne 7, 3) := by decide +kernel
theorem dX8_calls_264 : decode cX8_calls 264 = .ok (.iconst 1, 1) := by decide +kernel
theorem dX8_calls_265 : decode cX8_calls 265 = .ok (.goto 4, 3) := by decide +kernel
theorem dX8_calls_268 : decode cX8_calls 268 = .ok (.iconst 0, 1) := by decide +kernel
theorem dX8_calls_269 : decode cX8_calls 269 = .ok (.istore 7, 2) := by decide +kernel
theorem dX8_calls_271 : decode cX8_calls 271 = .ok (.aload_n 0, 1) := by decide +kernel
theorem dX8_calls_272 : decode cX8_calls 272 = .ok (.iload_n 1, 1) := by decide +kernel
theorem dX8_calls_273 : decode cX8_calls 273 = .ok (.bipush 10, 2) := by decide +kernel
theorem dX8_calls_275 : decode cX8_calls 275 = .ok (.iload 7, 2) := by decide +kernel
theorem dX8_calls_277 : decode cX8_calls 277 = .ok (.ifCond .eq 7, 3) := by decide +kernel
theorem dX8_calls_280 : decode cX8_calls 280 = .ok (.iconst 1, 1) := by decide +kernel
theorem dX8_calls_281 : decode cX8_calls 281 = .ok (.goto 4, 3) := by decide +kernel
theorem dX8_calls_284 : decode cX8_calls 284 = .ok (.iconst 0, 1) := by decide +kernel
theorem dX8_calls_285 : decode cX8_calls 285 = .ok (.invokevirtual 143, 3) := by decide +kernel
theorem dX8_calls_288 : decode cX8_calls 288 = .ok (.iload 7, 2) := by decide +kernel
theorem dX8_calls_290 : decode cX8_calls 290 = .ok (.ifCond .eq 12, 3) := by decide +kernel
theorem dX8_calls_293 : decode cX8_calls 293 = .ok (.aload_n 0, 1) := by decide +kernel
theorem dX8_calls_294 : decode cX8_calls 294 = .ok (.iload_n 1, 1) := by decide +kernel
theorem dX8_calls_295 : decode cX8_calls 295 = .ok (.bipush 11, 2) := by decide +kernel
theorem dX8_calls_297 : decode cX8_calls 297 = .ok (.iload 6, 2) := by decide +kernel
theorem dX8_calls_299 : decode cX8_calls 299 = .ok (.invokevirtual 143, 3) := by decide +kernel
theorem dX8_calls_302 : decode cX8_calls 302 = .ok (.goto 16, 3) := by decide +kernel
theorem dX8_calls_305 : decode cX8_calls 305 = .ok (.aload_n 0, 1) := by decide +kernel
theorem dX8_calls_306 : decode cX8_calls 306 = .ok (.iload_n 1, 1) := by decide +kernel
theorem dX8_calls_307 : decode cX8_calls 307 = .ok (.bipush 10, 2) := by decide +kernel
theorem dX8_calls_309 : decode cX8_calls 309 = .ok (.aload_n 0, 1) := by decide +kernel
theorem dX8_calls_310 : decode cX8_calls 310 = .ok (.getfield 43, 3) := by decide +kernel
theorem dX8_calls_313 : decode cX8_calls 313 = .ok (.iload_n 1, 1) := by decide +kernel
theorem dX8_calls_314 : decode cX8_calls 314 = .ok (.iaload, 1) := by decide +kernel
theorem dX8_calls_315 : decode cX8_calls 315 = .ok (.invokevirtual 143, 3) := by decide +kernel
theorem dX8_calls_318 : decode cX8_calls 318 = .ok (.iconst 0, 1) := by decide +kernel
theorem dX8_calls_319 : decode cX8_calls 319 = .ok (.ireturn, 1) := by decide +kernel
theorem dX8_perform_0 : decode cX8_perform 0 = .ok (.iload_n 2, 1) := by decide +kernel
theorem dX8_perform_1 : decode cX8_perform 1 = .ok (.bipush 127, 2) := by decide +kernel
theorem dX8_perform_3 : decode cX8_perform 3 = .ok (.iand, 1) := by decide +kernel
theorem dX8_perform_4 : decode cX8_perform 4 = .ok (.istore_n 3, 1) := by decide +kernel
theorem dX8_perform_5 : decode cX8_perform 5 = .ok (.iload_n 2, 1) := by decide +kernel
theorem dX8_perform_6 : decode cX8_perform 6 = .ok (.bipush 12, 2) := by decide +kernel
theorem dX8_perform_8 : decode cX8_perform 8 = .ok (.iushr, 1) := by decide +kernel
theorem dX8_perform_9 : decode cX8_perform 9 = .ok (.bipush 7, 2) := by decide +kernel
theorem dX8_perform_11 : decode cX8_perform 11 = .ok (.iand, 1) := by decide +kernel
theorem dX8_perform_12 : decode cX8_perform 12 = .ok (.istore 4, 2) := by decide +kernel
theorem dX8_perform_14 : decode cX8_perform 14 = .ok (.iload_n 2, 1) := by decide +kernel
theorem dX8_perform_15 : decode cX8_perform 15 = .ok (.bipush 7, 2) := by decide +kernel
theorem dX8_perform_17 : decode cX8_perform 17 = .ok (.iushr, 1) := by decide +kernel
theorem dX8_perform_18 : decode cX8_perform 18 = .ok (.bipush 31, 2) := by decide +kernel
theorem dX8_perform_20 : decode cX8_perform 20 = .ok (.iand, 1) := by decide +kernel
theorem dX8_perform_21 : decode cX8_perform 21 = .ok (.istore 5, 2) := by decide +kernel
theorem dX8_perform_23 : decode cX8_perform 23 = .ok (.aload_n 0, 1) := by decide +kernel
theorem dX8_perform_24 : decode cX8_perform 24 = .ok (.getfield 16, 3) := by decide +kernel
theorem dX8_perform_27 : decode cX8_perform 27 = .ok (.iload_n 1, 1) := by decide +kernel
theorem dX8_perform_28 : decode cX8_perform 28 = .ok (.bipush 16, 2) := by decide +kernel
theorem dX8_perform_30 : decode cX8_perform 30 = .ok (.imul, 1) := by decide +kernel
theorem dX8_perform_31 : decode cX8_perform 31 = .ok (.iload_n 2, 1) := by decide +kernel
theorem dX8_perform_32 : decode cX8_perform 32 = .ok (.bipush 15, 2) := by decide +kernel
theorem dX8_perform_34 : decode cX8_perform 34 = .ok (.iushr, 1) := by decide +kernel
theorem dX8_perform_35 : decode cX8_perform 35 = .ok (.bipush 15, 2) := by decide +kernel
theorem dX8_perform_37 : decode cX8_perform 37 = .ok (.iand, 1) := by decide +kernel
theorem dX8_perform_38 : decode cX8_perform 38 = .ok (.iadd, 1) := by decide +kernel
theorem dX8_perform_39 : decode cX8_perform 39 = .ok (.iaload, 1) := by decide +kernel
theorem dX8_perform_40 : decode cX8_perform 40 = .ok (.istore 6, 2) := by decide +kernel
theorem dX8_perform_42 : decode cX8_perform 42 = .ok (.aload_n 0, 1) := by decide +kernel
theorem dX8_perform_43 : decode cX8_perform 43 = .ok (.getfield 16, 3) := by decide +kernel
theorem dX8_perform_46 : decode cX8_perform 46 = .ok (.iload_n 1, 1) := by decide +kernel
theorem dX8_perform_47 : decode cX8_perform 47 = .ok (.bipush 16, 2) := by decide +kernel
theorem dX8_perform_49 : decode cX8_perform 49 = .ok (.imul, 1) := by decide +kernel
theorem dX8_perform_50 : decode cX8_perform 50 = .ok (.iload_n 2, 1) := by decide +kernel
theorem dX8_perform_51 : decode cX8_perform 51 = .ok (.bipush 20, 2) := by decide +kernel
theorem dX8_perform_53 : decode cX8_perform 53 = .ok (.iushr, 1) := by decide +kernel
theorem dX8_perform_54 : decode cX8_perform 54 = .ok (.bipush 15, 2) := by decide +kernel
theorem dX8_perform_56 : decode cX8_perform 56 = .ok (.iand, 1) := by decide +kernel
theorem dX8_perform_57 : decode cX8_perform 57 = .ok (.iadd, 1) := by decide +kernel
theorem dX8_perform_58 : decode cX8_perform 58 = .ok (.iaload, 1) := by decide +kernel
theorem dX8_perform_59 : decode cX8_perform 59 = .ok (.istore 7, 2) := by decide +kernel
theorem dX8_perform_61 : decode cX8_perform 61 = .ok (.aload_n 0, 1) := by decide +kernel
theorem dX8_perform_62 : decode cX8_perform 62 = .ok (.getfield 28, 3) := by decide +kernel
theorem dX8_perform_65 : decode cX8_perform 65 = .ok (.iload_n 1, 1) := by decide +kernel
theorem dX8_perform_66 : decode cX8_perform 66 = .ok (.iaload, 1) := by decide +kernel
theorem dX8_perform_67 : decode cX8_perform 67 = .ok (.istore 8, 2) := by decide +kernel
theorem dX8_perform_69 : decode cX8_perform 69 = .ok (.iload 8, 2) := by decide +kernel
theorem dX8_perform_71 : decode cX8_perform 71 = .ok (.iconst 4, 1) := by decide +kernel
theorem dX8_perform_72 : decode cX8_perform 72 = .ok (.iadd, 1) := by decide +kernel
theorem dX8_perform_73 : decode cX8_perform 73 = .ok (.istore 9, 2) := by decide +kernel
theorem dX8_perform_75 : decode cX8_perform 75 = .ok (.iconst 0, 1) := by decide +kernel
theorem dX8_perform_76 : decode cX8_perform 76 = .ok (.istore 10, 2) := by decide +kernel
theorem dX8_perform_78 : decode cX8_perform 78 = .ok (.iload_n 3, 1) := by decide +kernel
theorem dX8_perform_79 : decode cX8_perform 79 = .ok (.bipush 55, 2) := by decide +kernel
theorem dX8_perform_81 : decode cX8_perform 81 = .ok (.if_icmp .ne 18, 3) := by decide +kernel
theorem dX8_perform_84 : decode cX8_perform 84 = .ok (.aload_n 0, 1) := by decide +kernel
theorem dX8_perform_85 : decode cX8_perform 85 = .ok (.iload_n 1, 1) := by decide +kernel
