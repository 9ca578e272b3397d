theorem dX8_init_0 : decode cX8_init 0 = .ok (.aload_n 0, 1) := by decide +kernel
theorem dX8_init_1 : decode cX8_init 1 = .ok (.invokespecial 1, 3) := by decide +kernel
theorem dX8_init_4 : decode cX8_init 4 = .ok (.aload_n 0, 1) := by decide +kernel
theorem dX8_init_5 : decode cX8_init 5 = .ok (.bipush 96, 2) := by decide +kernel
theorem dX8_init_7 : decode cX8_init 7 = .ok (.newarray .int, 2) := by decide +kernel
theorem dX8_init_9 : decode cX8_init 9 = .ok (.putfield 7, 3) := by decide +kernel
theorem dX8_init_12 : decode cX8_init 12 = .ok (.aload_n 0, 1) := by decide +kernel
theorem dX8_init_13 : decode cX8_init 13 = .ok (.sipush 128, 3) := by decide +kernel
theorem dX8_init_16 : decode cX8_init 16 = .ok (.newarray .int, 2) := by decide +kernel
theorem dX8_init_18 : decode cX8_init 18 = .ok (.putfield 13, 3) := by decide +kernel
theorem dX8_init_21 : decode cX8_init 21 = .ok (.aload_n 0, 1) := by decide +kernel
theorem dX8_init_22 : decode cX8_init 22 = .ok (.bipush 64, 2) := by decide +kernel
theorem dX8_init_24 : decode cX8_init 24 = .ok (.newarray .int, 2) := by decide +kernel
theorem dX8_init_26 : decode cX8_init 26 = .ok (.putfield 16, 3) := by decide +kernel
theorem dX8_init_29 : decode cX8_init 29 = .ok (.aload_n 0, 1) := by decide +kernel
theorem dX8_init_30 : decode cX8_init 30 = .ok (.iconst 4, 1) := by decide +kernel
theorem dX8_init_31 : decode cX8_init 31 = .ok (.newarray .int, 2) := by decide +kernel
theorem dX8_init_33 : decode cX8_init 33 = .ok (.putfield 19, 3) := by decide +kernel
theorem dX8_init_36 : decode cX8_init 36 = .ok (.aload_n 0, 1) := by decide +kernel
theorem dX8_init_37 : decode cX8_init 37 = .ok (.iconst 4, 1) := by decide +kernel
theorem dX8_init_38 : decode cX8_init 38 = .ok (.newarray .int, 2) := by decide +kernel
theorem dX8_init_40 : decode cX8_init 40 = .ok (.putfield 22, 3) := by decide +kernel
theorem dX8_init_43 : decode cX8_init 43 = .ok (.aload_n 0, 1) := by decide +kernel
theorem dX8_init_44 : decode cX8_init 44 = .ok (.iconst 4, 1) := by decide +kernel
theorem dX8_init_45 : decode cX8_init 45 = .ok (.newarray .int, 2) := by decide +kernel
theorem dX8_init_47 : decode cX8_init 47 = .ok (.putfield 25, 3) := by decide +kernel
theorem dX8_init_50 : decode cX8_init 50 = .ok (.aload_n 0, 1) := by decide +kernel
theorem dX8_init_51 : decode cX8_init 51 = .ok (.iconst 4, 1) := by decide +kernel
theorem dX8_init_52 : decode cX8_init 52 = .ok (.newarray .int, 2) := by decide +kernel
theorem dX8_init_54 : decode cX8_init 54 = .ok (.putfield 28, 3) := by decide +kernel
theorem dX8_init_57 : decode cX8_init 57 = .ok (.aload_n 0, 1) := by decide +kernel
theorem dX8_init_58 : decode cX8_init 58 = .ok (.iconst 4, 1) := by decide +kernel
theorem dX8_init_59 : decode cX8_init 59 = .ok (.newarray .int, 2) := by decide +kernel
theorem dX8_init_61 : decode cX8_init 61 = .ok (.putfield 31, 3) := by decide +kernel
theorem dX8_init_64 : decode cX8_init 64 = .ok (.aload_n 0, 1) := by decide +kernel
theorem dX8_init_65 : decode cX8_init 65 = .ok (.iconst 4, 1) := by decide +kernel
theorem dX8_init_66 : decode cX8_init 66 = .ok (.newarray .int, 2) := by decide +kernel
theorem dX8_init_68 : decode cX8_init 68 = .ok (.putfield 34, 3) := by decide +kernel
theorem dX8_init_71 : decode cX8_init 71 = .ok (.aload_n 0, 1) := by decide +kernel
theorem dX8_init_72 : decode cX8_init 72 = .ok (.iconst 4, 1) := by decide +kernel
theorem dX8_init_73 : decode cX8_init 73 = .ok (.newarray .int, 2) := by decide +kernel
theorem dX8_init_75 : decode cX8_init 75 = .ok (.putfield 37, 3) := by decide +kernel
theorem dX8_init_78 : decode cX8_init 78 = .ok (.aload_n 0, 1) := by decide +kernel
theorem dX8_init_79 : decode cX8_init 79 = .ok (.iconst 4, 1) := by decide +kernel
theorem dX8_init_80 : decode cX8_init 80 = .ok (.newarray .int, 2) := by decide +kernel
theorem dX8_init_82 : decode cX8_init 82 = .ok (.putfield 40, 3) := by decide +kernel
theorem dX8_init_85 : decode cX8_init 85 = .ok (.aload_n 0, 1) := by decide +kernel
theorem dX8_init_86 : decode cX8_init 86 = .ok (.iconst 4, 1) := by decide +kernel
theorem dX8_init_87 : decode cX8_init 87 = .ok (.newarray .int, 2) := by decide +kernel
theorem dX8_init_89 : decode cX8_init 89 = .ok (.putfield 43, 3) := by decide +kernel
theorem dX8_init_92 : decode cX8_init 92 = .ok (.aload_n 0, 1) := by decide +kernel
theorem dX8_init_93 : decode cX8_init 93 = .ok (.iconst 4, 1) := by decide +kernel
theorem dX8_init_94 : decode cX8_init 94 = .ok (.newarray .boolean, 2) := by decide +kernel
theorem dX8_init_96 : decode cX8_init 96 = .ok (.putfield 46, 3) := by decide +kernel
theorem dX8_init_99 : decode cX8_init 99 = .ok (.aload_n 0, 1) := by decide +kernel
theorem dX8_init_100 : decode cX8_init 100 = .ok (.iconst 4, 1) := by decide +kernel
theorem dX8_init_101 : decode cX8_init 101 = .ok (.newarray .boolean, 2) := by decide +kernel
theorem dX8_init_103 : decode cX8_init 103 = .ok (.putfield 50, 3) := by decide +kernel
theorem dX8_init_106 : decode cX8_init 106 = .ok (.aload_n 0, 1) := by decide +kernel
theorem dX8_init_107 : decode cX8_init 107 = .ok (.bipush 6, 2) := by decide +kernel
theorem dX8_init_109 : decode cX8_init 109 = .ok (.newarray .int, 2) := by decide +kernel
theorem dX8_init_111 : decode cX8_init 111 = .ok (.putfield 53, 3) := by decide +kernel
theorem dX8_init_114 : decode cX8_init 114 = .ok (.aload_n 0, 1) := by decide +kernel
theorem dX8_init_115 : decode cX8_init 115 = .ok (.bipush 6, 2) := by decide +kernel
theorem dX8_init_117 : decode cX8_init 117 = .ok (.newarray .int, 2) := by decide +kernel
theorem dX8_init_119 : decode cX8_init 119 = .ok (.putfield 56, 3) := by decide +kernel
theorem dX8_init_122 : decode cX8_init 122 = .ok (.aload_n 0, 1) := by decide +kernel
theorem dX8_init_123 : decode cX8_init 123 = .ok (.iconst 4, 1) := by decide +kernel
theorem dX8_init_124 : decode cX8_init 124 = .ok (.newarray .int, 2) := by decide +kernel
theorem dX8_init_126 : decode cX8_init 126 = .ok (.putfield 59, 3) := by decide +kernel
theorem dX8_init_129 : decode cX8_init 129 = .ok (.aload_n 0, 1) := by decide +kernel
theorem dX8_init_130 : decode cX8_init 130 = .ok (.iconst 4, 1) := by decide +kernel
theorem dX8_init_131 : decode cX8_init 131 = .ok (.newarray .int, 2) := by decide +kernel
theorem dX8_init_133 : decode cX8_init 133 = .ok (.putfield 62, 3) := by decide +kernel
theorem dX8_init_136 : decode cX8_init 136 = .ok (.aload_n 0, 1) := by decide +kernel
theorem dX8_init_137 : decode cX8_init 137 = .ok (.iconst 4, 1) := by decide +kernel
theorem dX8_init_138 : decode cX8_init 138 = .ok (.newarray .int, 2) := by decide +kernel
theorem dX8_init_140 : decode cX8_init 140 = .ok (.putfield 65, 3) := by decide +kernel
theorem dX8_init_143 : decode cX8_init 143 = .ok (.aload_n 0, 1) := by decide +kernel
theorem dX8_init_144 : decode cX8_init 144 = .ok (.iconst 4, 1) := by decide +kernel
theorem dX8_init_145 : decode cX8_init 145 = .ok (.newarray .int, 2) := by decide +kernel
theorem dX8_init_147 : decode cX8_init 147 = .ok (.putfield 68, 3) := by decide +kernel
theorem dX8_init_150 : decode cX8_init 150 = .ok (.aload_n 0, 1) := by decide +kernel
theorem dX8_init_151 : decode cX8_init 151 = .ok (.iconst 4, 1) := by decide +kernel
theorem dX8_init_152 : decode cX8_init 152 = .ok (.newarray .int, 2) := by decide +kernel
theorem dX8_init_154 : decode cX8_init 154 = .ok (.putfield 71, 3) := by decide +kernel
theorem dX8_init_157 : decode cX8_init 157 = .ok (.aload_n 0, 1) := by decide +kernel
theorem dX8_init_158 : decode cX8_init 158 = .ok (.iconst 4, 1) := by decide +kernel
theorem dX8_init_159 : decode cX8_init 159 = .ok (.newarray .int, 2) := by decide +kernel
theorem dX8_init_161 : decode cX8_init 161 = .ok (.putfield 74, 3) := by decide +kernel
theorem dX8_init_164 : decode cX8_init 164 = .ok (.aload_n 0, 1) := by decide +kernel
theorem dX8_init_165 : decode cX8_init 165 = .ok (.iconst 4, 1) := by decide +kernel
theorem dX8_init_166 : decode cX8_init 166 = .ok (.newarray .int, 2) := by decide +kernel
theorem dX8_init_168 : decode cX8_init 168 = .ok (.putfield 77, 3) := by decide +kernel
theorem dX8_init_171 : decode cX8_init 171 = .ok (.aload_n 0, 1) := by decide +kernel
theorem dX8_init_172 : decode cX8_init 172 = .ok (.iload_n 1, 1) := by decide +kernel
theorem dX8_init_173 : decode cX8_init 173 = .ok (.putfield 80, 3) := by decide +kernel
theorem dX8_init_176 : decode cX8_init 176 = .ok (.iconst 0, 1) := by decide +kernel
theorem dX8_init_177 : decode cX8_init 177 = .ok (.istore_n 2, 1) := by decide +kernel
theorem dX8_init_178 : decode cX8_init 178 = .ok (.iload_n 2, 1) := by decide +kernel
theorem dX8_init_179 : decode cX8_init 179 = .ok (.iconst 4, 1) := by decide +kernel
theorem dX8_init_180 : decode cX8_init 180 = .ok (.if_icmp .ge 23, 3) := by decide +kernel
theorem dX8_init_183 : decode cX8_init 183 = .ok (.aload_n 0, 1) := by decide +kernel
theorem dX8_init_184 : decode cX8_init 184 = .ok (.getfield 59, 3) := by decide +kernel
theorem dX8_init_187 : decode cX8_init 187 = .ok (.iload_n 2, 1) := by decide +kernel
theorem dX8_init_188 : decode cX8_init 188 = .ok (.iconst (-1), 1) := by decide +kernel
theorem dX8_init_189 : decode cX8_init 189 = .ok (.iastore, 1) := by decide +kernel
theorem dX8_init_190 : decode cX8_init 190 = .ok (.aload_n 0, 1) := by decide +kernel
theorem dX8_init_191 : decode cX8_init 191 = .ok (.getfield 65, 3) := by decide +kernel
theorem dX8_init_194 : decode cX8_init 194 = .ok (.iload_n 2, 1) := by decide +kernel
theorem dX8_init_195 : decode cX8_init 195 = .ok (.iconst 1, 1) := by decide +kernel
theorem dX8_init_196 : decode cX8_init 196 = .ok (.iastore, 1) := by decide +kernel
theorem dX8_init_197 : decode cX8_init 197 = .ok (.iinc 2 1, 3) := by decide +kernel
theorem dX8_init_200 : decode cX8_init 200 = .ok (.goto (-22), 3) := by decide +kernel
theorem dX8_init_203 : decode cX8_init 203 = .ok (.return_, 1) := by decide +kernel
theorem dX8_thrown_0 : decode cX8_thrown 0 = .ok (.aload_n 0, 1) := by decide +kernel
theorem dX8_thrown_1 : decode cX8_thrown 1 = .ok (.getfield 84, 3) := by decide +kernel
theorem dX8_thrown_4 : decode cX8_thrown 4 = .ok (.ireturn, 1) := by decide +kernel
theorem dX8_mix_0 : decode cX8_mix 0 = .ok (.iload_n 1, 1) := by decide +kernel
theorem dX8_mix_1 : decode cX8_mix 1 = .ok (.bipush 31, 2) := by decide +kernel
theorem dX8_mix_3 : decode cX8_mix 3 = .ok (.imul, 1) := by decide +kernel
theorem dX8_mix_4 : decode cX8_mix 4 = .ok (.iload_n 2, 1) := by decide +kernel
theorem dX8_mix_5 : decode cX8_mix 5 = .ok (.iadd, 1) := by decide +kernel
theorem dX8_mix_6 : decode cX8_mix 6 = .ok (.ldc 87, 2) := by decide +kernel
theorem dX8_mix_8 : decode cX8_mix 8 = .ok (.imul, 1) := by decide +kernel
theorem dX8_mix_9 : decode cX8_mix 9 = .ok (.istore_n 3, 1) := by decide +kernel
theorem dX8_mix_10 : decode cX8_mix 10 = .ok (.iload_n 3, 1) := by decide +kernel
theorem dX8_mix_11 : decode cX8_mix 11 = .ok (.iload_n 3, 1) := by decide +kernel
theorem dX8_mix_12 : decode cX8_mix 12 = .ok (.bipush 15, 2) := by decide +kernel
theorem dX8_mix_14 : decode cX8_mix 14 = .ok (.iushr, 1) := by decide +kernel
theorem dX8_mix_15 : decode cX8_mix 15 = .ok (.ixor, 1) := by decide +kernel
theorem dX8_mix_16 : decode cX8_mix 16 = .ok (.ireturn, 1) := by decide +kernel
theorem dX8_no_0 : decode cX8_no 0 = .ok (.iload_n 1, 1) := by decide +kernel
theorem dX8_no_1 : decode cX8_no 1 = .ok (.ifCond .lt 8, 3) := by decide +kernel
theorem dX8_no_4 : decode cX8_no 4 = .ok (.iload_n 1, 1) := by decide +kernel
theorem dX8_no_5 : decode cX8_no 5 = .ok (.iload_n 2, 1) := by decide +kernel
theorem dX8_no_6 : decode cX8_no 6 = .ok (.if_icmp .le 7, 3) := by decide +kernel
theorem dX8_no_9 : decode cX8_no 9 = .ok (.iconst 1, 1) := by decide +kernel
theorem dX8_no_10 : decode cX8_no 10 = .ok (.goto 4, 3) := by decide +kernel
theorem dX8_no_13 : decode cX8_no 13 = .ok (.iconst 0, 1) := by decide +kernel
theorem dX8_no_14 : decode cX8_no 14 = .ok (.ireturn, 1) := by decide +kernel
theorem dX8_set_0 : decode cX8_set 0 = .ok (.aload_n 0, 1) := by decide +kernel
theorem dX8_set_1 : decode cX8_set 1 = .ok (.iload_n 1, 1) := by decide +kernel
theorem dX8_set_2 : decode cX8_set 2 = .ok (.ifCond .eq 7, 3) := by decide +kernel
theorem dX8_set_5 : decode cX8_set 5 = .ok (.iconst 1, 1) := by decide +kernel
theorem dX8_set_6 : decode cX8_set 6 = .ok (.goto 15, 3) := by decide +kernel
theorem dX8_set_9 : decode cX8_set 9 = .ok (.aload_n 0, 1) := by decide +kernel
theorem dX8_set_10 : decode cX8_set 10 = .ok (.getfield 88, 3) := by decide +kernel
theorem dX8_set_13 : decode cX8_set 13 = .ok (.ifCond .eq 7, 3) := by decide +kernel
theorem dX8_set_16 : decode cX8_set 16 = .ok (.iconst 2, 1) := by decide +kernel
theorem dX8_set_17 : decode cX8_set 17 = .ok (.goto 4, 3) := by decide +kernel
theorem dX8_set_20 : decode cX8_set 20 = .ok (.iconst 0, 1) := by decide +kernel
theorem dX8_set_21 : decode cX8_set 21 = .ok (.putfield 84, 3) := by decide +kernel
theorem dX8_set_24 : decode cX8_set 24 = .ok (.aload_n 0, 1) := by decide +kernel
theorem dX8_set_25 : decode cX8_set 25 = .ok (.getfield 84, 3) := by decide +kernel
theorem dX8_set_28 : decode cX8_set 28 = .ok (.ifCond .ne 7, 3) := by decide +kernel
theorem dX8_set_31 : decode cX8_set 31 = .ok (.iconst 1, 1) := by decide +kernel
theorem dX8_set_32 : decode cX8_set 32 = .ok (.goto 4, 3) := by decide +kernel
theorem dX8_set_35 : decode cX8_set 35 = .ok (.iconst 0, 1) := by decide +kernel
theorem dX8_set_36 : decode cX8_set 36 = .ok (.ireturn, 1) := by decide +kernel
theorem dX8_region_0 : decode cX8_region 0 = .ok (.aload_n 0, 1) := by decide +kernel
theorem dX8_region_1 : decode cX8_region 1 = .ok (.aload_n 0, 1) := by decide +kernel
theorem dX8_region_2 : decode cX8_region 2 = .ok (.iload_n 1, 1) := by decide +kernel
theorem dX8_region_3 : decode cX8_region 3 = .ok (.iconst 3, 1) := by decide +kernel
theorem dX8_region_4 : decode cX8_region 4 = .ok (.invokevirtual 92, 3) := by decide +kernel
theorem dX8_region_7 : decode cX8_region 7 = .ok (.ifCond .ne 31, 3) := by decide +kernel
theorem dX8_region_10 : decode cX8_region 10 = .ok (.aload_n 0, 1) := by decide +kernel
theorem dX8_region_11 : decode cX8_region 11 = .ok (.iload_n 2, 1) := by decide +kernel
theorem dX8_region_12 : decode cX8_region 12 = .ok (.bipush 95, 2) := by decide +kernel
theorem dX8_region_14 : decode cX8_region 14 = .ok (.invokevirtual 92, 3) := by decide +kernel
theorem dX8_region_17 : decode cX8_region 17 = .ok (.ifCond .ne 21, 3) := by decide +kernel
theorem dX8_region_20 : decode cX8_region 20 = .ok (.aload_n 0, 1) := by decide +kernel
theorem dX8_region_21 : decode cX8_region 21 = .ok (.iload_n 3, 1) := by decide +kernel
theorem dX8_region_22 : decode cX8_region 22 = .ok (.bipush 32, 2) := by decide +kernel
theorem dX8_region_24 : decode cX8_region 24 = .ok (.invokevirtual 92, 3) := by decide +kernel
theorem dX8_region_27 : decode cX8_region 27 = .ok (.ifCond .ne 11, 3) := by decide +kernel
theorem dX8_region_30 : decode cX8_region 30 = .ok (.iload_n 2, 1) := by decide +kernel
theorem dX8_region_31 : decode cX8_region 31 = .ok (.iload_n 3, 1) := by decide +kernel
theorem dX8_region_32 : decode cX8_region 32 = .ok (.iadd, 1) := by decide +kernel
theorem dX8_region_33 : decode cX8_region 33 = .ok (.bipush 96, 2) := by decide +kernel
theorem dX8_region_35 : decode cX8_region 35 = .ok (.if_icmp .le 7, 3) := by decide +kernel
theorem dX8_region_38 : decode cX8_region 38 = .ok (.iconst 1, 1) := by decide +kernel
theorem dX8_region_39 : decode cX8_region 39 = .ok (.goto 4, 3) := by decide +kernel
theorem dX8_region_42 : decode cX8_region 42 = .ok (.iconst 0, 1) := by decide +kernel
theorem dX8_region_43 : decode cX8_region 43 = .ok (.invokevirtual 96, 3) := by decide +kernel
theorem dX8_region_46 : decode cX8_region 46 = .ok (.ifCond .ne 4, 3) := by decide +kernel
theorem dX8_region_49 : decode cX8_region 49 = .ok (.return_, 1) := by decide +kernel
theorem dX8_region_50 : decode cX8_region 50 = .ok (.iconst 0, 1) := by decide +kernel
theorem dX8_region_51 : decode cX8_region 51 = .ok (.istore 4, 2) := by decide +kernel
theorem dX8_region_53 : decode cX8_region 53 = .ok (.iload 4, 2) := by decide +kernel
theorem dX8_region_55 : decode cX8_region 55 = .ok (.iconst 4, 1) := by decide +kernel
theorem dX8_region_56 : decode cX8_region 56 = .ok (.if_icmp .ge 66, 3) := by decide +kernel
theorem dX8_region_59 : decode cX8_region 59 = .ok (.iload 4, 2) := by decide +kernel
theorem dX8_region_61 : decode cX8_region 61 = .ok (.iload_n 1, 1) := by decide +kernel
theorem dX8_region_62 : decode cX8_region 62 = .ok (.if_icmp .eq 54, 3) := by decide +kernel
theorem dX8_region_65 : decode cX8_region 65 = .ok (.iload_n 3, 1) := by decide +kernel
theorem dX8_region_66 : decode cX8_region 66 = .ok (.ifCond .le 50, 3) := by decide +kernel
theorem dX8_region_69 : decode cX8_region 69 = .ok (.aload_n 0, 1) := by decide +kernel
theorem dX8_region_70 : decode cX8_region 70 = .ok (.getfield 22, 3) := by decide +kernel
theorem dX8_region_73 : decode cX8_region 73 = .ok (.iload 4, 2) := by decide +kernel
theorem dX8_region_75 : decode cX8_region 75 = .ok (.iaload, 1) := by decide +kernel
theorem dX8_region_76 : decode cX8_region 76 = .ok (.ifCond .le 40, 3) := by decide +kernel
theorem dX8_region_79 : decode cX8_region 79 = .ok (.iload_n 2, 1) := by decide +kernel
theorem dX8_region_80 : decode cX8_region 80 = .ok (.aload_n 0, 1) := by decide +kernel
theorem dX8_region_81 : decode cX8_region 81 = .ok (.getfield 19, 3) := by decide +kernel
theorem dX8_region_84 : decode cX8_region 84 = .ok (.iload 4, 2) := by decide +kernel
theorem dX8_region_86 : decode cX8_region 86 = .ok (.iaload, 1) := by decide +kernel
theorem dX8_region_87 : decode cX8_region 87 = .ok (.aload_n 0, 1) := by decide +kernel
theorem dX8_region_88 : decode cX8_region 88 = .ok (.getfield 22, 3) := by decide +kernel
theorem dX8_region_91 : decode cX8_region 91 = .ok (.iload 4, 2) := by decide +kernel
theorem dX8_region_93 : decode cX8_region 93 = .ok (.iaload, 1) := by decide +kernel
theorem dX8_region_94 : decode cX8_region 94 = .ok (.iadd, 1) := by decide +kernel
theorem dX8_region_95 : decode cX8_region 95 = .ok (.if_icmp .ge 21, 3) := by decide +kernel
theorem dX8_region_98 : decode cX8_region 98 = .ok (.aload_n 0, 1) := by decide +kernel
theorem dX8_region_99 : decode cX8_region 99 = .ok (.getfield 19, 3) := by decide +kernel
theorem dX8_region_102 : decode cX8_region 102 = .ok (.iload 4, 2) := by decide +kernel
theorem dX8_region_104 : decode cX8_region 104 = .ok (.iaload, 1) := by decide +kernel
theorem dX8_region_105 : decode cX8_region 105 = .ok (.iload_n 2, 1) := by decide +kernel
theorem dX8_region_106 : decode cX8_region 106 = .ok (.iload_n 3, 1) := by decide +kernel
theorem dX8_region_107 : decode cX8_region 107 = .ok (.iadd, 1) := by decide +kernel
theorem dX8_region_108 : decode cX8_region 108 = .ok (.if_icmp .ge 8, 3) := by decide +kernel
theorem dX8_region_111 : decode cX8_region 111 = .ok (.aload_n 0, 1) := by decide +kernel
theorem dX8_region_112 : decode cX8_region 112 = .ok (.iconst 3, 1) := by decide +kernel
theorem dX8_region_113 : decode cX8_region 113 = .ok (.putfield 84, 3) := by decide +kernel
theorem dX8_region_116 : decode cX8_region 116 = .ok (.iinc 4 1, 3) := by decide +kernel
theorem dX8_region_119 : decode cX8_region 119 = .ok (.goto (-66), 3) := by decide +kernel
theorem dX8_region_122 : decode cX8_region 122 = .ok (.aload_n 0, 1) := by decide +kernel
theorem dX8_region_123 : decode cX8_region 123 = .ok (.getfield 84, 3) := by decide +kernel
theorem dX8_region_126 : decode cX8_region 126 = .ok (.ifCond .eq 4, 3) := by decide +kernel
theorem dX8_region_129 : decode cX8_region 129 = .ok (.return_, 1) := by decide +kernel
theorem dX8_region_130 : decode cX8_region 130 = .ok (.aload_n 0, 1) := by decide +kernel
theorem dX8_region_131 : decode cX8_region 131 = .ok (.getfield 19, 3) := by decide +kernel
theorem dX8_region_134 : decode cX8_region 134 = .ok (.iload_n 1, 1) := by decide +kernel
theorem dX8_region_135 : decode cX8_region 135 = .ok (.iload_n 2, 1) := by decide +kernel
theorem dX8_region_136 : decode cX8_region 136 = .ok (.iastore, 1) := by decide +kernel
theorem dX8_region_137 : decode cX8_region 137 = .ok (.aload_n 0, 1) := by decide +kernel
theorem dX8_region_138 : decode cX8_region 138 = .ok (.getfield 22, 3) := by decide +kernel
theorem dX8_region_141 : decode cX8_region 141 = .ok (.iload_n 1, 1) := by decide +kernel
theorem dX8_region_142 : decode cX8_region 142 = .ok (.iload_n 3, 1) := by decide +kernel
theorem dX8_region_143 : decode cX8_region 143 = .ok (.iastore, 1) := by decide +kernel
theorem dX8_region_144 : decode cX8_region 144 = .ok (.return_, 1) := by decide +kernel
theorem dX8_load_0 : decode cX8_load 0 = .ok (.aload_n 0, 1) := by decide +kernel
theorem dX8_load_1 : decode cX8_load 1 = .ok (.aload_n 0, 1) := by decide +kernel
theorem dX8_load_2 : decode cX8_load 2 = .ok (.iload_n 1, 1) := by decide +kernel
theorem dX8_load_3 : decode cX8_load 3 = .ok (.bipush 95, 2) := by decide +kernel
theorem dX8_load_5 : decode cX8_load 5 = .ok (.invokevirtual 92, 3) := by decide +kernel
theorem dX8_load_8 : decode cX8_load 8 = .ok (.invokevirtual 96, 3) := by decide +kernel
theorem dX8_load_11 : decode cX8_load 11 = .ok (.ifCond .eq 10, 3) := by decide +kernel
theorem dX8_load_14 : decode cX8_load 14 = .ok (.aload_n 0, 1) := by decide +kernel
theorem dX8_load_15 : decode cX8_load 15 = .ok (.getfield 7, 3) := by decide +kernel
theorem dX8_load_18 : decode cX8_load 18 = .ok (.iload_n 1, 1) := by decide +kernel
theorem dX8_load_19 : decode cX8_load 19 = .ok (.iload_n 2, 1) := by decide +kernel
theorem dX8_load_20 : decode cX8_load 20 = .ok (.iastore, 1) := by decide +kernel
theorem dX8_load_21 : decode cX8_load 21 = .ok (.return_, 1) := by decide +kernel
theorem dX8_policy_0 : decode cX8_policy 0 = .ok (.aload_n 0, 1) := by decide +kernel
theorem dX8_policy_1 : decode cX8_policy 1 = .ok (.aload_n 0, 1) := by decide +kernel
theorem dX8_policy_2 : decode cX8_policy 2 = .ok (.iload_n 1, 1) := by decide +kernel
theorem dX8_policy_3 : decode cX8_policy 3 = .ok (.iconst 3, 1) := by decide +kernel
theorem dX8_policy_4 : decode cX8_policy 4 = .ok (.invokevirtual 92, 3) := by decide +kernel
theorem dX8_policy_7 : decode cX8_policy 7 = .ok (.ifCond .ne 12, 3) := by decide +kernel
theorem dX8_policy_10 : decode cX8_policy 10 = .ok (.aload_n 0, 1) := by decide +kernel
theorem dX8_policy_11 : decode cX8_policy 11 = .ok (.iload_n 2, 1) := by decide +kernel
theorem dX8_policy_12 : decode cX8_policy 12 = .ok (.iconst 2, 1) := by decide +kernel
theorem dX8_policy_13 : decode cX8_policy 13 = .ok (.invokevirtual 92, 3) := by decide +kernel
theorem dX8_policy_16 : decode cX8_policy 16 = .ok (.ifCond .eq 7, 3) := by decide +kernel
theorem dX8_policy_19 : decode cX8_policy 19 = .ok (.iconst 1, 1) := by decide +kernel
theorem dX8_policy_20 : decode cX8_policy 20 = .ok (.goto 4, 3) := by decide +kernel
theorem dX8_policy_23 : decode cX8_policy 23 = .ok (.iconst 0, 1) := by decide +kernel
theorem dX8_policy_24 : decode cX8_policy 24 = .ok (.invokevirtual 96, 3) := by decide +kernel
theorem dX8_policy_27 : decode cX8_policy 27 = .ok (.ifCond .eq 10, 3) := by decide +kernel
theorem dX8_policy_30 : decode cX8_policy 30 = .ok (.aload_n 0, 1) := by decide +kernel
theorem dX8_policy_31 : decode cX8_policy 31 = .ok (.getfield 25, 3) := by decide +kernel
theorem dX8_policy_34 : decode cX8_policy 34 = .ok (.iload_n 1, 1) := by decide +kernel
theorem dX8_policy_35 : decode cX8_policy 35 = .ok (.iload_n 2, 1) := by decide +kernel
theorem dX8_policy_36 : decode cX8_policy 36 = .ok (.iastore, 1) := by decide +kernel
theorem dX8_policy_37 : decode cX8_policy 37 = .ok (.return_, 1) := by decide +kernel
theorem dX8_window_0 : decode cX8_window 0 = .ok (.aload_n 0, 1) := by decide +kernel
theorem dX8_window_1 : decode cX8_window 1 = .ok (.aload_n 0, 1) := by decide +kernel
theorem dX8_window_2 : decode cX8_window 2 = .ok (.iload_n 1, 1) := by decide +kernel
theorem dX8_window_3 : decode cX8_window 3 = .ok (.iconst 3, 1) := by decide +kernel
theorem dX8_window_4 : decode cX8_window 4 = .ok (.invokevirtual 92, 3) := by decide +kernel
theorem dX8_window_7 : decode cX8_window 7 = .ok (.ifCond .ne 14, 3) := by decide +kernel
theorem dX8_window_10 : decode cX8_window 10 = .ok (.iload_n 2, 1) := by decide +kernel
theorem dX8_window_11 : decode cX8_window 11 = .ok (.iconst 1, 1) := by decide +kernel
theorem dX8_window_12 : decode cX8_window 12 = .ok (.if_icmp .lt 9, 3) := by decide +kernel
theorem dX8_window_15 : decode cX8_window 15 = .ok (.iload_n 2, 1) := by decide +kernel
theorem dX8_window_16 : decode cX8_window 16 = .ok (.bipush 20, 2) := by decide +kernel
theorem dX8_window_18 : decode cX8_window 18 = .ok (.if_icmp .le 7, 3) := by decide +kernel
theorem dX8_window_21 : decode cX8_window 21 = .ok (.iconst 1, 1) := by decide +kernel
theorem dX8_window_22 : decode cX8_window 22 = .ok (.goto 4, 3) := by decide +kernel
theorem dX8_window_25 : decode cX8_window 25 = .ok (.iconst 0, 1) := by decide +kernel
theorem dX8_window_26 : decode cX8_window 26 = .ok (.invokevirtual 96, 3) := by decide +kernel
theorem dX8_window_29 : decode cX8_window 29 = .ok (.ifCond .ne 5, 3) := by decide +kernel
theorem dX8_window_32 : decode cX8_window 32 = .ok (.iconst 0, 1) := by decide +kernel
theorem dX8_window_33 : decode cX8_window 33 = .ok (.ireturn, 1) := by decide +kernel
theorem dX8_window_34 : decode cX8_window 34 = .ok (.aload_n 0, 1) := by decide +kernel
theorem dX8_window_35 : decode cX8_window 35 = .ok (.getfield 100, 3) := by decide +kernel
theorem dX8_window_38 : decode cX8_window 38 = .ok (.bipush 6, 2) := by decide +kernel
theorem dX8_window_40 : decode cX8_window 40 = .ok (.if_icmp .ne 10, 3) := by decide +kernel
theorem dX8_window_43 : decode cX8_window 43 = .ok (.aload_n 0, 1) := by decide +kernel
theorem dX8_window_44 : decode cX8_window 44 = .ok (.iconst 2, 1) := by decide +kernel
theorem dX8_window_45 : decode cX8_window 45 = .ok (.putfield 84, 3) := by decide +kernel
theorem dX8_window_48 : decode cX8_window 48 = .ok (.iconst 0, 1) := by decide +kernel
theorem dX8_window_49 : decode cX8_window 49 = .ok (.ireturn, 1) := by decide +kernel
theorem dX8_window_50 : decode cX8_window 50 = .ok (.aload_n 0, 1) := by decide +kernel
theorem dX8_window_51 : decode cX8_window 51 = .ok (.getfield 53, 3) := by decide +kernel
theorem dX8_window_54 : decode cX8_window 54 = .ok (.aload_n 0, 1) := by decide +kernel
theorem dX8_window_55 : decode cX8_window 55 = .ok (.getfield 100, 3) := by decide +kernel
theorem dX8_window_58 : decode cX8_window 58 = .ok (.iload_n 1, 1) := by decide +kernel
theorem dX8_window_59 : decode cX8_window 59 = .ok (.iastore, 1) := by decide +kernel
theorem dX8_window_60 : decode cX8_window 60 = .ok (.aload_n 0, 1) := by decide +kernel
theorem dX8_window_61 : decode cX8_window 61 = .ok (.getfield 56, 3) := by decide +kernel
theorem dX8_window_64 : decode cX8_window 64 = .ok (.aload_n 0, 1) := by decide +kernel
theorem dX8_window_65 : decode cX8_window 65 = .ok (.getfield 100, 3) := by decide +kernel
theorem dX8_window_68 : decode cX8_window 68 = .ok (.iload_n 2, 1) := by decide +kernel
theorem dX8_window_69 : decode cX8_window 69 = .ok (.iastore, 1) := by decide +kernel
theorem dX8_window_70 : decode cX8_window 70 = .ok (.aload_n 0, 1) := by decide +kernel
theorem dX8_window_71 : decode cX8_window 71 = .ok (.dup, 1) := by decide +kernel
theorem dX8_window_72 : decode cX8_window 72 = .ok (.getfield 100, 3) := by decide +kernel
theorem dX8_window_75 : decode cX8_window 75 = .ok (.iconst 1, 1) := by decide +kernel
theorem dX8_window_76 : decode cX8_window 76 = .ok (.iadd, 1) := by decide +kernel
theorem dX8_window_77 : decode cX8_window 77 = .ok (.putfield 100, 3) := by decide +kernel
theorem dX8_window_80 : decode cX8_window 80 = .ok (.aload_n 0, 1) := by decide +kernel
theorem dX8_window_81 : decode cX8_window 81 = .ok (.getfield 100, 3) := by decide +kernel
theorem dX8_window_84 : decode cX8_window 84 = .ok (.ireturn, 1) := by decide +kernel
theorem dX8_channel_0 : decode cX8_channel 0 = .ok (.aload_n 0, 1) := by decide +kernel
theorem dX8_channel_1 : decode cX8_channel 1 = .ok (.aload_n 0, 1) := by decide +kernel
theorem dX8_channel_2 : decode cX8_channel 2 = .ok (.iload_n 1, 1) := by decide +kernel
theorem dX8_channel_3 : decode cX8_channel 3 = .ok (.iconst 3, 1) := by decide +kernel
theorem dX8_channel_4 : decode cX8_channel 4 = .ok (.invokevirtual 92, 3) := by decide +kernel
theorem dX8_channel_7 : decode cX8_channel 7 = .ok (.ifCond .ne 36, 3) := by decide +kernel
theorem dX8_channel_10 : decode cX8_channel 10 = .ok (.iload_n 2, 1) := by decide +kernel
theorem dX8_channel_11 : decode cX8_channel 11 = .ok (.iconst (-1), 1) := by decide +kernel
theorem dX8_channel_12 : decode cX8_channel 12 = .ok (.if_icmp .lt 31, 3) := by decide +kernel
theorem dX8_channel_15 : decode cX8_channel 15 = .ok (.iload_n 2, 1) := by decide +kernel
theorem dX8_channel_16 : decode cX8_channel 16 = .ok (.iconst 3, 1) := by decide +kernel
theorem dX8_channel_17 : decode cX8_channel 17 = .ok (.if_icmp .gt 26, 3) := by decide +kernel
theorem dX8_channel_20 : decode cX8_channel 20 = .ok (.aload_n 0, 1) := by decide +kernel
theorem dX8_channel_21 : decode cX8_channel 21 = .ok (.iload_n 3, 1) := by decide +kernel
theorem dX8_channel_22 : decode cX8_channel 22 = .ok (.bipush 15, 2) := by decide +kernel
theorem dX8_channel_24 : decode cX8_channel 24 = .ok (.invokevirtual 92, 3) := by decide +kernel
theorem dX8_channel_27 : decode cX8_channel 27 = .ok (.ifCond .ne 16, 3) := by decide +kernel
theorem dX8_channel_30 : decode cX8_channel 30 = .ok (.iload 4, 2) := by decide +kernel
theorem dX8_channel_32 : decode cX8_channel 32 = .ok (.iconst 1, 1) := by decide +kernel
theorem dX8_channel_33 : decode cX8_channel 33 = .ok (.if_icmp .lt 10, 3) := by decide +kernel
theorem dX8_channel_36 : decode cX8_channel 36 = .ok (.iload 4, 2) := by decide +kernel
theorem dX8_channel_38 : decode cX8_channel 38 = .ok (.bipush 100, 2) := by decide +kernel
theorem dX8_channel_40 : decode cX8_channel 40 = .ok (.if_icmp .le 7, 3) := by decide +kernel
theorem dX8_channel_43 : decode cX8_channel 43 = .ok (.iconst 1, 1) := by decide +kernel
theorem dX8_channel_44 : decode cX8_channel 44 = .ok (.goto 4, 3) := by decide +kernel
theorem dX8_channel_47 : decode cX8_channel 47 = .ok (.iconst 0, 1) := by decide +kernel
theorem dX8_channel_48 : decode cX8_channel 48 = .ok (.invokevirtual 96, 3) := by decide +kernel
theorem dX8_channel_51 : decode cX8_channel 51 = .ok (.ifCond .ne 4, 3) := by decide +kernel
theorem dX8_channel_54 : decode cX8_channel 54 = .ok (.return_, 1) := by decide +kernel
theorem dX8_channel_55 : decode cX8_channel 55 = .ok (.aload_n 0, 1) := by decide +kernel
theorem dX8_channel_56 : decode cX8_channel 56 = .ok (.getfield 59, 3) := by decide +kernel
theorem dX8_channel_59 : decode cX8_channel 59 = .ok (.iload_n 1, 1) := by decide +kernel
theorem dX8_channel_60 : decode cX8_channel 60 = .ok (.iload_n 2, 1) := by decide +kernel
theorem dX8_channel_61 : decode cX8_channel 61 = .ok (.iastore, 1) := by decide +kernel
theorem dX8_channel_62 : decode cX8_channel 62 = .ok (.aload_n 0, 1) := by decide +kernel
theorem dX8_channel_63 : decode cX8_channel 63 = .ok (.getfield 62, 3) := by decide +kernel
theorem dX8_channel_66 : decode cX8_channel 66 = .ok (.iload_n 1, 1) := by decide +kernel
theorem dX8_channel_67 : decode cX8_channel 67 = .ok (.iload_n 3, 1) := by decide +kernel
theorem dX8_channel_68 : decode cX8_channel 68 = .ok (.iastore, 1) := by decide +kernel
theorem dX8_channel_69 : decode cX8_channel 69 = .ok (.aload_n 0, 1) := by decide +kernel
theorem dX8_channel_70 : decode cX8_channel 70 = .ok (.getfield 65, 3) := by decide +kernel
theorem dX8_channel_73 : decode cX8_channel 73 = .ok (.iload_n 1, 1) := by decide +kernel
theorem dX8_channel_74 : decode cX8_channel 74 = .ok (.iload 4, 2) := by decide +kernel
theorem dX8_channel_76 : decode cX8_channel 76 = .ok (.iastore, 1) := by decide +kernel
theorem dX8_channel_77 : decode cX8_channel 77 = .ok (.return_, 1) := by decide +kernel
theorem dX8_boot_0 : decode cX8_boot 0 = .ok (.aload_n 0, 1) := by decide +kernel
theorem dX8_boot_1 : decode cX8_boot 1 = .ok (.aload_n 0, 1) := by decide +kernel
theorem dX8_boot_2 : decode cX8_boot 2 = .ok (.getfield 88, 3) := by decide +kernel
theorem dX8_boot_5 : decode cX8_boot 5 = .ok (.ifCond .ne 10, 3) := by decide +kernel
theorem dX8_boot_8 : decode cX8_boot 8 = .ok (.aload_n 0, 1) := by decide +kernel
theorem dX8_boot_9 : decode cX8_boot 9 = .ok (.getfield 100, 3) := by decide +kernel
theorem dX8_boot_12 : decode cX8_boot 12 = .ok (.ifCond .ne 7, 3) := by decide +kernel
theorem dX8_boot_15 : decode cX8_boot 15 = .ok (.iconst 1, 1) := by decide +kernel
theorem dX8_boot_16 : decode cX8_boot 16 = .ok (.goto 4, 3) := by decide +kernel
theorem dX8_boot_19 : decode cX8_boot 19 = .ok (.iconst 0, 1) := by decide +kernel
theorem dX8_boot_20 : decode cX8_boot 20 = .ok (.putfield 84, 3) := by decide +kernel
theorem dX8_boot_23 : decode cX8_boot 23 = .ok (.aload_n 0, 1) := by decide +kernel
theorem dX8_boot_24 : decode cX8_boot 24 = .ok (.getfield 84, 3) := by decide +kernel
theorem dX8_boot_27 : decode cX8_boot 27 = .ok (.ifCond .eq 5, 3) := by decide +kernel
theorem dX8_boot_30 : decode cX8_boot 30 = .ok (.iconst 0, 1) := by decide +kernel
theorem dX8_boot_31 : decode cX8_boot 31 = .ok (.ireturn, 1) := by decide +kernel
theorem dX8_boot_32 : decode cX8_boot 32 = .ok (.aload_n 0, 1) := by decide +kernel
theorem dX8_boot_33 : decode cX8_boot 33 = .ok (.iconst 1, 1) := by decide +kernel
theorem dX8_boot_34 : decode cX8_boot 34 = .ok (.putfield 88, 3) := by decide +kernel
theorem dX8_boot_37 : decode cX8_boot 37 = .ok (.aload_n 0, 1) := by decide +kernel
theorem dX8_boot_38 : decode cX8_boot 38 = .ok (.dup, 1) := by decide +kernel
theorem dX8_boot_39 : decode cX8_boot 39 = .ok (.getfield 103, 3) := by decide +kernel
theorem dX8_boot_42 : decode cX8_boot 42 = .ok (.iconst 1, 1) := by decide +kernel
theorem dX8_boot_43 : decode cX8_boot 43 = .ok (.iadd, 1) := by decide +kernel
theorem dX8_boot_44 : decode cX8_boot 44 = .ok (.putfield 103, 3) := by decide +kernel
theorem dX8_boot_47 : decode cX8_boot 47 = .ok (.aload_n 0, 1) := by decide +kernel
theorem dX8_boot_48 : decode cX8_boot 48 = .ok (.iconst 0, 1) := by decide +kernel
theorem dX8_boot_49 : decode cX8_boot 49 = .ok (.putfield 106, 3) := by decide +kernel
theorem dX8_boot_52 : decode cX8_boot 52 = .ok (.aload_n 0, 1) := by decide +kernel
theorem dX8_boot_53 : decode cX8_boot 53 = .ok (.iconst 0, 1) := by decide +kernel
theorem dX8_boot_54 : decode cX8_boot 54 = .ok (.putfield 109, 3) := by decide +kernel
theorem dX8_boot_57 : decode cX8_boot 57 = .ok (.aload_n 0, 1) := by decide +kernel
theorem dX8_boot_58 : decode cX8_boot 58 = .ok (.iconst 0, 1) := by decide +kernel
theorem dX8_boot_59 : decode cX8_boot 59 = .ok (.putfield 112, 3) := by decide +kernel
theorem dX8_boot_62 : decode cX8_boot 62 = .ok (.aload_n 0, 1) := by decide +kernel
theorem dX8_boot_63 : decode cX8_boot 63 = .ok (.aload_n 0, 1) := by decide +kernel
theorem dX8_boot_64 : decode cX8_boot 64 = .ok (.getfield 56, 3) := by decide +kernel
theorem dX8_boot_67 : decode cX8_boot 67 = .ok (.iconst 0, 1) := by decide +kernel
theorem dX8_boot_68 : decode cX8_boot 68 = .ok (.iaload, 1) := by decide +kernel
theorem dX8_boot_69 : decode cX8_boot 69 = .ok (.putfield 115, 3) := by decide +kernel
theorem dX8_boot_72 : decode cX8_boot 72 = .ok (.aload_n 0, 1) := by decide +kernel
theorem dX8_boot_73 : decode cX8_boot 73 = .ok (.iconst 0, 1) := by decide +kernel
theorem dX8_boot_74 : decode cX8_boot 74 = .ok (.putfield 118, 3) := by decide +kernel
theorem dX8_boot_77 : decode cX8_boot 77 = .ok (.aload_n 0, 1) := by decide +kernel
theorem dX8_boot_78 : decode cX8_boot 78 = .ok (.iconst 1, 1) := by decide +kernel
theorem dX8_boot_79 : decode cX8_boot 79 = .ok (.putfield 121, 3) := by decide +kernel
theorem dX8_boot_82 : decode cX8_boot 82 = .ok (.iconst 0, 1) := by decide +kernel
theorem dX8_boot_83 : decode cX8_boot 83 = .ok (.istore_n 1, 1) := by decide +kernel
theorem dX8_boot_84 : decode cX8_boot 84 = .ok (.iload_n 1, 1) := by decide +kernel
theorem dX8_boot_85 : decode cX8_boot 85 = .ok (.iconst 4, 1) := by decide +kernel
theorem dX8_boot_86 : decode cX8_boot 86 = .ok (.if_icmp .ge 183, 3) := by decide +kernel
theorem dX8_boot_89 : decode cX8_boot 89 = .ok (.aload_n 0, 1) := by decide +kernel
theorem dX8_boot_90 : decode cX8_boot 90 = .ok (.getfield 50, 3) := by decide +kernel
theorem dX8_boot_93 : decode cX8_boot 93 = .ok (.iload_n 1, 1) := by decide +kernel
theorem dX8_boot_94 : decode cX8_boot 94 = .ok (.iconst 0, 1) := by decide +kernel
theorem dX8_boot_95 : decode cX8_boot 95 = .ok (.bastore, 1) := by decide +kernel
theorem dX8_boot_96 : decode cX8_boot 96 = .ok (.aload_n 0, 1) := by decide +kernel
theorem dX8_boot_97 : decode cX8_boot 97 = .ok (.getfield 31, 3) := by decide +kernel
theorem dX8_boot_100 : decode cX8_boot 100 = .ok (.iload_n 1, 1) := by decide +kernel
theorem dX8_boot_101 : decode cX8_boot 101 = .ok (.iconst 0, 1) := by decide +kernel
theorem dX8_boot_102 : decode cX8_boot 102 = .ok (.iastore, 1) := by decide +kernel
theorem dX8_boot_103 : decode cX8_boot 103 = .ok (.aload_n 0, 1) := by decide +kernel
theorem dX8_boot_104 : decode cX8_boot 104 = .ok (.getfield 34, 3) := by decide +kernel
theorem dX8_boot_107 : decode cX8_boot 107 = .ok (.iload_n 1, 1) := by decide +kernel
theorem dX8_boot_108 : decode cX8_boot 108 = .ok (.iconst 0, 1) := by decide +kernel
theorem dX8_boot_109 : decode cX8_boot 109 = .ok (.iastore, 1) := by decide +kernel
theorem dX8_boot_110 : decode cX8_boot 110 = .ok (.aload_n 0, 1) := by decide +kernel
theorem dX8_boot_111 : decode cX8_boot 111 = .ok (.getfield 37, 3) := by decide +kernel
theorem dX8_boot_114 : decode cX8_boot 114 = .ok (.iload_n 1, 1) := by decide +kernel
theorem dX8_boot_115 : decode cX8_boot 115 = .ok (.iconst 0, 1) := by decide +kernel
theorem dX8_boot_116 : decode cX8_boot 116 = .ok (.iastore, 1) := by decide +kernel
theorem dX8_boot_117 : decode cX8_boot 117 = .ok (.aload_n 0, 1) := by decide +kernel
theorem dX8_boot_118 : decode cX8_boot 118 = .ok (.getfield 40, 3) := by decide +kernel
theorem dX8_boot_121 : decode cX8_boot 121 = .ok (.iload_n 1, 1) := by decide +kernel
theorem dX8_boot_122 : decode cX8_boot 122 = .ok (.iconst 0, 1) := by decide +kernel
theorem dX8_boot_123 : decode cX8_boot 123 = .ok (.iastore, 1) := by decide +kernel
theorem dX8_boot_124 : decode cX8_boot 124 = .ok (.aload_n 0, 1) := by decide +kernel
theorem dX8_boot_125 : decode cX8_boot 125 = .ok (.getfield 43, 3) := by decide +kernel
theorem dX8_boot_128 : decode cX8_boot 128 = .ok (.iload_n 1, 1) := by decide +kernel
theorem dX8_boot_129 : decode cX8_boot 129 = .ok (.iconst 0, 1) := by decide +kernel
theorem dX8_boot_130 : decode cX8_boot 130 = .ok (.iastore, 1) := by decide +kernel
theorem dX8_boot_131 : decode cX8_boot 131 = .ok (.aload_n 0, 1) := by decide +kernel
theorem dX8_boot_132 : decode cX8_boot 132 = .ok (.getfield 46, 3) := by decide +kernel
theorem dX8_boot_135 : decode cX8_boot 135 = .ok (.iload_n 1, 1) := by decide +kernel
theorem dX8_boot_136 : decode cX8_boot 136 = .ok (.aload_n 0, 1) := by decide +kernel
theorem dX8_boot_137 : decode cX8_boot 137 = .ok (.getfield 22, 3) := by decide +kernel
theorem dX8_boot_140 : decode cX8_boot 140 = .ok (.iload_n 1, 1) := by decide +kernel
theorem dX8_boot_141 : decode cX8_boot 141 = .ok (.iaload, 1) := by decide +kernel
theorem dX8_boot_142 : decode cX8_boot 142 = .ok (.ifCond .le 7, 3) := by decide +kernel
theorem dX8_boot_145 : decode cX8_boot 145 = .ok (.iconst 1, 1) := by decide +kernel
theorem dX8_boot_146 : decode cX8_boot 146 = .ok (.goto 4, 3) := by decide +kernel
theorem dX8_boot_149 : decode cX8_boot 149 = .ok (.iconst 0, 1) := by decide +kernel
theorem dX8_boot_150 : decode cX8_boot 150 = .ok (.bastore, 1) := by decide +kernel
theorem dX8_boot_151 : decode cX8_boot 151 = .ok (.aload_n 0, 1) := by decide +kernel
theorem dX8_boot_152 : decode cX8_boot 152 = .ok (.iload_n 1, 1) := by decide +kernel
theorem dX8_boot_153 : decode cX8_boot 153 = .ok (.invokevirtual 124, 3) := by decide +kernel
theorem dX8_boot_156 : decode cX8_boot 156 = .ok (.aload_n 0, 1) := by decide +kernel
theorem dX8_boot_157 : decode cX8_boot 157 = .ok (.getfield 22, 3) := by decide +kernel
theorem dX8_boot_160 : decode cX8_boot 160 = .ok (.iload_n 1, 1) := by decide +kernel
theorem dX8_boot_161 : decode cX8_boot 161 = .ok (.iaload, 1) := by decide +kernel
theorem dX8_boot_162 : decode cX8_boot 162 = .ok (.ifCond .le 101, 3) := by decide +kernel
theorem dX8_boot_165 : decode cX8_boot 165 = .ok (.aload_n 0, 1) := by decide +kernel
theorem dX8_boot_166 : decode cX8_boot 166 = .ok (.aload_n 0, 1) := by decide +kernel
theorem dX8_boot_167 : decode cX8_boot 167 = .ok (.getfield 19, 3) := by decide +kernel
theorem dX8_boot_170 : decode cX8_boot 170 = .ok (.iload_n 1, 1) := by decide +kernel
theorem dX8_boot_171 : decode cX8_boot 171 = .ok (.iaload, 1) := by decide +kernel
theorem dX8_boot_172 : decode cX8_boot 172 = .ok (.aload_n 0, 1) := by decide +kernel
theorem dX8_boot_173 : decode cX8_boot 173 = .ok (.getfield 22, 3) := by decide +kernel
theorem dX8_boot_176 : decode cX8_boot 176 = .ok (.iload_n 1, 1) := by decide +kernel
theorem dX8_boot_177 : decode cX8_boot 177 = .ok (.iaload, 1) := by decide +kernel
theorem dX8_boot_178 : decode cX8_boot 178 = .ok (.invokevirtual 128, 3) := by decide +kernel
theorem dX8_boot_181 : decode cX8_boot 181 = .ok (.istore_n 2, 1) := by decide +kernel
theorem dX8_boot_182 : decode cX8_boot 182 = .ok (.iconst 0, 1) := by decide +kernel
theorem dX8_boot_183 : decode cX8_boot 183 = .ok (.istore_n 3, 1) := by decide +kernel
theorem dX8_boot_184 : decode cX8_boot 184 = .ok (.iload_n 3, 1) := by decide +kernel
theorem dX8_boot_185 : decode cX8_boot 185 = .ok (.aload_n 0, 1) := by decide +kernel
theorem dX8_boot_186 : decode cX8_boot 186 = .ok (.getfield 22, 3) := by decide +kernel
theorem dX8_boot_189 : decode cX8_boot 189 = .ok (.iload_n 1, 1) := by decide +kernel
theorem dX8_boot_190 : decode cX8_boot 190 = .ok (.iaload, 1) := by decide +kernel
theorem dX8_boot_191 : decode cX8_boot 191 = .ok (.if_icmp .ge 52, 3) := by decide +kernel
theorem dX8_boot_194 : decode cX8_boot 194 = .ok (.aload_n 0, 1) := by decide +kernel
theorem dX8_boot_195 : decode cX8_boot 195 = .ok (.iload_n 2, 1) := by decide +kernel
theorem dX8_boot_196 : decode cX8_boot 196 = .ok (.aload_n 0, 1) := by decide +kernel
theorem dX8_boot_197 : decode cX8_boot 197 = .ok (.getfield 7, 3) := by decide +kernel
theorem dX8_boot_200 : decode cX8_boot 200 = .ok (.aload_n 0, 1) := by decide +kernel
theorem dX8_boot_201 : decode cX8_boot 201 = .ok (.getfield 19, 3) := by decide +kernel
theorem dX8_boot_204 : decode cX8_boot 204 = .ok (.iload_n 1, 1) := by decide +kernel
theorem dX8_boot_205 : decode cX8_boot 205 = .ok (.iaload, 1) := by decide +kernel
theorem dX8_boot_206 : decode cX8_boot 206 = .ok (.iload_n 3, 1) := by decide +kernel
theorem dX8_boot_207 : decode cX8_boot 207 = .ok (.iadd, 1) := by decide +kernel
theorem dX8_boot_208 : decode cX8_boot 208 = .ok (.iaload, 1) := by decide +kernel
theorem dX8_boot_209 : decode cX8_boot 209 = .ok (.invokevirtual 128, 3) := by decide +kernel
theorem dX8_boot_212 : decode cX8_boot 212 = .ok (.istore_n 2, 1) := by decide +kernel
theorem dX8_boot_213 : decode cX8_boot 213 = .ok (.aload_n 0, 1) := by decide +kernel
theorem dX8_boot_214 : decode cX8_boot 214 = .ok (.getfield 13, 3) := by decide +kernel
theorem dX8_boot_217 : decode cX8_boot 217 = .ok (.iload_n 1, 1) := by decide +kernel
theorem dX8_boot_218 : decode cX8_boot 218 = .ok (.bipush 32, 2) := by decide +kernel
theorem dX8_boot_220 : decode cX8_boot 220 = .ok (.imul, 1) := by decide +kernel
theorem dX8_boot_221 : decode cX8_boot 221 = .ok (.iload_n 3, 1) := by decide +kernel
theorem dX8_boot_222 : decode cX8_boot 222 = .ok (.iadd, 1) := by decide +kernel
theorem dX8_boot_223 : decode cX8_boot 223 = .ok (.aload_n 0, 1) := by decide +kernel
theorem dX8_boot_224 : decode cX8_boot 224 = .ok (.getfield 7, 3) := by decide +kernel
theorem dX8_boot_227 : decode cX8_boot 227 = .ok (.aload_n 0, 1) := by decide +kernel
theorem dX8_boot_228 : decode cX8_boot 228 = .ok (.getfield 19, 3) := by decide +kernel
theorem dX8_boot_231 : decode cX8_boot 231 = .ok (.iload_n 1, 1) := by decide +kernel
theorem dX8_boot_232 : decode cX8_boot 232 = .ok (.iaload, 1) := by decide +kernel
theorem dX8_boot_233 : decode cX8_boot 233 = .ok (.iload_n 3, 1) := by decide +kernel
theorem dX8_boot_234 : decode cX8_boot 234 = .ok (.iadd, 1) := by decide +kernel
theorem dX8_boot_235 : decode cX8_boot 235 = .ok (.iaload, 1) := by decide +kernel
theorem dX8_boot_236 : decode cX8_boot 236 = .ok (.iastore, 1) := by decide +kernel
theorem dX8_boot_237 : decode cX8_boot 237 = .ok (.iinc 3 1, 3) := by decide +kernel
theorem dX8_boot_240 : decode cX8_boot 240 = .ok (.goto (-56), 3) := by decide +kernel
theorem dX8_boot_243 : decode cX8_boot 243 = .ok (.aload_n 0, 1) := by decide +kernel
theorem dX8_boot_244 : decode cX8_boot 244 = .ok (.getfield 43, 3) := by decide +kernel
theorem dX8_boot_247 : decode cX8_boot 247 = .ok (.iload_n 1, 1) := by decide +kernel
theorem dX8_boot_248 : decode cX8_boot 248 = .ok (.iload_n 2, 1) := by decide +kernel
theorem dX8_boot_249 : decode cX8_boot 249 = .ok (.iastore, 1) := by decide +kernel
theorem dX8_boot_250 : decode cX8_boot 250 = .ok (.aload_n 0, 1) := by decide +kernel
theorem dX8_boot_251 : decode cX8_boot 251 = .ok (.aload_n 0, 1) := by decide +kernel
theorem dX8_boot_252 : decode cX8_boot 252 = .ok (.aload_n 0, 1) := by decide +kernel
theorem dX8_boot_253 : decode cX8_boot 253 = .ok (.getfield 106, 3) := by decide +kernel
theorem dX8_boot_256 : decode cX8_boot 256 = .ok (.iload_n 2, 1) := by decide +kernel
theorem dX8_boot_257 : decode cX8_boot 257 = .ok (.invokevirtual 128, 3) := by decide +kernel
theorem dX8_boot_260 : decode cX8_boot 260 = .ok (.putfield 106, 3) := by decide +kernel
theorem dX8_boot_263 : decode cX8_boot 263 = .ok (.iinc 1 1, 3) := by decide +kernel
theorem dX8_boot_266 : decode cX8_boot 266 = .ok (.goto (-182), 3) := by decide +kernel
theorem dX8_boot_269 : decode cX8_boot 269 = .ok (.aload_n 0, 1) := by decide +kernel
theorem dX8_boot_270 : decode cX8_boot 270 = .ok (.getfield 106, 3) := by decide +kernel
theorem dX8_boot_273 : decode cX8_boot 273 = .ok (.ireturn, 1) := by decide +kernel
theorem dX8_clear_0 : decode cX8_clear 0 = .ok (.aload_n 0, 1) := by decide +kernel
theorem dX8_clear_1 : decode cX8_clear 1 = .ok (.getfield 28, 3) := by decide +kernel
theorem dX8_clear_4 : decode cX8_clear 4 = .ok (.iload_n 1, 1) := by decide +kernel
theorem dX8_clear_5 : decode cX8_clear 5 = .ok (.iconst 0, 1) := by decide +kernel
theorem dX8_clear_6 : decode cX8_clear 6 = .ok (.iastore, 1) := by decide +kernel
theorem dX8_clear_7 : decode cX8_clear 7 = .ok (.iconst 0, 1) := by decide +kernel
theorem dX8_clear_8 : decode cX8_clear 8 = .ok (.istore_n 2, 1) := by decide +kernel
theorem dX8_clear_9 : decode cX8_clear 9 = .ok (.iload_n 2, 1) := by decide +kernel
theorem dX8_clear_10 : decode cX8_clear 10 = .ok (.bipush 16, 2) := by decide +kernel
theorem dX8_clear_12 : decode cX8_clear 12 = .ok (.if_icmp .ge 21, 3) := by decide +kernel
theorem dX8_clear_15 : decode cX8_clear 15 = .ok (.aload_n 0, 1) := by decide +kernel
theorem dX8_clear_16 : decode cX8_clear 16 = .ok (.getfield 16, 3) := by decide +kernel
theorem dX8_clear_19 : decode cX8_clear 19 = .ok (.iload_n 1, 1) := by decide +kernel
theorem dX8_clear_20 : decode cX8_clear 20 = .ok (.bipush 16, 2) := by decide +kernel
theorem dX8_clear_22 : decode cX8_clear 22 = .ok (.imul, 1) := by decide +kernel
theorem dX8_clear_23 : decode cX8_clear 23 = .ok (.iload_n 2, 1) := by decide +kernel
theorem dX8_clear_24 : decode cX8_clear 24 = .ok (.iadd, 1) := by decide +kernel
theorem dX8_clear_25 : decode cX8_clear 25 = .ok (.iconst 0, 1) := by decide +kernel
theorem dX8_clear_26 : decode cX8_clear 26 = .ok (.iastore, 1) := by decide +kernel
theorem dX8_clear_27 : decode cX8_clear 27 = .ok (.iinc 2 1, 3) := by decide +kernel
theorem dX8_clear_30 : decode cX8_clear 30 = .ok (.goto (-21), 3) := by decide +kernel
theorem dX8_clear_33 : decode cX8_clear 33 = .ok (.return_, 1) := by decide +kernel
theorem dX8_reset_0 : decode cX8_reset 0 = .ok (.aload_n 0, 1) := by decide +kernel
theorem dX8_reset_1 : decode cX8_reset 1 = .ok (.aload_n 0, 1) := by decide +kernel
theorem dX8_reset_2 : decode cX8_reset 2 = .ok (.getfield 88, 3) := by decide +kernel
theorem dX8_reset_5 : decode cX8_reset 5 = .ok (.ifCond .eq 7, 3) := by decide +kernel
theorem dX8_reset_8 : decode cX8_reset 8 = .ok (.iconst 0, 1) := by decide +kernel
theorem dX8_reset_9 : decode cX8_reset 9 = .ok (.goto 4, 3) := by decide +kernel
theorem dX8_reset_12 : decode cX8_reset 12 = .ok (.iconst 1, 1) := by decide +kernel
theorem dX8_reset_13 : decode cX8_reset 13 = .ok (.putfield 84, 3) := by decide +kernel
theorem dX8_reset_16 : decode cX8_reset 16 = .ok (.aload_n 0, 1) := by decide +kernel
theorem dX8_reset_17 : decode cX8_reset 17 = .ok (.iconst 0, 1) := by decide +kernel
theorem dX8_reset_18 : decode cX8_reset 18 = .ok (.putfield 88, 3) := by decide +kernel
theorem dX8_reset_21 : decode cX8_reset 21 = .ok (.return_, 1) := by decide +kernel
theorem dX8_fault_0 : decode cX8_fault 0 = .ok (.aload_n 0, 1) := by decide +kernel
theorem dX8_fault_1 : decode cX8_fault 1 = .ok (.getfield 31, 3) := by decide +kernel
theorem dX8_fault_4 : decode cX8_fault 4 = .ok (.iload_n 1, 1) := by decide +kernel
theorem dX8_fault_5 : decode cX8_fault 5 = .ok (.dup2, 1) := by decide +kernel
theorem dX8_fault_6 : decode cX8_fault 6 = .ok (.iaload, 1) := by decide +kernel
theorem dX8_fault_7 : decode cX8_fault 7 = .ok (.iconst 1, 1) := by decide +kernel
theorem dX8_fault_8 : decode cX8_fault 8 = .ok (.iadd, 1) := by decide +kernel
theorem dX8_fault_9 : decode cX8_fault 9 = .ok (.iastore, 1) := by decide +kernel
theorem dX8_fault_10 : decode cX8_fault 10 = .ok (.aload_n 0, 1) := by decide +kernel
theorem dX8_fault_11 : decode cX8_fault 11 = .ok (.getfield 34, 3) := by decide +kernel
theorem dX8_fault_14 : decode cX8_fault 14 = .ok (.iload_n 1, 1) := by decide +kernel
theorem dX8_fault_15 : decode cX8_fault 15 = .ok (.iload_n 2, 1) := by decide +kernel
theorem dX8_fault_16 : decode cX8_fault 16 = .ok (.iastore, 1) := by decide +kernel
theorem dX8_fault_17 : decode cX8_fault 17 = .ok (.aload_n 0, 1) := by decide +kernel
theorem dX8_fault_18 : decode cX8_fault 18 = .ok (.getfield 25, 3) := by decide +kernel
theorem dX8_fault_21 : decode cX8_fault 21 = .ok (.iload_n 1, 1) := by decide +kernel
theorem dX8_fault_22 : decode cX8_fault 22 = .ok (.iaload, 1) := by decide +kernel
theorem dX8_fault_23 : decode cX8_fault 23 = .ok (.iconst 2, 1) := by decide +kernel
theorem dX8_fault_24 : decode cX8_fault 24 = .ok (.if_icmp .ne 16, 3) := by decide +kernel
theorem dX8_fault_27 : decode cX8_fault 27 = .ok (.aload_n 0, 1) := by decide +kernel
theorem dX8_fault_28 : decode cX8_fault 28 = .ok (.getfield 28, 3) := by decide +kernel
theorem dX8_fault_31 : decode cX8_fault 31 = .ok (.iload_n 1, 1) := by decide +kernel
theorem dX8_fault_32 : decode cX8_fault 32 = .ok (.dup2, 1) := by decide +kernel
theorem dX8_fault_33 : decode cX8_fault 33 = .ok (.iaload, 1) := by decide +kernel
theorem dX8_fault_34 : decode cX8_fault 34 = .ok (.iconst 4, 1) := by decide +kernel
theorem dX8_fault_35 : decode cX8_fault 35 = .ok (.iadd, 1) := by decide +kernel
theorem dX8_fault_36 : decode cX8_fault 36 = .ok (.iastore, 1) := by decide +kernel
theorem dX8_fault_37 : decode cX8_fault 37 = .ok (.goto 94, 3) := by decide +kernel
theorem dX8_fault_40 : decode cX8_fault 40 = .ok (.aload_n 0, 1) := by decide +kernel
theorem dX8_fault_41 : decode cX8_fault 41 = .ok (.getfield 25, 3) := by decide +kernel
theorem dX8_fault_44 : decode cX8_fault 44 = .ok (.iload_n 1, 1) := by decide +kernel
theorem dX8_fault_45 : decode cX8_fault 45 = .ok (.iaload, 1) := by decide +kernel
theorem dX8_fault_46 : decode cX8_fault 46 = .ok (.ifCond .eq 13, 3) := by decide +kernel
theorem dX8_fault_49 : decode cX8_fault 49 = .ok (.aload_n 0, 1) := by decide +kernel
theorem dX8_fault_50 : decode cX8_fault 50 = .ok (.getfield 37, 3) := by decide +kernel
theorem dX8_fault_53 : decode cX8_fault 53 = .ok (.iload_n 1, 1) := by decide +kernel
theorem dX8_fault_54 : decode cX8_fault 54 = .ok (.iaload, 1) := by decide +kernel
theorem dX8_fault_55 : decode cX8_fault 55 = .ok (.iconst 3, 1) := by decide +kernel
theorem dX8_fault_56 : decode cX8_fault 56 = .ok (.if_icmp .ne 13, 3) := by decide +kernel
theorem dX8_fault_59 : decode cX8_fault 59 = .ok (.aload_n 0, 1) := by decide +kernel
theorem dX8_fault_60 : decode cX8_fault 60 = .ok (.getfield 46, 3) := by decide +kernel
theorem dX8_fault_63 : decode cX8_fault 63 = .ok (.iload_n 1, 1) := by decide +kernel
theorem dX8_fault_64 : decode cX8_fault 64 = .ok (.iconst 0, 1) := by decide +kernel
theorem dX8_fault_65 : decode cX8_fault 65 = .ok (.bastore, 1) := by decide +kernel
theorem dX8_fault_66 : decode cX8_fault 66 = .ok (.goto 65, 3) := by decide +kernel
theorem dX8_fault_69 : decode cX8_fault 69 = .ok (.aload_n 0, 1) := by decide +kernel
theorem dX8_fault_70 : decode cX8_fault 70 = .ok (.getfield 37, 3) := by decide +kernel
theorem dX8_fault_73 : decode cX8_fault 73 = .ok (.iload_n 1, 1) := by decide +kernel
theorem dX8_fault_74 : decode cX8_fault 74 = .ok (.dup2, 1) := by decide +kernel
theorem dX8_fault_75 : decode cX8_fault 75 = .ok (.iaload, 1) := by decide +kernel
theorem dX8_fault_76 : decode cX8_fault 76 = .ok (.iconst 1, 1) := by decide +kernel
theorem dX8_fault_77 : decode cX8_fault 77 = .ok (.iadd, 1) := by decide +kernel
theorem dX8_fault_78 : decode cX8_fault 78 = .ok (.iastore, 1) := by decide +kernel
theorem dX8_fault_79 : decode cX8_fault 79 = .ok (.iconst 0, 1) := by decide +kernel
theorem dX8_fault_80 : decode cX8_fault 80 = .ok (.istore_n 3, 1) := by decide +kernel
theorem dX8_fault_81 : decode cX8_fault 81 = .ok (.iload_n 3, 1) := by decide +kernel
theorem dX8_fault_82 : decode cX8_fault 82 = .ok (.aload_n 0, 1) := by decide +kernel
theorem dX8_fault_83 : decode cX8_fault 83 = .ok (.getfield 22, 3) := by decide +kernel
theorem dX8_fault_86 : decode cX8_fault 86 = .ok (.iload_n 1, 1) := by decide +kernel
theorem dX8_fault_87 : decode cX8_fault 87 = .ok (.iaload, 1) := by decide +kernel
theorem dX8_fault_88 : decode cX8_fault 88 = .ok (.if_icmp .ge 33, 3) := by decide +kernel
theorem dX8_fault_91 : decode cX8_fault 91 = .ok (.aload_n 0, 1) := by decide +kernel
theorem dX8_fault_92 : decode cX8_fault 92 = .ok (.getfield 7, 3) := by decide +kernel
theorem dX8_fault_95 : decode cX8_fault 95 = .ok (.aload_n 0, 1) := by decide +kernel
theorem dX8_fault_96 : decode cX8_fault 96 = .ok (.getfield 19, 3) := by decide +kernel
theorem dX8_fault_99 : decode cX8_fault 99 = .ok (.iload_n 1, 1) := by decide +kernel
theorem dX8_fault_100 : decode cX8_fault 100 = .ok (.iaload, 1) := by decide +kernel
theorem dX8_fault_101 : decode cX8_fault 101 = .ok (.iload_n 3, 1) := by decide +kernel
theorem dX8_fault_102 : decode cX8_fault 102 = .ok (.iadd, 1) := by decide +kernel
theorem dX8_fault_103 : decode cX8_fault 103 = .ok (.aload_n 0, 1) := by decide +kernel
theorem dX8_fault_104 : decode cX8_fault 104 = .ok (.getfield 13, 3) := by decide +kernel
theorem dX8_fault_107 : decode cX8_fault 107 = .ok (.iload_n 1, 1) := by decide +kernel
theorem dX8_fault_108 : decode cX8_fault 108 = .ok (.bipush 32, 2) := by decide +kernel
theorem dX8_fault_110 : decode cX8_fault 110 = .ok (.imul, 1) := by decide +kernel
theorem dX8_fault_111 : decode cX8_fault 111 = .ok (.iload_n 3, 1) := by decide +kernel
theorem dX8_fault_112 : decode cX8_fault 112 = .ok (.iadd, 1) := by decide +kernel
theorem dX8_fault_113 : decode cX8_fault 113 = .ok (.iaload, 1) := by decide +kernel
theorem dX8_fault_114 : decode cX8_fault 114 = .ok (.iastore, 1) := by decide +kernel
theorem dX8_fault_115 : decode cX8_fault 115 = .ok (.iinc 3 1, 3) := by decide +kernel
theorem dX8_fault_118 : decode cX8_fault 118 = .ok (.goto (-37), 3) := by decide +kernel
theorem dX8_fault_121 : decode cX8_fault 121 = .ok (.aload_n 0, 1) := by decide +kernel
theorem dX8_fault_122 : decode cX8_fault 122 = .ok (.iload_n 1, 1) := by decide +kernel
theorem dX8_fault_123 : decode cX8_fault 123 = .ok (.invokevirtual 124, 3) := by decide +kernel
theorem dX8_fault_126 : decode cX8_fault 126 = .ok (.aload_n 0, 1) := by decide +kernel
theorem dX8_fault_127 : decode cX8_fault 127 = .ok (.iconst 1, 1) := by decide +kernel
theorem dX8_fault_128 : decode cX8_fault 128 = .ok (.putfield 118, 3) := by decide +kernel
