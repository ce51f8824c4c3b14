theorem dX9_init_0 : decode cX9_init 0 = .ok (.aload_n 0, 1) := by decide +kernel
theorem dX9_init_1 : decode cX9_init 1 = .ok (.invokespecial 1, 3) := by decide +kernel
theorem dX9_init_4 : decode cX9_init 4 = .ok (.aload_n 0, 1) := by decide +kernel
theorem dX9_init_5 : decode cX9_init 5 = .ok (.iconst 3, 1) := by decide +kernel
theorem dX9_init_6 : decode cX9_init 6 = .ok (.newarray .int, 2) := by decide +kernel
theorem dX9_init_8 : decode cX9_init 8 = .ok (.putfield 7, 3) := by decide +kernel
theorem dX9_init_11 : decode cX9_init 11 = .ok (.aload_n 0, 1) := by decide +kernel
theorem dX9_init_12 : decode cX9_init 12 = .ok (.bipush 24, 2) := by decide +kernel
theorem dX9_init_14 : decode cX9_init 14 = .ok (.newarray .int, 2) := by decide +kernel
theorem dX9_init_16 : decode cX9_init 16 = .ok (.putfield 13, 3) := by decide +kernel
theorem dX9_init_19 : decode cX9_init 19 = .ok (.aload_n 0, 1) := by decide +kernel
theorem dX9_init_20 : decode cX9_init 20 = .ok (.bipush 24, 2) := by decide +kernel
theorem dX9_init_22 : decode cX9_init 22 = .ok (.newarray .int, 2) := by decide +kernel
theorem dX9_init_24 : decode cX9_init 24 = .ok (.putfield 16, 3) := by decide +kernel
theorem dX9_init_27 : decode cX9_init 27 = .ok (.aload_n 0, 1) := by decide +kernel
theorem dX9_init_28 : decode cX9_init 28 = .ok (.bipush 24, 2) := by decide +kernel
theorem dX9_init_30 : decode cX9_init 30 = .ok (.newarray .int, 2) := by decide +kernel
theorem dX9_init_32 : decode cX9_init 32 = .ok (.putfield 19, 3) := by decide +kernel
theorem dX9_init_35 : decode cX9_init 35 = .ok (.aload_n 0, 1) := by decide +kernel
theorem dX9_init_36 : decode cX9_init 36 = .ok (.iconst 4, 1) := by decide +kernel
theorem dX9_init_37 : decode cX9_init 37 = .ok (.newarray .int, 2) := by decide +kernel
theorem dX9_init_39 : decode cX9_init 39 = .ok (.dup, 1) := by decide +kernel
theorem dX9_init_40 : decode cX9_init 40 = .ok (.iconst 0, 1) := by decide +kernel
theorem dX9_init_41 : decode cX9_init 41 = .ok (.iconst 2, 1) := by decide +kernel
theorem dX9_init_42 : decode cX9_init 42 = .ok (.iastore, 1) := by decide +kernel
theorem dX9_init_43 : decode cX9_init 43 = .ok (.dup, 1) := by decide +kernel
theorem dX9_init_44 : decode cX9_init 44 = .ok (.iconst 1, 1) := by decide +kernel
theorem dX9_init_45 : decode cX9_init 45 = .ok (.bipush 100, 2) := by decide +kernel
theorem dX9_init_47 : decode cX9_init 47 = .ok (.iastore, 1) := by decide +kernel
theorem dX9_init_48 : decode cX9_init 48 = .ok (.dup, 1) := by decide +kernel
theorem dX9_init_49 : decode cX9_init 49 = .ok (.iconst 2, 1) := by decide +kernel
theorem dX9_init_50 : decode cX9_init 50 = .ok (.ldc 22, 2) := by decide +kernel
theorem dX9_init_52 : decode cX9_init 52 = .ok (.iastore, 1) := by decide +kernel
theorem dX9_init_53 : decode cX9_init 53 = .ok (.dup, 1) := by decide +kernel
theorem dX9_init_54 : decode cX9_init 54 = .ok (.iconst 3, 1) := by decide +kernel
theorem dX9_init_55 : decode cX9_init 55 = .ok (.bipush 40, 2) := by decide +kernel
theorem dX9_init_57 : decode cX9_init 57 = .ok (.iastore, 1) := by decide +kernel
theorem dX9_init_58 : decode cX9_init 58 = .ok (.putfield 23, 3) := by decide +kernel
theorem dX9_init_61 : decode cX9_init 61 = .ok (.aload_n 0, 1) := by decide +kernel
theorem dX9_init_62 : decode cX9_init 62 = .ok (.sipush 336, 3) := by decide +kernel
theorem dX9_init_65 : decode cX9_init 65 = .ok (.newarray .int, 2) := by decide +kernel
theorem dX9_init_67 : decode cX9_init 67 = .ok (.putfield 26, 3) := by decide +kernel
theorem dX9_init_70 : decode cX9_init 70 = .ok (.aload_n 0, 1) := by decide +kernel
theorem dX9_init_71 : decode cX9_init 71 = .ok (.sipush 336, 3) := by decide +kernel
theorem dX9_init_74 : decode cX9_init 74 = .ok (.newarray .int, 2) := by decide +kernel
theorem dX9_init_76 : decode cX9_init 76 = .ok (.putfield 29, 3) := by decide +kernel
theorem dX9_init_79 : decode cX9_init 79 = .ok (.aload_n 0, 1) := by decide +kernel
theorem dX9_init_80 : decode cX9_init 80 = .ok (.bipush 64, 2) := by decide +kernel
theorem dX9_init_82 : decode cX9_init 82 = .ok (.newarray .int, 2) := by decide +kernel
theorem dX9_init_84 : decode cX9_init 84 = .ok (.putfield 32, 3) := by decide +kernel
theorem dX9_init_87 : decode cX9_init 87 = .ok (.aload_n 0, 1) := by decide +kernel
theorem dX9_init_88 : decode cX9_init 88 = .ok (.bipush 16, 2) := by decide +kernel
theorem dX9_init_90 : decode cX9_init 90 = .ok (.newarray .int, 2) := by decide +kernel
theorem dX9_init_92 : decode cX9_init 92 = .ok (.putfield 35, 3) := by decide +kernel
theorem dX9_init_95 : decode cX9_init 95 = .ok (.aload_n 0, 1) := by decide +kernel
theorem dX9_init_96 : decode cX9_init 96 = .ok (.bipush 8, 2) := by decide +kernel
theorem dX9_init_98 : decode cX9_init 98 = .ok (.newarray .int, 2) := by decide +kernel
theorem dX9_init_100 : decode cX9_init 100 = .ok (.putfield 38, 3) := by decide +kernel
theorem dX9_init_103 : decode cX9_init 103 = .ok (.aload_n 0, 1) := by decide +kernel
theorem dX9_init_104 : decode cX9_init 104 = .ok (.bipush 8, 2) := by decide +kernel
theorem dX9_init_106 : decode cX9_init 106 = .ok (.newarray .int, 2) := by decide +kernel
theorem dX9_init_108 : decode cX9_init 108 = .ok (.putfield 41, 3) := by decide +kernel
theorem dX9_init_111 : decode cX9_init 111 = .ok (.aload_n 0, 1) := by decide +kernel
theorem dX9_init_112 : decode cX9_init 112 = .ok (.bipush 8, 2) := by decide +kernel
theorem dX9_init_114 : decode cX9_init 114 = .ok (.newarray .int, 2) := by decide +kernel
theorem dX9_init_116 : decode cX9_init 116 = .ok (.putfield 44, 3) := by decide +kernel
theorem dX9_init_119 : decode cX9_init 119 = .ok (.aload_n 0, 1) := by decide +kernel
theorem dX9_init_120 : decode cX9_init 120 = .ok (.bipush 8, 2) := by decide +kernel
theorem dX9_init_122 : decode cX9_init 122 = .ok (.newarray .int, 2) := by decide +kernel
theorem dX9_init_124 : decode cX9_init 124 = .ok (.putfield 47, 3) := by decide +kernel
theorem dX9_init_127 : decode cX9_init 127 = .ok (.aload_n 0, 1) := by decide +kernel
theorem dX9_init_128 : decode cX9_init 128 = .ok (.bipush 8, 2) := by decide +kernel
theorem dX9_init_130 : decode cX9_init 130 = .ok (.newarray .long, 2) := by decide +kernel
theorem dX9_init_132 : decode cX9_init 132 = .ok (.putfield 50, 3) := by decide +kernel
theorem dX9_init_135 : decode cX9_init 135 = .ok (.aload_n 0, 1) := by decide +kernel
theorem dX9_init_136 : decode cX9_init 136 = .ok (.iconst 2, 1) := by decide +kernel
theorem dX9_init_137 : decode cX9_init 137 = .ok (.newarray .int, 2) := by decide +kernel
theorem dX9_init_139 : decode cX9_init 139 = .ok (.putfield 54, 3) := by decide +kernel
theorem dX9_init_142 : decode cX9_init 142 = .ok (.aload_n 0, 1) := by decide +kernel
theorem dX9_init_143 : decode cX9_init 143 = .ok (.bipush 16, 2) := by decide +kernel
theorem dX9_init_145 : decode cX9_init 145 = .ok (.newarray .int, 2) := by decide +kernel
theorem dX9_init_147 : decode cX9_init 147 = .ok (.putfield 57, 3) := by decide +kernel
theorem dX9_init_150 : decode cX9_init 150 = .ok (.aload_n 0, 1) := by decide +kernel
theorem dX9_init_151 : decode cX9_init 151 = .ok (.bipush 16, 2) := by decide +kernel
theorem dX9_init_153 : decode cX9_init 153 = .ok (.newarray .int, 2) := by decide +kernel
theorem dX9_init_155 : decode cX9_init 155 = .ok (.putfield 60, 3) := by decide +kernel
theorem dX9_init_158 : decode cX9_init 158 = .ok (.aload_n 0, 1) := by decide +kernel
theorem dX9_init_159 : decode cX9_init 159 = .ok (.bipush 16, 2) := by decide +kernel
theorem dX9_init_161 : decode cX9_init 161 = .ok (.newarray .int, 2) := by decide +kernel
theorem dX9_init_163 : decode cX9_init 163 = .ok (.putfield 63, 3) := by decide +kernel
theorem dX9_init_166 : decode cX9_init 166 = .ok (.aload_n 0, 1) := by decide +kernel
theorem dX9_init_167 : decode cX9_init 167 = .ok (.iconst 3, 1) := by decide +kernel
theorem dX9_init_168 : decode cX9_init 168 = .ok (.newarray .int, 2) := by decide +kernel
theorem dX9_init_170 : decode cX9_init 170 = .ok (.putfield 66, 3) := by decide +kernel
theorem dX9_init_173 : decode cX9_init 173 = .ok (.aload_n 0, 1) := by decide +kernel
theorem dX9_init_174 : decode cX9_init 174 = .ok (.iconst 3, 1) := by decide +kernel
theorem dX9_init_175 : decode cX9_init 175 = .ok (.newarray .int, 2) := by decide +kernel
theorem dX9_init_177 : decode cX9_init 177 = .ok (.putfield 69, 3) := by decide +kernel
theorem dX9_init_180 : decode cX9_init 180 = .ok (.aload_n 0, 1) := by decide +kernel
theorem dX9_init_181 : decode cX9_init 181 = .ok (.bipush 24, 2) := by decide +kernel
theorem dX9_init_183 : decode cX9_init 183 = .ok (.newarray .int, 2) := by decide +kernel
theorem dX9_init_185 : decode cX9_init 185 = .ok (.putfield 72, 3) := by decide +kernel
theorem dX9_init_188 : decode cX9_init 188 = .ok (.iconst 0, 1) := by decide +kernel
theorem dX9_init_189 : decode cX9_init 189 = .ok (.istore_n 1, 1) := by decide +kernel
theorem dX9_init_190 : decode cX9_init 190 = .ok (.iload_n 1, 1) := by decide +kernel
theorem dX9_init_191 : decode cX9_init 191 = .ok (.iconst 2, 1) := by decide +kernel
theorem dX9_init_192 : decode cX9_init 192 = .ok (.if_icmp .ge 17, 3) := by decide +kernel
theorem dX9_init_195 : decode cX9_init 195 = .ok (.aload_n 0, 1) := by decide +kernel
theorem dX9_init_196 : decode cX9_init 196 = .ok (.getfield 54, 3) := by decide +kernel
theorem dX9_init_199 : decode cX9_init 199 = .ok (.iload_n 1, 1) := by decide +kernel
theorem dX9_init_200 : decode cX9_init 200 = .ok (.bipush (-9), 2) := by decide +kernel
theorem dX9_init_202 : decode cX9_init 202 = .ok (.iastore, 1) := by decide +kernel
theorem dX9_init_203 : decode cX9_init 203 = .ok (.iinc 1 1, 3) := by decide +kernel
theorem dX9_init_206 : decode cX9_init 206 = .ok (.goto (-16), 3) := by decide +kernel
theorem dX9_init_209 : decode cX9_init 209 = .ok (.iconst 0, 1) := by decide +kernel
theorem dX9_init_210 : decode cX9_init 210 = .ok (.istore_n 1, 1) := by decide +kernel
theorem dX9_init_211 : decode cX9_init 211 = .ok (.iload_n 1, 1) := by decide +kernel
theorem dX9_init_212 : decode cX9_init 212 = .ok (.iconst 3, 1) := by decide +kernel
theorem dX9_init_213 : decode cX9_init 213 = .ok (.if_icmp .ge 17, 3) := by decide +kernel
theorem dX9_init_216 : decode cX9_init 216 = .ok (.aload_n 0, 1) := by decide +kernel
theorem dX9_init_217 : decode cX9_init 217 = .ok (.getfield 66, 3) := by decide +kernel
theorem dX9_init_220 : decode cX9_init 220 = .ok (.iload_n 1, 1) := by decide +kernel
theorem dX9_init_221 : decode cX9_init 221 = .ok (.bipush (-9), 2) := by decide +kernel
theorem dX9_init_223 : decode cX9_init 223 = .ok (.iastore, 1) := by decide +kernel
theorem dX9_init_224 : decode cX9_init 224 = .ok (.iinc 1 1, 3) := by decide +kernel
theorem dX9_init_227 : decode cX9_init 227 = .ok (.goto (-16), 3) := by decide +kernel
theorem dX9_init_230 : decode cX9_init 230 = .ok (.return_, 1) := by decide +kernel
theorem dX9_within_0 : decode cX9_within 0 = .ok (.iload_n 0, 1) := by decide +kernel
theorem dX9_within_1 : decode cX9_within 1 = .ok (.iload_n 1, 1) := by decide +kernel
theorem dX9_within_2 : decode cX9_within 2 = .ok (.if_icmp .lt 12, 3) := by decide +kernel
theorem dX9_within_5 : decode cX9_within 5 = .ok (.iload_n 0, 1) := by decide +kernel
theorem dX9_within_6 : decode cX9_within 6 = .ok (.iload_n 2, 1) := by decide +kernel
theorem dX9_within_7 : decode cX9_within 7 = .ok (.if_icmp .gt 7, 3) := by decide +kernel
theorem dX9_within_10 : decode cX9_within 10 = .ok (.iconst 1, 1) := by decide +kernel
theorem dX9_within_11 : decode cX9_within 11 = .ok (.goto 4, 3) := by decide +kernel
theorem dX9_within_14 : decode cX9_within 14 = .ok (.iconst 0, 1) := by decide +kernel
theorem dX9_within_15 : decode cX9_within 15 = .ok (.ireturn, 1) := by decide +kernel
theorem dX9_isPlate_0 : decode cX9_isPlate 0 = .ok (.iload_n 0, 1) := by decide +kernel
theorem dX9_isPlate_1 : decode cX9_isPlate 1 = .ok (.iconst 0, 1) := by decide +kernel
theorem dX9_isPlate_2 : decode cX9_isPlate 2 = .ok (.iconst 1, 1) := by decide +kernel
theorem dX9_isPlate_3 : decode cX9_isPlate 3 = .ok (.invokestatic 75, 3) := by decide +kernel
theorem dX9_isPlate_6 : decode cX9_isPlate 6 = .ok (.ireturn, 1) := by decide +kernel
theorem dX9_isThing_0 : decode cX9_isThing 0 = .ok (.iload_n 2, 1) := by decide +kernel
theorem dX9_isThing_1 : decode cX9_isThing 1 = .ok (.iconst 0, 1) := by decide +kernel
theorem dX9_isThing_2 : decode cX9_isThing 2 = .ok (.aload_n 0, 1) := by decide +kernel
theorem dX9_isThing_3 : decode cX9_isThing 3 = .ok (.getfield 7, 3) := by decide +kernel
theorem dX9_isThing_6 : decode cX9_isThing 6 = .ok (.iload_n 1, 1) := by decide +kernel
theorem dX9_isThing_7 : decode cX9_isThing 7 = .ok (.iaload, 1) := by decide +kernel
theorem dX9_isThing_8 : decode cX9_isThing 8 = .ok (.iconst 1, 1) := by decide +kernel
theorem dX9_isThing_9 : decode cX9_isThing 9 = .ok (.isub, 1) := by decide +kernel
theorem dX9_isThing_10 : decode cX9_isThing 10 = .ok (.invokestatic 75, 3) := by decide +kernel
theorem dX9_isThing_13 : decode cX9_isThing 13 = .ok (.ireturn, 1) := by decide +kernel
theorem dX9_isAt_0 : decode cX9_isAt 0 = .ok (.iconst 0, 1) := by decide +kernel
theorem dX9_isAt_1 : decode cX9_isAt 1 = .ok (.istore 4, 2) := by decide +kernel
theorem dX9_isAt_3 : decode cX9_isAt 3 = .ok (.iconst 0, 1) := by decide +kernel
theorem dX9_isAt_4 : decode cX9_isAt 4 = .ok (.istore 5, 2) := by decide +kernel
theorem dX9_isAt_6 : decode cX9_isAt 6 = .ok (.iload 5, 2) := by decide +kernel
theorem dX9_isAt_8 : decode cX9_isAt 8 = .ok (.aload_n 0, 1) := by decide +kernel
theorem dX9_isAt_9 : decode cX9_isAt 9 = .ok (.getfield 7, 3) := by decide +kernel
theorem dX9_isAt_12 : decode cX9_isAt 12 = .ok (.iload_n 1, 1) := by decide +kernel
theorem dX9_isAt_13 : decode cX9_isAt 13 = .ok (.iaload, 1) := by decide +kernel
theorem dX9_isAt_14 : decode cX9_isAt 14 = .ok (.if_icmp .ge 53, 3) := by decide +kernel
theorem dX9_isAt_17 : decode cX9_isAt 17 = .ok (.iload 4, 2) := by decide +kernel
theorem dX9_isAt_19 : decode cX9_isAt 19 = .ok (.ifCond .ne 35, 3) := by decide +kernel
theorem dX9_isAt_22 : decode cX9_isAt 22 = .ok (.aload_n 0, 1) := by decide +kernel
theorem dX9_isAt_23 : decode cX9_isAt 23 = .ok (.getfield 13, 3) := by decide +kernel
theorem dX9_isAt_26 : decode cX9_isAt 26 = .ok (.bipush 8, 2) := by decide +kernel
theorem dX9_isAt_28 : decode cX9_isAt 28 = .ok (.iload_n 1, 1) := by decide +kernel
theorem dX9_isAt_29 : decode cX9_isAt 29 = .ok (.imul, 1) := by decide +kernel
theorem dX9_isAt_30 : decode cX9_isAt 30 = .ok (.iload 5, 2) := by decide +kernel
theorem dX9_isAt_32 : decode cX9_isAt 32 = .ok (.iadd, 1) := by decide +kernel
theorem dX9_isAt_33 : decode cX9_isAt 33 = .ok (.iaload, 1) := by decide +kernel
theorem dX9_isAt_34 : decode cX9_isAt 34 = .ok (.iload_n 2, 1) := by decide +kernel
theorem dX9_isAt_35 : decode cX9_isAt 35 = .ok (.if_icmp .ne 23, 3) := by decide +kernel
theorem dX9_isAt_38 : decode cX9_isAt 38 = .ok (.aload_n 0, 1) := by decide +kernel
theorem dX9_isAt_39 : decode cX9_isAt 39 = .ok (.getfield 16, 3) := by decide +kernel
theorem dX9_isAt_42 : decode cX9_isAt 42 = .ok (.bipush 8, 2) := by decide +kernel
theorem dX9_isAt_44 : decode cX9_isAt 44 = .ok (.iload_n 1, 1) := by decide +kernel
theorem dX9_isAt_45 : decode cX9_isAt 45 = .ok (.imul, 1) := by decide +kernel
theorem dX9_isAt_46 : decode cX9_isAt 46 = .ok (.iload 5, 2) := by decide +kernel
theorem dX9_isAt_48 : decode cX9_isAt 48 = .ok (.iadd, 1) := by decide +kernel
theorem dX9_isAt_49 : decode cX9_isAt 49 = .ok (.iaload, 1) := by decide +kernel
theorem dX9_isAt_50 : decode cX9_isAt 50 = .ok (.iload_n 3, 1) := by decide +kernel
theorem dX9_isAt_51 : decode cX9_isAt 51 = .ok (.if_icmp .ne 7, 3) := by decide +kernel
theorem dX9_isAt_54 : decode cX9_isAt 54 = .ok (.iconst 1, 1) := by decide +kernel
theorem dX9_isAt_55 : decode cX9_isAt 55 = .ok (.goto 4, 3) := by decide +kernel
theorem dX9_isAt_58 : decode cX9_isAt 58 = .ok (.iconst 0, 1) := by decide +kernel
theorem dX9_isAt_59 : decode cX9_isAt 59 = .ok (.istore 4, 2) := by decide +kernel
theorem dX9_isAt_61 : decode cX9_isAt 61 = .ok (.iinc 5 1, 3) := by decide +kernel
theorem dX9_isAt_64 : decode cX9_isAt 64 = .ok (.goto (-58), 3) := by decide +kernel
theorem dX9_isAt_67 : decode cX9_isAt 67 = .ok (.iload 4, 2) := by decide +kernel
theorem dX9_isAt_69 : decode cX9_isAt 69 = .ok (.ireturn, 1) := by decide +kernel
theorem dX9_adds_0 : decode cX9_adds 0 = .ok (.aload_n 0, 1) := by decide +kernel
theorem dX9_adds_1 : decode cX9_adds 1 = .ok (.iload_n 1, 1) := by decide +kernel
theorem dX9_adds_2 : decode cX9_adds 2 = .ok (.iload_n 2, 1) := by decide +kernel
theorem dX9_adds_3 : decode cX9_adds 3 = .ok (.iload_n 3, 1) := by decide +kernel
theorem dX9_adds_4 : decode cX9_adds 4 = .ok (.invokevirtual 79, 3) := by decide +kernel
theorem dX9_adds_7 : decode cX9_adds 7 = .ok (.ifCond .eq 6, 3) := by decide +kernel
theorem dX9_adds_10 : decode cX9_adds 10 = .ok (.bipush (-3), 2) := by decide +kernel
theorem dX9_adds_12 : decode cX9_adds 12 = .ok (.ireturn, 1) := by decide +kernel
theorem dX9_adds_13 : decode cX9_adds 13 = .ok (.aload_n 0, 1) := by decide +kernel
theorem dX9_adds_14 : decode cX9_adds 14 = .ok (.getfield 7, 3) := by decide +kernel
theorem dX9_adds_17 : decode cX9_adds 17 = .ok (.iload_n 1, 1) := by decide +kernel
theorem dX9_adds_18 : decode cX9_adds 18 = .ok (.iaload, 1) := by decide +kernel
theorem dX9_adds_19 : decode cX9_adds 19 = .ok (.bipush 8, 2) := by decide +kernel
theorem dX9_adds_21 : decode cX9_adds 21 = .ok (.if_icmp .ne 6, 3) := by decide +kernel
theorem dX9_adds_24 : decode cX9_adds 24 = .ok (.bipush (-4), 2) := by decide +kernel
theorem dX9_adds_26 : decode cX9_adds 26 = .ok (.ireturn, 1) := by decide +kernel
theorem dX9_adds_27 : decode cX9_adds 27 = .ok (.bipush 8, 2) := by decide +kernel
theorem dX9_adds_29 : decode cX9_adds 29 = .ok (.iload_n 1, 1) := by decide +kernel
theorem dX9_adds_30 : decode cX9_adds 30 = .ok (.imul, 1) := by decide +kernel
theorem dX9_adds_31 : decode cX9_adds 31 = .ok (.aload_n 0, 1) := by decide +kernel
theorem dX9_adds_32 : decode cX9_adds 32 = .ok (.getfield 7, 3) := by decide +kernel
theorem dX9_adds_35 : decode cX9_adds 35 = .ok (.iload_n 1, 1) := by decide +kernel
theorem dX9_adds_36 : decode cX9_adds 36 = .ok (.iaload, 1) := by decide +kernel
theorem dX9_adds_37 : decode cX9_adds 37 = .ok (.iadd, 1) := by decide +kernel
theorem dX9_adds_38 : decode cX9_adds 38 = .ok (.istore 5, 2) := by decide +kernel
theorem dX9_adds_40 : decode cX9_adds 40 = .ok (.aload_n 0, 1) := by decide +kernel
theorem dX9_adds_41 : decode cX9_adds 41 = .ok (.getfield 13, 3) := by decide +kernel
theorem dX9_adds_44 : decode cX9_adds 44 = .ok (.iload 5, 2) := by decide +kernel
theorem dX9_adds_46 : decode cX9_adds 46 = .ok (.iload_n 2, 1) := by decide +kernel
theorem dX9_adds_47 : decode cX9_adds 47 = .ok (.iastore, 1) := by decide +kernel
theorem dX9_adds_48 : decode cX9_adds 48 = .ok (.aload_n 0, 1) := by decide +kernel
theorem dX9_adds_49 : decode cX9_adds 49 = .ok (.getfield 16, 3) := by decide +kernel
theorem dX9_adds_52 : decode cX9_adds 52 = .ok (.iload 5, 2) := by decide +kernel
theorem dX9_adds_54 : decode cX9_adds 54 = .ok (.iload_n 3, 1) := by decide +kernel
theorem dX9_adds_55 : decode cX9_adds 55 = .ok (.iastore, 1) := by decide +kernel
theorem dX9_adds_56 : decode cX9_adds 56 = .ok (.aload_n 0, 1) := by decide +kernel
theorem dX9_adds_57 : decode cX9_adds 57 = .ok (.getfield 19, 3) := by decide +kernel
theorem dX9_adds_60 : decode cX9_adds 60 = .ok (.iload 5, 2) := by decide +kernel
theorem dX9_adds_62 : decode cX9_adds 62 = .ok (.iload 4, 2) := by decide +kernel
theorem dX9_adds_64 : decode cX9_adds 64 = .ok (.iastore, 1) := by decide +kernel
theorem dX9_adds_65 : decode cX9_adds 65 = .ok (.aload_n 0, 1) := by decide +kernel
theorem dX9_adds_66 : decode cX9_adds 66 = .ok (.getfield 7, 3) := by decide +kernel
theorem dX9_adds_69 : decode cX9_adds 69 = .ok (.iload_n 1, 1) := by decide +kernel
theorem dX9_adds_70 : decode cX9_adds 70 = .ok (.dup2, 1) := by decide +kernel
theorem dX9_adds_71 : decode cX9_adds 71 = .ok (.iaload, 1) := by decide +kernel
theorem dX9_adds_72 : decode cX9_adds 72 = .ok (.iconst 1, 1) := by decide +kernel
theorem dX9_adds_73 : decode cX9_adds 73 = .ok (.iadd, 1) := by decide +kernel
theorem dX9_adds_74 : decode cX9_adds 74 = .ok (.iastore, 1) := by decide +kernel
theorem dX9_adds_75 : decode cX9_adds 75 = .ok (.aload_n 0, 1) := by decide +kernel
theorem dX9_adds_76 : decode cX9_adds 76 = .ok (.getfield 7, 3) := by decide +kernel
theorem dX9_adds_79 : decode cX9_adds 79 = .ok (.iload_n 1, 1) := by decide +kernel
theorem dX9_adds_80 : decode cX9_adds 80 = .ok (.iaload, 1) := by decide +kernel
theorem dX9_adds_81 : decode cX9_adds 81 = .ok (.iconst 1, 1) := by decide +kernel
theorem dX9_adds_82 : decode cX9_adds 82 = .ok (.isub, 1) := by decide +kernel
theorem dX9_adds_83 : decode cX9_adds 83 = .ok (.ireturn, 1) := by decide +kernel
theorem dX9_star_0 : decode cX9_star 0 = .ok (.iload_n 1, 1) := by decide +kernel
theorem dX9_star_1 : decode cX9_star 1 = .ok (.sipush (-9999), 3) := by decide +kernel
theorem dX9_star_4 : decode cX9_star 4 = .ok (.sipush 9999, 3) := by decide +kernel
theorem dX9_star_7 : decode cX9_star 7 = .ok (.invokestatic 75, 3) := by decide +kernel
theorem dX9_star_10 : decode cX9_star 10 = .ok (.ifCond .eq 27, 3) := by decide +kernel
theorem dX9_star_13 : decode cX9_star 13 = .ok (.iload_n 2, 1) := by decide +kernel
theorem dX9_star_14 : decode cX9_star 14 = .ok (.sipush (-9999), 3) := by decide +kernel
theorem dX9_star_17 : decode cX9_star 17 = .ok (.sipush 9999, 3) := by decide +kernel
theorem dX9_star_20 : decode cX9_star 20 = .ok (.invokestatic 75, 3) := by decide +kernel
theorem dX9_star_23 : decode cX9_star 23 = .ok (.ifCond .eq 14, 3) := by decide +kernel
theorem dX9_star_26 : decode cX9_star 26 = .ok (.iload_n 3, 1) := by decide +kernel
theorem dX9_star_27 : decode cX9_star 27 = .ok (.iconst 0, 1) := by decide +kernel
theorem dX9_star_28 : decode cX9_star 28 = .ok (.sipush 999, 3) := by decide +kernel
theorem dX9_star_31 : decode cX9_star 31 = .ok (.invokestatic 75, 3) := by decide +kernel
theorem dX9_star_34 : decode cX9_star 34 = .ok (.ifCond .ne 6, 3) := by decide +kernel
theorem dX9_star_37 : decode cX9_star 37 = .ok (.bipush (-2), 2) := by decide +kernel
theorem dX9_star_39 : decode cX9_star 39 = .ok (.ireturn, 1) := by decide +kernel
theorem dX9_star_40 : decode cX9_star 40 = .ok (.aload_n 0, 1) := by decide +kernel
theorem dX9_star_41 : decode cX9_star 41 = .ok (.iconst 0, 1) := by decide +kernel
theorem dX9_star_42 : decode cX9_star 42 = .ok (.iload_n 1, 1) := by decide +kernel
theorem dX9_star_43 : decode cX9_star 43 = .ok (.iload_n 2, 1) := by decide +kernel
theorem dX9_star_44 : decode cX9_star 44 = .ok (.iload_n 3, 1) := by decide +kernel
theorem dX9_star_45 : decode cX9_star 45 = .ok (.invokevirtual 82, 3) := by decide +kernel
theorem dX9_star_48 : decode cX9_star 48 = .ok (.ireturn, 1) := by decide +kernel
theorem dX9_takesOff_0 : decode cX9_takesOff 0 = .ok (.aload_n 0, 1) := by decide +kernel
theorem dX9_takesOff_1 : decode cX9_takesOff 1 = .ok (.getfield 7, 3) := by decide +kernel
theorem dX9_takesOff_4 : decode cX9_takesOff 4 = .ok (.iload_n 1, 1) := by decide +kernel
theorem dX9_takesOff_5 : decode cX9_takesOff 5 = .ok (.iaload, 1) := by decide +kernel
theorem dX9_takesOff_6 : decode cX9_takesOff 6 = .ok (.ifCond .ne 6, 3) := by decide +kernel
theorem dX9_takesOff_9 : decode cX9_takesOff 9 = .ok (.bipush (-3), 2) := by decide +kernel
theorem dX9_takesOff_11 : decode cX9_takesOff 11 = .ok (.ireturn, 1) := by decide +kernel
theorem dX9_takesOff_12 : decode cX9_takesOff 12 = .ok (.aload_n 0, 1) := by decide +kernel
theorem dX9_takesOff_13 : decode cX9_takesOff 13 = .ok (.getfield 7, 3) := by decide +kernel
theorem dX9_takesOff_16 : decode cX9_takesOff 16 = .ok (.iload_n 1, 1) := by decide +kernel
theorem dX9_takesOff_17 : decode cX9_takesOff 17 = .ok (.dup2, 1) := by decide +kernel
theorem dX9_takesOff_18 : decode cX9_takesOff 18 = .ok (.iaload, 1) := by decide +kernel
theorem dX9_takesOff_19 : decode cX9_takesOff 19 = .ok (.iconst 1, 1) := by decide +kernel
theorem dX9_takesOff_20 : decode cX9_takesOff 20 = .ok (.isub, 1) := by decide +kernel
theorem dX9_takesOff_21 : decode cX9_takesOff 21 = .ok (.iastore, 1) := by decide +kernel
theorem dX9_takesOff_22 : decode cX9_takesOff 22 = .ok (.aload_n 0, 1) := by decide +kernel
theorem dX9_takesOff_23 : decode cX9_takesOff 23 = .ok (.getfield 7, 3) := by decide +kernel
theorem dX9_takesOff_26 : decode cX9_takesOff 26 = .ok (.iload_n 1, 1) := by decide +kernel
theorem dX9_takesOff_27 : decode cX9_takesOff 27 = .ok (.iaload, 1) := by decide +kernel
theorem dX9_takesOff_28 : decode cX9_takesOff 28 = .ok (.ireturn, 1) := by decide +kernel
theorem dX9_unstar_0 : decode cX9_unstar 0 = .ok (.aload_n 0, 1) := by decide +kernel
theorem dX9_unstar_1 : decode cX9_unstar 1 = .ok (.iconst 0, 1) := by decide +kernel
theorem dX9_unstar_2 : decode cX9_unstar 2 = .ok (.invokevirtual 86, 3) := by decide +kernel
theorem dX9_unstar_5 : decode cX9_unstar 5 = .ok (.ireturn, 1) := by decide +kernel
theorem dX9_spot_0 : decode cX9_spot 0 = .ok (.iload_n 1, 1) := by decide +kernel
theorem dX9_spot_1 : decode cX9_spot 1 = .ok (.invokestatic 90, 3) := by decide +kernel
theorem dX9_spot_4 : decode cX9_spot 4 = .ok (.ifCond .ne 5, 3) := by decide +kernel
theorem dX9_spot_7 : decode cX9_spot 7 = .ok (.iconst (-1), 1) := by decide +kernel
theorem dX9_spot_8 : decode cX9_spot 8 = .ok (.ireturn, 1) := by decide +kernel
theorem dX9_spot_9 : decode cX9_spot 9 = .ok (.iload_n 2, 1) := by decide +kernel
theorem dX9_spot_10 : decode cX9_spot 10 = .ok (.iconst 0, 1) := by decide +kernel
theorem dX9_spot_11 : decode cX9_spot 11 = .ok (.sipush 4095, 3) := by decide +kernel
theorem dX9_spot_14 : decode cX9_spot 14 = .ok (.invokestatic 75, 3) := by decide +kernel
theorem dX9_spot_17 : decode cX9_spot 17 = .ok (.ifCond .eq 26, 3) := by decide +kernel
theorem dX9_spot_20 : decode cX9_spot 20 = .ok (.iload_n 3, 1) := by decide +kernel
theorem dX9_spot_21 : decode cX9_spot 21 = .ok (.iconst 0, 1) := by decide +kernel
theorem dX9_spot_22 : decode cX9_spot 22 = .ok (.sipush 4095, 3) := by decide +kernel
theorem dX9_spot_25 : decode cX9_spot 25 = .ok (.invokestatic 75, 3) := by decide +kernel
theorem dX9_spot_28 : decode cX9_spot 28 = .ok (.ifCond .eq 15, 3) := by decide +kernel
theorem dX9_spot_31 : decode cX9_spot 31 = .ok (.iload 4, 2) := by decide +kernel
theorem dX9_spot_33 : decode cX9_spot 33 = .ok (.iconst 0, 1) := by decide +kernel
theorem dX9_spot_34 : decode cX9_spot 34 = .ok (.sipush 255, 3) := by decide +kernel
theorem dX9_spot_37 : decode cX9_spot 37 = .ok (.invokestatic 75, 3) := by decide +kernel
theorem dX9_spot_40 : decode cX9_spot 40 = .ok (.ifCond .ne 6, 3) := by decide +kernel
theorem dX9_spot_43 : decode cX9_spot 43 = .ok (.bipush (-2), 2) := by decide +kernel
theorem dX9_spot_45 : decode cX9_spot 45 = .ok (.ireturn, 1) := by decide +kernel
theorem dX9_spot_46 : decode cX9_spot 46 = .ok (.aload_n 0, 1) := by decide +kernel
theorem dX9_spot_47 : decode cX9_spot 47 = .ok (.iconst 1, 1) := by decide +kernel
theorem dX9_spot_48 : decode cX9_spot 48 = .ok (.iload_n 1, 1) := by decide +kernel
theorem dX9_spot_49 : decode cX9_spot 49 = .ok (.iadd, 1) := by decide +kernel
theorem dX9_spot_50 : decode cX9_spot 50 = .ok (.iload_n 2, 1) := by decide +kernel
theorem dX9_spot_51 : decode cX9_spot 51 = .ok (.iload_n 3, 1) := by decide +kernel
theorem dX9_spot_52 : decode cX9_spot 52 = .ok (.iload 4, 2) := by decide +kernel
theorem dX9_spot_54 : decode cX9_spot 54 = .ok (.invokevirtual 82, 3) := by decide +kernel
theorem dX9_spot_57 : decode cX9_spot 57 = .ok (.ireturn, 1) := by decide +kernel
theorem dX9_unspot_0 : decode cX9_unspot 0 = .ok (.iload_n 1, 1) := by decide +kernel
theorem dX9_unspot_1 : decode cX9_unspot 1 = .ok (.invokestatic 90, 3) := by decide +kernel
theorem dX9_unspot_4 : decode cX9_unspot 4 = .ok (.ifCond .eq 13, 3) := by decide +kernel
theorem dX9_unspot_7 : decode cX9_unspot 7 = .ok (.aload_n 0, 1) := by decide +kernel
theorem dX9_unspot_8 : decode cX9_unspot 8 = .ok (.iconst 1, 1) := by decide +kernel
theorem dX9_unspot_9 : decode cX9_unspot 9 = .ok (.iload_n 1, 1) := by decide +kernel
theorem dX9_unspot_10 : decode cX9_unspot 10 = .ok (.iadd, 1) := by decide +kernel
theorem dX9_unspot_11 : decode cX9_unspot 11 = .ok (.invokevirtual 86, 3) := by decide +kernel
theorem dX9_unspot_14 : decode cX9_unspot 14 = .ok (.goto 4, 3) := by decide +kernel
theorem dX9_unspot_17 : decode cX9_unspot 17 = .ok (.iconst (-1), 1) := by decide +kernel
theorem dX9_unspot_18 : decode cX9_unspot 18 = .ok (.ireturn, 1) := by decide +kernel
theorem dX9_tells_0 : decode cX9_tells 0 = .ok (.bipush 8, 2) := by decide +kernel
theorem dX9_tells_2 : decode cX9_tells 2 = .ok (.iload_n 1, 1) := by decide +kernel
theorem dX9_tells_3 : decode cX9_tells 3 = .ok (.imul, 1) := by decide +kernel
theorem dX9_tells_4 : decode cX9_tells 4 = .ok (.iload_n 2, 1) := by decide +kernel
theorem dX9_tells_5 : decode cX9_tells 5 = .ok (.iadd, 1) := by decide +kernel
theorem dX9_tells_6 : decode cX9_tells 6 = .ok (.istore 5, 2) := by decide +kernel
theorem dX9_tells_8 : decode cX9_tells 8 = .ok (.iload_n 3, 1) := by decide +kernel
theorem dX9_tells_9 : decode cX9_tells 9 = .ok (.tableswitch 57 0 2 #[27, 38, 49], 27) := by decide +kernel
theorem dX9_tells_36 : decode cX9_tells 36 = .ok (.aload_n 0, 1) := by decide +kernel
theorem dX9_tells_37 : decode cX9_tells 37 = .ok (.getfield 13, 3) := by decide +kernel
theorem dX9_tells_40 : decode cX9_tells 40 = .ok (.iload 5, 2) := by decide +kernel
theorem dX9_tells_42 : decode cX9_tells 42 = .ok (.iaload, 1) := by decide +kernel
theorem dX9_tells_43 : decode cX9_tells 43 = .ok (.iload 4, 2) := by decide +kernel
theorem dX9_tells_45 : decode cX9_tells 45 = .ok (.iadd, 1) := by decide +kernel
theorem dX9_tells_46 : decode cX9_tells 46 = .ok (.ireturn, 1) := by decide +kernel
theorem dX9_tells_47 : decode cX9_tells 47 = .ok (.aload_n 0, 1) := by decide +kernel
theorem dX9_tells_48 : decode cX9_tells 48 = .ok (.getfield 16, 3) := by decide +kernel
theorem dX9_tells_51 : decode cX9_tells 51 = .ok (.iload 5, 2) := by decide +kernel
theorem dX9_tells_53 : decode cX9_tells 53 = .ok (.iaload, 1) := by decide +kernel
theorem dX9_tells_54 : decode cX9_tells 54 = .ok (.iload 4, 2) := by decide +kernel
theorem dX9_tells_56 : decode cX9_tells 56 = .ok (.iadd, 1) := by decide +kernel
theorem dX9_tells_57 : decode cX9_tells 57 = .ok (.ireturn, 1) := by decide +kernel
theorem dX9_tells_58 : decode cX9_tells 58 = .ok (.aload_n 0, 1) := by decide +kernel
theorem dX9_tells_59 : decode cX9_tells 59 = .ok (.getfield 19, 3) := by decide +kernel
theorem dX9_tells_62 : decode cX9_tells 62 = .ok (.iload 5, 2) := by decide +kernel
theorem dX9_tells_64 : decode cX9_tells 64 = .ok (.iaload, 1) := by decide +kernel
theorem dX9_tells_65 : decode cX9_tells 65 = .ok (.ireturn, 1) := by decide +kernel
theorem dX9_tells_66 : decode cX9_tells 66 = .ok (.bipush (-2), 2) := by decide +kernel
theorem dX9_tells_68 : decode cX9_tells 68 = .ok (.ireturn, 1) := by decide +kernel
theorem dX9_ofStar_0 : decode cX9_ofStar 0 = .ok (.aload_n 0, 1) := by decide +kernel
theorem dX9_ofStar_1 : decode cX9_ofStar 1 = .ok (.iconst 0, 1) := by decide +kernel
theorem dX9_ofStar_2 : decode cX9_ofStar 2 = .ok (.iload_n 1, 1) := by decide +kernel
theorem dX9_ofStar_3 : decode cX9_ofStar 3 = .ok (.invokevirtual 94, 3) := by decide +kernel
theorem dX9_ofStar_6 : decode cX9_ofStar 6 = .ok (.ifCond .eq 16, 3) := by decide +kernel
theorem dX9_ofStar_9 : decode cX9_ofStar 9 = .ok (.aload_n 0, 1) := by decide +kernel
theorem dX9_ofStar_10 : decode cX9_ofStar 10 = .ok (.iconst 0, 1) := by decide +kernel
theorem dX9_ofStar_11 : decode cX9_ofStar 11 = .ok (.iload_n 1, 1) := by decide +kernel
theorem dX9_ofStar_12 : decode cX9_ofStar 12 = .ok (.iload_n 2, 1) := by decide +kernel
theorem dX9_ofStar_13 : decode cX9_ofStar 13 = .ok (.sipush 10000, 3) := by decide +kernel
theorem dX9_ofStar_16 : decode cX9_ofStar 16 = .ok (.invokevirtual 98, 3) := by decide +kernel
theorem dX9_ofStar_19 : decode cX9_ofStar 19 = .ok (.goto 4, 3) := by decide +kernel
theorem dX9_ofStar_22 : decode cX9_ofStar 22 = .ok (.iconst (-1), 1) := by decide +kernel
theorem dX9_ofStar_23 : decode cX9_ofStar 23 = .ok (.ireturn, 1) := by decide +kernel
theorem dX9_ofSpot_0 : decode cX9_ofSpot 0 = .ok (.iload_n 1, 1) := by decide +kernel
theorem dX9_ofSpot_1 : decode cX9_ofSpot 1 = .ok (.invokestatic 90, 3) := by decide +kernel
theorem dX9_ofSpot_4 : decode cX9_ofSpot 4 = .ok (.ifCond .eq 27, 3) := by decide +kernel
theorem dX9_ofSpot_7 : decode cX9_ofSpot 7 = .ok (.aload_n 0, 1) := by decide +kernel
theorem dX9_ofSpot_8 : decode cX9_ofSpot 8 = .ok (.iconst 1, 1) := by decide +kernel
theorem dX9_ofSpot_9 : decode cX9_ofSpot 9 = .ok (.iload_n 1, 1) := by decide +kernel
theorem dX9_ofSpot_10 : decode cX9_ofSpot 10 = .ok (.iadd, 1) := by decide +kernel
theorem dX9_ofSpot_11 : decode cX9_ofSpot 11 = .ok (.iload_n 2, 1) := by decide +kernel
theorem dX9_ofSpot_12 : decode cX9_ofSpot 12 = .ok (.invokevirtual 94, 3) := by decide +kernel
theorem dX9_ofSpot_15 : decode cX9_ofSpot 15 = .ok (.ifCond .eq 16, 3) := by decide +kernel
theorem dX9_ofSpot_18 : decode cX9_ofSpot 18 = .ok (.aload_n 0, 1) := by decide +kernel
theorem dX9_ofSpot_19 : decode cX9_ofSpot 19 = .ok (.iconst 1, 1) := by decide +kernel
theorem dX9_ofSpot_20 : decode cX9_ofSpot 20 = .ok (.iload_n 1, 1) := by decide +kernel
theorem dX9_ofSpot_21 : decode cX9_ofSpot 21 = .ok (.iadd, 1) := by decide +kernel
theorem dX9_ofSpot_22 : decode cX9_ofSpot 22 = .ok (.iload_n 2, 1) := by decide +kernel
theorem dX9_ofSpot_23 : decode cX9_ofSpot 23 = .ok (.iload_n 3, 1) := by decide +kernel
theorem dX9_ofSpot_24 : decode cX9_ofSpot 24 = .ok (.iconst 0, 1) := by decide +kernel
theorem dX9_ofSpot_25 : decode cX9_ofSpot 25 = .ok (.invokevirtual 98, 3) := by decide +kernel
theorem dX9_ofSpot_28 : decode cX9_ofSpot 28 = .ok (.goto 4, 3) := by decide +kernel
theorem dX9_ofSpot_31 : decode cX9_ofSpot 31 = .ok (.iconst (-1), 1) := by decide +kernel
theorem dX9_ofSpot_32 : decode cX9_ofSpot 32 = .ok (.ireturn, 1) := by decide +kernel
theorem dX9_exponentOf_0 : decode cX9_exponentOf 0 = .ok (.iload_n 0, 1) := by decide +kernel
theorem dX9_exponentOf_1 : decode cX9_exponentOf 1 = .ok (.bipush 23, 2) := by decide +kernel
theorem dX9_exponentOf_3 : decode cX9_exponentOf 3 = .ok (.iushr, 1) := by decide +kernel
theorem dX9_exponentOf_4 : decode cX9_exponentOf 4 = .ok (.sipush 255, 3) := by decide +kernel
theorem dX9_exponentOf_7 : decode cX9_exponentOf 7 = .ok (.iand, 1) := by decide +kernel
theorem dX9_exponentOf_8 : decode cX9_exponentOf 8 = .ok (.ireturn, 1) := by decide +kernel
theorem dX9_belowOf_0 : decode cX9_belowOf 0 = .ok (.iload_n 0, 1) := by decide +kernel
theorem dX9_belowOf_1 : decode cX9_belowOf 1 = .ok (.ldc 101, 2) := by decide +kernel
theorem dX9_belowOf_3 : decode cX9_belowOf 3 = .ok (.iand, 1) := by decide +kernel
theorem dX9_belowOf_4 : decode cX9_belowOf 4 = .ok (.ireturn, 1) := by decide +kernel
theorem dX9_isNoNumber_0 : decode cX9_isNoNumber 0 = .ok (.iload_n 0, 1) := by decide +kernel
theorem dX9_isNoNumber_1 : decode cX9_isNoNumber 1 = .ok (.invokestatic 102, 3) := by decide +kernel
theorem dX9_isNoNumber_4 : decode cX9_isNoNumber 4 = .ok (.sipush 255, 3) := by decide +kernel
theorem dX9_isNoNumber_7 : decode cX9_isNoNumber 7 = .ok (.if_icmp .ne 14, 3) := by decide +kernel
theorem dX9_isNoNumber_10 : decode cX9_isNoNumber 10 = .ok (.iload_n 0, 1) := by decide +kernel
theorem dX9_isNoNumber_11 : decode cX9_isNoNumber 11 = .ok (.invokestatic 105, 3) := by decide +kernel
theorem dX9_isNoNumber_14 : decode cX9_isNoNumber 14 = .ok (.ifCond .eq 7, 3) := by decide +kernel
theorem dX9_isNoNumber_17 : decode cX9_isNoNumber 17 = .ok (.iconst 1, 1) := by decide +kernel
theorem dX9_isNoNumber_18 : decode cX9_isNoNumber 18 = .ok (.goto 4, 3) := by decide +kernel
theorem dX9_isNoNumber_21 : decode cX9_isNoNumber 21 = .ok (.iconst 0, 1) := by decide +kernel
theorem dX9_isNoNumber_22 : decode cX9_isNoNumber 22 = .ok (.ireturn, 1) := by decide +kernel
theorem dX9_cutOf_0 : decode cX9_cutOf 0 = .ok (.iload_n 0, 1) := by decide +kernel
theorem dX9_cutOf_1 : decode cX9_cutOf 1 = .ok (.invokestatic 102, 3) := by decide +kernel
theorem dX9_cutOf_4 : decode cX9_cutOf 4 = .ok (.istore_n 3, 1) := by decide +kernel
theorem dX9_cutOf_5 : decode cX9_cutOf 5 = .ok (.iload_n 3, 1) := by decide +kernel
theorem dX9_cutOf_6 : decode cX9_cutOf 6 = .ok (.ifCond .ne 5, 3) := by decide +kernel
theorem dX9_cutOf_9 : decode cX9_cutOf 9 = .ok (.iconst 0, 1) := by decide +kernel
theorem dX9_cutOf_10 : decode cX9_cutOf 10 = .ok (.ireturn, 1) := by decide +kernel
theorem dX9_cutOf_11 : decode cX9_cutOf 11 = .ok (.iload_n 3, 1) := by decide +kernel
theorem dX9_cutOf_12 : decode cX9_cutOf 12 = .ok (.sipush 150, 3) := by decide +kernel
theorem dX9_cutOf_15 : decode cX9_cutOf 15 = .ok (.isub, 1) := by decide +kernel
theorem dX9_cutOf_16 : decode cX9_cutOf 16 = .ok (.iload_n 1, 1) := by decide +kernel
theorem dX9_cutOf_17 : decode cX9_cutOf 17 = .ok (.iadd, 1) := by decide +kernel
theorem dX9_cutOf_18 : decode cX9_cutOf 18 = .ok (.istore 4, 2) := by decide +kernel
theorem dX9_cutOf_20 : decode cX9_cutOf 20 = .ok (.ldc 108, 2) := by decide +kernel
theorem dX9_cutOf_22 : decode cX9_cutOf 22 = .ok (.iload_n 0, 1) := by decide +kernel
theorem dX9_cutOf_23 : decode cX9_cutOf 23 = .ok (.invokestatic 105, 3) := by decide +kernel
theorem dX9_cutOf_26 : decode cX9_cutOf 26 = .ok (.iadd, 1) := by decide +kernel
theorem dX9_cutOf_27 : decode cX9_cutOf 27 = .ok (.istore 5, 2) := by decide +kernel
theorem dX9_cutOf_29 : decode cX9_cutOf 29 = .ok (.iload_n 3, 1) := by decide +kernel
theorem dX9_cutOf_30 : decode cX9_cutOf 30 = .ok (.sipush 255, 3) := by decide +kernel
theorem dX9_cutOf_33 : decode cX9_cutOf 33 = .ok (.if_icmp .eq 10, 3) := by decide +kernel
theorem dX9_cutOf_36 : decode cX9_cutOf 36 = .ok (.iload 4, 2) := by decide +kernel
theorem dX9_cutOf_38 : decode cX9_cutOf 38 = .ok (.bipush 7, 2) := by decide +kernel
theorem dX9_cutOf_40 : decode cX9_cutOf 40 = .ok (.if_icmp .le 5, 3) := by decide +kernel
theorem dX9_cutOf_43 : decode cX9_cutOf 43 = .ok (.iload_n 2, 1) := by decide +kernel
theorem dX9_cutOf_44 : decode cX9_cutOf 44 = .ok (.ireturn, 1) := by decide +kernel
theorem dX9_cutOf_45 : decode cX9_cutOf 45 = .ok (.iload 4, 2) := by decide +kernel
theorem dX9_cutOf_47 : decode cX9_cutOf 47 = .ok (.ifCond .lt 11, 3) := by decide +kernel
theorem dX9_cutOf_50 : decode cX9_cutOf 50 = .ok (.iload 5, 2) := by decide +kernel
theorem dX9_cutOf_52 : decode cX9_cutOf 52 = .ok (.iload 4, 2) := by decide +kernel
theorem dX9_cutOf_54 : decode cX9_cutOf 54 = .ok (.ishl, 1) := by decide +kernel
theorem dX9_cutOf_55 : decode cX9_cutOf 55 = .ok (.goto 20, 3) := by decide +kernel
theorem dX9_cutOf_58 : decode cX9_cutOf 58 = .ok (.iload 4, 2) := by decide +kernel
theorem dX9_cutOf_60 : decode cX9_cutOf 60 = .ok (.bipush (-24), 2) := by decide +kernel
theorem dX9_cutOf_62 : decode cX9_cutOf 62 = .ok (.if_icmp .ge 7, 3) := by decide +kernel
theorem dX9_cutOf_65 : decode cX9_cutOf 65 = .ok (.iconst 0, 1) := by decide +kernel
theorem dX9_cutOf_66 : decode cX9_cutOf 66 = .ok (.goto 9, 3) := by decide +kernel
theorem dX9_cutOf_69 : decode cX9_cutOf 69 = .ok (.iload 5, 2) := by decide +kernel
theorem dX9_cutOf_71 : decode cX9_cutOf 71 = .ok (.iload 4, 2) := by decide +kernel
theorem dX9_cutOf_73 : decode cX9_cutOf 73 = .ok (.ineg, 1) := by decide +kernel
theorem dX9_cutOf_74 : decode cX9_cutOf 74 = .ok (.ishr, 1) := by decide +kernel
theorem dX9_cutOf_75 : decode cX9_cutOf 75 = .ok (.istore 6, 2) := by decide +kernel
theorem dX9_cutOf_77 : decode cX9_cutOf 77 = .ok (.iload 6, 2) := by decide +kernel
theorem dX9_cutOf_79 : decode cX9_cutOf 79 = .ok (.iload_n 2, 1) := by decide +kernel
theorem dX9_cutOf_80 : decode cX9_cutOf 80 = .ok (.if_icmp .ge 8, 3) := by decide +kernel
theorem dX9_cutOf_83 : decode cX9_cutOf 83 = .ok (.iload 6, 2) := by decide +kernel
theorem dX9_cutOf_85 : decode cX9_cutOf 85 = .ok (.goto 4, 3) := by decide +kernel
theorem dX9_cutOf_88 : decode cX9_cutOf 88 = .ok (.iload_n 2, 1) := by decide +kernel
theorem dX9_cutOf_89 : decode cX9_cutOf 89 = .ok (.ireturn, 1) := by decide +kernel
theorem dX9_lightBy_0 : decode cX9_lightBy 0 = .ok (.iload_n 0, 1) := by decide +kernel
theorem dX9_lightBy_1 : decode cX9_lightBy 1 = .ok (.invokestatic 109, 3) := by decide +kernel
theorem dX9_lightBy_4 : decode cX9_lightBy 4 = .ok (.ifCond .ne 7, 3) := by decide +kernel
theorem dX9_lightBy_7 : decode cX9_lightBy 7 = .ok (.iload_n 0, 1) := by decide +kernel
theorem dX9_lightBy_8 : decode cX9_lightBy 8 = .ok (.ifCond .ge 7, 3) := by decide +kernel
theorem dX9_lightBy_11 : decode cX9_lightBy 11 = .ok (.iconst 0, 1) := by decide +kernel
theorem dX9_lightBy_12 : decode cX9_lightBy 12 = .ok (.goto 11, 3) := by decide +kernel
theorem dX9_lightBy_15 : decode cX9_lightBy 15 = .ok (.iload_n 0, 1) := by decide +kernel
theorem dX9_lightBy_16 : decode cX9_lightBy 16 = .ok (.iconst 2, 1) := by decide +kernel
theorem dX9_lightBy_17 : decode cX9_lightBy 17 = .ok (.sipush 255, 3) := by decide +kernel
theorem dX9_lightBy_20 : decode cX9_lightBy 20 = .ok (.invokestatic 112, 3) := by decide +kernel
theorem dX9_lightBy_23 : decode cX9_lightBy 23 = .ok (.ireturn, 1) := by decide +kernel
theorem dX9_light_0 : decode cX9_light 0 = .ok (.iload_n 1, 1) := by decide +kernel
theorem dX9_light_1 : decode cX9_light 1 = .ok (.invokestatic 90, 3) := by decide +kernel
theorem dX9_light_4 : decode cX9_light 4 = .ok (.ifCond .eq 14, 3) := by decide +kernel
theorem dX9_light_7 : decode cX9_light 7 = .ok (.aload_n 0, 1) := by decide +kernel
theorem dX9_light_8 : decode cX9_light 8 = .ok (.iconst 1, 1) := by decide +kernel
theorem dX9_light_9 : decode cX9_light 9 = .ok (.iload_n 1, 1) := by decide +kernel
theorem dX9_light_10 : decode cX9_light 10 = .ok (.iadd, 1) := by decide +kernel
theorem dX9_light_11 : decode cX9_light 11 = .ok (.iload_n 2, 1) := by decide +kernel
theorem dX9_light_12 : decode cX9_light 12 = .ok (.invokevirtual 94, 3) := by decide +kernel
theorem dX9_light_15 : decode cX9_light 15 = .ok (.ifCond .ne 5, 3) := by decide +kernel
theorem dX9_light_18 : decode cX9_light 18 = .ok (.iconst (-1), 1) := by decide +kernel
theorem dX9_light_19 : decode cX9_light 19 = .ok (.ireturn, 1) := by decide +kernel
theorem dX9_light_20 : decode cX9_light 20 = .ok (.bipush 8, 2) := by decide +kernel
theorem dX9_light_22 : decode cX9_light 22 = .ok (.iconst 1, 1) := by decide +kernel
theorem dX9_light_23 : decode cX9_light 23 = .ok (.iload_n 1, 1) := by decide +kernel
theorem dX9_light_24 : decode cX9_light 24 = .ok (.iadd, 1) := by decide +kernel
theorem dX9_light_25 : decode cX9_light 25 = .ok (.imul, 1) := by decide +kernel
theorem dX9_light_26 : decode cX9_light 26 = .ok (.iload_n 2, 1) := by decide +kernel
theorem dX9_light_27 : decode cX9_light 27 = .ok (.iadd, 1) := by decide +kernel
theorem dX9_light_28 : decode cX9_light 28 = .ok (.istore 4, 2) := by decide +kernel
theorem dX9_light_30 : decode cX9_light 30 = .ok (.aload_n 0, 1) := by decide +kernel
theorem dX9_light_31 : decode cX9_light 31 = .ok (.getfield 19, 3) := by decide +kernel
theorem dX9_light_34 : decode cX9_light 34 = .ok (.iload 4, 2) := by decide +kernel
theorem dX9_light_36 : decode cX9_light 36 = .ok (.iaload, 1) := by decide +kernel
theorem dX9_light_37 : decode cX9_light 37 = .ok (.istore 5, 2) := by decide +kernel
theorem dX9_light_39 : decode cX9_light 39 = .ok (.aload_n 0, 1) := by decide +kernel
theorem dX9_light_40 : decode cX9_light 40 = .ok (.getfield 19, 3) := by decide +kernel
theorem dX9_light_43 : decode cX9_light 43 = .ok (.iload 4, 2) := by decide +kernel
theorem dX9_light_45 : decode cX9_light 45 = .ok (.iload_n 3, 1) := by decide +kernel
theorem dX9_light_46 : decode cX9_light 46 = .ok (.invokestatic 116, 3) := by decide +kernel
theorem dX9_light_49 : decode cX9_light 49 = .ok (.iastore, 1) := by decide +kernel
theorem dX9_light_50 : decode cX9_light 50 = .ok (.iload 5, 2) := by decide +kernel
theorem dX9_light_52 : decode cX9_light 52 = .ok (.ireturn, 1) := by decide +kernel
theorem dX9_word_0 : decode cX9_word 0 = .ok (.iload_n 1, 1) := by decide +kernel
theorem dX9_word_1 : decode cX9_word 1 = .ok (.ifCond .ne 5, 3) := by decide +kernel
theorem dX9_word_4 : decode cX9_word 4 = .ok (.iconst 0, 1) := by decide +kernel
theorem dX9_word_5 : decode cX9_word 5 = .ok (.ireturn, 1) := by decide +kernel
theorem dX9_word_6 : decode cX9_word 6 = .ok (.iload_n 1, 1) := by decide +kernel
theorem dX9_word_7 : decode cX9_word 7 = .ok (.ifCond .ge 9, 3) := by decide +kernel
theorem dX9_word_10 : decode cX9_word 10 = .ok (.iload_n 1, 1) := by decide +kernel
theorem dX9_word_11 : decode cX9_word 11 = .ok (.i2l, 1) := by decide +kernel
theorem dX9_word_12 : decode cX9_word 12 = .ok (.lneg, 1) := by decide +kernel
theorem dX9_word_13 : decode cX9_word 13 = .ok (.goto 5, 3) := by decide +kernel
theorem dX9_word_16 : decode cX9_word 16 = .ok (.iload_n 1, 1) := by decide +kernel
theorem dX9_word_17 : decode cX9_word 17 = .ok (.i2l, 1) := by decide +kernel
theorem dX9_word_18 : decode cX9_word 18 = .ok (.lstore_n 2, 1) := by decide +kernel
theorem dX9_word_19 : decode cX9_word 19 = .ok (.iconst 0, 1) := by decide +kernel
theorem dX9_word_20 : decode cX9_word 20 = .ok (.istore 4, 2) := by decide +kernel
theorem dX9_word_22 : decode cX9_word 22 = .ok (.lload_n 2, 1) := by decide +kernel
theorem dX9_word_23 : decode cX9_word 23 = .ok (.iload 4, 2) := by decide +kernel
theorem dX9_word_25 : decode cX9_word 25 = .ok (.iconst 1, 1) := by decide +kernel
theorem dX9_word_26 : decode cX9_word 26 = .ok (.iadd, 1) := by decide +kernel
theorem dX9_word_27 : decode cX9_word 27 = .ok (.lshr, 1) := by decide +kernel
theorem dX9_word_28 : decode cX9_word 28 = .ok (.lconst 0, 1) := by decide +kernel
theorem dX9_word_29 : decode cX9_word 29 = .ok (.lcmp, 1) := by decide +kernel
theorem dX9_word_30 : decode cX9_word 30 = .ok (.ifCond .le 9, 3) := by decide +kernel
theorem dX9_word_33 : decode cX9_word 33 = .ok (.iinc 4 1, 3) := by decide +kernel
theorem dX9_word_36 : decode cX9_word 36 = .ok (.goto (-14), 3) := by decide +kernel
theorem dX9_word_39 : decode cX9_word 39 = .ok (.lconst 0, 1) := by decide +kernel
theorem dX9_word_40 : decode cX9_word 40 = .ok (.lstore 5, 2) := by decide +kernel
theorem dX9_word_42 : decode cX9_word 42 = .ok (.iload 4, 2) := by decide +kernel
theorem dX9_word_44 : decode cX9_word 44 = .ok (.bipush 23, 2) := by decide +kernel
theorem dX9_word_46 : decode cX9_word 46 = .ok (.if_icmp .gt 15, 3) := by decide +kernel
theorem dX9_word_49 : decode cX9_word 49 = .ok (.lload_n 2, 1) := by decide +kernel
theorem dX9_word_50 : decode cX9_word 50 = .ok (.bipush 23, 2) := by decide +kernel
theorem dX9_word_52 : decode cX9_word 52 = .ok (.iload 4, 2) := by decide +kernel
theorem dX9_word_54 : decode cX9_word 54 = .ok (.isub, 1) := by decide +kernel
theorem dX9_word_55 : decode cX9_word 55 = .ok (.lshl, 1) := by decide +kernel
theorem dX9_word_56 : decode cX9_word 56 = .ok (.lstore 5, 2) := by decide +kernel
theorem dX9_word_58 : decode cX9_word 58 = .ok (.goto 72, 3) := by decide +kernel
theorem dX9_word_61 : decode cX9_word 61 = .ok (.iload 4, 2) := by decide +kernel
theorem dX9_word_63 : decode cX9_word 63 = .ok (.bipush 23, 2) := by decide +kernel
theorem dX9_word_65 : decode cX9_word 65 = .ok (.isub, 1) := by decide +kernel
theorem dX9_word_66 : decode cX9_word 66 = .ok (.istore 7, 2) := by decide +kernel
theorem dX9_word_68 : decode cX9_word 68 = .ok (.lconst 1, 1) := by decide +kernel
theorem dX9_word_69 : decode cX9_word 69 = .ok (.iload 7, 2) := by decide +kernel
theorem dX9_word_71 : decode cX9_word 71 = .ok (.iconst 1, 1) := by decide +kernel
theorem dX9_word_72 : decode cX9_word 72 = .ok (.isub, 1) := by decide +kernel
theorem dX9_word_73 : decode cX9_word 73 = .ok (.lshl, 1) := by decide +kernel
theorem dX9_word_74 : decode cX9_word 74 = .ok (.lstore 8, 2) := by decide +kernel
theorem dX9_word_76 : decode cX9_word 76 = .ok (.lload_n 2, 1) := by decide +kernel
theorem dX9_word_77 : decode cX9_word 77 = .ok (.lload_n 2, 1) := by decide +kernel
theorem dX9_word_78 : decode cX9_word 78 = .ok (.iload 7, 2) := by decide +kernel
theorem dX9_word_80 : decode cX9_word 80 = .ok (.lshr, 1) := by decide +kernel
theorem dX9_word_81 : decode cX9_word 81 = .ok (.iload 7, 2) := by decide +kernel
theorem dX9_word_83 : decode cX9_word 83 = .ok (.lshl, 1) := by decide +kernel
theorem dX9_word_84 : decode cX9_word 84 = .ok (.lsub, 1) := by decide +kernel
theorem dX9_word_85 : decode cX9_word 85 = .ok (.lstore 10, 2) := by decide +kernel
theorem dX9_word_87 : decode cX9_word 87 = .ok (.lload_n 2, 1) := by decide +kernel
theorem dX9_word_88 : decode cX9_word 88 = .ok (.iload 7, 2) := by decide +kernel
theorem dX9_word_90 : decode cX9_word 90 = .ok (.lshr, 1) := by decide +kernel
theorem dX9_word_91 : decode cX9_word 91 = .ok (.lstore 5, 2) := by decide +kernel
theorem dX9_word_93 : decode cX9_word 93 = .ok (.lload 5, 2) := by decide +kernel
theorem dX9_word_95 : decode cX9_word 95 = .ok (.lload 10, 2) := by decide +kernel
theorem dX9_word_97 : decode cX9_word 97 = .ok (.lload 8, 2) := by decide +kernel
theorem dX9_word_99 : decode cX9_word 99 = .ok (.lcmp, 1) := by decide +kernel
theorem dX9_word_100 : decode cX9_word 100 = .ok (.ifCond .gt 22, 3) := by decide +kernel
theorem dX9_word_103 : decode cX9_word 103 = .ok (.lload 10, 2) := by decide +kernel
theorem dX9_word_105 : decode cX9_word 105 = .ok (.lload 8, 2) := by decide +kernel
theorem dX9_word_107 : decode cX9_word 107 = .ok (.lcmp, 1) := by decide +kernel
theorem dX9_word_108 : decode cX9_word 108 = .ok (.ifCond .ne 18, 3) := by decide +kernel
theorem dX9_word_111 : decode cX9_word 111 = .ok (.lload 5, 2) := by decide +kernel
theorem dX9_word_113 : decode cX9_word 113 = .ok (.ldc2_w 119, 3) := by decide +kernel
theorem dX9_word_116 : decode cX9_word 116 = .ok (.lrem, 1) := by decide +kernel
theorem dX9_word_117 : decode cX9_word 117 = .ok (.lconst 1, 1) := by decide +kernel
theorem dX9_word_118 : decode cX9_word 118 = .ok (.lcmp, 1) := by decide +kernel
theorem dX9_word_119 : decode cX9_word 119 = .ok (.ifCond .ne 7, 3) := by decide +kernel
theorem dX9_word_122 : decode cX9_word 122 = .ok (.lconst 1, 1) := by decide +kernel
theorem dX9_word_123 : decode cX9_word 123 = .ok (.goto 4, 3) := by decide +kernel
theorem dX9_word_126 : decode cX9_word 126 = .ok (.lconst 0, 1) := by decide +kernel
theorem dX9_word_127 : decode cX9_word 127 = .ok (.ladd, 1) := by decide +kernel
theorem dX9_word_128 : decode cX9_word 128 = .ok (.lstore 5, 2) := by decide +kernel
theorem dX9_word_130 : decode cX9_word 130 = .ok (.lload 5, 2) := by decide +kernel
theorem dX9_word_132 : decode cX9_word 132 = .ok (.ldc2_w 121, 3) := by decide +kernel
theorem dX9_word_135 : decode cX9_word 135 = .ok (.lcmp, 1) := by decide +kernel
theorem dX9_word_136 : decode cX9_word 136 = .ok (.ifCond .ne 11, 3) := by decide +kernel
theorem dX9_word_139 : decode cX9_word 139 = .ok (.ldc2_w 123, 3) := by decide +kernel
theorem dX9_word_142 : decode cX9_word 142 = .ok (.lstore 5, 2) := by decide +kernel
theorem dX9_word_144 : decode cX9_word 144 = .ok (.iinc 4 1, 3) := by decide +kernel
theorem dX9_word_147 : decode cX9_word 147 = .ok (.iload 4, 2) := by decide +kernel
theorem dX9_word_149 : decode cX9_word 149 = .ok (.bipush 127, 2) := by decide +kernel
theorem dX9_word_151 : decode cX9_word 151 = .ok (.iadd, 1) := by decide +kernel
theorem dX9_word_152 : decode cX9_word 152 = .ok (.bipush 23, 2) := by decide +kernel
theorem dX9_word_154 : decode cX9_word 154 = .ok (.ishl, 1) := by decide +kernel
theorem dX9_word_155 : decode cX9_word 155 = .ok (.lload 5, 2) := by decide +kernel
theorem dX9_word_157 : decode cX9_word 157 = .ok (.ldc2_w 123, 3) := by decide +kernel
theorem dX9_word_160 : decode cX9_word 160 = .ok (.lsub, 1) := by decide +kernel
theorem dX9_word_161 : decode cX9_word 161 = .ok (.l2i, 1) := by decide +kernel
theorem dX9_word_162 : decode cX9_word 162 = .ok (.ior, 1) := by decide +kernel
theorem dX9_word_163 : decode cX9_word 163 = .ok (.istore 7, 2) := by decide +kernel
theorem dX9_word_165 : decode cX9_word 165 = .ok (.iload_n 1, 1) := by decide +kernel
theorem dX9_word_166 : decode cX9_word 166 = .ok (.ifCond .ge 11, 3) := by decide +kernel
theorem dX9_word_169 : decode cX9_word 169 = .ok (.iload 7, 2) := by decide +kernel
theorem dX9_word_171 : decode cX9_word 171 = .ok (.ldc 125, 2) := by decide +kernel
theorem dX9_word_173 : decode cX9_word 173 = .ok (.ior, 1) := by decide +kernel
theorem dX9_word_174 : decode cX9_word 174 = .ok (.goto 5, 3) := by decide +kernel
theorem dX9_word_177 : decode cX9_word 177 = .ok (.iload 7, 2) := by decide +kernel
theorem dX9_word_179 : decode cX9_word 179 = .ok (.ireturn, 1) := by decide +kernel
theorem dX9_number_0 : decode cX9_number 0 = .ok (.iload_n 1, 1) := by decide +kernel
theorem dX9_number_1 : decode cX9_number 1 = .ok (.invokestatic 109, 3) := by decide +kernel
theorem dX9_number_4 : decode cX9_number 4 = .ok (.ifCond .eq 5, 3) := by decide +kernel
theorem dX9_number_7 : decode cX9_number 7 = .ok (.iconst 0, 1) := by decide +kernel
theorem dX9_number_8 : decode cX9_number 8 = .ok (.ireturn, 1) := by decide +kernel
theorem dX9_number_9 : decode cX9_number 9 = .ok (.iload_n 1, 1) := by decide +kernel
theorem dX9_number_10 : decode cX9_number 10 = .ok (.invokestatic 102, 3) := by decide +kernel
theorem dX9_number_13 : decode cX9_number 13 = .ok (.istore_n 2, 1) := by decide +kernel
theorem dX9_number_14 : decode cX9_number 14 = .ok (.iload_n 2, 1) := by decide +kernel
theorem dX9_number_15 : decode cX9_number 15 = .ok (.sipush 158, 3) := by decide +kernel
theorem dX9_number_18 : decode cX9_number 18 = .ok (.if_icmp .lt 15, 3) := by decide +kernel
theorem dX9_number_21 : decode cX9_number 21 = .ok (.iload_n 1, 1) := by decide +kernel
theorem dX9_number_22 : decode cX9_number 22 = .ok (.ifCond .ge 8, 3) := by decide +kernel
theorem dX9_number_25 : decode cX9_number 25 = .ok (.ldc 125, 2) := by decide +kernel
theorem dX9_number_27 : decode cX9_number 27 = .ok (.goto 5, 3) := by decide +kernel
theorem dX9_number_30 : decode cX9_number 30 = .ok (.ldc 126, 2) := by decide +kernel
theorem dX9_number_32 : decode cX9_number 32 = .ok (.ireturn, 1) := by decide +kernel
theorem dX9_number_33 : decode cX9_number 33 = .ok (.iload_n 1, 1) := by decide +kernel
theorem dX9_number_34 : decode cX9_number 34 = .ok (.iconst 0, 1) := by decide +kernel
theorem dX9_number_35 : decode cX9_number 35 = .ok (.ldc 126, 2) := by decide +kernel
theorem dX9_number_37 : decode cX9_number 37 = .ok (.invokestatic 112, 3) := by decide +kernel
theorem dX9_number_40 : decode cX9_number 40 = .ok (.istore_n 3, 1) := by decide +kernel
theorem dX9_number_41 : decode cX9_number 41 = .ok (.iload_n 1, 1) := by decide +kernel
theorem dX9_number_42 : decode cX9_number 42 = .ok (.ifCond .ge 8, 3) := by decide +kernel
theorem dX9_number_45 : decode cX9_number 45 = .ok (.iload_n 3, 1) := by decide +kernel
theorem dX9_number_46 : decode cX9_number 46 = .ok (.ineg, 1) := by decide +kernel
theorem dX9_number_47 : decode cX9_number 47 = .ok (.goto 4, 3) := by decide +kernel
theorem dX9_number_50 : decode cX9_number 50 = .ok (.iload_n 3, 1) := by decide +kernel
theorem dX9_number_51 : decode cX9_number 51 = .ok (.ireturn, 1) := by decide +kernel
theorem dX9_set_0 : decode cX9_set 0 = .ok (.iload_n 1, 1) := by decide +kernel
theorem dX9_set_1 : decode cX9_set 1 = .ok (.iconst 0, 1) := by decide +kernel
theorem dX9_set_2 : decode cX9_set 2 = .ok (.iconst 3, 1) := by decide +kernel
theorem dX9_set_3 : decode cX9_set 3 = .ok (.invokestatic 75, 3) := by decide +kernel
theorem dX9_set_6 : decode cX9_set 6 = .ok (.ifCond .ne 6, 3) := by decide +kernel
theorem dX9_set_9 : decode cX9_set 9 = .ok (.bipush (-2), 2) := by decide +kernel
theorem dX9_set_11 : decode cX9_set 11 = .ok (.ireturn, 1) := by decide +kernel
theorem dX9_set_12 : decode cX9_set 12 = .ok (.iload_n 1, 1) := by decide +kernel
theorem dX9_set_13 : decode cX9_set 13 = .ok (.ifCond .ne 8, 3) := by decide +kernel
theorem dX9_set_16 : decode cX9_set 16 = .ok (.bipush 50, 2) := by decide +kernel
theorem dX9_set_18 : decode cX9_set 18 = .ok (.goto 26, 3) := by decide +kernel
theorem dX9_set_21 : decode cX9_set 21 = .ok (.iload_n 1, 1) := by decide +kernel
theorem dX9_set_22 : decode cX9_set 22 = .ok (.iconst 1, 1) := by decide +kernel
theorem dX9_set_23 : decode cX9_set 23 = .ok (.if_icmp .ne 8, 3) := by decide +kernel
theorem dX9_set_26 : decode cX9_set 26 = .ok (.ldc 127, 2) := by decide +kernel
theorem dX9_set_28 : decode cX9_set 28 = .ok (.goto 16, 3) := by decide +kernel
theorem dX9_set_31 : decode cX9_set 31 = .ok (.iload_n 1, 1) := by decide +kernel
theorem dX9_set_32 : decode cX9_set 32 = .ok (.iconst 2, 1) := by decide +kernel
theorem dX9_set_33 : decode cX9_set 33 = .ok (.if_icmp .ne 8, 3) := by decide +kernel
theorem dX9_set_36 : decode cX9_set 36 = .ok (.ldc 128, 2) := by decide +kernel
theorem dX9_set_38 : decode cX9_set 38 = .ok (.goto 6, 3) := by decide +kernel
theorem dX9_set_41 : decode cX9_set 41 = .ok (.sipush 255, 3) := by decide +kernel
theorem dX9_set_44 : decode cX9_set 44 = .ok (.istore_n 3, 1) := by decide +kernel
theorem dX9_set_45 : decode cX9_set 45 = .ok (.iload_n 2, 1) := by decide +kernel
theorem dX9_set_46 : decode cX9_set 46 = .ok (.iload_n 1, 1) := by decide +kernel
theorem dX9_set_47 : decode cX9_set 47 = .ok (.iconst 3, 1) := by decide +kernel
theorem dX9_set_48 : decode cX9_set 48 = .ok (.if_icmp .ne 7, 3) := by decide +kernel
theorem dX9_set_51 : decode cX9_set 51 = .ok (.iconst 1, 1) := by decide +kernel
theorem dX9_set_52 : decode cX9_set 52 = .ok (.goto 4, 3) := by decide +kernel
theorem dX9_set_55 : decode cX9_set 55 = .ok (.iconst 0, 1) := by decide +kernel
theorem dX9_set_56 : decode cX9_set 56 = .ok (.iload_n 3, 1) := by decide +kernel
theorem dX9_set_57 : decode cX9_set 57 = .ok (.invokestatic 75, 3) := by decide +kernel
theorem dX9_set_60 : decode cX9_set 60 = .ok (.ifCond .ne 6, 3) := by decide +kernel
theorem dX9_set_63 : decode cX9_set 63 = .ok (.bipush (-2), 2) := by decide +kernel
theorem dX9_set_65 : decode cX9_set 65 = .ok (.ireturn, 1) := by decide +kernel
theorem dX9_set_66 : decode cX9_set 66 = .ok (.aload_n 0, 1) := by decide +kernel
theorem dX9_set_67 : decode cX9_set 67 = .ok (.getfield 23, 3) := by decide +kernel
theorem dX9_set_70 : decode cX9_set 70 = .ok (.iload_n 1, 1) := by decide +kernel
theorem dX9_set_71 : decode cX9_set 71 = .ok (.iaload, 1) := by decide +kernel
theorem dX9_set_72 : decode cX9_set 72 = .ok (.istore 4, 2) := by decide +kernel
theorem dX9_set_74 : decode cX9_set 74 = .ok (.aload_n 0, 1) := by decide +kernel
theorem dX9_set_75 : decode cX9_set 75 = .ok (.getfield 23, 3) := by decide +kernel
theorem dX9_set_78 : decode cX9_set 78 = .ok (.iload_n 1, 1) := by decide +kernel
theorem dX9_set_79 : decode cX9_set 79 = .ok (.iload_n 2, 1) := by decide +kernel
theorem dX9_set_80 : decode cX9_set 80 = .ok (.iastore, 1) := by decide +kernel
theorem dX9_set_81 : decode cX9_set 81 = .ok (.iload 4, 2) := by decide +kernel
theorem dX9_set_83 : decode cX9_set 83 = .ok (.ireturn, 1) := by decide +kernel
theorem dX9_side_0 : decode cX9_side 0 = .ok (.aload_n 0, 1) := by decide +kernel
theorem dX9_side_1 : decode cX9_side 1 = .ok (.getfield 13, 3) := by decide +kernel
theorem dX9_side_4 : decode cX9_side 4 = .ok (.bipush 8, 2) := by decide +kernel
theorem dX9_side_6 : decode cX9_side 6 = .ok (.iload_n 1, 1) := by decide +kernel
theorem dX9_side_7 : decode cX9_side 7 = .ok (.imul, 1) := by decide +kernel
theorem dX9_side_8 : decode cX9_side 8 = .ok (.iload_n 2, 1) := by decide +kernel
theorem dX9_side_9 : decode cX9_side 9 = .ok (.iadd, 1) := by decide +kernel
theorem dX9_side_10 : decode cX9_side 10 = .ok (.iaload, 1) := by decide +kernel
theorem dX9_side_11 : decode cX9_side 11 = .ok (.aload_n 0, 1) := by decide +kernel
theorem dX9_side_12 : decode cX9_side 12 = .ok (.getfield 13, 3) := by decide +kernel
theorem dX9_side_15 : decode cX9_side 15 = .ok (.bipush 8, 2) := by decide +kernel
theorem dX9_side_17 : decode cX9_side 17 = .ok (.iload_n 1, 1) := by decide +kernel
theorem dX9_side_18 : decode cX9_side 18 = .ok (.imul, 1) := by decide +kernel
theorem dX9_side_19 : decode cX9_side 19 = .ok (.iload_n 3, 1) := by decide +kernel
theorem dX9_side_20 : decode cX9_side 20 = .ok (.iadd, 1) := by decide +kernel
theorem dX9_side_21 : decode cX9_side 21 = .ok (.iaload, 1) := by decide +kernel
theorem dX9_side_22 : decode cX9_side 22 = .ok (.isub, 1) := by decide +kernel
theorem dX9_side_23 : decode cX9_side 23 = .ok (.i2l, 1) := by decide +kernel
theorem dX9_side_24 : decode cX9_side 24 = .ok (.lstore 4, 2) := by decide +kernel
theorem dX9_side_26 : decode cX9_side 26 = .ok (.aload_n 0, 1) := by decide +kernel
theorem dX9_side_27 : decode cX9_side 27 = .ok (.getfield 16, 3) := by decide +kernel
theorem dX9_side_30 : decode cX9_side 30 = .ok (.bipush 8, 2) := by decide +kernel
theorem dX9_side_32 : decode cX9_side 32 = .ok (.iload_n 1, 1) := by decide +kernel
theorem dX9_side_33 : decode cX9_side 33 = .ok (.imul, 1) := by decide +kernel
theorem dX9_side_34 : decode cX9_side 34 = .ok (.iload_n 2, 1) := by decide +kernel
theorem dX9_side_35 : decode cX9_side 35 = .ok (.iadd, 1) := by decide +kernel
theorem dX9_side_36 : decode cX9_side 36 = .ok (.iaload, 1) := by decide +kernel
theorem dX9_side_37 : decode cX9_side 37 = .ok (.aload_n 0, 1) := by decide +kernel
theorem dX9_side_38 : decode cX9_side 38 = .ok (.getfield 16, 3) := by decide +kernel
theorem dX9_side_41 : decode cX9_side 41 = .ok (.bipush 8, 2) := by decide +kernel
theorem dX9_side_43 : decode cX9_side 43 = .ok (.iload_n 1, 1) := by decide +kernel
theorem dX9_side_44 : decode cX9_side 44 = .ok (.imul, 1) := by decide +kernel
theorem dX9_side_45 : decode cX9_side 45 = .ok (.iload_n 3, 1) := by decide +kernel
theorem dX9_side_46 : decode cX9_side 46 = .ok (.iadd, 1) := by decide +kernel
theorem dX9_side_47 : decode cX9_side 47 = .ok (.iaload, 1) := by decide +kernel
theorem dX9_side_48 : decode cX9_side 48 = .ok (.isub, 1) := by decide +kernel
theorem dX9_side_49 : decode cX9_side 49 = .ok (.i2l, 1) := by decide +kernel
theorem dX9_side_50 : decode cX9_side 50 = .ok (.lstore 6, 2) := by decide +kernel
theorem dX9_side_52 : decode cX9_side 52 = .ok (.lload 4, 2) := by decide +kernel
theorem dX9_side_54 : decode cX9_side 54 = .ok (.lload 4, 2) := by decide +kernel
theorem dX9_side_56 : decode cX9_side 56 = .ok (.lmul, 1) := by decide +kernel
theorem dX9_side_57 : decode cX9_side 57 = .ok (.lload 6, 2) := by decide +kernel
theorem dX9_side_59 : decode cX9_side 59 = .ok (.lload 6, 2) := by decide +kernel
theorem dX9_side_61 : decode cX9_side 61 = .ok (.lmul, 1) := by decide +kernel
theorem dX9_side_62 : decode cX9_side 62 = .ok (.ladd, 1) := by decide +kernel
theorem dX9_side_63 : decode cX9_side 63 = .ok (.lreturn, 1) := by decide +kernel
theorem dX9_twist_0 : decode cX9_twist 0 = .ok (.bipush 8, 2) := by decide +kernel
theorem dX9_twist_2 : decode cX9_twist 2 = .ok (.iload_n 1, 1) := by decide +kernel
theorem dX9_twist_3 : decode cX9_twist 3 = .ok (.imul, 1) := by decide +kernel
theorem dX9_twist_4 : decode cX9_twist 4 = .ok (.iload_n 2, 1) := by decide +kernel
theorem dX9_twist_5 : decode cX9_twist 5 = .ok (.iadd, 1) := by decide +kernel
theorem dX9_twist_6 : decode cX9_twist 6 = .ok (.istore 5, 2) := by decide +kernel
theorem dX9_twist_8 : decode cX9_twist 8 = .ok (.bipush 8, 2) := by decide +kernel
theorem dX9_twist_10 : decode cX9_twist 10 = .ok (.iload_n 1, 1) := by decide +kernel
theorem dX9_twist_11 : decode cX9_twist 11 = .ok (.imul, 1) := by decide +kernel
theorem dX9_twist_12 : decode cX9_twist 12 = .ok (.iload_n 3, 1) := by decide +kernel
theorem dX9_twist_13 : decode cX9_twist 13 = .ok (.iadd, 1) := by decide +kernel
theorem dX9_twist_14 : decode cX9_twist 14 = .ok (.istore 6, 2) := by decide +kernel
theorem dX9_twist_16 : decode cX9_twist 16 = .ok (.bipush 8, 2) := by decide +kernel
theorem dX9_twist_18 : decode cX9_twist 18 = .ok (.iload_n 1, 1) := by decide +kernel
theorem dX9_twist_19 : decode cX9_twist 19 = .ok (.imul, 1) := by decide +kernel
theorem dX9_twist_20 : decode cX9_twist 20 = .ok (.iload 4, 2) := by decide +kernel
theorem dX9_twist_22 : decode cX9_twist 22 = .ok (.iadd, 1) := by decide +kernel
theorem dX9_twist_23 : decode cX9_twist 23 = .ok (.istore 7, 2) := by decide +kernel
theorem dX9_twist_25 : decode cX9_twist 25 = .ok (.aload_n 0, 1) := by decide +kernel
theorem dX9_twist_26 : decode cX9_twist 26 = .ok (.getfield 13, 3) := by decide +kernel
theorem dX9_twist_29 : decode cX9_twist 29 = .ok (.iload 6, 2) := by decide +kernel
theorem dX9_twist_31 : decode cX9_twist 31 = .ok (.iaload, 1) := by decide +kernel
theorem dX9_twist_32 : decode cX9_twist 32 = .ok (.aload_n 0, 1) := by decide +kernel
theorem dX9_twist_33 : decode cX9_twist 33 = .ok (.getfield 13, 3) := by decide +kernel
theorem dX9_twist_36 : decode cX9_twist 36 = .ok (.iload 5, 2) := by decide +kernel
theorem dX9_twist_38 : decode cX9_twist 38 = .ok (.iaload, 1) := by decide +kernel
theorem dX9_twist_39 : decode cX9_twist 39 = .ok (.isub, 1) := by decide +kernel
theorem dX9_twist_40 : decode cX9_twist 40 = .ok (.i2l, 1) := by decide +kernel
theorem dX9_twist_41 : decode cX9_twist 41 = .ok (.aload_n 0, 1) := by decide +kernel
theorem dX9_twist_42 : decode cX9_twist 42 = .ok (.getfield 16, 3) := by decide +kernel
theorem dX9_twist_45 : decode cX9_twist 45 = .ok (.iload 7, 2) := by decide +kernel
theorem dX9_twist_47 : decode cX9_twist 47 = .ok (.iaload, 1) := by decide +kernel
theorem dX9_twist_48 : decode cX9_twist 48 = .ok (.aload_n 0, 1) := by decide +kernel
theorem dX9_twist_49 : decode cX9_twist 49 = .ok (.getfield 16, 3) := by decide +kernel
theorem dX9_twist_52 : decode cX9_twist 52 = .ok (.iload 5, 2) := by decide +kernel
theorem dX9_twist_54 : decode cX9_twist 54 = .ok (.iaload, 1) := by decide +kernel
theorem dX9_twist_55 : decode cX9_twist 55 = .ok (.isub, 1) := by decide +kernel
theorem dX9_twist_56 : decode cX9_twist 56 = .ok (.i2l, 1) := by decide +kernel
theorem dX9_twist_57 : decode cX9_twist 57 = .ok (.lmul, 1) := by decide +kernel
theorem dX9_twist_58 : decode cX9_twist 58 = .ok (.aload_n 0, 1) := by decide +kernel
theorem dX9_twist_59 : decode cX9_twist 59 = .ok (.getfield 16, 3) := by decide +kernel
theorem dX9_twist_62 : decode cX9_twist 62 = .ok (.iload 6, 2) := by decide +kernel
theorem dX9_twist_64 : decode cX9_twist 64 = .ok (.iaload, 1) := by decide +kernel
theorem dX9_twist_65 : decode cX9_twist 65 = .ok (.aload_n 0, 1) := by decide +kernel
theorem dX9_twist_66 : decode cX9_twist 66 = .ok (.getfield 16, 3) := by decide +kernel
theorem dX9_twist_69 : decode cX9_twist 69 = .ok (.iload 5, 2) := by decide +kernel
theorem dX9_twist_71 : decode cX9_twist 71 = .ok (.iaload, 1) := by decide +kernel
theorem dX9_twist_72 : decode cX9_twist 72 = .ok (.isub, 1) := by decide +kernel
theorem dX9_twist_73 : decode cX9_twist 73 = .ok (.i2l, 1) := by decide +kernel
theorem dX9_twist_74 : decode cX9_twist 74 = .ok (.aload_n 0, 1) := by decide +kernel
theorem dX9_twist_75 : decode cX9_twist 75 = .ok (.getfield 13, 3) := by decide +kernel
theorem dX9_twist_78 : decode cX9_twist 78 = .ok (.iload 7, 2) := by decide +kernel
theorem dX9_twist_80 : decode cX9_twist 80 = .ok (.iaload, 1) := by decide +kernel
theorem dX9_twist_81 : decode cX9_twist 81 = .ok (.aload_n 0, 1) := by decide +kernel
theorem dX9_twist_82 : decode cX9_twist 82 = .ok (.getfield 13, 3) := by decide +kernel
theorem dX9_twist_85 : decode cX9_twist 85 = .ok (.iload 5, 2) := by decide +kernel
theorem dX9_twist_87 : decode cX9_twist 87 = .ok (.iaload, 1) := by decide +kernel
theorem dX9_twist_88 : decode cX9_twist 88 = .ok (.isub, 1) := by decide +kernel
theorem dX9_twist_89 : decode cX9_twist 89 = .ok (.i2l, 1) := by decide +kernel
theorem dX9_twist_90 : decode cX9_twist 90 = .ok (.lmul, 1) := by decide +kernel
theorem dX9_twist_91 : decode cX9_twist 91 = .ok (.lsub, 1) := by decide +kernel
theorem dX9_twist_92 : decode cX9_twist 92 = .ok (.lreturn, 1) := by decide +kernel
theorem dX9_findTriple_0 : decode cX9_findTriple 0 = .ok (.aload_n 0, 1) := by decide +kernel
theorem dX9_findTriple_1 : decode cX9_findTriple 1 = .ok (.iload_n 1, 1) := by decide +kernel
theorem dX9_findTriple_2 : decode cX9_findTriple 2 = .ok (.iload_n 3, 1) := by decide +kernel
theorem dX9_findTriple_3 : decode cX9_findTriple 3 = .ok (.iload 4, 2) := by decide +kernel
theorem dX9_findTriple_5 : decode cX9_findTriple 5 = .ok (.invokevirtual 129, 3) := by decide +kernel
theorem dX9_findTriple_8 : decode cX9_findTriple 8 = .ok (.lstore 5, 2) := by decide +kernel
theorem dX9_findTriple_10 : decode cX9_findTriple 10 = .ok (.aload_n 0, 1) := by decide +kernel
theorem dX9_findTriple_11 : decode cX9_findTriple 11 = .ok (.iload_n 1, 1) := by decide +kernel
theorem dX9_findTriple_12 : decode cX9_findTriple 12 = .ok (.iload_n 2, 1) := by decide +kernel
theorem dX9_findTriple_13 : decode cX9_findTriple 13 = .ok (.iload 4, 2) := by decide +kernel
theorem dX9_findTriple_15 : decode cX9_findTriple 15 = .ok (.invokevirtual 129, 3) := by decide +kernel
theorem dX9_findTriple_18 : decode cX9_findTriple 18 = .ok (.lstore 7, 2) := by decide +kernel
theorem dX9_findTriple_20 : decode cX9_findTriple 20 = .ok (.aload_n 0, 1) := by decide +kernel
theorem dX9_findTriple_21 : decode cX9_findTriple 21 = .ok (.iload_n 1, 1) := by decide +kernel
theorem dX9_findTriple_22 : decode cX9_findTriple 22 = .ok (.iload_n 2, 1) := by decide +kernel
theorem dX9_findTriple_23 : decode cX9_findTriple 23 = .ok (.iload_n 3, 1) := by decide +kernel
theorem dX9_findTriple_24 : decode cX9_findTriple 24 = .ok (.invokevirtual 129, 3) := by decide +kernel
theorem dX9_findTriple_27 : decode cX9_findTriple 27 = .ok (.lstore 9, 2) := by decide +kernel
theorem dX9_findTriple_29 : decode cX9_findTriple 29 = .ok (.aload_n 0, 1) := by decide +kernel
theorem dX9_findTriple_30 : decode cX9_findTriple 30 = .ok (.iconst 0, 1) := by decide +kernel
theorem dX9_findTriple_31 : decode cX9_findTriple 31 = .ok (.putfield 133, 3) := by decide +kernel
theorem dX9_findTriple_34 : decode cX9_findTriple 34 = .ok (.lload 5, 2) := by decide +kernel
theorem dX9_findTriple_36 : decode cX9_findTriple 36 = .ok (.lload 7, 2) := by decide +kernel
theorem dX9_findTriple_38 : decode cX9_findTriple 38 = .ok (.lcmp, 1) := by decide +kernel
theorem dX9_findTriple_39 : decode cX9_findTriple 39 = .ok (.ifCond .eq 33, 3) := by decide +kernel
theorem dX9_findTriple_42 : decode cX9_findTriple 42 = .ok (.lload 7, 2) := by decide +kernel
theorem dX9_findTriple_44 : decode cX9_findTriple 44 = .ok (.lload 9, 2) := by decide +kernel
theorem dX9_findTriple_46 : decode cX9_findTriple 46 = .ok (.lcmp, 1) := by decide +kernel
theorem dX9_findTriple_47 : decode cX9_findTriple 47 = .ok (.ifCond .eq 25, 3) := by decide +kernel
theorem dX9_findTriple_50 : decode cX9_findTriple 50 = .ok (.lload 5, 2) := by decide +kernel
theorem dX9_findTriple_52 : decode cX9_findTriple 52 = .ok (.lload 9, 2) := by decide +kernel
theorem dX9_findTriple_54 : decode cX9_findTriple 54 = .ok (.lcmp, 1) := by decide +kernel
theorem dX9_findTriple_55 : decode cX9_findTriple 55 = .ok (.ifCond .eq 17, 3) := by decide +kernel
theorem dX9_findTriple_58 : decode cX9_findTriple 58 = .ok (.aload_n 0, 1) := by decide +kernel
theorem dX9_findTriple_59 : decode cX9_findTriple 59 = .ok (.iload_n 1, 1) := by decide +kernel
theorem dX9_findTriple_60 : decode cX9_findTriple 60 = .ok (.iload_n 2, 1) := by decide +kernel
theorem dX9_findTriple_61 : decode cX9_findTriple 61 = .ok (.iload_n 3, 1) := by decide +kernel
theorem dX9_findTriple_62 : decode cX9_findTriple 62 = .ok (.iload 4, 2) := by decide +kernel
theorem dX9_findTriple_64 : decode cX9_findTriple 64 = .ok (.invokevirtual 137, 3) := by decide +kernel
theorem dX9_findTriple_67 : decode cX9_findTriple 67 = .ok (.lconst 0, 1) := by decide +kernel
theorem dX9_findTriple_68 : decode cX9_findTriple 68 = .ok (.lcmp, 1) := by decide +kernel
theorem dX9_findTriple_69 : decode cX9_findTriple 69 = .ok (.ifCond .ne 4, 3) := by decide +kernel
theorem dX9_findTriple_72 : decode cX9_findTriple 72 = .ok (.return_, 1) := by decide +kernel
theorem dX9_findTriple_73 : decode cX9_findTriple 73 = .ok (.lload 5, 2) := by decide +kernel
theorem dX9_findTriple_75 : decode cX9_findTriple 75 = .ok (.lload 7, 2) := by decide +kernel
theorem dX9_findTriple_77 : decode cX9_findTriple 77 = .ok (.lcmp, 1) := by decide +kernel
theorem dX9_findTriple_78 : decode cX9_findTriple 78 = .ok (.ifCond .ge 21, 3) := by decide +kernel
theorem dX9_findTriple_81 : decode cX9_findTriple 81 = .ok (.lload 5, 2) := by decide +kernel
theorem dX9_findTriple_83 : decode cX9_findTriple 83 = .ok (.lload 9, 2) := by decide +kernel
theorem dX9_findTriple_85 : decode cX9_findTriple 85 = .ok (.lcmp, 1) := by decide +kernel
theorem dX9_findTriple_86 : decode cX9_findTriple 86 = .ok (.ifCond .ge 8, 3) := by decide +kernel
theorem dX9_findTriple_89 : decode cX9_findTriple 89 = .ok (.lload 5, 2) := by decide +kernel
theorem dX9_findTriple_91 : decode cX9_findTriple 91 = .ok (.goto 23, 3) := by decide +kernel
theorem dX9_findTriple_94 : decode cX9_findTriple 94 = .ok (.lload 9, 2) := by decide +kernel
theorem dX9_findTriple_96 : decode cX9_findTriple 96 = .ok (.goto 18, 3) := by decide +kernel
theorem dX9_findTriple_99 : decode cX9_findTriple 99 = .ok (.lload 7, 2) := by decide +kernel
theorem dX9_findTriple_101 : decode cX9_findTriple 101 = .ok (.lload 9, 2) := by decide +kernel
theorem dX9_findTriple_103 : decode cX9_findTriple 103 = .ok (.lcmp, 1) := by decide +kernel
theorem dX9_findTriple_104 : decode cX9_findTriple 104 = .ok (.ifCond .ge 8, 3) := by decide +kernel
theorem dX9_findTriple_107 : decode cX9_findTriple 107 = .ok (.lload 7, 2) := by decide +kernel
theorem dX9_findTriple_109 : decode cX9_findTriple 109 = .ok (.goto 5, 3) := by decide +kernel
theorem dX9_findTriple_112 : decode cX9_findTriple 112 = .ok (.lload 9, 2) := by decide +kernel
theorem dX9_findTriple_114 : decode cX9_findTriple 114 = .ok (.lstore 11, 2) := by decide +kernel
theorem dX9_findTriple_116 : decode cX9_findTriple 116 = .ok (.lload 5, 2) := by decide +kernel
theorem dX9_findTriple_118 : decode cX9_findTriple 118 = .ok (.lload 7, 2) := by decide +kernel
theorem dX9_findTriple_120 : decode cX9_findTriple 120 = .ok (.lcmp, 1) := by decide +kernel
theorem dX9_findTriple_121 : decode cX9_findTriple 121 = .ok (.ifCond .le 21, 3) := by decide +kernel
theorem dX9_findTriple_124 : decode cX9_findTriple 124 = .ok (.lload 5, 2) := by decide +kernel
theorem dX9_findTriple_126 : decode cX9_findTriple 126 = .ok (.lload 9, 2) := by decide +kernel
theorem dX9_findTriple_128 : decode cX9_findTriple 128 = .ok (.lcmp, 1) := by decide +kernel
theorem dX9_findTriple_129 : decode cX9_findTriple 129 = .ok (.ifCond .le 8, 3) := by decide +kernel
theorem dX9_findTriple_132 : decode cX9_findTriple 132 = .ok (.lload 5, 2) := by decide +kernel
theorem dX9_findTriple_134 : decode cX9_findTriple 134 = .ok (.goto 23, 3) := by decide +kernel
theorem dX9_findTriple_137 : decode cX9_findTriple 137 = .ok (.lload 9, 2) := by decide +kernel
theorem dX9_findTriple_139 : decode cX9_findTriple 139 = .ok (.goto 18, 3) := by decide +kernel
theorem dX9_findTriple_142 : decode cX9_findTriple 142 = .ok (.lload 7, 2) := by decide +kernel
theorem dX9_findTriple_144 : decode cX9_findTriple 144 = .ok (.lload 9, 2) := by decide +kernel
theorem dX9_findTriple_146 : decode cX9_findTriple 146 = .ok (.lcmp, 1) := by decide +kernel
theorem dX9_findTriple_147 : decode cX9_findTriple 147 = .ok (.ifCond .le 8, 3) := by decide +kernel
theorem dX9_findTriple_150 : decode cX9_findTriple 150 = .ok (.lload 7, 2) := by decide +kernel
theorem dX9_findTriple_152 : decode cX9_findTriple 152 = .ok (.goto 5, 3) := by decide +kernel
theorem dX9_findTriple_155 : decode cX9_findTriple 155 = .ok (.lload 9, 2) := by decide +kernel
theorem dX9_findTriple_157 : decode cX9_findTriple 157 = .ok (.lstore 13, 2) := by decide +kernel
theorem dX9_findTriple_159 : decode cX9_findTriple 159 = .ok (.lload 5, 2) := by decide +kernel
theorem dX9_findTriple_161 : decode cX9_findTriple 161 = .ok (.lload 7, 2) := by decide +kernel
theorem dX9_findTriple_163 : decode cX9_findTriple 163 = .ok (.ladd, 1) := by decide +kernel
theorem dX9_findTriple_164 : decode cX9_findTriple 164 = .ok (.lload 9, 2) := by decide +kernel
theorem dX9_findTriple_166 : decode cX9_findTriple 166 = .ok (.ladd, 1) := by decide +kernel
theorem dX9_findTriple_167 : decode cX9_findTriple 167 = .ok (.lload 11, 2) := by decide +kernel
theorem dX9_findTriple_169 : decode cX9_findTriple 169 = .ok (.lsub, 1) := by decide +kernel
theorem dX9_findTriple_170 : decode cX9_findTriple 170 = .ok (.lload 13, 2) := by decide +kernel
theorem dX9_findTriple_172 : decode cX9_findTriple 172 = .ok (.lsub, 1) := by decide +kernel
theorem dX9_findTriple_173 : decode cX9_findTriple 173 = .ok (.lstore 15, 2) := by decide +kernel
theorem dX9_findTriple_175 : decode cX9_findTriple 175 = .ok (.aload_n 0, 1) := by decide +kernel
theorem dX9_findTriple_176 : decode cX9_findTriple 176 = .ok (.lload 5, 2) := by decide +kernel
theorem dX9_findTriple_178 : decode cX9_findTriple 178 = .ok (.lload 11, 2) := by decide +kernel
theorem dX9_findTriple_180 : decode cX9_findTriple 180 = .ok (.lcmp, 1) := by decide +kernel
theorem dX9_findTriple_181 : decode cX9_findTriple 181 = .ok (.ifCond .ne 7, 3) := by decide +kernel
theorem dX9_findTriple_184 : decode cX9_findTriple 184 = .ok (.iload_n 2, 1) := by decide +kernel
theorem dX9_findTriple_185 : decode cX9_findTriple 185 = .ok (.goto 17, 3) := by decide +kernel
theorem dX9_findTriple_188 : decode cX9_findTriple 188 = .ok (.lload 7, 2) := by decide +kernel
theorem dX9_findTriple_190 : decode cX9_findTriple 190 = .ok (.lload 11, 2) := by decide +kernel
theorem dX9_findTriple_192 : decode cX9_findTriple 192 = .ok (.lcmp, 1) := by decide +kernel
theorem dX9_findTriple_193 : decode cX9_findTriple 193 = .ok (.ifCond .ne 7, 3) := by decide +kernel
theorem dX9_findTriple_196 : decode cX9_findTriple 196 = .ok (.iload_n 3, 1) := by decide +kernel
theorem dX9_findTriple_197 : decode cX9_findTriple 197 = .ok (.goto 5, 3) := by decide +kernel
theorem dX9_findTriple_200 : decode cX9_findTriple 200 = .ok (.iload 4, 2) := by decide +kernel
theorem dX9_findTriple_202 : decode cX9_findTriple 202 = .ok (.putfield 141, 3) := by decide +kernel
theorem dX9_findTriple_205 : decode cX9_findTriple 205 = .ok (.aload_n 0, 1) := by decide +kernel
theorem dX9_findTriple_206 : decode cX9_findTriple 206 = .ok (.lload 5, 2) := by decide +kernel
theorem dX9_findTriple_208 : decode cX9_findTriple 208 = .ok (.lload 15, 2) := by decide +kernel
theorem dX9_findTriple_210 : decode cX9_findTriple 210 = .ok (.lcmp, 1) := by decide +kernel
theorem dX9_findTriple_211 : decode cX9_findTriple 211 = .ok (.ifCond .ne 7, 3) := by decide +kernel
theorem dX9_findTriple_214 : decode cX9_findTriple 214 = .ok (.iload_n 2, 1) := by decide +kernel
theorem dX9_findTriple_215 : decode cX9_findTriple 215 = .ok (.goto 17, 3) := by decide +kernel
theorem dX9_findTriple_218 : decode cX9_findTriple 218 = .ok (.lload 7, 2) := by decide +kernel
theorem dX9_findTriple_220 : decode cX9_findTriple 220 = .ok (.lload 15, 2) := by decide +kernel
theorem dX9_findTriple_222 : decode cX9_findTriple 222 = .ok (.lcmp, 1) := by decide +kernel
theorem dX9_findTriple_223 : decode cX9_findTriple 223 = .ok (.ifCond .ne 7, 3) := by decide +kernel
theorem dX9_findTriple_226 : decode cX9_findTriple 226 = .ok (.iload_n 3, 1) := by decide +kernel
theorem dX9_findTriple_227 : decode cX9_findTriple 227 = .ok (.goto 5, 3) := by decide +kernel
theorem dX9_findTriple_230 : decode cX9_findTriple 230 = .ok (.iload 4, 2) := by decide +kernel
theorem dX9_findTriple_232 : decode cX9_findTriple 232 = .ok (.putfield 144, 3) := by decide +kernel
theorem dX9_findTriple_235 : decode cX9_findTriple 235 = .ok (.aload_n 0, 1) := by decide +kernel
theorem dX9_findTriple_236 : decode cX9_findTriple 236 = .ok (.lload 5, 2) := by decide +kernel
theorem dX9_findTriple_238 : decode cX9_findTriple 238 = .ok (.lload 13, 2) := by decide +kernel
theorem dX9_findTriple_240 : decode cX9_findTriple 240 = .ok (.lcmp, 1) := by decide +kernel
theorem dX9_findTriple_241 : decode cX9_findTriple 241 = .ok (.ifCond .ne 7, 3) := by decide +kernel
theorem dX9_findTriple_244 : decode cX9_findTriple 244 = .ok (.iload_n 2, 1) := by decide +kernel
theorem dX9_findTriple_245 : decode cX9_findTriple 245 = .ok (.goto 17, 3) := by decide +kernel
theorem dX9_findTriple_248 : decode cX9_findTriple 248 = .ok (.lload 7, 2) := by decide +kernel
theorem dX9_findTriple_250 : decode cX9_findTriple 250 = .ok (.lload 13, 2) := by decide +kernel
theorem dX9_findTriple_252 : decode cX9_findTriple 252 = .ok (.lcmp, 1) := by decide +kernel
theorem dX9_findTriple_253 : decode cX9_findTriple 253 = .ok (.ifCond .ne 7, 3) := by decide +kernel
theorem dX9_findTriple_256 : decode cX9_findTriple 256 = .ok (.iload_n 3, 1) := by decide +kernel
theorem dX9_findTriple_257 : decode cX9_findTriple 257 = .ok (.goto 5, 3) := by decide +kernel
theorem dX9_findTriple_260 : decode cX9_findTriple 260 = .ok (.iload 4, 2) := by decide +kernel
theorem dX9_findTriple_262 : decode cX9_findTriple 262 = .ok (.putfield 147, 3) := by decide +kernel
theorem dX9_findTriple_265 : decode cX9_findTriple 265 = .ok (.aload_n 0, 1) := by decide +kernel
theorem dX9_findTriple_266 : decode cX9_findTriple 266 = .ok (.ldc2_w 150, 3) := by decide +kernel
theorem dX9_findTriple_269 : decode cX9_findTriple 269 = .ok (.lload 11, 2) := by decide +kernel
theorem dX9_findTriple_271 : decode cX9_findTriple 271 = .ok (.lmul, 1) := by decide +kernel
theorem dX9_findTriple_272 : decode cX9_findTriple 272 = .ok (.lload 13, 2) := by decide +kernel
theorem dX9_findTriple_274 : decode cX9_findTriple 274 = .ok (.ldiv, 1) := by decide +kernel
theorem dX9_findTriple_275 : decode cX9_findTriple 275 = .ok (.l2i, 1) := by decide +kernel
theorem dX9_findTriple_276 : decode cX9_findTriple 276 = .ok (.putfield 152, 3) := by decide +kernel
theorem dX9_findTriple_279 : decode cX9_findTriple 279 = .ok (.aload_n 0, 1) := by decide +kernel
theorem dX9_findTriple_280 : decode cX9_findTriple 280 = .ok (.ldc2_w 150, 3) := by decide +kernel
theorem dX9_findTriple_283 : decode cX9_findTriple 283 = .ok (.lload 15, 2) := by decide +kernel
theorem dX9_findTriple_285 : decode cX9_findTriple 285 = .ok (.lmul, 1) := by decide +kernel
theorem dX9_findTriple_286 : decode cX9_findTriple 286 = .ok (.lload 13, 2) := by decide +kernel
theorem dX9_findTriple_288 : decode cX9_findTriple 288 = .ok (.ldiv, 1) := by decide +kernel
theorem dX9_findTriple_289 : decode cX9_findTriple 289 = .ok (.l2i, 1) := by decide +kernel
theorem dX9_findTriple_290 : decode cX9_findTriple 290 = .ok (.putfield 155, 3) := by decide +kernel
theorem dX9_findTriple_293 : decode cX9_findTriple 293 = .ok (.aload_n 0, 1) := by decide +kernel
theorem dX9_findTriple_294 : decode cX9_findTriple 294 = .ok (.aload_n 0, 1) := by decide +kernel
theorem dX9_findTriple_295 : decode cX9_findTriple 295 = .ok (.iload_n 1, 1) := by decide +kernel
theorem dX9_findTriple_296 : decode cX9_findTriple 296 = .ok (.aload_n 0, 1) := by decide +kernel
theorem dX9_findTriple_297 : decode cX9_findTriple 297 = .ok (.getfield 141, 3) := by decide +kernel
theorem dX9_findTriple_300 : decode cX9_findTriple 300 = .ok (.aload_n 0, 1) := by decide +kernel
theorem dX9_findTriple_301 : decode cX9_findTriple 301 = .ok (.getfield 144, 3) := by decide +kernel
theorem dX9_findTriple_304 : decode cX9_findTriple 304 = .ok (.aload_n 0, 1) := by decide +kernel
theorem dX9_findTriple_305 : decode cX9_findTriple 305 = .ok (.getfield 147, 3) := by decide +kernel
theorem dX9_findTriple_308 : decode cX9_findTriple 308 = .ok (.invokevirtual 137, 3) := by decide +kernel
theorem dX9_findTriple_311 : decode cX9_findTriple 311 = .ok (.lconst 0, 1) := by decide +kernel
theorem dX9_findTriple_312 : decode cX9_findTriple 312 = .ok (.lcmp, 1) := by decide +kernel
theorem dX9_findTriple_313 : decode cX9_findTriple 313 = .ok (.ifCond .le 7, 3) := by decide +kernel
theorem dX9_findTriple_316 : decode cX9_findTriple 316 = .ok (.iconst 1, 1) := by decide +kernel
theorem dX9_findTriple_317 : decode cX9_findTriple 317 = .ok (.goto 4, 3) := by decide +kernel
theorem dX9_findTriple_320 : decode cX9_findTriple 320 = .ok (.iconst (-1), 1) := by decide +kernel
theorem dX9_findTriple_321 : decode cX9_findTriple 321 = .ok (.putfield 133, 3) := by decide +kernel
theorem dX9_findTriple_324 : decode cX9_findTriple 324 = .ok (.return_, 1) := by decide +kernel
theorem dX9_areThree_0 : decode cX9_areThree 0 = .ok (.aload_n 0, 1) := by decide +kernel
theorem dX9_areThree_1 : decode cX9_areThree 1 = .ok (.iload_n 1, 1) := by decide +kernel
theorem dX9_areThree_2 : decode cX9_areThree 2 = .ok (.iload_n 2, 1) := by decide +kernel
theorem dX9_areThree_3 : decode cX9_areThree 3 = .ok (.invokevirtual 94, 3) := by decide +kernel
theorem dX9_areThree_6 : decode cX9_areThree 6 = .ok (.ifCond .eq 43, 3) := by decide +kernel
theorem dX9_areThree_9 : decode cX9_areThree 9 = .ok (.aload_n 0, 1) := by decide +kernel
theorem dX9_areThree_10 : decode cX9_areThree 10 = .ok (.iload_n 1, 1) := by decide +kernel
theorem dX9_areThree_11 : decode cX9_areThree 11 = .ok (.iload_n 3, 1) := by decide +kernel
theorem dX9_areThree_12 : decode cX9_areThree 12 = .ok (.invokevirtual 94, 3) := by decide +kernel
theorem dX9_areThree_15 : decode cX9_areThree 15 = .ok (.ifCond .eq 34, 3) := by decide +kernel
theorem dX9_areThree_18 : decode cX9_areThree 18 = .ok (.aload_n 0, 1) := by decide +kernel
theorem dX9_areThree_19 : decode cX9_areThree 19 = .ok (.iload_n 1, 1) := by decide +kernel
theorem dX9_areThree_20 : decode cX9_areThree 20 = .ok (.iload 4, 2) := by decide +kernel
theorem dX9_areThree_22 : decode cX9_areThree 22 = .ok (.invokevirtual 94, 3) := by decide +kernel
theorem dX9_areThree_25 : decode cX9_areThree 25 = .ok (.ifCond .eq 24, 3) := by decide +kernel
theorem dX9_areThree_28 : decode cX9_areThree 28 = .ok (.iload_n 2, 1) := by decide +kernel
theorem dX9_areThree_29 : decode cX9_areThree 29 = .ok (.iload_n 3, 1) := by decide +kernel
theorem dX9_areThree_30 : decode cX9_areThree 30 = .ok (.if_icmp .eq 19, 3) := by decide +kernel
theorem dX9_areThree_33 : decode cX9_areThree 33 = .ok (.iload_n 3, 1) := by decide +kernel
theorem dX9_areThree_34 : decode cX9_areThree 34 = .ok (.iload 4, 2) := by decide +kernel
theorem dX9_areThree_36 : decode cX9_areThree 36 = .ok (.if_icmp .eq 13, 3) := by decide +kernel
theorem dX9_areThree_39 : decode cX9_areThree 39 = .ok (.iload_n 2, 1) := by decide +kernel
theorem dX9_areThree_40 : decode cX9_areThree 40 = .ok (.iload 4, 2) := by decide +kernel
theorem dX9_areThree_42 : decode cX9_areThree 42 = .ok (.if_icmp .eq 7, 3) := by decide +kernel
theorem dX9_areThree_45 : decode cX9_areThree 45 = .ok (.iconst 1, 1) := by decide +kernel
theorem dX9_areThree_46 : decode cX9_areThree 46 = .ok (.goto 4, 3) := by decide +kernel
theorem dX9_areThree_49 : decode cX9_areThree 49 = .ok (.iconst 0, 1) := by decide +kernel
theorem dX9_areThree_50 : decode cX9_areThree 50 = .ok (.ireturn, 1) := by decide +kernel
theorem dX9_triple_0 : decode cX9_triple 0 = .ok (.iload_n 1, 1) := by decide +kernel
theorem dX9_triple_1 : decode cX9_triple 1 = .ok (.iconst (-1), 1) := by decide +kernel
theorem dX9_triple_2 : decode cX9_triple 2 = .ok (.iconst 1, 1) := by decide +kernel
theorem dX9_triple_3 : decode cX9_triple 3 = .ok (.invokestatic 75, 3) := by decide +kernel
theorem dX9_triple_6 : decode cX9_triple 6 = .ok (.ifCond .eq 17, 3) := by decide +kernel
theorem dX9_triple_9 : decode cX9_triple 9 = .ok (.aload_n 0, 1) := by decide +kernel
theorem dX9_triple_10 : decode cX9_triple 10 = .ok (.iconst 1, 1) := by decide +kernel
theorem dX9_triple_11 : decode cX9_triple 11 = .ok (.iload_n 1, 1) := by decide +kernel
theorem dX9_triple_12 : decode cX9_triple 12 = .ok (.iadd, 1) := by decide +kernel
theorem dX9_triple_13 : decode cX9_triple 13 = .ok (.iload_n 2, 1) := by decide +kernel
theorem dX9_triple_14 : decode cX9_triple 14 = .ok (.iload_n 3, 1) := by decide +kernel
theorem dX9_triple_15 : decode cX9_triple 15 = .ok (.iload 4, 2) := by decide +kernel
theorem dX9_triple_17 : decode cX9_triple 17 = .ok (.invokevirtual 158, 3) := by decide +kernel
theorem dX9_triple_20 : decode cX9_triple 20 = .ok (.ifCond .ne 5, 3) := by decide +kernel
theorem dX9_triple_23 : decode cX9_triple 23 = .ok (.iconst (-1), 1) := by decide +kernel
theorem dX9_triple_24 : decode cX9_triple 24 = .ok (.ireturn, 1) := by decide +kernel
theorem dX9_triple_25 : decode cX9_triple 25 = .ok (.iload 5, 2) := by decide +kernel
theorem dX9_triple_27 : decode cX9_triple 27 = .ok (.iconst 0, 1) := by decide +kernel
theorem dX9_triple_28 : decode cX9_triple 28 = .ok (.iconst 5, 1) := by decide +kernel
theorem dX9_triple_29 : decode cX9_triple 29 = .ok (.invokestatic 75, 3) := by decide +kernel
theorem dX9_triple_32 : decode cX9_triple 32 = .ok (.ifCond .ne 6, 3) := by decide +kernel
theorem dX9_triple_35 : decode cX9_triple 35 = .ok (.bipush (-2), 2) := by decide +kernel
theorem dX9_triple_37 : decode cX9_triple 37 = .ok (.ireturn, 1) := by decide +kernel
theorem dX9_triple_38 : decode cX9_triple 38 = .ok (.aload_n 0, 1) := by decide +kernel
theorem dX9_triple_39 : decode cX9_triple 39 = .ok (.iconst 1, 1) := by decide +kernel
theorem dX9_triple_40 : decode cX9_triple 40 = .ok (.iload_n 1, 1) := by decide +kernel
theorem dX9_triple_41 : decode cX9_triple 41 = .ok (.iadd, 1) := by decide +kernel
theorem dX9_triple_42 : decode cX9_triple 42 = .ok (.iload_n 2, 1) := by decide +kernel
theorem dX9_triple_43 : decode cX9_triple 43 = .ok (.iload_n 3, 1) := by decide +kernel
theorem dX9_triple_44 : decode cX9_triple 44 = .ok (.iload 4, 2) := by decide +kernel
theorem dX9_triple_46 : decode cX9_triple 46 = .ok (.invokevirtual 162, 3) := by decide +kernel
theorem dX9_triple_49 : decode cX9_triple 49 = .ok (.aload_n 0, 1) := by decide +kernel
theorem dX9_triple_50 : decode cX9_triple 50 = .ok (.getfield 133, 3) := by decide +kernel
theorem dX9_triple_53 : decode cX9_triple 53 = .ok (.ifCond .ne 6, 3) := by decide +kernel
theorem dX9_triple_56 : decode cX9_triple 56 = .ok (.bipush (-9), 2) := by decide +kernel
theorem dX9_triple_58 : decode cX9_triple 58 = .ok (.ireturn, 1) := by decide +kernel
theorem dX9_triple_59 : decode cX9_triple 59 = .ok (.iload 5, 2) := by decide +kernel
theorem dX9_triple_61 : decode cX9_triple 61 = .ok (.tableswitch 68 0 4 #[35, 40, 45, 58, 63], 35) := by decide +kernel
theorem dX9_triple_96 : decode cX9_triple 96 = .ok (.aload_n 0, 1) := by decide +kernel
theorem dX9_triple_97 : decode cX9_triple 97 = .ok (.getfield 152, 3) := by decide +kernel
theorem dX9_triple_100 : decode cX9_triple 100 = .ok (.ireturn, 1) := by decide +kernel
theorem dX9_triple_101 : decode cX9_triple 101 = .ok (.aload_n 0, 1) := by decide +kernel
theorem dX9_triple_102 : decode cX9_triple 102 = .ok (.getfield 155, 3) := by decide +kernel
theorem dX9_triple_105 : decode cX9_triple 105 = .ok (.ireturn, 1) := by decide +kernel
theorem dX9_triple_106 : decode cX9_triple 106 = .ok (.aload_n 0, 1) := by decide +kernel
theorem dX9_triple_107 : decode cX9_triple 107 = .ok (.getfield 133, 3) := by decide +kernel
theorem dX9_triple_110 : decode cX9_triple 110 = .ok (.ifCond .le 7, 3) := by decide +kernel
theorem dX9_triple_113 : decode cX9_triple 113 = .ok (.iconst 1, 1) := by decide +kernel
theorem dX9_triple_114 : decode cX9_triple 114 = .ok (.goto 4, 3) := by decide +kernel
theorem dX9_triple_117 : decode cX9_triple 117 = .ok (.iconst 0, 1) := by decide +kernel
theorem dX9_triple_118 : decode cX9_triple 118 = .ok (.ireturn, 1) := by decide +kernel
theorem dX9_triple_119 : decode cX9_triple 119 = .ok (.aload_n 0, 1) := by decide +kernel
theorem dX9_triple_120 : decode cX9_triple 120 = .ok (.getfield 141, 3) := by decide +kernel
theorem dX9_triple_123 : decode cX9_triple 123 = .ok (.ireturn, 1) := by decide +kernel
theorem dX9_triple_124 : decode cX9_triple 124 = .ok (.aload_n 0, 1) := by decide +kernel
theorem dX9_triple_125 : decode cX9_triple 125 = .ok (.getfield 144, 3) := by decide +kernel
theorem dX9_triple_128 : decode cX9_triple 128 = .ok (.ireturn, 1) := by decide +kernel
theorem dX9_triple_129 : decode cX9_triple 129 = .ok (.aload_n 0, 1) := by decide +kernel
theorem dX9_triple_130 : decode cX9_triple 130 = .ok (.getfield 147, 3) := by decide +kernel
theorem dX9_triple_133 : decode cX9_triple 133 = .ok (.ireturn, 1) := by decide +kernel
theorem dX9_puts_0 : decode cX9_puts 0 = .ok (.aload_n 0, 1) := by decide +kernel
theorem dX9_puts_1 : decode cX9_puts 1 = .ok (.iload_n 1, 1) := by decide +kernel
theorem dX9_puts_2 : decode cX9_puts 2 = .ok (.iload_n 2, 1) := by decide +kernel
theorem dX9_puts_3 : decode cX9_puts 3 = .ok (.iastore, 1) := by decide +kernel
theorem dX9_puts_4 : decode cX9_puts 4 = .ok (.aload_n 0, 1) := by decide +kernel
theorem dX9_puts_5 : decode cX9_puts 5 = .ok (.iload_n 1, 1) := by decide +kernel
theorem dX9_puts_6 : decode cX9_puts 6 = .ok (.iconst 1, 1) := by decide +kernel
theorem dX9_puts_7 : decode cX9_puts 7 = .ok (.iadd, 1) := by decide +kernel
theorem dX9_puts_8 : decode cX9_puts 8 = .ok (.iload_n 3, 1) := by decide +kernel
theorem dX9_puts_9 : decode cX9_puts 9 = .ok (.iastore, 1) := by decide +kernel
theorem dX9_puts_10 : decode cX9_puts 10 = .ok (.aload_n 0, 1) := by decide +kernel
theorem dX9_puts_11 : decode cX9_puts 11 = .ok (.iload_n 1, 1) := by decide +kernel
theorem dX9_puts_12 : decode cX9_puts 12 = .ok (.iconst 2, 1) := by decide +kernel
theorem dX9_puts_13 : decode cX9_puts 13 = .ok (.iadd, 1) := by decide +kernel
theorem dX9_puts_14 : decode cX9_puts 14 = .ok (.iload 4, 2) := by decide +kernel
theorem dX9_puts_16 : decode cX9_puts 16 = .ok (.iastore, 1) := by decide +kernel
theorem dX9_puts_17 : decode cX9_puts 17 = .ok (.aload_n 0, 1) := by decide +kernel
theorem dX9_puts_18 : decode cX9_puts 18 = .ok (.iload_n 1, 1) := by decide +kernel
theorem dX9_puts_19 : decode cX9_puts 19 = .ok (.iconst 3, 1) := by decide +kernel
theorem dX9_puts_20 : decode cX9_puts 20 = .ok (.iadd, 1) := by decide +kernel
theorem dX9_puts_21 : decode cX9_puts 21 = .ok (.iload 5, 2) := by decide +kernel
theorem dX9_puts_23 : decode cX9_puts 23 = .ok (.iastore, 1) := by decide +kernel
theorem dX9_puts_24 : decode cX9_puts 24 = .ok (.aload_n 0, 1) := by decide +kernel
theorem dX9_puts_25 : decode cX9_puts 25 = .ok (.iload_n 1, 1) := by decide +kernel
theorem dX9_puts_26 : decode cX9_puts 26 = .ok (.iconst 4, 1) := by decide +kernel
theorem dX9_puts_27 : decode cX9_puts 27 = .ok (.iadd, 1) := by decide +kernel
theorem dX9_puts_28 : decode cX9_puts 28 = .ok (.iload 6, 2) := by decide +kernel
theorem dX9_puts_30 : decode cX9_puts 30 = .ok (.iastore, 1) := by decide +kernel
theorem dX9_puts_31 : decode cX9_puts 31 = .ok (.aload_n 0, 1) := by decide +kernel
theorem dX9_puts_32 : decode cX9_puts 32 = .ok (.iload_n 1, 1) := by decide +kernel
theorem dX9_puts_33 : decode cX9_puts 33 = .ok (.iconst 5, 1) := by decide +kernel
theorem dX9_puts_34 : decode cX9_puts 34 = .ok (.iadd, 1) := by decide +kernel
theorem dX9_puts_35 : decode cX9_puts 35 = .ok (.iload 7, 2) := by decide +kernel
theorem dX9_puts_37 : decode cX9_puts 37 = .ok (.iastore, 1) := by decide +kernel
theorem dX9_puts_38 : decode cX9_puts 38 = .ok (.return_, 1) := by decide +kernel
theorem dX9_layTriples_0 : decode cX9_layTriples 0 = .ok (.iconst 0, 1) := by decide +kernel
theorem dX9_layTriples_1 : decode cX9_layTriples 1 = .ok (.istore_n 3, 1) := by decide +kernel
theorem dX9_layTriples_2 : decode cX9_layTriples 2 = .ok (.iconst 0, 1) := by decide +kernel
theorem dX9_layTriples_3 : decode cX9_layTriples 3 = .ok (.istore 4, 2) := by decide +kernel
theorem dX9_layTriples_5 : decode cX9_layTriples 5 = .ok (.iload 4, 2) := by decide +kernel
theorem dX9_layTriples_7 : decode cX9_layTriples 7 = .ok (.aload_n 0, 1) := by decide +kernel
theorem dX9_layTriples_8 : decode cX9_layTriples 8 = .ok (.getfield 7, 3) := by decide +kernel
theorem dX9_layTriples_11 : decode cX9_layTriples 11 = .ok (.iload_n 1, 1) := by decide +kernel
theorem dX9_layTriples_12 : decode cX9_layTriples 12 = .ok (.iaload, 1) := by decide +kernel
theorem dX9_layTriples_13 : decode cX9_layTriples 13 = .ok (.if_icmp .ge 108, 3) := by decide +kernel
theorem dX9_layTriples_16 : decode cX9_layTriples 16 = .ok (.iload 4, 2) := by decide +kernel
theorem dX9_layTriples_18 : decode cX9_layTriples 18 = .ok (.iconst 1, 1) := by decide +kernel
theorem dX9_layTriples_19 : decode cX9_layTriples 19 = .ok (.iadd, 1) := by decide +kernel
theorem dX9_layTriples_20 : decode cX9_layTriples 20 = .ok (.istore 5, 2) := by decide +kernel
theorem dX9_layTriples_22 : decode cX9_layTriples 22 = .ok (.iload 5, 2) := by decide +kernel
theorem dX9_layTriples_24 : decode cX9_layTriples 24 = .ok (.aload_n 0, 1) := by decide +kernel
theorem dX9_layTriples_25 : decode cX9_layTriples 25 = .ok (.getfield 7, 3) := by decide +kernel
theorem dX9_layTriples_28 : decode cX9_layTriples 28 = .ok (.iload_n 1, 1) := by decide +kernel
theorem dX9_layTriples_29 : decode cX9_layTriples 29 = .ok (.iaload, 1) := by decide +kernel
theorem dX9_layTriples_30 : decode cX9_layTriples 30 = .ok (.if_icmp .ge 85, 3) := by decide +kernel
theorem dX9_layTriples_33 : decode cX9_layTriples 33 = .ok (.iload 5, 2) := by decide +kernel
theorem dX9_layTriples_35 : decode cX9_layTriples 35 = .ok (.iconst 1, 1) := by decide +kernel
theorem dX9_layTriples_36 : decode cX9_layTriples 36 = .ok (.iadd, 1) := by decide +kernel
theorem dX9_layTriples_37 : decode cX9_layTriples 37 = .ok (.istore 6, 2) := by decide +kernel
theorem dX9_layTriples_39 : decode cX9_layTriples 39 = .ok (.iload 6, 2) := by decide +kernel
theorem dX9_layTriples_41 : decode cX9_layTriples 41 = .ok (.aload_n 0, 1) := by decide +kernel
theorem dX9_layTriples_42 : decode cX9_layTriples 42 = .ok (.getfield 7, 3) := by decide +kernel
theorem dX9_layTriples_45 : decode cX9_layTriples 45 = .ok (.iload_n 1, 1) := by decide +kernel
theorem dX9_layTriples_46 : decode cX9_layTriples 46 = .ok (.iaload, 1) := by decide +kernel
theorem dX9_layTriples_47 : decode cX9_layTriples 47 = .ok (.if_icmp .ge 62, 3) := by decide +kernel
theorem dX9_layTriples_50 : decode cX9_layTriples 50 = .ok (.aload_n 0, 1) := by decide +kernel
theorem dX9_layTriples_51 : decode cX9_layTriples 51 = .ok (.iload_n 1, 1) := by decide +kernel
theorem dX9_layTriples_52 : decode cX9_layTriples 52 = .ok (.iload 4, 2) := by decide +kernel
theorem dX9_layTriples_54 : decode cX9_layTriples 54 = .ok (.iload 5, 2) := by decide +kernel
theorem dX9_layTriples_56 : decode cX9_layTriples 56 = .ok (.iload 6, 2) := by decide +kernel
theorem dX9_layTriples_58 : decode cX9_layTriples 58 = .ok (.invokevirtual 162, 3) := by decide +kernel
theorem dX9_layTriples_61 : decode cX9_layTriples 61 = .ok (.aload_n 0, 1) := by decide +kernel
theorem dX9_layTriples_62 : decode cX9_layTriples 62 = .ok (.getfield 133, 3) := by decide +kernel
theorem dX9_layTriples_65 : decode cX9_layTriples 65 = .ok (.ifCond .eq 38, 3) := by decide +kernel
theorem dX9_layTriples_68 : decode cX9_layTriples 68 = .ok (.aload_n 2, 1) := by decide +kernel
theorem dX9_layTriples_69 : decode cX9_layTriples 69 = .ok (.bipush 6, 2) := by decide +kernel
theorem dX9_layTriples_71 : decode cX9_layTriples 71 = .ok (.iload_n 3, 1) := by decide +kernel
theorem dX9_layTriples_72 : decode cX9_layTriples 72 = .ok (.imul, 1) := by decide +kernel
theorem dX9_layTriples_73 : decode cX9_layTriples 73 = .ok (.aload_n 0, 1) := by decide +kernel
theorem dX9_layTriples_74 : decode cX9_layTriples 74 = .ok (.getfield 152, 3) := by decide +kernel
theorem dX9_layTriples_77 : decode cX9_layTriples 77 = .ok (.aload_n 0, 1) := by decide +kernel
theorem dX9_layTriples_78 : decode cX9_layTriples 78 = .ok (.getfield 155, 3) := by decide +kernel
theorem dX9_layTriples_81 : decode cX9_layTriples 81 = .ok (.aload_n 0, 1) := by decide +kernel
theorem dX9_layTriples_82 : decode cX9_layTriples 82 = .ok (.getfield 133, 3) := by decide +kernel
theorem dX9_layTriples_85 : decode cX9_layTriples 85 = .ok (.aload_n 0, 1) := by decide +kernel
theorem dX9_layTriples_86 : decode cX9_layTriples 86 = .ok (.getfield 141, 3) := by decide +kernel
theorem dX9_layTriples_89 : decode cX9_layTriples 89 = .ok (.aload_n 0, 1) := by decide +kernel
theorem dX9_layTriples_90 : decode cX9_layTriples 90 = .ok (.getfield 144, 3) := by decide +kernel
theorem dX9_layTriples_93 : decode cX9_layTriples 93 = .ok (.aload_n 0, 1) := by decide +kernel
theorem dX9_layTriples_94 : decode cX9_layTriples 94 = .ok (.getfield 147, 3) := by decide +kernel
theorem dX9_layTriples_97 : decode cX9_layTriples 97 = .ok (.invokestatic 166, 3) := by decide +kernel
theorem dX9_layTriples_100 : decode cX9_layTriples 100 = .ok (.iinc 3 1, 3) := by decide +kernel
theorem dX9_layTriples_103 : decode cX9_layTriples 103 = .ok (.iinc 6 1, 3) := by decide +kernel
theorem dX9_layTriples_106 : decode cX9_layTriples 106 = .ok (.goto (-67), 3) := by decide +kernel
theorem dX9_layTriples_109 : decode cX9_layTriples 109 = .ok (.iinc 5 1, 3) := by decide +kernel
theorem dX9_layTriples_112 : decode cX9_layTriples 112 = .ok (.goto (-90), 3) := by decide +kernel
theorem dX9_layTriples_115 : decode cX9_layTriples 115 = .ok (.iinc 4 1, 3) := by decide +kernel
theorem dX9_layTriples_118 : decode cX9_layTriples 118 = .ok (.goto (-113), 3) := by decide +kernel
theorem dX9_layTriples_121 : decode cX9_layTriples 121 = .ok (.iload_n 3, 1) := by decide +kernel
theorem dX9_layTriples_122 : decode cX9_layTriples 122 = .ok (.ireturn, 1) := by decide +kernel
theorem dX9_areNear_0 : decode cX9_areNear 0 = .ok (.iload_n 1, 1) := by decide +kernel
theorem dX9_areNear_1 : decode cX9_areNear 1 = .ok (.iload_n 2, 1) := by decide +kernel
theorem dX9_areNear_2 : decode cX9_areNear 2 = .ok (.isub, 1) := by decide +kernel
theorem dX9_areNear_3 : decode cX9_areNear 3 = .ok (.aload_n 0, 1) := by decide +kernel
theorem dX9_areNear_4 : decode cX9_areNear 4 = .ok (.getfield 23, 3) := by decide +kernel
theorem dX9_areNear_7 : decode cX9_areNear 7 = .ok (.iconst 0, 1) := by decide +kernel
theorem dX9_areNear_8 : decode cX9_areNear 8 = .ok (.iaload, 1) := by decide +kernel
theorem dX9_areNear_9 : decode cX9_areNear 9 = .ok (.ineg, 1) := by decide +kernel
theorem dX9_areNear_10 : decode cX9_areNear 10 = .ok (.aload_n 0, 1) := by decide +kernel
theorem dX9_areNear_11 : decode cX9_areNear 11 = .ok (.getfield 23, 3) := by decide +kernel
theorem dX9_areNear_14 : decode cX9_areNear 14 = .ok (.iconst 0, 1) := by decide +kernel
theorem dX9_areNear_15 : decode cX9_areNear 15 = .ok (.iaload, 1) := by decide +kernel
theorem dX9_areNear_16 : decode cX9_areNear 16 = .ok (.invokestatic 75, 3) := by decide +kernel
theorem dX9_areNear_19 : decode cX9_areNear 19 = .ok (.ireturn, 1) := by decide +kernel
theorem dX9_areAlike_0 : decode cX9_areAlike 0 = .ok (.aload_n 0, 1) := by decide +kernel
theorem dX9_areAlike_1 : decode cX9_areAlike 1 = .ok (.getfield 26, 3) := by decide +kernel
theorem dX9_areAlike_4 : decode cX9_areAlike 4 = .ok (.iload_n 1, 1) := by decide +kernel
theorem dX9_areAlike_5 : decode cX9_areAlike 5 = .ok (.iconst 2, 1) := by decide +kernel
theorem dX9_areAlike_6 : decode cX9_areAlike 6 = .ok (.iadd, 1) := by decide +kernel
theorem dX9_areAlike_7 : decode cX9_areAlike 7 = .ok (.iaload, 1) := by decide +kernel
theorem dX9_areAlike_8 : decode cX9_areAlike 8 = .ok (.aload_n 0, 1) := by decide +kernel
theorem dX9_areAlike_9 : decode cX9_areAlike 9 = .ok (.getfield 29, 3) := by decide +kernel
theorem dX9_areAlike_12 : decode cX9_areAlike 12 = .ok (.iload_n 2, 1) := by decide +kernel
theorem dX9_areAlike_13 : decode cX9_areAlike 13 = .ok (.iconst 2, 1) := by decide +kernel
theorem dX9_areAlike_14 : decode cX9_areAlike 14 = .ok (.iadd, 1) := by decide +kernel
theorem dX9_areAlike_15 : decode cX9_areAlike 15 = .ok (.iaload, 1) := by decide +kernel
theorem dX9_areAlike_16 : decode cX9_areAlike 16 = .ok (.if_icmp .ne 49, 3) := by decide +kernel
theorem dX9_areAlike_19 : decode cX9_areAlike 19 = .ok (.aload_n 0, 1) := by decide +kernel
theorem dX9_areAlike_20 : decode cX9_areAlike 20 = .ok (.aload_n 0, 1) := by decide +kernel
theorem dX9_areAlike_21 : decode cX9_areAlike 21 = .ok (.getfield 26, 3) := by decide +kernel
theorem dX9_areAlike_24 : decode cX9_areAlike 24 = .ok (.iload_n 1, 1) := by decide +kernel
theorem dX9_areAlike_25 : decode cX9_areAlike 25 = .ok (.iaload, 1) := by decide +kernel
theorem dX9_areAlike_26 : decode cX9_areAlike 26 = .ok (.aload_n 0, 1) := by decide +kernel
theorem dX9_areAlike_27 : decode cX9_areAlike 27 = .ok (.getfield 29, 3) := by decide +kernel
theorem dX9_areAlike_30 : decode cX9_areAlike 30 = .ok (.iload_n 2, 1) := by decide +kernel
theorem dX9_areAlike_31 : decode cX9_areAlike 31 = .ok (.iaload, 1) := by decide +kernel
theorem dX9_areAlike_32 : decode cX9_areAlike 32 = .ok (.invokevirtual 170, 3) := by decide +kernel
theorem dX9_areAlike_35 : decode cX9_areAlike 35 = .ok (.ifCond .eq 30, 3) := by decide +kernel
theorem dX9_areAlike_38 : decode cX9_areAlike 38 = .ok (.aload_n 0, 1) := by decide +kernel
theorem dX9_areAlike_39 : decode cX9_areAlike 39 = .ok (.aload_n 0, 1) := by decide +kernel
theorem dX9_areAlike_40 : decode cX9_areAlike 40 = .ok (.getfield 26, 3) := by decide +kernel
theorem dX9_areAlike_43 : decode cX9_areAlike 43 = .ok (.iload_n 1, 1) := by decide +kernel
theorem dX9_areAlike_44 : decode cX9_areAlike 44 = .ok (.iconst 1, 1) := by decide +kernel
theorem dX9_areAlike_45 : decode cX9_areAlike 45 = .ok (.iadd, 1) := by decide +kernel
theorem dX9_areAlike_46 : decode cX9_areAlike 46 = .ok (.iaload, 1) := by decide +kernel
theorem dX9_areAlike_47 : decode cX9_areAlike 47 = .ok (.aload_n 0, 1) := by decide +kernel
theorem dX9_areAlike_48 : decode cX9_areAlike 48 = .ok (.getfield 29, 3) := by decide +kernel
theorem dX9_areAlike_51 : decode cX9_areAlike 51 = .ok (.iload_n 2, 1) := by decide +kernel
theorem dX9_areAlike_52 : decode cX9_areAlike 52 = .ok (.iconst 1, 1) := by decide +kernel
theorem dX9_areAlike_53 : decode cX9_areAlike 53 = .ok (.iadd, 1) := by decide +kernel
theorem dX9_areAlike_54 : decode cX9_areAlike 54 = .ok (.iaload, 1) := by decide +kernel
theorem dX9_areAlike_55 : decode cX9_areAlike 55 = .ok (.invokevirtual 170, 3) := by decide +kernel
theorem dX9_areAlike_58 : decode cX9_areAlike 58 = .ok (.ifCond .eq 7, 3) := by decide +kernel
theorem dX9_areAlike_61 : decode cX9_areAlike 61 = .ok (.iconst 1, 1) := by decide +kernel
theorem dX9_areAlike_62 : decode cX9_areAlike 62 = .ok (.goto 4, 3) := by decide +kernel
theorem dX9_areAlike_65 : decode cX9_areAlike 65 = .ok (.iconst 0, 1) := by decide +kernel
theorem dX9_areAlike_66 : decode cX9_areAlike 66 = .ok (.ireturn, 1) := by decide +kernel
theorem dX9_findVotes_0 : decode cX9_findVotes 0 = .ok (.aload_n 0, 1) := by decide +kernel
theorem dX9_findVotes_1 : decode cX9_findVotes 1 = .ok (.aload_n 0, 1) := by decide +kernel
theorem dX9_findVotes_2 : decode cX9_findVotes 2 = .ok (.iconst 0, 1) := by decide +kernel
theorem dX9_findVotes_3 : decode cX9_findVotes 3 = .ok (.aload_n 0, 1) := by decide +kernel
theorem dX9_findVotes_4 : decode cX9_findVotes 4 = .ok (.getfield 26, 3) := by decide +kernel
theorem dX9_findVotes_7 : decode cX9_findVotes 7 = .ok (.invokevirtual 173, 3) := by decide +kernel
theorem dX9_findVotes_10 : decode cX9_findVotes 10 = .ok (.putfield 177, 3) := by decide +kernel
theorem dX9_findVotes_13 : decode cX9_findVotes 13 = .ok (.aload_n 0, 1) := by decide +kernel
theorem dX9_findVotes_14 : decode cX9_findVotes 14 = .ok (.aload_n 0, 1) := by decide +kernel
theorem dX9_findVotes_15 : decode cX9_findVotes 15 = .ok (.iconst 1, 1) := by decide +kernel
theorem dX9_findVotes_16 : decode cX9_findVotes 16 = .ok (.iload_n 1, 1) := by decide +kernel
theorem dX9_findVotes_17 : decode cX9_findVotes 17 = .ok (.iadd, 1) := by decide +kernel
theorem dX9_findVotes_18 : decode cX9_findVotes 18 = .ok (.aload_n 0, 1) := by decide +kernel
theorem dX9_findVotes_19 : decode cX9_findVotes 19 = .ok (.getfield 29, 3) := by decide +kernel
theorem dX9_findVotes_22 : decode cX9_findVotes 22 = .ok (.invokevirtual 173, 3) := by decide +kernel
theorem dX9_findVotes_25 : decode cX9_findVotes 25 = .ok (.putfield 180, 3) := by decide +kernel
theorem dX9_findVotes_28 : decode cX9_findVotes 28 = .ok (.aload_n 0, 1) := by decide +kernel
theorem dX9_findVotes_29 : decode cX9_findVotes 29 = .ok (.iconst 0, 1) := by decide +kernel
theorem dX9_findVotes_30 : decode cX9_findVotes 30 = .ok (.putfield 183, 3) := by decide +kernel
theorem dX9_findVotes_33 : decode cX9_findVotes 33 = .ok (.iconst 0, 1) := by decide +kernel
theorem dX9_findVotes_34 : decode cX9_findVotes 34 = .ok (.istore_n 2, 1) := by decide +kernel
theorem dX9_findVotes_35 : decode cX9_findVotes 35 = .ok (.iload_n 2, 1) := by decide +kernel
theorem dX9_findVotes_36 : decode cX9_findVotes 36 = .ok (.bipush 64, 2) := by decide +kernel
theorem dX9_findVotes_38 : decode cX9_findVotes 38 = .ok (.if_icmp .ge 16, 3) := by decide +kernel
theorem dX9_findVotes_41 : decode cX9_findVotes 41 = .ok (.aload_n 0, 1) := by decide +kernel
theorem dX9_findVotes_42 : decode cX9_findVotes 42 = .ok (.getfield 32, 3) := by decide +kernel
theorem dX9_findVotes_45 : decode cX9_findVotes 45 = .ok (.iload_n 2, 1) := by decide +kernel
theorem dX9_findVotes_46 : decode cX9_findVotes 46 = .ok (.iconst 0, 1) := by decide +kernel
theorem dX9_findVotes_47 : decode cX9_findVotes 47 = .ok (.iastore, 1) := by decide +kernel
theorem dX9_findVotes_48 : decode cX9_findVotes 48 = .ok (.iinc 2 1, 3) := by decide +kernel
theorem dX9_findVotes_51 : decode cX9_findVotes 51 = .ok (.goto (-16), 3) := by decide +kernel
theorem dX9_findVotes_54 : decode cX9_findVotes 54 = .ok (.iconst 0, 1) := by decide +kernel
theorem dX9_findVotes_55 : decode cX9_findVotes 55 = .ok (.istore_n 2, 1) := by decide +kernel
theorem dX9_findVotes_56 : decode cX9_findVotes 56 = .ok (.iload_n 2, 1) := by decide +kernel
theorem dX9_findVotes_57 : decode cX9_findVotes 57 = .ok (.aload_n 0, 1) := by decide +kernel
theorem dX9_findVotes_58 : decode cX9_findVotes 58 = .ok (.getfield 177, 3) := by decide +kernel
theorem dX9_findVotes_61 : decode cX9_findVotes 61 = .ok (.aload_n 0, 1) := by decide +kernel
theorem dX9_findVotes_62 : decode cX9_findVotes 62 = .ok (.getfield 180, 3) := by decide +kernel
theorem dX9_findVotes_65 : decode cX9_findVotes 65 = .ok (.imul, 1) := by decide +kernel
theorem dX9_findVotes_66 : decode cX9_findVotes 66 = .ok (.if_icmp .ge 98, 3) := by decide +kernel
theorem dX9_findVotes_69 : decode cX9_findVotes 69 = .ok (.bipush 6, 2) := by decide +kernel
theorem dX9_findVotes_71 : decode cX9_findVotes 71 = .ok (.iload_n 2, 1) := by decide +kernel
theorem dX9_findVotes_72 : decode cX9_findVotes 72 = .ok (.aload_n 0, 1) := by decide +kernel
theorem dX9_findVotes_73 : decode cX9_findVotes 73 = .ok (.getfield 180, 3) := by decide +kernel
theorem dX9_findVotes_76 : decode cX9_findVotes 76 = .ok (.idiv, 1) := by decide +kernel
theorem dX9_findVotes_77 : decode cX9_findVotes 77 = .ok (.imul, 1) := by decide +kernel
theorem dX9_findVotes_78 : decode cX9_findVotes 78 = .ok (.istore_n 3, 1) := by decide +kernel
theorem dX9_findVotes_79 : decode cX9_findVotes 79 = .ok (.bipush 6, 2) := by decide +kernel
theorem dX9_findVotes_81 : decode cX9_findVotes 81 = .ok (.iload_n 2, 1) := by decide +kernel
theorem dX9_findVotes_82 : decode cX9_findVotes 82 = .ok (.aload_n 0, 1) := by decide +kernel
theorem dX9_findVotes_83 : decode cX9_findVotes 83 = .ok (.getfield 180, 3) := by decide +kernel
theorem dX9_findVotes_86 : decode cX9_findVotes 86 = .ok (.irem, 1) := by decide +kernel
theorem dX9_findVotes_87 : decode cX9_findVotes 87 = .ok (.imul, 1) := by decide +kernel
theorem dX9_findVotes_88 : decode cX9_findVotes 88 = .ok (.istore 4, 2) := by decide +kernel
theorem dX9_findVotes_90 : decode cX9_findVotes 90 = .ok (.aload_n 0, 1) := by decide +kernel
theorem dX9_findVotes_91 : decode cX9_findVotes 91 = .ok (.iload_n 3, 1) := by decide +kernel
theorem dX9_findVotes_92 : decode cX9_findVotes 92 = .ok (.iload 4, 2) := by decide +kernel
theorem dX9_findVotes_94 : decode cX9_findVotes 94 = .ok (.invokevirtual 186, 3) := by decide +kernel
theorem dX9_findVotes_97 : decode cX9_findVotes 97 = .ok (.ifCond .eq 61, 3) := by decide +kernel
theorem dX9_findVotes_100 : decode cX9_findVotes 100 = .ok (.aload_n 0, 1) := by decide +kernel
theorem dX9_findVotes_101 : decode cX9_findVotes 101 = .ok (.dup, 1) := by decide +kernel
theorem dX9_findVotes_102 : decode cX9_findVotes 102 = .ok (.getfield 183, 3) := by decide +kernel
theorem dX9_findVotes_105 : decode cX9_findVotes 105 = .ok (.iconst 1, 1) := by decide +kernel
theorem dX9_findVotes_106 : decode cX9_findVotes 106 = .ok (.iadd, 1) := by decide +kernel
theorem dX9_findVotes_107 : decode cX9_findVotes 107 = .ok (.putfield 183, 3) := by decide +kernel
theorem dX9_findVotes_110 : decode cX9_findVotes 110 = .ok (.iconst 3, 1) := by decide +kernel
theorem dX9_findVotes_111 : decode cX9_findVotes 111 = .ok (.istore 5, 2) := by decide +kernel
theorem dX9_findVotes_113 : decode cX9_findVotes 113 = .ok (.iload 5, 2) := by decide +kernel
theorem dX9_findVotes_115 : decode cX9_findVotes 115 = .ok (.bipush 6, 2) := by decide +kernel
theorem dX9_findVotes_117 : decode cX9_findVotes 117 = .ok (.if_icmp .ge 41, 3) := by decide +kernel
theorem dX9_findVotes_120 : decode cX9_findVotes 120 = .ok (.aload_n 0, 1) := by decide +kernel
theorem dX9_findVotes_121 : decode cX9_findVotes 121 = .ok (.getfield 32, 3) := by decide +kernel
theorem dX9_findVotes_124 : decode cX9_findVotes 124 = .ok (.bipush 8, 2) := by decide +kernel
theorem dX9_findVotes_126 : decode cX9_findVotes 126 = .ok (.aload_n 0, 1) := by decide +kernel
theorem dX9_findVotes_127 : decode cX9_findVotes 127 = .ok (.getfield 26, 3) := by decide +kernel
theorem dX9_findVotes_130 : decode cX9_findVotes 130 = .ok (.iload_n 3, 1) := by decide +kernel
theorem dX9_findVotes_131 : decode cX9_findVotes 131 = .ok (.iload 5, 2) := by decide +kernel
theorem dX9_findVotes_133 : decode cX9_findVotes 133 = .ok (.iadd, 1) := by decide +kernel
theorem dX9_findVotes_134 : decode cX9_findVotes 134 = .ok (.iaload, 1) := by decide +kernel
theorem dX9_findVotes_135 : decode cX9_findVotes 135 = .ok (.imul, 1) := by decide +kernel
theorem dX9_findVotes_136 : decode cX9_findVotes 136 = .ok (.aload_n 0, 1) := by decide +kernel
theorem dX9_findVotes_137 : decode cX9_findVotes 137 = .ok (.getfield 29, 3) := by decide +kernel
theorem dX9_findVotes_140 : decode cX9_findVotes 140 = .ok (.iload 4, 2) := by decide +kernel
theorem dX9_findVotes_142 : decode cX9_findVotes 142 = .ok (.iload 5, 2) := by decide +kernel
theorem dX9_findVotes_144 : decode cX9_findVotes 144 = .ok (.iadd, 1) := by decide +kernel
theorem dX9_findVotes_145 : decode cX9_findVotes 145 = .ok (.iaload, 1) := by decide +kernel
theorem dX9_findVotes_146 : decode cX9_findVotes 146 = .ok (.iadd, 1) := by decide +kernel
theorem dX9_findVotes_147 : decode cX9_findVotes 147 = .ok (.dup2, 1) := by decide +kernel
theorem dX9_findVotes_148 : decode cX9_findVotes 148 = .ok (.iaload, 1) := by decide +kernel
theorem dX9_findVotes_149 : decode cX9_findVotes 149 = .ok (.iconst 1, 1) := by decide +kernel
theorem dX9_findVotes_150 : decode cX9_findVotes 150 = .ok (.iadd, 1) := by decide +kernel
theorem dX9_findVotes_151 : decode cX9_findVotes 151 = .ok (.iastore, 1) := by decide +kernel
theorem dX9_findVotes_152 : decode cX9_findVotes 152 = .ok (.iinc 5 1, 3) := by decide +kernel
theorem dX9_findVotes_155 : decode cX9_findVotes 155 = .ok (.goto (-42), 3) := by decide +kernel
theorem dX9_findVotes_158 : decode cX9_findVotes 158 = .ok (.iinc 2 1, 3) := by decide +kernel
theorem dX9_findVotes_161 : decode cX9_findVotes 161 = .ok (.goto (-105), 3) := by decide +kernel
theorem dX9_findVotes_164 : decode cX9_findVotes 164 = .ok (.return_, 1) := by decide +kernel
theorem dX9_alike_0 : decode cX9_alike 0 = .ok (.iload_n 1, 1) := by decide +kernel
theorem dX9_alike_1 : decode cX9_alike 1 = .ok (.invokestatic 90, 3) := by decide +kernel
theorem dX9_alike_4 : decode cX9_alike 4 = .ok (.ifCond .ne 5, 3) := by decide +kernel
theorem dX9_alike_7 : decode cX9_alike 7 = .ok (.iconst (-1), 1) := by decide +kernel
theorem dX9_alike_8 : decode cX9_alike 8 = .ok (.ireturn, 1) := by decide +kernel
theorem dX9_alike_9 : decode cX9_alike 9 = .ok (.aload_n 0, 1) := by decide +kernel
theorem dX9_alike_10 : decode cX9_alike 10 = .ok (.iload_n 1, 1) := by decide +kernel
theorem dX9_alike_11 : decode cX9_alike 11 = .ok (.invokevirtual 189, 3) := by decide +kernel
theorem dX9_alike_14 : decode cX9_alike 14 = .ok (.aload_n 0, 1) := by decide +kernel
theorem dX9_alike_15 : decode cX9_alike 15 = .ok (.getfield 183, 3) := by decide +kernel
theorem dX9_alike_18 : decode cX9_alike 18 = .ok (.ireturn, 1) := by decide +kernel
theorem dX9_votes_0 : decode cX9_votes 0 = .ok (.iload_n 1, 1) := by decide +kernel
theorem dX9_votes_1 : decode cX9_votes 1 = .ok (.invokestatic 90, 3) := by decide +kernel
theorem dX9_votes_4 : decode cX9_votes 4 = .ok (.ifCond .eq 23, 3) := by decide +kernel
theorem dX9_votes_7 : decode cX9_votes 7 = .ok (.aload_n 0, 1) := by decide +kernel
theorem dX9_votes_8 : decode cX9_votes 8 = .ok (.iconst 0, 1) := by decide +kernel
theorem dX9_votes_9 : decode cX9_votes 9 = .ok (.iload_n 2, 1) := by decide +kernel
theorem dX9_votes_10 : decode cX9_votes 10 = .ok (.invokevirtual 94, 3) := by decide +kernel
theorem dX9_votes_13 : decode cX9_votes 13 = .ok (.ifCond .eq 14, 3) := by decide +kernel
theorem dX9_votes_16 : decode cX9_votes 16 = .ok (.aload_n 0, 1) := by decide +kernel
theorem dX9_votes_17 : decode cX9_votes 17 = .ok (.iconst 1, 1) := by decide +kernel
theorem dX9_votes_18 : decode cX9_votes 18 = .ok (.iload_n 1, 1) := by decide +kernel
theorem dX9_votes_19 : decode cX9_votes 19 = .ok (.iadd, 1) := by decide +kernel
theorem dX9_votes_20 : decode cX9_votes 20 = .ok (.iload_n 3, 1) := by decide +kernel
theorem dX9_votes_21 : decode cX9_votes 21 = .ok (.invokevirtual 94, 3) := by decide +kernel
theorem dX9_votes_24 : decode cX9_votes 24 = .ok (.ifCond .ne 5, 3) := by decide +kernel
theorem dX9_votes_27 : decode cX9_votes 27 = .ok (.iconst (-1), 1) := by decide +kernel
theorem dX9_votes_28 : decode cX9_votes 28 = .ok (.ireturn, 1) := by decide +kernel
theorem dX9_votes_29 : decode cX9_votes 29 = .ok (.aload_n 0, 1) := by decide +kernel
theorem dX9_votes_30 : decode cX9_votes 30 = .ok (.iload_n 1, 1) := by decide +kernel
theorem dX9_votes_31 : decode cX9_votes 31 = .ok (.invokevirtual 189, 3) := by decide +kernel
theorem dX9_votes_34 : decode cX9_votes 34 = .ok (.aload_n 0, 1) := by decide +kernel
theorem dX9_votes_35 : decode cX9_votes 35 = .ok (.getfield 32, 3) := by decide +kernel
theorem dX9_votes_38 : decode cX9_votes 38 = .ok (.bipush 8, 2) := by decide +kernel
theorem dX9_votes_40 : decode cX9_votes 40 = .ok (.iload_n 2, 1) := by decide +kernel
theorem dX9_votes_41 : decode cX9_votes 41 = .ok (.imul, 1) := by decide +kernel
theorem dX9_votes_42 : decode cX9_votes 42 = .ok (.iload_n 3, 1) := by decide +kernel
theorem dX9_votes_43 : decode cX9_votes 43 = .ok (.iadd, 1) := by decide +kernel
theorem dX9_votes_44 : decode cX9_votes 44 = .ok (.iaload, 1) := by decide +kernel
theorem dX9_votes_45 : decode cX9_votes 45 = .ok (.ireturn, 1) := by decide +kernel
theorem dX9_hasSpot_0 : decode cX9_hasSpot 0 = .ok (.iconst 0, 1) := by decide +kernel
theorem dX9_hasSpot_1 : decode cX9_hasSpot 1 = .ok (.istore_n 3, 1) := by decide +kernel
theorem dX9_hasSpot_2 : decode cX9_hasSpot 2 = .ok (.iconst 0, 1) := by decide +kernel
theorem dX9_hasSpot_3 : decode cX9_hasSpot 3 = .ok (.istore 4, 2) := by decide +kernel
theorem dX9_hasSpot_5 : decode cX9_hasSpot 5 = .ok (.iload 4, 2) := by decide +kernel
theorem dX9_hasSpot_7 : decode cX9_hasSpot 7 = .ok (.bipush 8, 2) := by decide +kernel
theorem dX9_hasSpot_9 : decode cX9_hasSpot 9 = .ok (.if_icmp .ge 35, 3) := by decide +kernel
theorem dX9_hasSpot_12 : decode cX9_hasSpot 12 = .ok (.iload_n 3, 1) := by decide +kernel
theorem dX9_hasSpot_13 : decode cX9_hasSpot 13 = .ok (.ifCond .ne 19, 3) := by decide +kernel
theorem dX9_hasSpot_16 : decode cX9_hasSpot 16 = .ok (.aload_n 0, 1) := by decide +kernel
theorem dX9_hasSpot_17 : decode cX9_hasSpot 17 = .ok (.getfield 35, 3) := by decide +kernel
theorem dX9_hasSpot_20 : decode cX9_hasSpot 20 = .ok (.bipush 8, 2) := by decide +kernel
theorem dX9_hasSpot_22 : decode cX9_hasSpot 22 = .ok (.iload_n 1, 1) := by decide +kernel
theorem dX9_hasSpot_23 : decode cX9_hasSpot 23 = .ok (.imul, 1) := by decide +kernel
theorem dX9_hasSpot_24 : decode cX9_hasSpot 24 = .ok (.iload 4, 2) := by decide +kernel
theorem dX9_hasSpot_26 : decode cX9_hasSpot 26 = .ok (.iadd, 1) := by decide +kernel
theorem dX9_hasSpot_27 : decode cX9_hasSpot 27 = .ok (.iaload, 1) := by decide +kernel
theorem dX9_hasSpot_28 : decode cX9_hasSpot 28 = .ok (.iload_n 2, 1) := by decide +kernel
theorem dX9_hasSpot_29 : decode cX9_hasSpot 29 = .ok (.if_icmp .ne 7, 3) := by decide +kernel
theorem dX9_hasSpot_32 : decode cX9_hasSpot 32 = .ok (.iconst 1, 1) := by decide +kernel
theorem dX9_hasSpot_33 : decode cX9_hasSpot 33 = .ok (.goto 4, 3) := by decide +kernel
theorem dX9_hasSpot_36 : decode cX9_hasSpot 36 = .ok (.iconst 0, 1) := by decide +kernel
theorem dX9_hasSpot_37 : decode cX9_hasSpot 37 = .ok (.istore_n 3, 1) := by decide +kernel
theorem dX9_hasSpot_38 : decode cX9_hasSpot 38 = .ok (.iinc 4 1, 3) := by decide +kernel
theorem dX9_hasSpot_41 : decode cX9_hasSpot 41 = .ok (.goto (-36), 3) := by decide +kernel
theorem dX9_hasSpot_44 : decode cX9_hasSpot 44 = .ok (.iload_n 3, 1) := by decide +kernel
theorem dX9_hasSpot_45 : decode cX9_hasSpot 45 = .ok (.ireturn, 1) := by decide +kernel
theorem dX9_bestTwo_0 : decode cX9_bestTwo 0 = .ok (.bipush (-9), 2) := by decide +kernel
theorem dX9_bestTwo_2 : decode cX9_bestTwo 2 = .ok (.istore_n 2, 1) := by decide +kernel
theorem dX9_bestTwo_3 : decode cX9_bestTwo 3 = .ok (.iconst 0, 1) := by decide +kernel
theorem dX9_bestTwo_4 : decode cX9_bestTwo 4 = .ok (.istore_n 3, 1) := by decide +kernel
theorem dX9_bestTwo_5 : decode cX9_bestTwo 5 = .ok (.iload_n 3, 1) := by decide +kernel
theorem dX9_bestTwo_6 : decode cX9_bestTwo 6 = .ok (.bipush 64, 2) := by decide +kernel
theorem dX9_bestTwo_8 : decode cX9_bestTwo 8 = .ok (.if_icmp .ge 88, 3) := by decide +kernel
theorem dX9_bestTwo_11 : decode cX9_bestTwo 11 = .ok (.aload_n 0, 1) := by decide +kernel
theorem dX9_bestTwo_12 : decode cX9_bestTwo 12 = .ok (.getfield 32, 3) := by decide +kernel
theorem dX9_bestTwo_15 : decode cX9_bestTwo 15 = .ok (.iload_n 3, 1) := by decide +kernel
theorem dX9_bestTwo_16 : decode cX9_bestTwo 16 = .ok (.iaload, 1) := by decide +kernel
theorem dX9_bestTwo_17 : decode cX9_bestTwo 17 = .ok (.ifCond .le 38, 3) := by decide +kernel
theorem dX9_bestTwo_20 : decode cX9_bestTwo 20 = .ok (.aload_n 0, 1) := by decide +kernel
theorem dX9_bestTwo_21 : decode cX9_bestTwo 21 = .ok (.getfield 35, 3) := by decide +kernel
theorem dX9_bestTwo_24 : decode cX9_bestTwo 24 = .ok (.bipush 8, 2) := by decide +kernel
theorem dX9_bestTwo_26 : decode cX9_bestTwo 26 = .ok (.iload_n 1, 1) := by decide +kernel
theorem dX9_bestTwo_27 : decode cX9_bestTwo 27 = .ok (.imul, 1) := by decide +kernel
theorem dX9_bestTwo_28 : decode cX9_bestTwo 28 = .ok (.iload_n 3, 1) := by decide +kernel
theorem dX9_bestTwo_29 : decode cX9_bestTwo 29 = .ok (.bipush 8, 2) := by decide +kernel
theorem dX9_bestTwo_31 : decode cX9_bestTwo 31 = .ok (.idiv, 1) := by decide +kernel
theorem dX9_bestTwo_32 : decode cX9_bestTwo 32 = .ok (.iadd, 1) := by decide +kernel
theorem dX9_bestTwo_33 : decode cX9_bestTwo 33 = .ok (.iaload, 1) := by decide +kernel
theorem dX9_bestTwo_34 : decode cX9_bestTwo 34 = .ok (.bipush (-9), 2) := by decide +kernel
theorem dX9_bestTwo_36 : decode cX9_bestTwo 36 = .ok (.if_icmp .ne 19, 3) := by decide +kernel
theorem dX9_bestTwo_39 : decode cX9_bestTwo 39 = .ok (.aload_n 0, 1) := by decide +kernel
theorem dX9_bestTwo_40 : decode cX9_bestTwo 40 = .ok (.iload_n 1, 1) := by decide +kernel
theorem dX9_bestTwo_41 : decode cX9_bestTwo 41 = .ok (.iload_n 3, 1) := by decide +kernel
theorem dX9_bestTwo_42 : decode cX9_bestTwo 42 = .ok (.bipush 8, 2) := by decide +kernel
theorem dX9_bestTwo_44 : decode cX9_bestTwo 44 = .ok (.irem, 1) := by decide +kernel
theorem dX9_bestTwo_45 : decode cX9_bestTwo 45 = .ok (.invokevirtual 193, 3) := by decide +kernel
theorem dX9_bestTwo_48 : decode cX9_bestTwo 48 = .ok (.ifCond .ne 7, 3) := by decide +kernel
theorem dX9_bestTwo_51 : decode cX9_bestTwo 51 = .ok (.iconst 1, 1) := by decide +kernel
theorem dX9_bestTwo_52 : decode cX9_bestTwo 52 = .ok (.goto 4, 3) := by decide +kernel
theorem dX9_bestTwo_55 : decode cX9_bestTwo 55 = .ok (.iconst 0, 1) := by decide +kernel
theorem dX9_bestTwo_56 : decode cX9_bestTwo 56 = .ok (.istore 4, 2) := by decide +kernel
theorem dX9_bestTwo_58 : decode cX9_bestTwo 58 = .ok (.iload 4, 2) := by decide +kernel
theorem dX9_bestTwo_60 : decode cX9_bestTwo 60 = .ok (.ifCond .eq 28, 3) := by decide +kernel
theorem dX9_bestTwo_63 : decode cX9_bestTwo 63 = .ok (.iload_n 2, 1) := by decide +kernel
theorem dX9_bestTwo_64 : decode cX9_bestTwo 64 = .ok (.bipush (-9), 2) := by decide +kernel
theorem dX9_bestTwo_66 : decode cX9_bestTwo 66 = .ok (.if_icmp .eq 18, 3) := by decide +kernel
theorem dX9_bestTwo_69 : decode cX9_bestTwo 69 = .ok (.aload_n 0, 1) := by decide +kernel
theorem dX9_bestTwo_70 : decode cX9_bestTwo 70 = .ok (.getfield 32, 3) := by decide +kernel
theorem dX9_bestTwo_73 : decode cX9_bestTwo 73 = .ok (.iload_n 3, 1) := by decide +kernel
theorem dX9_bestTwo_74 : decode cX9_bestTwo 74 = .ok (.iaload, 1) := by decide +kernel
theorem dX9_bestTwo_75 : decode cX9_bestTwo 75 = .ok (.aload_n 0, 1) := by decide +kernel
theorem dX9_bestTwo_76 : decode cX9_bestTwo 76 = .ok (.getfield 32, 3) := by decide +kernel
theorem dX9_bestTwo_79 : decode cX9_bestTwo 79 = .ok (.iload_n 2, 1) := by decide +kernel
theorem dX9_bestTwo_80 : decode cX9_bestTwo 80 = .ok (.iaload, 1) := by decide +kernel
theorem dX9_bestTwo_81 : decode cX9_bestTwo 81 = .ok (.if_icmp .le 7, 3) := by decide +kernel
theorem dX9_bestTwo_84 : decode cX9_bestTwo 84 = .ok (.iload_n 3, 1) := by decide +kernel
theorem dX9_bestTwo_85 : decode cX9_bestTwo 85 = .ok (.goto 4, 3) := by decide +kernel
theorem dX9_bestTwo_88 : decode cX9_bestTwo 88 = .ok (.iload_n 2, 1) := by decide +kernel
theorem dX9_bestTwo_89 : decode cX9_bestTwo 89 = .ok (.istore_n 2, 1) := by decide +kernel
theorem dX9_bestTwo_90 : decode cX9_bestTwo 90 = .ok (.iinc 3 1, 3) := by decide +kernel
theorem dX9_bestTwo_93 : decode cX9_bestTwo 93 = .ok (.goto (-88), 3) := by decide +kernel
theorem dX9_bestTwo_96 : decode cX9_bestTwo 96 = .ok (.iload_n 2, 1) := by decide +kernel
theorem dX9_bestTwo_97 : decode cX9_bestTwo 97 = .ok (.ireturn, 1) := by decide +kernel
theorem dX9_findMatch_0 : decode cX9_findMatch 0 = .ok (.aload_n 0, 1) := by decide +kernel
theorem dX9_findMatch_1 : decode cX9_findMatch 1 = .ok (.iload_n 1, 1) := by decide +kernel
theorem dX9_findMatch_2 : decode cX9_findMatch 2 = .ok (.invokevirtual 189, 3) := by decide +kernel
theorem dX9_findMatch_5 : decode cX9_findMatch 5 = .ok (.iconst 0, 1) := by decide +kernel
theorem dX9_findMatch_6 : decode cX9_findMatch 6 = .ok (.istore_n 2, 1) := by decide +kernel
theorem dX9_findMatch_7 : decode cX9_findMatch 7 = .ok (.iload_n 2, 1) := by decide +kernel
theorem dX9_findMatch_8 : decode cX9_findMatch 8 = .ok (.bipush 8, 2) := by decide +kernel
theorem dX9_findMatch_10 : decode cX9_findMatch 10 = .ok (.if_icmp .ge 22, 3) := by decide +kernel
theorem dX9_findMatch_13 : decode cX9_findMatch 13 = .ok (.aload_n 0, 1) := by decide +kernel
theorem dX9_findMatch_14 : decode cX9_findMatch 14 = .ok (.getfield 35, 3) := by decide +kernel
theorem dX9_findMatch_17 : decode cX9_findMatch 17 = .ok (.bipush 8, 2) := by decide +kernel
theorem dX9_findMatch_19 : decode cX9_findMatch 19 = .ok (.iload_n 1, 1) := by decide +kernel
theorem dX9_findMatch_20 : decode cX9_findMatch 20 = .ok (.imul, 1) := by decide +kernel
theorem dX9_findMatch_21 : decode cX9_findMatch 21 = .ok (.iload_n 2, 1) := by decide +kernel
theorem dX9_findMatch_22 : decode cX9_findMatch 22 = .ok (.iadd, 1) := by decide +kernel
theorem dX9_findMatch_23 : decode cX9_findMatch 23 = .ok (.bipush (-9), 2) := by decide +kernel
theorem dX9_findMatch_25 : decode cX9_findMatch 25 = .ok (.iastore, 1) := by decide +kernel
theorem dX9_findMatch_26 : decode cX9_findMatch 26 = .ok (.iinc 2 1, 3) := by decide +kernel
theorem dX9_findMatch_29 : decode cX9_findMatch 29 = .ok (.goto (-22), 3) := by decide +kernel
theorem dX9_findMatch_32 : decode cX9_findMatch 32 = .ok (.iconst 0, 1) := by decide +kernel
theorem dX9_findMatch_33 : decode cX9_findMatch 33 = .ok (.istore_n 2, 1) := by decide +kernel
theorem dX9_findMatch_34 : decode cX9_findMatch 34 = .ok (.aload_n 0, 1) := by decide +kernel
theorem dX9_findMatch_35 : decode cX9_findMatch 35 = .ok (.iload_n 1, 1) := by decide +kernel
theorem dX9_findMatch_36 : decode cX9_findMatch 36 = .ok (.invokevirtual 196, 3) := by decide +kernel
theorem dX9_findMatch_39 : decode cX9_findMatch 39 = .ok (.istore_n 3, 1) := by decide +kernel
theorem dX9_findMatch_40 : decode cX9_findMatch 40 = .ok (.iload_n 3, 1) := by decide +kernel
theorem dX9_findMatch_41 : decode cX9_findMatch 41 = .ok (.bipush (-9), 2) := by decide +kernel
theorem dX9_findMatch_43 : decode cX9_findMatch 43 = .ok (.if_icmp .eq 33, 3) := by decide +kernel
theorem dX9_findMatch_46 : decode cX9_findMatch 46 = .ok (.aload_n 0, 1) := by decide +kernel
theorem dX9_findMatch_47 : decode cX9_findMatch 47 = .ok (.getfield 35, 3) := by decide +kernel
theorem dX9_findMatch_50 : decode cX9_findMatch 50 = .ok (.bipush 8, 2) := by decide +kernel
theorem dX9_findMatch_52 : decode cX9_findMatch 52 = .ok (.iload_n 1, 1) := by decide +kernel
theorem dX9_findMatch_53 : decode cX9_findMatch 53 = .ok (.imul, 1) := by decide +kernel
theorem dX9_findMatch_54 : decode cX9_findMatch 54 = .ok (.iload_n 3, 1) := by decide +kernel
theorem dX9_findMatch_55 : decode cX9_findMatch 55 = .ok (.bipush 8, 2) := by decide +kernel
theorem dX9_findMatch_57 : decode cX9_findMatch 57 = .ok (.idiv, 1) := by decide +kernel
theorem dX9_findMatch_58 : decode cX9_findMatch 58 = .ok (.iadd, 1) := by decide +kernel
theorem dX9_findMatch_59 : decode cX9_findMatch 59 = .ok (.iload_n 3, 1) := by decide +kernel
theorem dX9_findMatch_60 : decode cX9_findMatch 60 = .ok (.bipush 8, 2) := by decide +kernel
theorem dX9_findMatch_62 : decode cX9_findMatch 62 = .ok (.irem, 1) := by decide +kernel
theorem dX9_findMatch_63 : decode cX9_findMatch 63 = .ok (.iastore, 1) := by decide +kernel
theorem dX9_findMatch_64 : decode cX9_findMatch 64 = .ok (.iinc 2 1, 3) := by decide +kernel
theorem dX9_findMatch_67 : decode cX9_findMatch 67 = .ok (.aload_n 0, 1) := by decide +kernel
theorem dX9_findMatch_68 : decode cX9_findMatch 68 = .ok (.iload_n 1, 1) := by decide +kernel
theorem dX9_findMatch_69 : decode cX9_findMatch 69 = .ok (.invokevirtual 196, 3) := by decide +kernel
theorem dX9_findMatch_72 : decode cX9_findMatch 72 = .ok (.istore_n 3, 1) := by decide +kernel
theorem dX9_findMatch_73 : decode cX9_findMatch 73 = .ok (.goto (-33), 3) := by decide +kernel
theorem dX9_findMatch_76 : decode cX9_findMatch 76 = .ok (.iload_n 2, 1) := by decide +kernel
theorem dX9_findMatch_77 : decode cX9_findMatch 77 = .ok (.ireturn, 1) := by decide +kernel
theorem dX9_findFit_0 : decode cX9_findFit 0 = .ok (.aload_n 0, 1) := by decide +kernel
theorem dX9_findFit_1 : decode cX9_findFit 1 = .ok (.lconst 0, 1) := by decide +kernel
theorem dX9_findFit_2 : decode cX9_findFit 2 = .ok (.putfield 199, 3) := by decide +kernel
theorem dX9_findFit_5 : decode cX9_findFit 5 = .ok (.aload_n 0, 1) := by decide +kernel
theorem dX9_findFit_6 : decode cX9_findFit 6 = .ok (.lconst 0, 1) := by decide +kernel
theorem dX9_findFit_7 : decode cX9_findFit 7 = .ok (.putfield 203, 3) := by decide +kernel
theorem dX9_findFit_10 : decode cX9_findFit 10 = .ok (.aload_n 0, 1) := by decide +kernel
theorem dX9_findFit_11 : decode cX9_findFit 11 = .ok (.lconst 0, 1) := by decide +kernel
theorem dX9_findFit_12 : decode cX9_findFit 12 = .ok (.putfield 206, 3) := by decide +kernel
theorem dX9_findFit_15 : decode cX9_findFit 15 = .ok (.aload_n 0, 1) := by decide +kernel
theorem dX9_findFit_16 : decode cX9_findFit 16 = .ok (.lconst 0, 1) := by decide +kernel
theorem dX9_findFit_17 : decode cX9_findFit 17 = .ok (.putfield 209, 3) := by decide +kernel
theorem dX9_findFit_20 : decode cX9_findFit 20 = .ok (.aload_n 0, 1) := by decide +kernel
theorem dX9_findFit_21 : decode cX9_findFit 21 = .ok (.lconst 0, 1) := by decide +kernel
theorem dX9_findFit_22 : decode cX9_findFit 22 = .ok (.putfield 212, 3) := by decide +kernel
theorem dX9_findFit_25 : decode cX9_findFit 25 = .ok (.aload_n 0, 1) := by decide +kernel
theorem dX9_findFit_26 : decode cX9_findFit 26 = .ok (.lconst 0, 1) := by decide +kernel
theorem dX9_findFit_27 : decode cX9_findFit 27 = .ok (.putfield 215, 3) := by decide +kernel
theorem dX9_findFit_30 : decode cX9_findFit 30 = .ok (.aload_n 0, 1) := by decide +kernel
theorem dX9_findFit_31 : decode cX9_findFit 31 = .ok (.lconst 0, 1) := by decide +kernel
theorem dX9_findFit_32 : decode cX9_findFit 32 = .ok (.putfield 218, 3) := by decide +kernel
theorem dX9_findFit_35 : decode cX9_findFit 35 = .ok (.iconst 0, 1) := by decide +kernel
theorem dX9_findFit_36 : decode cX9_findFit 36 = .ok (.istore_n 3, 1) := by decide +kernel
theorem dX9_findFit_37 : decode cX9_findFit 37 = .ok (.iload_n 3, 1) := by decide +kernel
theorem dX9_findFit_38 : decode cX9_findFit 38 = .ok (.aload_n 0, 1) := by decide +kernel
theorem dX9_findFit_39 : decode cX9_findFit 39 = .ok (.getfield 221, 3) := by decide +kernel
theorem dX9_findFit_42 : decode cX9_findFit 42 = .ok (.if_icmp .ge 113, 3) := by decide +kernel
theorem dX9_findFit_45 : decode cX9_findFit 45 = .ok (.aload_n 0, 1) := by decide +kernel
theorem dX9_findFit_46 : decode cX9_findFit 46 = .ok (.dup, 1) := by decide +kernel
theorem dX9_findFit_47 : decode cX9_findFit 47 = .ok (.getfield 199, 3) := by decide +kernel
theorem dX9_findFit_50 : decode cX9_findFit 50 = .ok (.aload_n 0, 1) := by decide +kernel
theorem dX9_findFit_51 : decode cX9_findFit 51 = .ok (.getfield 13, 3) := by decide +kernel
theorem dX9_findFit_54 : decode cX9_findFit 54 = .ok (.bipush 8, 2) := by decide +kernel
theorem dX9_findFit_56 : decode cX9_findFit 56 = .ok (.iload_n 1, 1) := by decide +kernel
theorem dX9_findFit_57 : decode cX9_findFit 57 = .ok (.imul, 1) := by decide +kernel
theorem dX9_findFit_58 : decode cX9_findFit 58 = .ok (.aload_n 0, 1) := by decide +kernel
theorem dX9_findFit_59 : decode cX9_findFit 59 = .ok (.getfield 38, 3) := by decide +kernel
theorem dX9_findFit_62 : decode cX9_findFit 62 = .ok (.iload_n 3, 1) := by decide +kernel
theorem dX9_findFit_63 : decode cX9_findFit 63 = .ok (.iaload, 1) := by decide +kernel
theorem dX9_findFit_64 : decode cX9_findFit 64 = .ok (.iadd, 1) := by decide +kernel
theorem dX9_findFit_65 : decode cX9_findFit 65 = .ok (.iaload, 1) := by decide +kernel
theorem dX9_findFit_66 : decode cX9_findFit 66 = .ok (.i2l, 1) := by decide +kernel
theorem dX9_findFit_67 : decode cX9_findFit 67 = .ok (.ladd, 1) := by decide +kernel
theorem dX9_findFit_68 : decode cX9_findFit 68 = .ok (.putfield 199, 3) := by decide +kernel
theorem dX9_findFit_71 : decode cX9_findFit 71 = .ok (.aload_n 0, 1) := by decide +kernel
theorem dX9_findFit_72 : decode cX9_findFit 72 = .ok (.dup, 1) := by decide +kernel
theorem dX9_findFit_73 : decode cX9_findFit 73 = .ok (.getfield 203, 3) := by decide +kernel
theorem dX9_findFit_76 : decode cX9_findFit 76 = .ok (.aload_n 0, 1) := by decide +kernel
theorem dX9_findFit_77 : decode cX9_findFit 77 = .ok (.getfield 16, 3) := by decide +kernel
theorem dX9_findFit_80 : decode cX9_findFit 80 = .ok (.bipush 8, 2) := by decide +kernel
theorem dX9_findFit_82 : decode cX9_findFit 82 = .ok (.iload_n 1, 1) := by decide +kernel
theorem dX9_findFit_83 : decode cX9_findFit 83 = .ok (.imul, 1) := by decide +kernel
theorem dX9_findFit_84 : decode cX9_findFit 84 = .ok (.aload_n 0, 1) := by decide +kernel
theorem dX9_findFit_85 : decode cX9_findFit 85 = .ok (.getfield 38, 3) := by decide +kernel
theorem dX9_findFit_88 : decode cX9_findFit 88 = .ok (.iload_n 3, 1) := by decide +kernel
theorem dX9_findFit_89 : decode cX9_findFit 89 = .ok (.iaload, 1) := by decide +kernel
theorem dX9_findFit_90 : decode cX9_findFit 90 = .ok (.iadd, 1) := by decide +kernel
theorem dX9_findFit_91 : decode cX9_findFit 91 = .ok (.iaload, 1) := by decide +kernel
theorem dX9_findFit_92 : decode cX9_findFit 92 = .ok (.i2l, 1) := by decide +kernel
theorem dX9_findFit_93 : decode cX9_findFit 93 = .ok (.ladd, 1) := by decide +kernel
theorem dX9_findFit_94 : decode cX9_findFit 94 = .ok (.putfield 203, 3) := by decide +kernel
theorem dX9_findFit_97 : decode cX9_findFit 97 = .ok (.aload_n 0, 1) := by decide +kernel
theorem dX9_findFit_98 : decode cX9_findFit 98 = .ok (.dup, 1) := by decide +kernel
theorem dX9_findFit_99 : decode cX9_findFit 99 = .ok (.getfield 206, 3) := by decide +kernel
theorem dX9_findFit_102 : decode cX9_findFit 102 = .ok (.aload_n 0, 1) := by decide +kernel
theorem dX9_findFit_103 : decode cX9_findFit 103 = .ok (.getfield 13, 3) := by decide +kernel
theorem dX9_findFit_106 : decode cX9_findFit 106 = .ok (.bipush 8, 2) := by decide +kernel
theorem dX9_findFit_108 : decode cX9_findFit 108 = .ok (.iload_n 2, 1) := by decide +kernel
theorem dX9_findFit_109 : decode cX9_findFit 109 = .ok (.imul, 1) := by decide +kernel
theorem dX9_findFit_110 : decode cX9_findFit 110 = .ok (.aload_n 0, 1) := by decide +kernel
theorem dX9_findFit_111 : decode cX9_findFit 111 = .ok (.getfield 41, 3) := by decide +kernel
theorem dX9_findFit_114 : decode cX9_findFit 114 = .ok (.iload_n 3, 1) := by decide +kernel
theorem dX9_findFit_115 : decode cX9_findFit 115 = .ok (.iaload, 1) := by decide +kernel
theorem dX9_findFit_116 : decode cX9_findFit 116 = .ok (.iadd, 1) := by decide +kernel
theorem dX9_findFit_117 : decode cX9_findFit 117 = .ok (.iaload, 1) := by decide +kernel
theorem dX9_findFit_118 : decode cX9_findFit 118 = .ok (.i2l, 1) := by decide +kernel
theorem dX9_findFit_119 : decode cX9_findFit 119 = .ok (.ladd, 1) := by decide +kernel
theorem dX9_findFit_120 : decode cX9_findFit 120 = .ok (.putfield 206, 3) := by decide +kernel
theorem dX9_findFit_123 : decode cX9_findFit 123 = .ok (.aload_n 0, 1) := by decide +kernel
theorem dX9_findFit_124 : decode cX9_findFit 124 = .ok (.dup, 1) := by decide +kernel
theorem dX9_findFit_125 : decode cX9_findFit 125 = .ok (.getfield 209, 3) := by decide +kernel
theorem dX9_findFit_128 : decode cX9_findFit 128 = .ok (.aload_n 0, 1) := by decide +kernel
theorem dX9_findFit_129 : decode cX9_findFit 129 = .ok (.getfield 16, 3) := by decide +kernel
theorem dX9_findFit_132 : decode cX9_findFit 132 = .ok (.bipush 8, 2) := by decide +kernel
theorem dX9_findFit_134 : decode cX9_findFit 134 = .ok (.iload_n 2, 1) := by decide +kernel
theorem dX9_findFit_135 : decode cX9_findFit 135 = .ok (.imul, 1) := by decide +kernel
theorem dX9_findFit_136 : decode cX9_findFit 136 = .ok (.aload_n 0, 1) := by decide +kernel
theorem dX9_findFit_137 : decode cX9_findFit 137 = .ok (.getfield 41, 3) := by decide +kernel
theorem dX9_findFit_140 : decode cX9_findFit 140 = .ok (.iload_n 3, 1) := by decide +kernel
theorem dX9_findFit_141 : decode cX9_findFit 141 = .ok (.iaload, 1) := by decide +kernel
theorem dX9_findFit_142 : decode cX9_findFit 142 = .ok (.iadd, 1) := by decide +kernel
theorem dX9_findFit_143 : decode cX9_findFit 143 = .ok (.iaload, 1) := by decide +kernel
theorem dX9_findFit_144 : decode cX9_findFit 144 = .ok (.i2l, 1) := by decide +kernel
theorem dX9_findFit_145 : decode cX9_findFit 145 = .ok (.ladd, 1) := by decide +kernel
theorem dX9_findFit_146 : decode cX9_findFit 146 = .ok (.putfield 209, 3) := by decide +kernel
theorem dX9_findFit_149 : decode cX9_findFit 149 = .ok (.iinc 3 1, 3) := by decide +kernel
theorem dX9_findFit_152 : decode cX9_findFit 152 = .ok (.goto (-115), 3) := by decide +kernel
theorem dX9_findFit_155 : decode cX9_findFit 155 = .ok (.iconst 0, 1) := by decide +kernel
theorem dX9_findFit_156 : decode cX9_findFit 156 = .ok (.istore_n 3, 1) := by decide +kernel
theorem dX9_findFit_157 : decode cX9_findFit 157 = .ok (.iload_n 3, 1) := by decide +kernel
theorem dX9_findFit_158 : decode cX9_findFit 158 = .ok (.aload_n 0, 1) := by decide +kernel
theorem dX9_findFit_159 : decode cX9_findFit 159 = .ok (.getfield 221, 3) := by decide +kernel
theorem dX9_findFit_162 : decode cX9_findFit 162 = .ok (.if_icmp .ge 189, 3) := by decide +kernel
theorem dX9_findFit_165 : decode cX9_findFit 165 = .ok (.aload_n 0, 1) := by decide +kernel
theorem dX9_findFit_166 : decode cX9_findFit 166 = .ok (.getfield 221, 3) := by decide +kernel
theorem dX9_findFit_169 : decode cX9_findFit 169 = .ok (.i2l, 1) := by decide +kernel
theorem dX9_findFit_170 : decode cX9_findFit 170 = .ok (.aload_n 0, 1) := by decide +kernel
theorem dX9_findFit_171 : decode cX9_findFit 171 = .ok (.getfield 13, 3) := by decide +kernel
theorem dX9_findFit_174 : decode cX9_findFit 174 = .ok (.bipush 8, 2) := by decide +kernel
theorem dX9_findFit_176 : decode cX9_findFit 176 = .ok (.iload_n 1, 1) := by decide +kernel
theorem dX9_findFit_177 : decode cX9_findFit 177 = .ok (.imul, 1) := by decide +kernel
theorem dX9_findFit_178 : decode cX9_findFit 178 = .ok (.aload_n 0, 1) := by decide +kernel
theorem dX9_findFit_179 : decode cX9_findFit 179 = .ok (.getfield 38, 3) := by decide +kernel
theorem dX9_findFit_182 : decode cX9_findFit 182 = .ok (.iload_n 3, 1) := by decide +kernel
theorem dX9_findFit_183 : decode cX9_findFit 183 = .ok (.iaload, 1) := by decide +kernel
theorem dX9_findFit_184 : decode cX9_findFit 184 = .ok (.iadd, 1) := by decide +kernel
theorem dX9_findFit_185 : decode cX9_findFit 185 = .ok (.iaload, 1) := by decide +kernel
theorem dX9_findFit_186 : decode cX9_findFit 186 = .ok (.i2l, 1) := by decide +kernel
theorem dX9_findFit_187 : decode cX9_findFit 187 = .ok (.lmul, 1) := by decide +kernel
theorem dX9_findFit_188 : decode cX9_findFit 188 = .ok (.aload_n 0, 1) := by decide +kernel
theorem dX9_findFit_189 : decode cX9_findFit 189 = .ok (.getfield 199, 3) := by decide +kernel
theorem dX9_findFit_192 : decode cX9_findFit 192 = .ok (.lsub, 1) := by decide +kernel
theorem dX9_findFit_193 : decode cX9_findFit 193 = .ok (.lstore 4, 2) := by decide +kernel
theorem dX9_findFit_195 : decode cX9_findFit 195 = .ok (.aload_n 0, 1) := by decide +kernel
theorem dX9_findFit_196 : decode cX9_findFit 196 = .ok (.getfield 221, 3) := by decide +kernel
theorem dX9_findFit_199 : decode cX9_findFit 199 = .ok (.i2l, 1) := by decide +kernel
theorem dX9_findFit_200 : decode cX9_findFit 200 = .ok (.aload_n 0, 1) := by decide +kernel
theorem dX9_findFit_201 : decode cX9_findFit 201 = .ok (.getfield 16, 3) := by decide +kernel
theorem dX9_findFit_204 : decode cX9_findFit 204 = .ok (.bipush 8, 2) := by decide +kernel
theorem dX9_findFit_206 : decode cX9_findFit 206 = .ok (.iload_n 1, 1) := by decide +kernel
theorem dX9_findFit_207 : decode cX9_findFit 207 = .ok (.imul, 1) := by decide +kernel
theorem dX9_findFit_208 : decode cX9_findFit 208 = .ok (.aload_n 0, 1) := by decide +kernel
theorem dX9_findFit_209 : decode cX9_findFit 209 = .ok (.getfield 38, 3) := by decide +kernel
theorem dX9_findFit_212 : decode cX9_findFit 212 = .ok (.iload_n 3, 1) := by decide +kernel
theorem dX9_findFit_213 : decode cX9_findFit 213 = .ok (.iaload, 1) := by decide +kernel
theorem dX9_findFit_214 : decode cX9_findFit 214 = .ok (.iadd, 1) := by decide +kernel
theorem dX9_findFit_215 : decode cX9_findFit 215 = .ok (.iaload, 1) := by decide +kernel
theorem dX9_findFit_216 : decode cX9_findFit 216 = .ok (.i2l, 1) := by decide +kernel
theorem dX9_findFit_217 : decode cX9_findFit 217 = .ok (.lmul, 1) := by decide +kernel
theorem dX9_findFit_218 : decode cX9_findFit 218 = .ok (.aload_n 0, 1) := by decide +kernel
theorem dX9_findFit_219 : decode cX9_findFit 219 = .ok (.getfield 203, 3) := by decide +kernel
theorem dX9_findFit_222 : decode cX9_findFit 222 = .ok (.lsub, 1) := by decide +kernel
theorem dX9_findFit_223 : decode cX9_findFit 223 = .ok (.lstore 6, 2) := by decide +kernel
theorem dX9_findFit_225 : decode cX9_findFit 225 = .ok (.aload_n 0, 1) := by decide +kernel
theorem dX9_findFit_226 : decode cX9_findFit 226 = .ok (.getfield 221, 3) := by decide +kernel
theorem dX9_findFit_229 : decode cX9_findFit 229 = .ok (.i2l, 1) := by decide +kernel
theorem dX9_findFit_230 : decode cX9_findFit 230 = .ok (.aload_n 0, 1) := by decide +kernel
theorem dX9_findFit_231 : decode cX9_findFit 231 = .ok (.getfield 13, 3) := by decide +kernel
theorem dX9_findFit_234 : decode cX9_findFit 234 = .ok (.bipush 8, 2) := by decide +kernel
theorem dX9_findFit_236 : decode cX9_findFit 236 = .ok (.iload_n 2, 1) := by decide +kernel
theorem dX9_findFit_237 : decode cX9_findFit 237 = .ok (.imul, 1) := by decide +kernel
theorem dX9_findFit_238 : decode cX9_findFit 238 = .ok (.aload_n 0, 1) := by decide +kernel
theorem dX9_findFit_239 : decode cX9_findFit 239 = .ok (.getfield 41, 3) := by decide +kernel
theorem dX9_findFit_242 : decode cX9_findFit 242 = .ok (.iload_n 3, 1) := by decide +kernel
theorem dX9_findFit_243 : decode cX9_findFit 243 = .ok (.iaload, 1) := by decide +kernel
theorem dX9_findFit_244 : decode cX9_findFit 244 = .ok (.iadd, 1) := by decide +kernel
theorem dX9_findFit_245 : decode cX9_findFit 245 = .ok (.iaload, 1) := by decide +kernel
theorem dX9_findFit_246 : decode cX9_findFit 246 = .ok (.i2l, 1) := by decide +kernel
theorem dX9_findFit_247 : decode cX9_findFit 247 = .ok (.lmul, 1) := by decide +kernel
theorem dX9_findFit_248 : decode cX9_findFit 248 = .ok (.aload_n 0, 1) := by decide +kernel
theorem dX9_findFit_249 : decode cX9_findFit 249 = .ok (.getfield 206, 3) := by decide +kernel
theorem dX9_findFit_252 : decode cX9_findFit 252 = .ok (.lsub, 1) := by decide +kernel
theorem dX9_findFit_253 : decode cX9_findFit 253 = .ok (.lstore 8, 2) := by decide +kernel
theorem dX9_findFit_255 : decode cX9_findFit 255 = .ok (.aload_n 0, 1) := by decide +kernel
theorem dX9_findFit_256 : decode cX9_findFit 256 = .ok (.getfield 221, 3) := by decide +kernel
theorem dX9_findFit_259 : decode cX9_findFit 259 = .ok (.i2l, 1) := by decide +kernel
theorem dX9_findFit_260 : decode cX9_findFit 260 = .ok (.aload_n 0, 1) := by decide +kernel
theorem dX9_findFit_261 : decode cX9_findFit 261 = .ok (.getfield 16, 3) := by decide +kernel
theorem dX9_findFit_264 : decode cX9_findFit 264 = .ok (.bipush 8, 2) := by decide +kernel
theorem dX9_findFit_266 : decode cX9_findFit 266 = .ok (.iload_n 2, 1) := by decide +kernel
theorem dX9_findFit_267 : decode cX9_findFit 267 = .ok (.imul, 1) := by decide +kernel
theorem dX9_findFit_268 : decode cX9_findFit 268 = .ok (.aload_n 0, 1) := by decide +kernel
theorem dX9_findFit_269 : decode cX9_findFit 269 = .ok (.getfield 41, 3) := by decide +kernel
theorem dX9_findFit_272 : decode cX9_findFit 272 = .ok (.iload_n 3, 1) := by decide +kernel
theorem dX9_findFit_273 : decode cX9_findFit 273 = .ok (.iaload, 1) := by decide +kernel
theorem dX9_findFit_274 : decode cX9_findFit 274 = .ok (.iadd, 1) := by decide +kernel
theorem dX9_findFit_275 : decode cX9_findFit 275 = .ok (.iaload, 1) := by decide +kernel
theorem dX9_findFit_276 : decode cX9_findFit 276 = .ok (.i2l, 1) := by decide +kernel
theorem dX9_findFit_277 : decode cX9_findFit 277 = .ok (.lmul, 1) := by decide +kernel
theorem dX9_findFit_278 : decode cX9_findFit 278 = .ok (.aload_n 0, 1) := by decide +kernel
theorem dX9_findFit_279 : decode cX9_findFit 279 = .ok (.getfield 209, 3) := by decide +kernel
theorem dX9_findFit_282 : decode cX9_findFit 282 = .ok (.lsub, 1) := by decide +kernel
theorem dX9_findFit_283 : decode cX9_findFit 283 = .ok (.lstore 10, 2) := by decide +kernel
theorem dX9_findFit_285 : decode cX9_findFit 285 = .ok (.aload_n 0, 1) := by decide +kernel
theorem dX9_findFit_286 : decode cX9_findFit 286 = .ok (.dup, 1) := by decide +kernel
theorem dX9_findFit_287 : decode cX9_findFit 287 = .ok (.getfield 212, 3) := by decide +kernel
theorem dX9_findFit_290 : decode cX9_findFit 290 = .ok (.lload 4, 2) := by decide +kernel
theorem dX9_findFit_292 : decode cX9_findFit 292 = .ok (.lload 4, 2) := by decide +kernel
theorem dX9_findFit_294 : decode cX9_findFit 294 = .ok (.lmul, 1) := by decide +kernel
theorem dX9_findFit_295 : decode cX9_findFit 295 = .ok (.lload 6, 2) := by decide +kernel
theorem dX9_findFit_297 : decode cX9_findFit 297 = .ok (.lload 6, 2) := by decide +kernel
theorem dX9_findFit_299 : decode cX9_findFit 299 = .ok (.lmul, 1) := by decide +kernel
theorem dX9_findFit_300 : decode cX9_findFit 300 = .ok (.ladd, 1) := by decide +kernel
theorem dX9_findFit_301 : decode cX9_findFit 301 = .ok (.ladd, 1) := by decide +kernel
theorem dX9_findFit_302 : decode cX9_findFit 302 = .ok (.putfield 212, 3) := by decide +kernel
theorem dX9_findFit_305 : decode cX9_findFit 305 = .ok (.aload_n 0, 1) := by decide +kernel
theorem dX9_findFit_306 : decode cX9_findFit 306 = .ok (.dup, 1) := by decide +kernel
theorem dX9_findFit_307 : decode cX9_findFit 307 = .ok (.getfield 215, 3) := by decide +kernel
theorem dX9_findFit_310 : decode cX9_findFit 310 = .ok (.lload 4, 2) := by decide +kernel
theorem dX9_findFit_312 : decode cX9_findFit 312 = .ok (.lload 8, 2) := by decide +kernel
theorem dX9_findFit_314 : decode cX9_findFit 314 = .ok (.lmul, 1) := by decide +kernel
theorem dX9_findFit_315 : decode cX9_findFit 315 = .ok (.lload 6, 2) := by decide +kernel
theorem dX9_findFit_317 : decode cX9_findFit 317 = .ok (.lload 10, 2) := by decide +kernel
theorem dX9_findFit_319 : decode cX9_findFit 319 = .ok (.lmul, 1) := by decide +kernel
theorem dX9_findFit_320 : decode cX9_findFit 320 = .ok (.ladd, 1) := by decide +kernel
theorem dX9_findFit_321 : decode cX9_findFit 321 = .ok (.ladd, 1) := by decide +kernel
theorem dX9_findFit_322 : decode cX9_findFit 322 = .ok (.putfield 215, 3) := by decide +kernel
theorem dX9_findFit_325 : decode cX9_findFit 325 = .ok (.aload_n 0, 1) := by decide +kernel
theorem dX9_findFit_326 : decode cX9_findFit 326 = .ok (.dup, 1) := by decide +kernel
theorem dX9_findFit_327 : decode cX9_findFit 327 = .ok (.getfield 218, 3) := by decide +kernel
theorem dX9_findFit_330 : decode cX9_findFit 330 = .ok (.lload 4, 2) := by decide +kernel
theorem dX9_findFit_332 : decode cX9_findFit 332 = .ok (.lload 10, 2) := by decide +kernel
theorem dX9_findFit_334 : decode cX9_findFit 334 = .ok (.lmul, 1) := by decide +kernel
theorem dX9_findFit_335 : decode cX9_findFit 335 = .ok (.lload 6, 2) := by decide +kernel
theorem dX9_findFit_337 : decode cX9_findFit 337 = .ok (.lload 8, 2) := by decide +kernel
theorem dX9_findFit_339 : decode cX9_findFit 339 = .ok (.lmul, 1) := by decide +kernel
theorem dX9_findFit_340 : decode cX9_findFit 340 = .ok (.lsub, 1) := by decide +kernel
theorem dX9_findFit_341 : decode cX9_findFit 341 = .ok (.ladd, 1) := by decide +kernel
theorem dX9_findFit_342 : decode cX9_findFit 342 = .ok (.putfield 218, 3) := by decide +kernel
theorem dX9_findFit_345 : decode cX9_findFit 345 = .ok (.iinc 3 1, 3) := by decide +kernel
theorem dX9_findFit_348 : decode cX9_findFit 348 = .ok (.goto (-191), 3) := by decide +kernel
theorem dX9_findFit_351 : decode cX9_findFit 351 = .ok (.return_, 1) := by decide +kernel
theorem dX9_floor_0 : decode cX9_floor 0 = .ok (.lload_n 0, 1) := by decide +kernel
theorem dX9_floor_1 : decode cX9_floor 1 = .ok (.lload_n 2, 1) := by decide +kernel
theorem dX9_floor_2 : decode cX9_floor 2 = .ok (.ldiv, 1) := by decide +kernel
theorem dX9_floor_3 : decode cX9_floor 3 = .ok (.lstore 4, 2) := by decide +kernel
theorem dX9_floor_5 : decode cX9_floor 5 = .ok (.lload_n 0, 1) := by decide +kernel
theorem dX9_floor_6 : decode cX9_floor 6 = .ok (.lload_n 2, 1) := by decide +kernel
theorem dX9_floor_7 : decode cX9_floor 7 = .ok (.lrem, 1) := by decide +kernel
theorem dX9_floor_8 : decode cX9_floor 8 = .ok (.lconst 0, 1) := by decide +kernel
theorem dX9_floor_9 : decode cX9_floor 9 = .ok (.lcmp, 1) := by decide +kernel
theorem dX9_floor_10 : decode cX9_floor 10 = .ok (.ifCond .ge 10, 3) := by decide +kernel
theorem dX9_floor_13 : decode cX9_floor 13 = .ok (.lload 4, 2) := by decide +kernel
theorem dX9_floor_15 : decode cX9_floor 15 = .ok (.lconst 1, 1) := by decide +kernel
theorem dX9_floor_16 : decode cX9_floor 16 = .ok (.lsub, 1) := by decide +kernel
theorem dX9_floor_17 : decode cX9_floor 17 = .ok (.goto 5, 3) := by decide +kernel
theorem dX9_floor_20 : decode cX9_floor 20 = .ok (.lload 4, 2) := by decide +kernel
theorem dX9_floor_22 : decode cX9_floor 22 = .ok (.lreturn, 1) := by decide +kernel
theorem dX9_laidAt_0 : decode cX9_laidAt 0 = .ok (.aload_n 0, 1) := by decide +kernel
theorem dX9_laidAt_1 : decode cX9_laidAt 1 = .ok (.getfield 221, 3) := by decide +kernel
theorem dX9_laidAt_4 : decode cX9_laidAt 4 = .ok (.i2l, 1) := by decide +kernel
theorem dX9_laidAt_5 : decode cX9_laidAt 5 = .ok (.aload_n 0, 1) := by decide +kernel
theorem dX9_laidAt_6 : decode cX9_laidAt 6 = .ok (.getfield 13, 3) := by decide +kernel
theorem dX9_laidAt_9 : decode cX9_laidAt 9 = .ok (.bipush 8, 2) := by decide +kernel
theorem dX9_laidAt_11 : decode cX9_laidAt 11 = .ok (.iload_n 1, 1) := by decide +kernel
theorem dX9_laidAt_12 : decode cX9_laidAt 12 = .ok (.imul, 1) := by decide +kernel
theorem dX9_laidAt_13 : decode cX9_laidAt 13 = .ok (.iload_n 2, 1) := by decide +kernel
theorem dX9_laidAt_14 : decode cX9_laidAt 14 = .ok (.iadd, 1) := by decide +kernel
theorem dX9_laidAt_15 : decode cX9_laidAt 15 = .ok (.iaload, 1) := by decide +kernel
theorem dX9_laidAt_16 : decode cX9_laidAt 16 = .ok (.i2l, 1) := by decide +kernel
theorem dX9_laidAt_17 : decode cX9_laidAt 17 = .ok (.lmul, 1) := by decide +kernel
theorem dX9_laidAt_18 : decode cX9_laidAt 18 = .ok (.aload_n 0, 1) := by decide +kernel
theorem dX9_laidAt_19 : decode cX9_laidAt 19 = .ok (.getfield 199, 3) := by decide +kernel
theorem dX9_laidAt_22 : decode cX9_laidAt 22 = .ok (.lsub, 1) := by decide +kernel
theorem dX9_laidAt_23 : decode cX9_laidAt 23 = .ok (.lstore 4, 2) := by decide +kernel
theorem dX9_laidAt_25 : decode cX9_laidAt 25 = .ok (.aload_n 0, 1) := by decide +kernel
theorem dX9_laidAt_26 : decode cX9_laidAt 26 = .ok (.getfield 221, 3) := by decide +kernel
theorem dX9_laidAt_29 : decode cX9_laidAt 29 = .ok (.i2l, 1) := by decide +kernel
theorem dX9_laidAt_30 : decode cX9_laidAt 30 = .ok (.aload_n 0, 1) := by decide +kernel
theorem dX9_laidAt_31 : decode cX9_laidAt 31 = .ok (.getfield 16, 3) := by decide +kernel
theorem dX9_laidAt_34 : decode cX9_laidAt 34 = .ok (.bipush 8, 2) := by decide +kernel
theorem dX9_laidAt_36 : decode cX9_laidAt 36 = .ok (.iload_n 1, 1) := by decide +kernel
theorem dX9_laidAt_37 : decode cX9_laidAt 37 = .ok (.imul, 1) := by decide +kernel
theorem dX9_laidAt_38 : decode cX9_laidAt 38 = .ok (.iload_n 2, 1) := by decide +kernel
theorem dX9_laidAt_39 : decode cX9_laidAt 39 = .ok (.iadd, 1) := by decide +kernel
theorem dX9_laidAt_40 : decode cX9_laidAt 40 = .ok (.iaload, 1) := by decide +kernel
theorem dX9_laidAt_41 : decode cX9_laidAt 41 = .ok (.i2l, 1) := by decide +kernel
theorem dX9_laidAt_42 : decode cX9_laidAt 42 = .ok (.lmul, 1) := by decide +kernel
theorem dX9_laidAt_43 : decode cX9_laidAt 43 = .ok (.aload_n 0, 1) := by decide +kernel
theorem dX9_laidAt_44 : decode cX9_laidAt 44 = .ok (.getfield 203, 3) := by decide +kernel
theorem dX9_laidAt_47 : decode cX9_laidAt 47 = .ok (.lsub, 1) := by decide +kernel
theorem dX9_laidAt_48 : decode cX9_laidAt 48 = .ok (.lstore 6, 2) := by decide +kernel
theorem dX9_laidAt_50 : decode cX9_laidAt 50 = .ok (.iload_n 3, 1) := by decide +kernel
theorem dX9_laidAt_51 : decode cX9_laidAt 51 = .ok (.ifCond .ne 31, 3) := by decide +kernel
theorem dX9_laidAt_54 : decode cX9_laidAt 54 = .ok (.aload_n 0, 1) := by decide +kernel
theorem dX9_laidAt_55 : decode cX9_laidAt 55 = .ok (.getfield 206, 3) := by decide +kernel
theorem dX9_laidAt_58 : decode cX9_laidAt 58 = .ok (.aload_n 0, 1) := by decide +kernel
theorem dX9_laidAt_59 : decode cX9_laidAt 59 = .ok (.getfield 212, 3) := by decide +kernel
theorem dX9_laidAt_62 : decode cX9_laidAt 62 = .ok (.lmul, 1) := by decide +kernel
theorem dX9_laidAt_63 : decode cX9_laidAt 63 = .ok (.aload_n 0, 1) := by decide +kernel
theorem dX9_laidAt_64 : decode cX9_laidAt 64 = .ok (.getfield 215, 3) := by decide +kernel
theorem dX9_laidAt_67 : decode cX9_laidAt 67 = .ok (.lload 4, 2) := by decide +kernel
theorem dX9_laidAt_69 : decode cX9_laidAt 69 = .ok (.lmul, 1) := by decide +kernel
theorem dX9_laidAt_70 : decode cX9_laidAt 70 = .ok (.ladd, 1) := by decide +kernel
theorem dX9_laidAt_71 : decode cX9_laidAt 71 = .ok (.aload_n 0, 1) := by decide +kernel
theorem dX9_laidAt_72 : decode cX9_laidAt 72 = .ok (.getfield 218, 3) := by decide +kernel
theorem dX9_laidAt_75 : decode cX9_laidAt 75 = .ok (.lload 6, 2) := by decide +kernel
theorem dX9_laidAt_77 : decode cX9_laidAt 77 = .ok (.lmul, 1) := by decide +kernel
theorem dX9_laidAt_78 : decode cX9_laidAt 78 = .ok (.lsub, 1) := by decide +kernel
theorem dX9_laidAt_79 : decode cX9_laidAt 79 = .ok (.goto 28, 3) := by decide +kernel
theorem dX9_laidAt_82 : decode cX9_laidAt 82 = .ok (.aload_n 0, 1) := by decide +kernel
theorem dX9_laidAt_83 : decode cX9_laidAt 83 = .ok (.getfield 209, 3) := by decide +kernel
theorem dX9_laidAt_86 : decode cX9_laidAt 86 = .ok (.aload_n 0, 1) := by decide +kernel
theorem dX9_laidAt_87 : decode cX9_laidAt 87 = .ok (.getfield 212, 3) := by decide +kernel
theorem dX9_laidAt_90 : decode cX9_laidAt 90 = .ok (.lmul, 1) := by decide +kernel
theorem dX9_laidAt_91 : decode cX9_laidAt 91 = .ok (.aload_n 0, 1) := by decide +kernel
theorem dX9_laidAt_92 : decode cX9_laidAt 92 = .ok (.getfield 218, 3) := by decide +kernel
theorem dX9_laidAt_95 : decode cX9_laidAt 95 = .ok (.lload 4, 2) := by decide +kernel
theorem dX9_laidAt_97 : decode cX9_laidAt 97 = .ok (.lmul, 1) := by decide +kernel
theorem dX9_laidAt_98 : decode cX9_laidAt 98 = .ok (.ladd, 1) := by decide +kernel
theorem dX9_laidAt_99 : decode cX9_laidAt 99 = .ok (.aload_n 0, 1) := by decide +kernel
theorem dX9_laidAt_100 : decode cX9_laidAt 100 = .ok (.getfield 215, 3) := by decide +kernel
theorem dX9_laidAt_103 : decode cX9_laidAt 103 = .ok (.lload 6, 2) := by decide +kernel
theorem dX9_laidAt_105 : decode cX9_laidAt 105 = .ok (.lmul, 1) := by decide +kernel
theorem dX9_laidAt_106 : decode cX9_laidAt 106 = .ok (.ladd, 1) := by decide +kernel
theorem dX9_laidAt_107 : decode cX9_laidAt 107 = .ok (.lstore 8, 2) := by decide +kernel
theorem dX9_laidAt_109 : decode cX9_laidAt 109 = .ok (.lload 8, 2) := by decide +kernel
theorem dX9_laidAt_111 : decode cX9_laidAt 111 = .ok (.aload_n 0, 1) := by decide +kernel
theorem dX9_laidAt_112 : decode cX9_laidAt 112 = .ok (.getfield 221, 3) := by decide +kernel
theorem dX9_laidAt_115 : decode cX9_laidAt 115 = .ok (.i2l, 1) := by decide +kernel
theorem dX9_laidAt_116 : decode cX9_laidAt 116 = .ok (.aload_n 0, 1) := by decide +kernel
theorem dX9_laidAt_117 : decode cX9_laidAt 117 = .ok (.getfield 212, 3) := by decide +kernel
theorem dX9_laidAt_120 : decode cX9_laidAt 120 = .ok (.lmul, 1) := by decide +kernel
theorem dX9_laidAt_121 : decode cX9_laidAt 121 = .ok (.invokestatic 224, 3) := by decide +kernel
theorem dX9_laidAt_124 : decode cX9_laidAt 124 = .ok (.lreturn, 1) := by decide +kernel
theorem dX9_pairs_0 : decode cX9_pairs 0 = .ok (.aload_n 0, 1) := by decide +kernel
theorem dX9_pairs_1 : decode cX9_pairs 1 = .ok (.iconst 0, 1) := by decide +kernel
theorem dX9_pairs_2 : decode cX9_pairs 2 = .ok (.putfield 221, 3) := by decide +kernel
theorem dX9_pairs_5 : decode cX9_pairs 5 = .ok (.iconst 0, 1) := by decide +kernel
theorem dX9_pairs_6 : decode cX9_pairs 6 = .ok (.istore_n 2, 1) := by decide +kernel
theorem dX9_pairs_7 : decode cX9_pairs 7 = .ok (.iload_n 2, 1) := by decide +kernel
theorem dX9_pairs_8 : decode cX9_pairs 8 = .ok (.aload_n 0, 1) := by decide +kernel
theorem dX9_pairs_9 : decode cX9_pairs 9 = .ok (.getfield 7, 3) := by decide +kernel
theorem dX9_pairs_12 : decode cX9_pairs 12 = .ok (.iconst 0, 1) := by decide +kernel
theorem dX9_pairs_13 : decode cX9_pairs 13 = .ok (.iaload, 1) := by decide +kernel
theorem dX9_pairs_14 : decode cX9_pairs 14 = .ok (.if_icmp .ge 65, 3) := by decide +kernel
theorem dX9_pairs_17 : decode cX9_pairs 17 = .ok (.aload_n 0, 1) := by decide +kernel
theorem dX9_pairs_18 : decode cX9_pairs 18 = .ok (.getfield 35, 3) := by decide +kernel
theorem dX9_pairs_21 : decode cX9_pairs 21 = .ok (.bipush 8, 2) := by decide +kernel
theorem dX9_pairs_23 : decode cX9_pairs 23 = .ok (.iload_n 1, 1) := by decide +kernel
theorem dX9_pairs_24 : decode cX9_pairs 24 = .ok (.imul, 1) := by decide +kernel
theorem dX9_pairs_25 : decode cX9_pairs 25 = .ok (.iload_n 2, 1) := by decide +kernel
theorem dX9_pairs_26 : decode cX9_pairs 26 = .ok (.iadd, 1) := by decide +kernel
theorem dX9_pairs_27 : decode cX9_pairs 27 = .ok (.iaload, 1) := by decide +kernel
theorem dX9_pairs_28 : decode cX9_pairs 28 = .ok (.bipush (-9), 2) := by decide +kernel
theorem dX9_pairs_30 : decode cX9_pairs 30 = .ok (.if_icmp .eq 43, 3) := by decide +kernel
theorem dX9_pairs_33 : decode cX9_pairs 33 = .ok (.aload_n 0, 1) := by decide +kernel
theorem dX9_pairs_34 : decode cX9_pairs 34 = .ok (.getfield 38, 3) := by decide +kernel
theorem dX9_pairs_37 : decode cX9_pairs 37 = .ok (.aload_n 0, 1) := by decide +kernel
theorem dX9_pairs_38 : decode cX9_pairs 38 = .ok (.getfield 221, 3) := by decide +kernel
theorem dX9_pairs_41 : decode cX9_pairs 41 = .ok (.iload_n 2, 1) := by decide +kernel
theorem dX9_pairs_42 : decode cX9_pairs 42 = .ok (.iastore, 1) := by decide +kernel
theorem dX9_pairs_43 : decode cX9_pairs 43 = .ok (.aload_n 0, 1) := by decide +kernel
theorem dX9_pairs_44 : decode cX9_pairs 44 = .ok (.getfield 41, 3) := by decide +kernel
theorem dX9_pairs_47 : decode cX9_pairs 47 = .ok (.aload_n 0, 1) := by decide +kernel
theorem dX9_pairs_48 : decode cX9_pairs 48 = .ok (.getfield 221, 3) := by decide +kernel
theorem dX9_pairs_51 : decode cX9_pairs 51 = .ok (.aload_n 0, 1) := by decide +kernel
theorem dX9_pairs_52 : decode cX9_pairs 52 = .ok (.getfield 35, 3) := by decide +kernel
theorem dX9_pairs_55 : decode cX9_pairs 55 = .ok (.bipush 8, 2) := by decide +kernel
theorem dX9_pairs_57 : decode cX9_pairs 57 = .ok (.iload_n 1, 1) := by decide +kernel
theorem dX9_pairs_58 : decode cX9_pairs 58 = .ok (.imul, 1) := by decide +kernel
theorem dX9_pairs_59 : decode cX9_pairs 59 = .ok (.iload_n 2, 1) := by decide +kernel
theorem dX9_pairs_60 : decode cX9_pairs 60 = .ok (.iadd, 1) := by decide +kernel
theorem dX9_pairs_61 : decode cX9_pairs 61 = .ok (.iaload, 1) := by decide +kernel
theorem dX9_pairs_62 : decode cX9_pairs 62 = .ok (.iastore, 1) := by decide +kernel
theorem dX9_pairs_63 : decode cX9_pairs 63 = .ok (.aload_n 0, 1) := by decide +kernel
theorem dX9_pairs_64 : decode cX9_pairs 64 = .ok (.dup, 1) := by decide +kernel
theorem dX9_pairs_65 : decode cX9_pairs 65 = .ok (.getfield 221, 3) := by decide +kernel
theorem dX9_pairs_68 : decode cX9_pairs 68 = .ok (.iconst 1, 1) := by decide +kernel
theorem dX9_pairs_69 : decode cX9_pairs 69 = .ok (.iadd, 1) := by decide +kernel
theorem dX9_pairs_70 : decode cX9_pairs 70 = .ok (.putfield 221, 3) := by decide +kernel
theorem dX9_pairs_73 : decode cX9_pairs 73 = .ok (.iinc 2 1, 3) := by decide +kernel
theorem dX9_pairs_76 : decode cX9_pairs 76 = .ok (.goto (-69), 3) := by decide +kernel
theorem dX9_pairs_79 : decode cX9_pairs 79 = .ok (.aload_n 0, 1) := by decide +kernel
theorem dX9_pairs_80 : decode cX9_pairs 80 = .ok (.iconst 0, 1) := by decide +kernel
theorem dX9_pairs_81 : decode cX9_pairs 81 = .ok (.iconst 1, 1) := by decide +kernel
theorem dX9_pairs_82 : decode cX9_pairs 82 = .ok (.iload_n 1, 1) := by decide +kernel
theorem dX9_pairs_83 : decode cX9_pairs 83 = .ok (.iadd, 1) := by decide +kernel
theorem dX9_pairs_84 : decode cX9_pairs 84 = .ok (.invokevirtual 228, 3) := by decide +kernel
theorem dX9_pairs_87 : decode cX9_pairs 87 = .ok (.return_, 1) := by decide +kernel
theorem dX9_squareTo_0 : decode cX9_squareTo 0 = .ok (.aload_n 0, 1) := by decide +kernel
theorem dX9_squareTo_1 : decode cX9_squareTo 1 = .ok (.iload_n 1, 1) := by decide +kernel
theorem dX9_squareTo_2 : decode cX9_squareTo 2 = .ok (.iload_n 2, 1) := by decide +kernel
theorem dX9_squareTo_3 : decode cX9_squareTo 3 = .ok (.iconst 0, 1) := by decide +kernel
theorem dX9_squareTo_4 : decode cX9_squareTo 4 = .ok (.invokevirtual 232, 3) := by decide +kernel
theorem dX9_squareTo_7 : decode cX9_squareTo 7 = .ok (.aload_n 0, 1) := by decide +kernel
theorem dX9_squareTo_8 : decode cX9_squareTo 8 = .ok (.getfield 13, 3) := by decide +kernel
theorem dX9_squareTo_11 : decode cX9_squareTo 11 = .ok (.bipush 8, 2) := by decide +kernel
theorem dX9_squareTo_13 : decode cX9_squareTo 13 = .ok (.iload_n 3, 1) := by decide +kernel
theorem dX9_squareTo_14 : decode cX9_squareTo 14 = .ok (.imul, 1) := by decide +kernel
theorem dX9_squareTo_15 : decode cX9_squareTo 15 = .ok (.iload 4, 2) := by decide +kernel
theorem dX9_squareTo_17 : decode cX9_squareTo 17 = .ok (.iadd, 1) := by decide +kernel
theorem dX9_squareTo_18 : decode cX9_squareTo 18 = .ok (.iaload, 1) := by decide +kernel
theorem dX9_squareTo_19 : decode cX9_squareTo 19 = .ok (.i2l, 1) := by decide +kernel
theorem dX9_squareTo_20 : decode cX9_squareTo 20 = .ok (.lsub, 1) := by decide +kernel
theorem dX9_squareTo_21 : decode cX9_squareTo 21 = .ok (.lstore 5, 2) := by decide +kernel
theorem dX9_squareTo_23 : decode cX9_squareTo 23 = .ok (.aload_n 0, 1) := by decide +kernel
theorem dX9_squareTo_24 : decode cX9_squareTo 24 = .ok (.iload_n 1, 1) := by decide +kernel
theorem dX9_squareTo_25 : decode cX9_squareTo 25 = .ok (.iload_n 2, 1) := by decide +kernel
theorem dX9_squareTo_26 : decode cX9_squareTo 26 = .ok (.iconst 1, 1) := by decide +kernel
theorem dX9_squareTo_27 : decode cX9_squareTo 27 = .ok (.invokevirtual 232, 3) := by decide +kernel
theorem dX9_squareTo_30 : decode cX9_squareTo 30 = .ok (.aload_n 0, 1) := by decide +kernel
theorem dX9_squareTo_31 : decode cX9_squareTo 31 = .ok (.getfield 16, 3) := by decide +kernel
theorem dX9_squareTo_34 : decode cX9_squareTo 34 = .ok (.bipush 8, 2) := by decide +kernel
theorem dX9_squareTo_36 : decode cX9_squareTo 36 = .ok (.iload_n 3, 1) := by decide +kernel
theorem dX9_squareTo_37 : decode cX9_squareTo 37 = .ok (.imul, 1) := by decide +kernel
theorem dX9_squareTo_38 : decode cX9_squareTo 38 = .ok (.iload 4, 2) := by decide +kernel
theorem dX9_squareTo_40 : decode cX9_squareTo 40 = .ok (.iadd, 1) := by decide +kernel
theorem dX9_squareTo_41 : decode cX9_squareTo 41 = .ok (.iaload, 1) := by decide +kernel
theorem dX9_squareTo_42 : decode cX9_squareTo 42 = .ok (.i2l, 1) := by decide +kernel
theorem dX9_squareTo_43 : decode cX9_squareTo 43 = .ok (.lsub, 1) := by decide +kernel
theorem dX9_squareTo_44 : decode cX9_squareTo 44 = .ok (.lstore 7, 2) := by decide +kernel
theorem dX9_squareTo_46 : decode cX9_squareTo 46 = .ok (.lload 5, 2) := by decide +kernel
theorem dX9_squareTo_48 : decode cX9_squareTo 48 = .ok (.lload 5, 2) := by decide +kernel
theorem dX9_squareTo_50 : decode cX9_squareTo 50 = .ok (.lmul, 1) := by decide +kernel
theorem dX9_squareTo_51 : decode cX9_squareTo 51 = .ok (.lload 7, 2) := by decide +kernel
theorem dX9_squareTo_53 : decode cX9_squareTo 53 = .ok (.lload 7, 2) := by decide +kernel
theorem dX9_squareTo_55 : decode cX9_squareTo 55 = .ok (.lmul, 1) := by decide +kernel
theorem dX9_squareTo_56 : decode cX9_squareTo 56 = .ok (.ladd, 1) := by decide +kernel
theorem dX9_squareTo_57 : decode cX9_squareTo 57 = .ok (.lreturn, 1) := by decide +kernel
theorem dX9_offOf_0 : decode cX9_offOf 0 = .ok (.aload_n 0, 1) := by decide +kernel
theorem dX9_offOf_1 : decode cX9_offOf 1 = .ok (.iconst 0, 1) := by decide +kernel
theorem dX9_offOf_2 : decode cX9_offOf 2 = .ok (.iload_n 2, 1) := by decide +kernel
theorem dX9_offOf_3 : decode cX9_offOf 3 = .ok (.iconst 1, 1) := by decide +kernel
theorem dX9_offOf_4 : decode cX9_offOf 4 = .ok (.iload_n 1, 1) := by decide +kernel
theorem dX9_offOf_5 : decode cX9_offOf 5 = .ok (.iadd, 1) := by decide +kernel
theorem dX9_offOf_6 : decode cX9_offOf 6 = .ok (.aload_n 0, 1) := by decide +kernel
theorem dX9_offOf_7 : decode cX9_offOf 7 = .ok (.getfield 35, 3) := by decide +kernel
theorem dX9_offOf_10 : decode cX9_offOf 10 = .ok (.bipush 8, 2) := by decide +kernel
theorem dX9_offOf_12 : decode cX9_offOf 12 = .ok (.iload_n 1, 1) := by decide +kernel
theorem dX9_offOf_13 : decode cX9_offOf 13 = .ok (.imul, 1) := by decide +kernel
theorem dX9_offOf_14 : decode cX9_offOf 14 = .ok (.iload_n 2, 1) := by decide +kernel
theorem dX9_offOf_15 : decode cX9_offOf 15 = .ok (.iadd, 1) := by decide +kernel
theorem dX9_offOf_16 : decode cX9_offOf 16 = .ok (.iaload, 1) := by decide +kernel
theorem dX9_offOf_17 : decode cX9_offOf 17 = .ok (.invokevirtual 235, 3) := by decide +kernel
theorem dX9_offOf_20 : decode cX9_offOf 20 = .ok (.lreturn, 1) := by decide +kernel
theorem dX9_findCleaned_0 : decode cX9_findCleaned 0 = .ok (.aload_n 0, 1) := by decide +kernel
theorem dX9_findCleaned_1 : decode cX9_findCleaned 1 = .ok (.iload_n 1, 1) := by decide +kernel
theorem dX9_findCleaned_2 : decode cX9_findCleaned 2 = .ok (.invokevirtual 238, 3) := by decide +kernel
theorem dX9_findCleaned_5 : decode cX9_findCleaned 5 = .ok (.istore_n 2, 1) := by decide +kernel
theorem dX9_findCleaned_6 : decode cX9_findCleaned 6 = .ok (.aload_n 0, 1) := by decide +kernel
theorem dX9_findCleaned_7 : decode cX9_findCleaned 7 = .ok (.iload_n 1, 1) := by decide +kernel
theorem dX9_findCleaned_8 : decode cX9_findCleaned 8 = .ok (.invokevirtual 241, 3) := by decide +kernel
theorem dX9_findCleaned_11 : decode cX9_findCleaned 11 = .ok (.iload_n 2, 1) := by decide +kernel
theorem dX9_findCleaned_12 : decode cX9_findCleaned 12 = .ok (.iconst 2, 1) := by decide +kernel
theorem dX9_findCleaned_13 : decode cX9_findCleaned 13 = .ok (.if_icmp .le 7, 3) := by decide +kernel
theorem dX9_findCleaned_16 : decode cX9_findCleaned 16 = .ok (.iconst 1, 1) := by decide +kernel
theorem dX9_findCleaned_17 : decode cX9_findCleaned 17 = .ok (.goto 4, 3) := by decide +kernel
theorem dX9_findCleaned_20 : decode cX9_findCleaned 20 = .ok (.iconst 0, 1) := by decide +kernel
theorem dX9_findCleaned_21 : decode cX9_findCleaned 21 = .ok (.istore_n 3, 1) := by decide +kernel
theorem dX9_findCleaned_22 : decode cX9_findCleaned 22 = .ok (.iload_n 3, 1) := by decide +kernel
theorem dX9_findCleaned_23 : decode cX9_findCleaned 23 = .ok (.ifCond .eq 134, 3) := by decide +kernel
theorem dX9_findCleaned_26 : decode cX9_findCleaned 26 = .ok (.aload_n 0, 1) := by decide +kernel
theorem dX9_findCleaned_27 : decode cX9_findCleaned 27 = .ok (.getfield 38, 3) := by decide +kernel
theorem dX9_findCleaned_30 : decode cX9_findCleaned 30 = .ok (.iconst 0, 1) := by decide +kernel
theorem dX9_findCleaned_31 : decode cX9_findCleaned 31 = .ok (.iaload, 1) := by decide +kernel
theorem dX9_findCleaned_32 : decode cX9_findCleaned 32 = .ok (.istore 4, 2) := by decide +kernel
theorem dX9_findCleaned_34 : decode cX9_findCleaned 34 = .ok (.iconst 1, 1) := by decide +kernel
theorem dX9_findCleaned_35 : decode cX9_findCleaned 35 = .ok (.istore 5, 2) := by decide +kernel
theorem dX9_findCleaned_37 : decode cX9_findCleaned 37 = .ok (.iload 5, 2) := by decide +kernel
theorem dX9_findCleaned_39 : decode cX9_findCleaned 39 = .ok (.aload_n 0, 1) := by decide +kernel
theorem dX9_findCleaned_40 : decode cX9_findCleaned 40 = .ok (.getfield 221, 3) := by decide +kernel
theorem dX9_findCleaned_43 : decode cX9_findCleaned 43 = .ok (.if_icmp .ge 46, 3) := by decide +kernel
theorem dX9_findCleaned_46 : decode cX9_findCleaned 46 = .ok (.aload_n 0, 1) := by decide +kernel
theorem dX9_findCleaned_47 : decode cX9_findCleaned 47 = .ok (.iload_n 1, 1) := by decide +kernel
theorem dX9_findCleaned_48 : decode cX9_findCleaned 48 = .ok (.aload_n 0, 1) := by decide +kernel
theorem dX9_findCleaned_49 : decode cX9_findCleaned 49 = .ok (.getfield 38, 3) := by decide +kernel
theorem dX9_findCleaned_52 : decode cX9_findCleaned 52 = .ok (.iload 5, 2) := by decide +kernel
theorem dX9_findCleaned_54 : decode cX9_findCleaned 54 = .ok (.iaload, 1) := by decide +kernel
theorem dX9_findCleaned_55 : decode cX9_findCleaned 55 = .ok (.invokevirtual 244, 3) := by decide +kernel
theorem dX9_findCleaned_58 : decode cX9_findCleaned 58 = .ok (.aload_n 0, 1) := by decide +kernel
theorem dX9_findCleaned_59 : decode cX9_findCleaned 59 = .ok (.iload_n 1, 1) := by decide +kernel
theorem dX9_findCleaned_60 : decode cX9_findCleaned 60 = .ok (.iload 4, 2) := by decide +kernel
theorem dX9_findCleaned_62 : decode cX9_findCleaned 62 = .ok (.invokevirtual 244, 3) := by decide +kernel
theorem dX9_findCleaned_65 : decode cX9_findCleaned 65 = .ok (.lcmp, 1) := by decide +kernel
theorem dX9_findCleaned_66 : decode cX9_findCleaned 66 = .ok (.ifCond .le 13, 3) := by decide +kernel
theorem dX9_findCleaned_69 : decode cX9_findCleaned 69 = .ok (.aload_n 0, 1) := by decide +kernel
theorem dX9_findCleaned_70 : decode cX9_findCleaned 70 = .ok (.getfield 38, 3) := by decide +kernel
theorem dX9_findCleaned_73 : decode cX9_findCleaned 73 = .ok (.iload 5, 2) := by decide +kernel
theorem dX9_findCleaned_75 : decode cX9_findCleaned 75 = .ok (.iaload, 1) := by decide +kernel
theorem dX9_findCleaned_76 : decode cX9_findCleaned 76 = .ok (.goto 5, 3) := by decide +kernel
theorem dX9_findCleaned_79 : decode cX9_findCleaned 79 = .ok (.iload 4, 2) := by decide +kernel
theorem dX9_findCleaned_81 : decode cX9_findCleaned 81 = .ok (.istore 4, 2) := by decide +kernel
theorem dX9_findCleaned_83 : decode cX9_findCleaned 83 = .ok (.iinc 5 1, 3) := by decide +kernel
theorem dX9_findCleaned_86 : decode cX9_findCleaned 86 = .ok (.goto (-49), 3) := by decide +kernel
theorem dX9_findCleaned_89 : decode cX9_findCleaned 89 = .ok (.aload_n 0, 1) := by decide +kernel
theorem dX9_findCleaned_90 : decode cX9_findCleaned 90 = .ok (.iload_n 1, 1) := by decide +kernel
theorem dX9_findCleaned_91 : decode cX9_findCleaned 91 = .ok (.iload 4, 2) := by decide +kernel
theorem dX9_findCleaned_93 : decode cX9_findCleaned 93 = .ok (.invokevirtual 244, 3) := by decide +kernel
theorem dX9_findCleaned_96 : decode cX9_findCleaned 96 = .ok (.aload_n 0, 1) := by decide +kernel
theorem dX9_findCleaned_97 : decode cX9_findCleaned 97 = .ok (.getfield 23, 3) := by decide +kernel
theorem dX9_findCleaned_100 : decode cX9_findCleaned 100 = .ok (.iconst 1, 1) := by decide +kernel
theorem dX9_findCleaned_101 : decode cX9_findCleaned 101 = .ok (.iaload, 1) := by decide +kernel
theorem dX9_findCleaned_102 : decode cX9_findCleaned 102 = .ok (.i2l, 1) := by decide +kernel
theorem dX9_findCleaned_103 : decode cX9_findCleaned 103 = .ok (.lcmp, 1) := by decide +kernel
theorem dX9_findCleaned_104 : decode cX9_findCleaned 104 = .ok (.ifCond .le 7, 3) := by decide +kernel
theorem dX9_findCleaned_107 : decode cX9_findCleaned 107 = .ok (.iconst 1, 1) := by decide +kernel
theorem dX9_findCleaned_108 : decode cX9_findCleaned 108 = .ok (.goto 4, 3) := by decide +kernel
theorem dX9_findCleaned_111 : decode cX9_findCleaned 111 = .ok (.iconst 0, 1) := by decide +kernel
theorem dX9_findCleaned_112 : decode cX9_findCleaned 112 = .ok (.istore_n 3, 1) := by decide +kernel
theorem dX9_findCleaned_113 : decode cX9_findCleaned 113 = .ok (.iload_n 3, 1) := by decide +kernel
theorem dX9_findCleaned_114 : decode cX9_findCleaned 114 = .ok (.ifCond .eq 25, 3) := by decide +kernel
theorem dX9_findCleaned_117 : decode cX9_findCleaned 117 = .ok (.aload_n 0, 1) := by decide +kernel
theorem dX9_findCleaned_118 : decode cX9_findCleaned 118 = .ok (.getfield 35, 3) := by decide +kernel
theorem dX9_findCleaned_121 : decode cX9_findCleaned 121 = .ok (.bipush 8, 2) := by decide +kernel
theorem dX9_findCleaned_123 : decode cX9_findCleaned 123 = .ok (.iload_n 1, 1) := by decide +kernel
theorem dX9_findCleaned_124 : decode cX9_findCleaned 124 = .ok (.imul, 1) := by decide +kernel
theorem dX9_findCleaned_125 : decode cX9_findCleaned 125 = .ok (.iload 4, 2) := by decide +kernel
theorem dX9_findCleaned_127 : decode cX9_findCleaned 127 = .ok (.iadd, 1) := by decide +kernel
theorem dX9_findCleaned_128 : decode cX9_findCleaned 128 = .ok (.bipush (-9), 2) := by decide +kernel
theorem dX9_findCleaned_130 : decode cX9_findCleaned 130 = .ok (.iastore, 1) := by decide +kernel
theorem dX9_findCleaned_131 : decode cX9_findCleaned 131 = .ok (.iinc 2 (-1), 3) := by decide +kernel
theorem dX9_findCleaned_134 : decode cX9_findCleaned 134 = .ok (.aload_n 0, 1) := by decide +kernel
theorem dX9_findCleaned_135 : decode cX9_findCleaned 135 = .ok (.iload_n 1, 1) := by decide +kernel
theorem dX9_findCleaned_136 : decode cX9_findCleaned 136 = .ok (.invokevirtual 241, 3) := by decide +kernel
theorem dX9_findCleaned_139 : decode cX9_findCleaned 139 = .ok (.iload_n 3, 1) := by decide +kernel
theorem dX9_findCleaned_140 : decode cX9_findCleaned 140 = .ok (.ifCond .eq 12, 3) := by decide +kernel
theorem dX9_findCleaned_143 : decode cX9_findCleaned 143 = .ok (.iload_n 2, 1) := by decide +kernel
theorem dX9_findCleaned_144 : decode cX9_findCleaned 144 = .ok (.iconst 2, 1) := by decide +kernel
theorem dX9_findCleaned_145 : decode cX9_findCleaned 145 = .ok (.if_icmp .le 7, 3) := by decide +kernel
theorem dX9_findCleaned_148 : decode cX9_findCleaned 148 = .ok (.iconst 1, 1) := by decide +kernel
theorem dX9_findCleaned_149 : decode cX9_findCleaned 149 = .ok (.goto 4, 3) := by decide +kernel
theorem dX9_findCleaned_152 : decode cX9_findCleaned 152 = .ok (.iconst 0, 1) := by decide +kernel
theorem dX9_findCleaned_153 : decode cX9_findCleaned 153 = .ok (.istore_n 3, 1) := by decide +kernel
theorem dX9_findCleaned_154 : decode cX9_findCleaned 154 = .ok (.goto (-132), 3) := by decide +kernel
theorem dX9_findCleaned_157 : decode cX9_findCleaned 157 = .ok (.iload_n 2, 1) := by decide +kernel
theorem dX9_findCleaned_158 : decode cX9_findCleaned 158 = .ok (.ireturn, 1) := by decide +kernel
theorem dX9_match_0 : decode cX9_match 0 = .ok (.iload_n 1, 1) := by decide +kernel
theorem dX9_match_1 : decode cX9_match 1 = .ok (.invokestatic 90, 3) := by decide +kernel
theorem dX9_match_4 : decode cX9_match 4 = .ok (.ifCond .eq 12, 3) := by decide +kernel
theorem dX9_match_7 : decode cX9_match 7 = .ok (.aload_n 0, 1) := by decide +kernel
theorem dX9_match_8 : decode cX9_match 8 = .ok (.iconst 0, 1) := by decide +kernel
theorem dX9_match_9 : decode cX9_match 9 = .ok (.iload_n 2, 1) := by decide +kernel
theorem dX9_match_10 : decode cX9_match 10 = .ok (.invokevirtual 94, 3) := by decide +kernel
theorem dX9_match_13 : decode cX9_match 13 = .ok (.ifCond .ne 5, 3) := by decide +kernel
theorem dX9_match_16 : decode cX9_match 16 = .ok (.iconst (-1), 1) := by decide +kernel
theorem dX9_match_17 : decode cX9_match 17 = .ok (.ireturn, 1) := by decide +kernel
theorem dX9_match_18 : decode cX9_match 18 = .ok (.iload_n 3, 1) := by decide +kernel
theorem dX9_match_19 : decode cX9_match 19 = .ok (.ifCond .eq 11, 3) := by decide +kernel
theorem dX9_match_22 : decode cX9_match 22 = .ok (.aload_n 0, 1) := by decide +kernel
theorem dX9_match_23 : decode cX9_match 23 = .ok (.iload_n 1, 1) := by decide +kernel
theorem dX9_match_24 : decode cX9_match 24 = .ok (.invokevirtual 248, 3) := by decide +kernel
theorem dX9_match_27 : decode cX9_match 27 = .ok (.goto 8, 3) := by decide +kernel
theorem dX9_match_30 : decode cX9_match 30 = .ok (.aload_n 0, 1) := by decide +kernel
theorem dX9_match_31 : decode cX9_match 31 = .ok (.iload_n 1, 1) := by decide +kernel
theorem dX9_match_32 : decode cX9_match 32 = .ok (.invokevirtual 238, 3) := by decide +kernel
theorem dX9_match_35 : decode cX9_match 35 = .ok (.istore 4, 2) := by decide +kernel
theorem dX9_match_37 : decode cX9_match 37 = .ok (.iload 4, 2) := by decide +kernel
theorem dX9_match_39 : decode cX9_match 39 = .ok (.ifCond .ne 8, 3) := by decide +kernel
theorem dX9_match_42 : decode cX9_match 42 = .ok (.bipush (-9), 2) := by decide +kernel
theorem dX9_match_44 : decode cX9_match 44 = .ok (.goto 14, 3) := by decide +kernel
theorem dX9_match_47 : decode cX9_match 47 = .ok (.aload_n 0, 1) := by decide +kernel
theorem dX9_match_48 : decode cX9_match 48 = .ok (.getfield 35, 3) := by decide +kernel
theorem dX9_match_51 : decode cX9_match 51 = .ok (.bipush 8, 2) := by decide +kernel
theorem dX9_match_53 : decode cX9_match 53 = .ok (.iload_n 1, 1) := by decide +kernel
theorem dX9_match_54 : decode cX9_match 54 = .ok (.imul, 1) := by decide +kernel
theorem dX9_match_55 : decode cX9_match 55 = .ok (.iload_n 2, 1) := by decide +kernel
theorem dX9_match_56 : decode cX9_match 56 = .ok (.iadd, 1) := by decide +kernel
theorem dX9_match_57 : decode cX9_match 57 = .ok (.iaload, 1) := by decide +kernel
theorem dX9_match_58 : decode cX9_match 58 = .ok (.ireturn, 1) := by decide +kernel
theorem dX9_common_0 : decode cX9_common 0 = .ok (.lload_n 0, 1) := by decide +kernel
theorem dX9_common_1 : decode cX9_common 1 = .ok (.lconst 0, 1) := by decide +kernel
theorem dX9_common_2 : decode cX9_common 2 = .ok (.lcmp, 1) := by decide +kernel
theorem dX9_common_3 : decode cX9_common 3 = .ok (.ifCond .ge 8, 3) := by decide +kernel
theorem dX9_common_6 : decode cX9_common 6 = .ok (.lload_n 0, 1) := by decide +kernel
theorem dX9_common_7 : decode cX9_common 7 = .ok (.lneg, 1) := by decide +kernel
theorem dX9_common_8 : decode cX9_common 8 = .ok (.goto 4, 3) := by decide +kernel
theorem dX9_common_11 : decode cX9_common 11 = .ok (.lload_n 0, 1) := by decide +kernel
theorem dX9_common_12 : decode cX9_common 12 = .ok (.lstore 4, 2) := by decide +kernel
theorem dX9_common_14 : decode cX9_common 14 = .ok (.lload_n 2, 1) := by decide +kernel
theorem dX9_common_15 : decode cX9_common 15 = .ok (.lstore 6, 2) := by decide +kernel
theorem dX9_common_17 : decode cX9_common 17 = .ok (.lload 6, 2) := by decide +kernel
theorem dX9_common_19 : decode cX9_common 19 = .ok (.lconst 0, 1) := by decide +kernel
theorem dX9_common_20 : decode cX9_common 20 = .ok (.lcmp, 1) := by decide +kernel
theorem dX9_common_21 : decode cX9_common 21 = .ok (.ifCond .le 21, 3) := by decide +kernel
theorem dX9_common_24 : decode cX9_common 24 = .ok (.lload 4, 2) := by decide +kernel
theorem dX9_common_26 : decode cX9_common 26 = .ok (.lload 6, 2) := by decide +kernel
theorem dX9_common_28 : decode cX9_common 28 = .ok (.lrem, 1) := by decide +kernel
theorem dX9_common_29 : decode cX9_common 29 = .ok (.lstore 8, 2) := by decide +kernel
theorem dX9_common_31 : decode cX9_common 31 = .ok (.lload 6, 2) := by decide +kernel
theorem dX9_common_33 : decode cX9_common 33 = .ok (.lstore 4, 2) := by decide +kernel
theorem dX9_common_35 : decode cX9_common 35 = .ok (.lload 8, 2) := by decide +kernel
theorem dX9_common_37 : decode cX9_common 37 = .ok (.lstore 6, 2) := by decide +kernel
theorem dX9_common_39 : decode cX9_common 39 = .ok (.goto (-22), 3) := by decide +kernel
theorem dX9_common_42 : decode cX9_common 42 = .ok (.lload 4, 2) := by decide +kernel
theorem dX9_common_44 : decode cX9_common 44 = .ok (.lreturn, 1) := by decide +kernel
theorem dX9_fit_0 : decode cX9_fit 0 = .ok (.iload_n 1, 1) := by decide +kernel
theorem dX9_fit_1 : decode cX9_fit 1 = .ok (.invokestatic 90, 3) := by decide +kernel
theorem dX9_fit_4 : decode cX9_fit 4 = .ok (.ifCond .eq 30, 3) := by decide +kernel
theorem dX9_fit_7 : decode cX9_fit 7 = .ok (.iload_n 2, 1) := by decide +kernel
theorem dX9_fit_8 : decode cX9_fit 8 = .ok (.iconst 0, 1) := by decide +kernel
theorem dX9_fit_9 : decode cX9_fit 9 = .ok (.iconst 1, 1) := by decide +kernel
theorem dX9_fit_10 : decode cX9_fit 10 = .ok (.invokestatic 75, 3) := by decide +kernel
theorem dX9_fit_13 : decode cX9_fit 13 = .ok (.ifCond .eq 21, 3) := by decide +kernel
theorem dX9_fit_16 : decode cX9_fit 16 = .ok (.iload_n 3, 1) := by decide +kernel
theorem dX9_fit_17 : decode cX9_fit 17 = .ok (.iconst 0, 1) := by decide +kernel
theorem dX9_fit_18 : decode cX9_fit 18 = .ok (.iconst 1, 1) := by decide +kernel
theorem dX9_fit_19 : decode cX9_fit 19 = .ok (.invokestatic 75, 3) := by decide +kernel
theorem dX9_fit_22 : decode cX9_fit 22 = .ok (.ifCond .eq 12, 3) := by decide +kernel
theorem dX9_fit_25 : decode cX9_fit 25 = .ok (.aload_n 0, 1) := by decide +kernel
theorem dX9_fit_26 : decode cX9_fit 26 = .ok (.iload_n 1, 1) := by decide +kernel
theorem dX9_fit_27 : decode cX9_fit 27 = .ok (.invokevirtual 248, 3) := by decide +kernel
theorem dX9_fit_30 : decode cX9_fit 30 = .ok (.iconst 2, 1) := by decide +kernel
theorem dX9_fit_31 : decode cX9_fit 31 = .ok (.if_icmp .ge 7, 3) := by decide +kernel
theorem dX9_fit_34 : decode cX9_fit 34 = .ok (.ldc2_w 251, 3) := by decide +kernel
theorem dX9_fit_37 : decode cX9_fit 37 = .ok (.lreturn, 1) := by decide +kernel
theorem dX9_fit_38 : decode cX9_fit 38 = .ok (.iload_n 2, 1) := by decide +kernel
theorem dX9_fit_39 : decode cX9_fit 39 = .ok (.ifCond .ne 10, 3) := by decide +kernel
theorem dX9_fit_42 : decode cX9_fit 42 = .ok (.aload_n 0, 1) := by decide +kernel
theorem dX9_fit_43 : decode cX9_fit 43 = .ok (.getfield 215, 3) := by decide +kernel
theorem dX9_fit_46 : decode cX9_fit 46 = .ok (.goto 7, 3) := by decide +kernel
theorem dX9_fit_49 : decode cX9_fit 49 = .ok (.aload_n 0, 1) := by decide +kernel
theorem dX9_fit_50 : decode cX9_fit 50 = .ok (.getfield 218, 3) := by decide +kernel
theorem dX9_fit_53 : decode cX9_fit 53 = .ok (.lstore 4, 2) := by decide +kernel
theorem dX9_fit_55 : decode cX9_fit 55 = .ok (.iload_n 3, 1) := by decide +kernel
theorem dX9_fit_56 : decode cX9_fit 56 = .ok (.ifCond .ne 8, 3) := by decide +kernel
theorem dX9_fit_59 : decode cX9_fit 59 = .ok (.lload 4, 2) := by decide +kernel
theorem dX9_fit_61 : decode cX9_fit 61 = .ok (.goto 7, 3) := by decide +kernel
theorem dX9_fit_64 : decode cX9_fit 64 = .ok (.aload_n 0, 1) := by decide +kernel
theorem dX9_fit_65 : decode cX9_fit 65 = .ok (.getfield 212, 3) := by decide +kernel
theorem dX9_fit_68 : decode cX9_fit 68 = .ok (.lload 4, 2) := by decide +kernel
theorem dX9_fit_70 : decode cX9_fit 70 = .ok (.aload_n 0, 1) := by decide +kernel
theorem dX9_fit_71 : decode cX9_fit 71 = .ok (.getfield 212, 3) := by decide +kernel
theorem dX9_fit_74 : decode cX9_fit 74 = .ok (.invokestatic 253, 3) := by decide +kernel
theorem dX9_fit_77 : decode cX9_fit 77 = .ok (.ldiv, 1) := by decide +kernel
theorem dX9_fit_78 : decode cX9_fit 78 = .ok (.lreturn, 1) := by decide +kernel
theorem dX9_laid_0 : decode cX9_laid 0 = .ok (.iload_n 1, 1) := by decide +kernel
theorem dX9_laid_1 : decode cX9_laid 1 = .ok (.invokestatic 90, 3) := by decide +kernel
theorem dX9_laid_4 : decode cX9_laid 4 = .ok (.ifCond .eq 25, 3) := by decide +kernel
theorem dX9_laid_7 : decode cX9_laid 7 = .ok (.aload_n 0, 1) := by decide +kernel
theorem dX9_laid_8 : decode cX9_laid 8 = .ok (.iconst 0, 1) := by decide +kernel
theorem dX9_laid_9 : decode cX9_laid 9 = .ok (.iload_n 2, 1) := by decide +kernel
theorem dX9_laid_10 : decode cX9_laid 10 = .ok (.invokevirtual 94, 3) := by decide +kernel
theorem dX9_laid_13 : decode cX9_laid 13 = .ok (.ifCond .eq 16, 3) := by decide +kernel
theorem dX9_laid_16 : decode cX9_laid 16 = .ok (.iload_n 3, 1) := by decide +kernel
theorem dX9_laid_17 : decode cX9_laid 17 = .ok (.iconst 0, 1) := by decide +kernel
theorem dX9_laid_18 : decode cX9_laid 18 = .ok (.iconst 1, 1) := by decide +kernel
theorem dX9_laid_19 : decode cX9_laid 19 = .ok (.invokestatic 75, 3) := by decide +kernel
theorem dX9_laid_22 : decode cX9_laid 22 = .ok (.ifCond .eq 7, 3) := by decide +kernel
theorem dX9_laid_25 : decode cX9_laid 25 = .ok (.iconst 1, 1) := by decide +kernel
theorem dX9_laid_26 : decode cX9_laid 26 = .ok (.goto 4, 3) := by decide +kernel
theorem dX9_laid_29 : decode cX9_laid 29 = .ok (.iconst 0, 1) := by decide +kernel
theorem dX9_laid_30 : decode cX9_laid 30 = .ok (.istore 4, 2) := by decide +kernel
theorem dX9_laid_32 : decode cX9_laid 32 = .ok (.iload 4, 2) := by decide +kernel
theorem dX9_laid_34 : decode cX9_laid 34 = .ok (.ifCond .eq 22, 3) := by decide +kernel
theorem dX9_laid_37 : decode cX9_laid 37 = .ok (.aload_n 0, 1) := by decide +kernel
theorem dX9_laid_38 : decode cX9_laid 38 = .ok (.iload_n 1, 1) := by decide +kernel
theorem dX9_laid_39 : decode cX9_laid 39 = .ok (.invokevirtual 248, 3) := by decide +kernel
theorem dX9_laid_42 : decode cX9_laid 42 = .ok (.iconst 1, 1) := by decide +kernel
theorem dX9_laid_43 : decode cX9_laid 43 = .ok (.if_icmp .le 13, 3) := by decide +kernel
theorem dX9_laid_46 : decode cX9_laid 46 = .ok (.aload_n 0, 1) := by decide +kernel
theorem dX9_laid_47 : decode cX9_laid 47 = .ok (.iconst 0, 1) := by decide +kernel
theorem dX9_laid_48 : decode cX9_laid 48 = .ok (.iload_n 2, 1) := by decide +kernel
theorem dX9_laid_49 : decode cX9_laid 49 = .ok (.iload_n 3, 1) := by decide +kernel
theorem dX9_laid_50 : decode cX9_laid 50 = .ok (.invokevirtual 232, 3) := by decide +kernel
theorem dX9_laid_53 : decode cX9_laid 53 = .ok (.goto 6, 3) := by decide +kernel
theorem dX9_laid_56 : decode cX9_laid 56 = .ok (.ldc2_w 251, 3) := by decide +kernel
theorem dX9_laid_59 : decode cX9_laid 59 = .ok (.lreturn, 1) := by decide +kernel
theorem dX9_off_0 : decode cX9_off 0 = .ok (.iload_n 1, 1) := by decide +kernel
theorem dX9_off_1 : decode cX9_off 1 = .ok (.invokestatic 90, 3) := by decide +kernel
theorem dX9_off_4 : decode cX9_off 4 = .ok (.ifCond .eq 16, 3) := by decide +kernel
theorem dX9_off_7 : decode cX9_off 7 = .ok (.aload_n 0, 1) := by decide +kernel
theorem dX9_off_8 : decode cX9_off 8 = .ok (.iconst 0, 1) := by decide +kernel
theorem dX9_off_9 : decode cX9_off 9 = .ok (.iload_n 2, 1) := by decide +kernel
theorem dX9_off_10 : decode cX9_off 10 = .ok (.invokevirtual 94, 3) := by decide +kernel
theorem dX9_off_13 : decode cX9_off 13 = .ok (.ifCond .eq 7, 3) := by decide +kernel
theorem dX9_off_16 : decode cX9_off 16 = .ok (.iconst 1, 1) := by decide +kernel
theorem dX9_off_17 : decode cX9_off 17 = .ok (.goto 4, 3) := by decide +kernel
theorem dX9_off_20 : decode cX9_off 20 = .ok (.iconst 0, 1) := by decide +kernel
theorem dX9_off_21 : decode cX9_off 21 = .ok (.istore_n 3, 1) := by decide +kernel
theorem dX9_off_22 : decode cX9_off 22 = .ok (.iload_n 3, 1) := by decide +kernel
theorem dX9_off_23 : decode cX9_off 23 = .ok (.ifCond .eq 37, 3) := by decide +kernel
theorem dX9_off_26 : decode cX9_off 26 = .ok (.aload_n 0, 1) := by decide +kernel
theorem dX9_off_27 : decode cX9_off 27 = .ok (.iload_n 1, 1) := by decide +kernel
theorem dX9_off_28 : decode cX9_off 28 = .ok (.invokevirtual 248, 3) := by decide +kernel
theorem dX9_off_31 : decode cX9_off 31 = .ok (.iconst 1, 1) := by decide +kernel
theorem dX9_off_32 : decode cX9_off 32 = .ok (.if_icmp .le 28, 3) := by decide +kernel
theorem dX9_off_35 : decode cX9_off 35 = .ok (.aload_n 0, 1) := by decide +kernel
theorem dX9_off_36 : decode cX9_off 36 = .ok (.getfield 35, 3) := by decide +kernel
theorem dX9_off_39 : decode cX9_off 39 = .ok (.bipush 8, 2) := by decide +kernel
theorem dX9_off_41 : decode cX9_off 41 = .ok (.iload_n 1, 1) := by decide +kernel
theorem dX9_off_42 : decode cX9_off 42 = .ok (.imul, 1) := by decide +kernel
theorem dX9_off_43 : decode cX9_off 43 = .ok (.iload_n 2, 1) := by decide +kernel
theorem dX9_off_44 : decode cX9_off 44 = .ok (.iadd, 1) := by decide +kernel
theorem dX9_off_45 : decode cX9_off 45 = .ok (.iaload, 1) := by decide +kernel
theorem dX9_off_46 : decode cX9_off 46 = .ok (.bipush (-9), 2) := by decide +kernel
theorem dX9_off_48 : decode cX9_off 48 = .ok (.if_icmp .eq 12, 3) := by decide +kernel
theorem dX9_off_51 : decode cX9_off 51 = .ok (.aload_n 0, 1) := by decide +kernel
theorem dX9_off_52 : decode cX9_off 52 = .ok (.iload_n 1, 1) := by decide +kernel
theorem dX9_off_53 : decode cX9_off 53 = .ok (.iload_n 2, 1) := by decide +kernel
theorem dX9_off_54 : decode cX9_off 54 = .ok (.invokevirtual 244, 3) := by decide +kernel
theorem dX9_off_57 : decode cX9_off 57 = .ok (.goto 6, 3) := by decide +kernel
theorem dX9_off_60 : decode cX9_off 60 = .ok (.ldc2_w 251, 3) := by decide +kernel
theorem dX9_off_63 : decode cX9_off 63 = .ok (.lreturn, 1) := by decide +kernel
theorem dX9_areWrong_0 : decode cX9_areWrong 0 = .ok (.aload_n 0, 1) := by decide +kernel
theorem dX9_areWrong_1 : decode cX9_areWrong 1 = .ok (.getfield 35, 3) := by decide +kernel
theorem dX9_areWrong_4 : decode cX9_areWrong 4 = .ok (.bipush 8, 2) := by decide +kernel
theorem dX9_areWrong_6 : decode cX9_areWrong 6 = .ok (.iload_n 1, 1) := by decide +kernel
theorem dX9_areWrong_7 : decode cX9_areWrong 7 = .ok (.imul, 1) := by decide +kernel
theorem dX9_areWrong_8 : decode cX9_areWrong 8 = .ok (.iload_n 2, 1) := by decide +kernel
theorem dX9_areWrong_9 : decode cX9_areWrong 9 = .ok (.iadd, 1) := by decide +kernel
theorem dX9_areWrong_10 : decode cX9_areWrong 10 = .ok (.iaload, 1) := by decide +kernel
theorem dX9_areWrong_11 : decode cX9_areWrong 11 = .ok (.istore 4, 2) := by decide +kernel
theorem dX9_areWrong_13 : decode cX9_areWrong 13 = .ok (.aload_n 0, 1) := by decide +kernel
theorem dX9_areWrong_14 : decode cX9_areWrong 14 = .ok (.getfield 35, 3) := by decide +kernel
theorem dX9_areWrong_17 : decode cX9_areWrong 17 = .ok (.bipush 8, 2) := by decide +kernel
theorem dX9_areWrong_19 : decode cX9_areWrong 19 = .ok (.iload_n 1, 1) := by decide +kernel
theorem dX9_areWrong_20 : decode cX9_areWrong 20 = .ok (.imul, 1) := by decide +kernel
theorem dX9_areWrong_21 : decode cX9_areWrong 21 = .ok (.iload_n 3, 1) := by decide +kernel
theorem dX9_areWrong_22 : decode cX9_areWrong 22 = .ok (.iadd, 1) := by decide +kernel
theorem dX9_areWrong_23 : decode cX9_areWrong 23 = .ok (.iaload, 1) := by decide +kernel
theorem dX9_areWrong_24 : decode cX9_areWrong 24 = .ok (.istore 5, 2) := by decide +kernel
theorem dX9_areWrong_26 : decode cX9_areWrong 26 = .ok (.iload 4, 2) := by decide +kernel
theorem dX9_areWrong_28 : decode cX9_areWrong 28 = .ok (.bipush (-9), 2) := by decide +kernel
theorem dX9_areWrong_30 : decode cX9_areWrong 30 = .ok (.if_icmp .eq 10, 3) := by decide +kernel
theorem dX9_areWrong_33 : decode cX9_areWrong 33 = .ok (.iload 5, 2) := by decide +kernel
theorem dX9_areWrong_35 : decode cX9_areWrong 35 = .ok (.bipush (-9), 2) := by decide +kernel
theorem dX9_areWrong_37 : decode cX9_areWrong 37 = .ok (.if_icmp .ne 5, 3) := by decide +kernel
theorem dX9_areWrong_40 : decode cX9_areWrong 40 = .ok (.iconst 0, 1) := by decide +kernel
theorem dX9_areWrong_41 : decode cX9_areWrong 41 = .ok (.ireturn, 1) := by decide +kernel
theorem dX9_areWrong_42 : decode cX9_areWrong 42 = .ok (.aload_n 0, 1) := by decide +kernel
theorem dX9_areWrong_43 : decode cX9_areWrong 43 = .ok (.getfield 19, 3) := by decide +kernel
theorem dX9_areWrong_46 : decode cX9_areWrong 46 = .ok (.iload_n 2, 1) := by decide +kernel
theorem dX9_areWrong_47 : decode cX9_areWrong 47 = .ok (.iaload, 1) := by decide +kernel
theorem dX9_areWrong_48 : decode cX9_areWrong 48 = .ok (.aload_n 0, 1) := by decide +kernel
theorem dX9_areWrong_49 : decode cX9_areWrong 49 = .ok (.getfield 19, 3) := by decide +kernel
theorem dX9_areWrong_52 : decode cX9_areWrong 52 = .ok (.iload_n 3, 1) := by decide +kernel
theorem dX9_areWrong_53 : decode cX9_areWrong 53 = .ok (.iaload, 1) := by decide +kernel
theorem dX9_areWrong_54 : decode cX9_areWrong 54 = .ok (.isub, 1) := by decide +kernel
theorem dX9_areWrong_55 : decode cX9_areWrong 55 = .ok (.istore 6, 2) := by decide +kernel
theorem dX9_areWrong_57 : decode cX9_areWrong 57 = .ok (.aload_n 0, 1) := by decide +kernel
theorem dX9_areWrong_58 : decode cX9_areWrong 58 = .ok (.getfield 19, 3) := by decide +kernel
theorem dX9_areWrong_61 : decode cX9_areWrong 61 = .ok (.bipush 8, 2) := by decide +kernel
theorem dX9_areWrong_63 : decode cX9_areWrong 63 = .ok (.iconst 1, 1) := by decide +kernel
theorem dX9_areWrong_64 : decode cX9_areWrong 64 = .ok (.iload_n 1, 1) := by decide +kernel
theorem dX9_areWrong_65 : decode cX9_areWrong 65 = .ok (.iadd, 1) := by decide +kernel
theorem dX9_areWrong_66 : decode cX9_areWrong 66 = .ok (.imul, 1) := by decide +kernel
theorem dX9_areWrong_67 : decode cX9_areWrong 67 = .ok (.iload 4, 2) := by decide +kernel
theorem dX9_areWrong_69 : decode cX9_areWrong 69 = .ok (.iadd, 1) := by decide +kernel
theorem dX9_areWrong_70 : decode cX9_areWrong 70 = .ok (.iaload, 1) := by decide +kernel
theorem dX9_areWrong_71 : decode cX9_areWrong 71 = .ok (.aload_n 0, 1) := by decide +kernel
theorem dX9_areWrong_72 : decode cX9_areWrong 72 = .ok (.getfield 19, 3) := by decide +kernel
theorem dX9_areWrong_75 : decode cX9_areWrong 75 = .ok (.bipush 8, 2) := by decide +kernel
theorem dX9_areWrong_77 : decode cX9_areWrong 77 = .ok (.iconst 1, 1) := by decide +kernel
theorem dX9_areWrong_78 : decode cX9_areWrong 78 = .ok (.iload_n 1, 1) := by decide +kernel
theorem dX9_areWrong_79 : decode cX9_areWrong 79 = .ok (.iadd, 1) := by decide +kernel
theorem dX9_areWrong_80 : decode cX9_areWrong 80 = .ok (.imul, 1) := by decide +kernel
theorem dX9_areWrong_81 : decode cX9_areWrong 81 = .ok (.iload 5, 2) := by decide +kernel
theorem dX9_areWrong_83 : decode cX9_areWrong 83 = .ok (.iadd, 1) := by decide +kernel
theorem dX9_areWrong_84 : decode cX9_areWrong 84 = .ok (.iaload, 1) := by decide +kernel
theorem dX9_areWrong_85 : decode cX9_areWrong 85 = .ok (.isub, 1) := by decide +kernel
theorem dX9_areWrong_86 : decode cX9_areWrong 86 = .ok (.istore 7, 2) := by decide +kernel
theorem dX9_areWrong_88 : decode cX9_areWrong 88 = .ok (.iload 6, 2) := by decide +kernel
theorem dX9_areWrong_90 : decode cX9_areWrong 90 = .ok (.ifCond .ge 8, 3) := by decide +kernel
theorem dX9_areWrong_93 : decode cX9_areWrong 93 = .ok (.iload 7, 2) := by decide +kernel
theorem dX9_areWrong_95 : decode cX9_areWrong 95 = .ok (.ifCond .lt 13, 3) := by decide +kernel
theorem dX9_areWrong_98 : decode cX9_areWrong 98 = .ok (.iload 6, 2) := by decide +kernel
theorem dX9_areWrong_100 : decode cX9_areWrong 100 = .ok (.ifCond .le 12, 3) := by decide +kernel
theorem dX9_areWrong_103 : decode cX9_areWrong 103 = .ok (.iload 7, 2) := by decide +kernel
theorem dX9_areWrong_105 : decode cX9_areWrong 105 = .ok (.ifCond .le 7, 3) := by decide +kernel
theorem dX9_areWrong_108 : decode cX9_areWrong 108 = .ok (.iconst 1, 1) := by decide +kernel
theorem dX9_areWrong_109 : decode cX9_areWrong 109 = .ok (.goto 4, 3) := by decide +kernel
theorem dX9_areWrong_112 : decode cX9_areWrong 112 = .ok (.iconst 0, 1) := by decide +kernel
theorem dX9_areWrong_113 : decode cX9_areWrong 113 = .ok (.ireturn, 1) := by decide +kernel
theorem dX9_wrongOf_0 : decode cX9_wrongOf 0 = .ok (.iconst 0, 1) := by decide +kernel
theorem dX9_wrongOf_1 : decode cX9_wrongOf 1 = .ok (.istore_n 3, 1) := by decide +kernel
theorem dX9_wrongOf_2 : decode cX9_wrongOf 2 = .ok (.iconst 0, 1) := by decide +kernel
theorem dX9_wrongOf_3 : decode cX9_wrongOf 3 = .ok (.istore 4, 2) := by decide +kernel
theorem dX9_wrongOf_5 : decode cX9_wrongOf 5 = .ok (.iload 4, 2) := by decide +kernel
theorem dX9_wrongOf_7 : decode cX9_wrongOf 7 = .ok (.aload_n 0, 1) := by decide +kernel
theorem dX9_wrongOf_8 : decode cX9_wrongOf 8 = .ok (.getfield 7, 3) := by decide +kernel
theorem dX9_wrongOf_11 : decode cX9_wrongOf 11 = .ok (.iconst 0, 1) := by decide +kernel
theorem dX9_wrongOf_12 : decode cX9_wrongOf 12 = .ok (.iaload, 1) := by decide +kernel
theorem dX9_wrongOf_13 : decode cX9_wrongOf 13 = .ok (.if_icmp .ge 28, 3) := by decide +kernel
theorem dX9_wrongOf_16 : decode cX9_wrongOf 16 = .ok (.iload_n 3, 1) := by decide +kernel
theorem dX9_wrongOf_17 : decode cX9_wrongOf 17 = .ok (.aload_n 0, 1) := by decide +kernel
theorem dX9_wrongOf_18 : decode cX9_wrongOf 18 = .ok (.iload_n 1, 1) := by decide +kernel
theorem dX9_wrongOf_19 : decode cX9_wrongOf 19 = .ok (.iload_n 2, 1) := by decide +kernel
theorem dX9_wrongOf_20 : decode cX9_wrongOf 20 = .ok (.iload 4, 2) := by decide +kernel
theorem dX9_wrongOf_22 : decode cX9_wrongOf 22 = .ok (.invokevirtual 256, 3) := by decide +kernel
theorem dX9_wrongOf_25 : decode cX9_wrongOf 25 = .ok (.ifCond .eq 7, 3) := by decide +kernel
theorem dX9_wrongOf_28 : decode cX9_wrongOf 28 = .ok (.iconst 1, 1) := by decide +kernel
theorem dX9_wrongOf_29 : decode cX9_wrongOf 29 = .ok (.goto 4, 3) := by decide +kernel
theorem dX9_wrongOf_32 : decode cX9_wrongOf 32 = .ok (.iconst 0, 1) := by decide +kernel
theorem dX9_wrongOf_33 : decode cX9_wrongOf 33 = .ok (.iadd, 1) := by decide +kernel
theorem dX9_wrongOf_34 : decode cX9_wrongOf 34 = .ok (.istore_n 3, 1) := by decide +kernel
theorem dX9_wrongOf_35 : decode cX9_wrongOf 35 = .ok (.iinc 4 1, 3) := by decide +kernel
theorem dX9_wrongOf_38 : decode cX9_wrongOf 38 = .ok (.goto (-33), 3) := by decide +kernel
theorem dX9_wrongOf_41 : decode cX9_wrongOf 41 = .ok (.iload_n 3, 1) := by decide +kernel
theorem dX9_wrongOf_42 : decode cX9_wrongOf 42 = .ok (.ireturn, 1) := by decide +kernel
theorem dX9_wrong_0 : decode cX9_wrong 0 = .ok (.iload_n 1, 1) := by decide +kernel
theorem dX9_wrong_1 : decode cX9_wrong 1 = .ok (.invokestatic 90, 3) := by decide +kernel
theorem dX9_wrong_4 : decode cX9_wrong 4 = .ok (.ifCond .ne 5, 3) := by decide +kernel
theorem dX9_wrong_7 : decode cX9_wrong 7 = .ok (.iconst (-1), 1) := by decide +kernel
theorem dX9_wrong_8 : decode cX9_wrong 8 = .ok (.ireturn, 1) := by decide +kernel
theorem dX9_wrong_9 : decode cX9_wrong 9 = .ok (.iload_n 2, 1) := by decide +kernel
theorem dX9_wrong_10 : decode cX9_wrong 10 = .ok (.iconst 0, 1) := by decide +kernel
theorem dX9_wrong_11 : decode cX9_wrong 11 = .ok (.iconst 1, 1) := by decide +kernel
theorem dX9_wrong_12 : decode cX9_wrong 12 = .ok (.invokestatic 75, 3) := by decide +kernel
theorem dX9_wrong_15 : decode cX9_wrong 15 = .ok (.ifCond .ne 6, 3) := by decide +kernel
theorem dX9_wrong_18 : decode cX9_wrong 18 = .ok (.bipush (-2), 2) := by decide +kernel
theorem dX9_wrong_20 : decode cX9_wrong 20 = .ok (.ireturn, 1) := by decide +kernel
theorem dX9_wrong_21 : decode cX9_wrong 21 = .ok (.aload_n 0, 1) := by decide +kernel
theorem dX9_wrong_22 : decode cX9_wrong 22 = .ok (.iload_n 1, 1) := by decide +kernel
theorem dX9_wrong_23 : decode cX9_wrong 23 = .ok (.invokevirtual 248, 3) := by decide +kernel
theorem dX9_wrong_26 : decode cX9_wrong 26 = .ok (.pop, 1) := by decide +kernel
theorem dX9_wrong_27 : decode cX9_wrong 27 = .ok (.iconst 0, 1) := by decide +kernel
theorem dX9_wrong_28 : decode cX9_wrong 28 = .ok (.istore_n 3, 1) := by decide +kernel
theorem dX9_wrong_29 : decode cX9_wrong 29 = .ok (.bipush (-9), 2) := by decide +kernel
theorem dX9_wrong_31 : decode cX9_wrong 31 = .ok (.istore 4, 2) := by decide +kernel
theorem dX9_wrong_33 : decode cX9_wrong 33 = .ok (.iconst 0, 1) := by decide +kernel
theorem dX9_wrong_34 : decode cX9_wrong 34 = .ok (.istore 5, 2) := by decide +kernel
theorem dX9_wrong_36 : decode cX9_wrong 36 = .ok (.iconst 0, 1) := by decide +kernel
theorem dX9_wrong_37 : decode cX9_wrong 37 = .ok (.istore 6, 2) := by decide +kernel
theorem dX9_wrong_39 : decode cX9_wrong 39 = .ok (.iload 6, 2) := by decide +kernel
theorem dX9_wrong_41 : decode cX9_wrong 41 = .ok (.aload_n 0, 1) := by decide +kernel
theorem dX9_wrong_42 : decode cX9_wrong 42 = .ok (.getfield 7, 3) := by decide +kernel
theorem dX9_wrong_45 : decode cX9_wrong 45 = .ok (.iconst 0, 1) := by decide +kernel
theorem dX9_wrong_46 : decode cX9_wrong 46 = .ok (.iaload, 1) := by decide +kernel
theorem dX9_wrong_47 : decode cX9_wrong 47 = .ok (.if_icmp .ge 38, 3) := by decide +kernel
theorem dX9_wrong_50 : decode cX9_wrong 50 = .ok (.aload_n 0, 1) := by decide +kernel
theorem dX9_wrong_51 : decode cX9_wrong 51 = .ok (.iload_n 1, 1) := by decide +kernel
theorem dX9_wrong_52 : decode cX9_wrong 52 = .ok (.iload 6, 2) := by decide +kernel
theorem dX9_wrong_54 : decode cX9_wrong 54 = .ok (.invokevirtual 259, 3) := by decide +kernel
theorem dX9_wrong_57 : decode cX9_wrong 57 = .ok (.istore 7, 2) := by decide +kernel
theorem dX9_wrong_59 : decode cX9_wrong 59 = .ok (.iload_n 3, 1) := by decide +kernel
theorem dX9_wrong_60 : decode cX9_wrong 60 = .ok (.iload 7, 2) := by decide +kernel
theorem dX9_wrong_62 : decode cX9_wrong 62 = .ok (.iadd, 1) := by decide +kernel
theorem dX9_wrong_63 : decode cX9_wrong 63 = .ok (.istore_n 3, 1) := by decide +kernel
theorem dX9_wrong_64 : decode cX9_wrong 64 = .ok (.iload 7, 2) := by decide +kernel
theorem dX9_wrong_66 : decode cX9_wrong 66 = .ok (.iload 5, 2) := by decide +kernel
theorem dX9_wrong_68 : decode cX9_wrong 68 = .ok (.if_icmp .le 11, 3) := by decide +kernel
theorem dX9_wrong_71 : decode cX9_wrong 71 = .ok (.iload 7, 2) := by decide +kernel
theorem dX9_wrong_73 : decode cX9_wrong 73 = .ok (.istore 5, 2) := by decide +kernel
theorem dX9_wrong_75 : decode cX9_wrong 75 = .ok (.iload 6, 2) := by decide +kernel
theorem dX9_wrong_77 : decode cX9_wrong 77 = .ok (.istore 4, 2) := by decide +kernel
theorem dX9_wrong_79 : decode cX9_wrong 79 = .ok (.iinc 6 1, 3) := by decide +kernel
theorem dX9_wrong_82 : decode cX9_wrong 82 = .ok (.goto (-43), 3) := by decide +kernel
theorem dX9_wrong_85 : decode cX9_wrong 85 = .ok (.iload_n 2, 1) := by decide +kernel
theorem dX9_wrong_86 : decode cX9_wrong 86 = .ok (.ifCond .ne 9, 3) := by decide +kernel
theorem dX9_wrong_89 : decode cX9_wrong 89 = .ok (.iload_n 3, 1) := by decide +kernel
theorem dX9_wrong_90 : decode cX9_wrong 90 = .ok (.iconst 2, 1) := by decide +kernel
theorem dX9_wrong_91 : decode cX9_wrong 91 = .ok (.idiv, 1) := by decide +kernel
theorem dX9_wrong_92 : decode cX9_wrong 92 = .ok (.goto 5, 3) := by decide +kernel
theorem dX9_wrong_95 : decode cX9_wrong 95 = .ok (.iload 4, 2) := by decide +kernel
theorem dX9_wrong_97 : decode cX9_wrong 97 = .ok (.ireturn, 1) := by decide +kernel
theorem dX9_findBoth_0 : decode cX9_findBoth 0 = .ok (.aload_n 0, 1) := by decide +kernel
theorem dX9_findBoth_1 : decode cX9_findBoth 1 = .ok (.iconst 0, 1) := by decide +kernel
theorem dX9_findBoth_2 : decode cX9_findBoth 2 = .ok (.invokevirtual 248, 3) := by decide +kernel
theorem dX9_findBoth_5 : decode cX9_findBoth 5 = .ok (.pop, 1) := by decide +kernel
theorem dX9_findBoth_6 : decode cX9_findBoth 6 = .ok (.aload_n 0, 1) := by decide +kernel
theorem dX9_findBoth_7 : decode cX9_findBoth 7 = .ok (.iconst 1, 1) := by decide +kernel
theorem dX9_findBoth_8 : decode cX9_findBoth 8 = .ok (.invokevirtual 248, 3) := by decide +kernel
theorem dX9_findBoth_11 : decode cX9_findBoth 11 = .ok (.pop, 1) := by decide +kernel
theorem dX9_findBoth_12 : decode cX9_findBoth 12 = .ok (.aload_n 0, 1) := by decide +kernel
theorem dX9_findBoth_13 : decode cX9_findBoth 13 = .ok (.iconst 0, 1) := by decide +kernel
theorem dX9_findBoth_14 : decode cX9_findBoth 14 = .ok (.putfield 221, 3) := by decide +kernel
theorem dX9_findBoth_17 : decode cX9_findBoth 17 = .ok (.iconst 0, 1) := by decide +kernel
theorem dX9_findBoth_18 : decode cX9_findBoth 18 = .ok (.istore_n 1, 1) := by decide +kernel
theorem dX9_findBoth_19 : decode cX9_findBoth 19 = .ok (.iload_n 1, 1) := by decide +kernel
theorem dX9_findBoth_20 : decode cX9_findBoth 20 = .ok (.aload_n 0, 1) := by decide +kernel
theorem dX9_findBoth_21 : decode cX9_findBoth 21 = .ok (.getfield 7, 3) := by decide +kernel
theorem dX9_findBoth_24 : decode cX9_findBoth 24 = .ok (.iconst 0, 1) := by decide +kernel
theorem dX9_findBoth_25 : decode cX9_findBoth 25 = .ok (.iaload, 1) := by decide +kernel
theorem dX9_findBoth_26 : decode cX9_findBoth 26 = .ok (.if_icmp .ge 77, 3) := by decide +kernel
theorem dX9_findBoth_29 : decode cX9_findBoth 29 = .ok (.aload_n 0, 1) := by decide +kernel
theorem dX9_findBoth_30 : decode cX9_findBoth 30 = .ok (.getfield 35, 3) := by decide +kernel
theorem dX9_findBoth_33 : decode cX9_findBoth 33 = .ok (.iload_n 1, 1) := by decide +kernel
theorem dX9_findBoth_34 : decode cX9_findBoth 34 = .ok (.iaload, 1) := by decide +kernel
theorem dX9_findBoth_35 : decode cX9_findBoth 35 = .ok (.bipush (-9), 2) := by decide +kernel
theorem dX9_findBoth_37 : decode cX9_findBoth 37 = .ok (.if_icmp .eq 60, 3) := by decide +kernel
theorem dX9_findBoth_40 : decode cX9_findBoth 40 = .ok (.aload_n 0, 1) := by decide +kernel
theorem dX9_findBoth_41 : decode cX9_findBoth 41 = .ok (.getfield 35, 3) := by decide +kernel
theorem dX9_findBoth_44 : decode cX9_findBoth 44 = .ok (.bipush 8, 2) := by decide +kernel
theorem dX9_findBoth_46 : decode cX9_findBoth 46 = .ok (.iload_n 1, 1) := by decide +kernel
theorem dX9_findBoth_47 : decode cX9_findBoth 47 = .ok (.iadd, 1) := by decide +kernel
theorem dX9_findBoth_48 : decode cX9_findBoth 48 = .ok (.iaload, 1) := by decide +kernel
theorem dX9_findBoth_49 : decode cX9_findBoth 49 = .ok (.bipush (-9), 2) := by decide +kernel
theorem dX9_findBoth_51 : decode cX9_findBoth 51 = .ok (.if_icmp .eq 46, 3) := by decide +kernel
theorem dX9_findBoth_54 : decode cX9_findBoth 54 = .ok (.aload_n 0, 1) := by decide +kernel
theorem dX9_findBoth_55 : decode cX9_findBoth 55 = .ok (.getfield 38, 3) := by decide +kernel
theorem dX9_findBoth_58 : decode cX9_findBoth 58 = .ok (.aload_n 0, 1) := by decide +kernel
theorem dX9_findBoth_59 : decode cX9_findBoth 59 = .ok (.getfield 221, 3) := by decide +kernel
theorem dX9_findBoth_62 : decode cX9_findBoth 62 = .ok (.aload_n 0, 1) := by decide +kernel
theorem dX9_findBoth_63 : decode cX9_findBoth 63 = .ok (.getfield 35, 3) := by decide +kernel
theorem dX9_findBoth_66 : decode cX9_findBoth 66 = .ok (.iload_n 1, 1) := by decide +kernel
theorem dX9_findBoth_67 : decode cX9_findBoth 67 = .ok (.iaload, 1) := by decide +kernel
theorem dX9_findBoth_68 : decode cX9_findBoth 68 = .ok (.iastore, 1) := by decide +kernel
theorem dX9_findBoth_69 : decode cX9_findBoth 69 = .ok (.aload_n 0, 1) := by decide +kernel
theorem dX9_findBoth_70 : decode cX9_findBoth 70 = .ok (.getfield 41, 3) := by decide +kernel
theorem dX9_findBoth_73 : decode cX9_findBoth 73 = .ok (.aload_n 0, 1) := by decide +kernel
theorem dX9_findBoth_74 : decode cX9_findBoth 74 = .ok (.getfield 221, 3) := by decide +kernel
theorem dX9_findBoth_77 : decode cX9_findBoth 77 = .ok (.aload_n 0, 1) := by decide +kernel
theorem dX9_findBoth_78 : decode cX9_findBoth 78 = .ok (.getfield 35, 3) := by decide +kernel
theorem dX9_findBoth_81 : decode cX9_findBoth 81 = .ok (.bipush 8, 2) := by decide +kernel
theorem dX9_findBoth_83 : decode cX9_findBoth 83 = .ok (.iload_n 1, 1) := by decide +kernel
theorem dX9_findBoth_84 : decode cX9_findBoth 84 = .ok (.iadd, 1) := by decide +kernel
theorem dX9_findBoth_85 : decode cX9_findBoth 85 = .ok (.iaload, 1) := by decide +kernel
theorem dX9_findBoth_86 : decode cX9_findBoth 86 = .ok (.iastore, 1) := by decide +kernel
theorem dX9_findBoth_87 : decode cX9_findBoth 87 = .ok (.aload_n 0, 1) := by decide +kernel
theorem dX9_findBoth_88 : decode cX9_findBoth 88 = .ok (.dup, 1) := by decide +kernel
theorem dX9_findBoth_89 : decode cX9_findBoth 89 = .ok (.getfield 221, 3) := by decide +kernel
theorem dX9_findBoth_92 : decode cX9_findBoth 92 = .ok (.iconst 1, 1) := by decide +kernel
theorem dX9_findBoth_93 : decode cX9_findBoth 93 = .ok (.iadd, 1) := by decide +kernel
theorem dX9_findBoth_94 : decode cX9_findBoth 94 = .ok (.putfield 221, 3) := by decide +kernel
theorem dX9_findBoth_97 : decode cX9_findBoth 97 = .ok (.iinc 1 1, 3) := by decide +kernel
theorem dX9_findBoth_100 : decode cX9_findBoth 100 = .ok (.goto (-81), 3) := by decide +kernel
theorem dX9_findBoth_103 : decode cX9_findBoth 103 = .ok (.aload_n 0, 1) := by decide +kernel
theorem dX9_findBoth_104 : decode cX9_findBoth 104 = .ok (.iconst 1, 1) := by decide +kernel
theorem dX9_findBoth_105 : decode cX9_findBoth 105 = .ok (.iconst 2, 1) := by decide +kernel
theorem dX9_findBoth_106 : decode cX9_findBoth 106 = .ok (.invokevirtual 228, 3) := by decide +kernel
theorem dX9_findBoth_109 : decode cX9_findBoth 109 = .ok (.aload_n 0, 1) := by decide +kernel
theorem dX9_findBoth_110 : decode cX9_findBoth 110 = .ok (.getfield 221, 3) := by decide +kernel
theorem dX9_findBoth_113 : decode cX9_findBoth 113 = .ok (.ireturn, 1) := by decide +kernel
theorem dX9_both_0 : decode cX9_both 0 = .ok (.aload_n 0, 1) := by decide +kernel
theorem dX9_both_1 : decode cX9_both 1 = .ok (.invokevirtual 263, 3) := by decide +kernel
theorem dX9_both_4 : decode cX9_both 4 = .ok (.pop, 1) := by decide +kernel
theorem dX9_both_5 : decode cX9_both 5 = .ok (.iconst 0, 1) := by decide +kernel
theorem dX9_both_6 : decode cX9_both 6 = .ok (.istore_n 1, 1) := by decide +kernel
theorem dX9_both_7 : decode cX9_both 7 = .ok (.iconst 0, 1) := by decide +kernel
theorem dX9_both_8 : decode cX9_both 8 = .ok (.istore_n 2, 1) := by decide +kernel
theorem dX9_both_9 : decode cX9_both 9 = .ok (.iload_n 2, 1) := by decide +kernel
theorem dX9_both_10 : decode cX9_both 10 = .ok (.aload_n 0, 1) := by decide +kernel
theorem dX9_both_11 : decode cX9_both 11 = .ok (.getfield 7, 3) := by decide +kernel
theorem dX9_both_14 : decode cX9_both 14 = .ok (.iconst 0, 1) := by decide +kernel
theorem dX9_both_15 : decode cX9_both 15 = .ok (.iaload, 1) := by decide +kernel
theorem dX9_both_16 : decode cX9_both 16 = .ok (.if_icmp .ge 44, 3) := by decide +kernel
theorem dX9_both_19 : decode cX9_both 19 = .ok (.iload_n 1, 1) := by decide +kernel
theorem dX9_both_20 : decode cX9_both 20 = .ok (.aload_n 0, 1) := by decide +kernel
theorem dX9_both_21 : decode cX9_both 21 = .ok (.getfield 35, 3) := by decide +kernel
theorem dX9_both_24 : decode cX9_both 24 = .ok (.iload_n 2, 1) := by decide +kernel
theorem dX9_both_25 : decode cX9_both 25 = .ok (.iaload, 1) := by decide +kernel
theorem dX9_both_26 : decode cX9_both 26 = .ok (.bipush (-9), 2) := by decide +kernel
theorem dX9_both_28 : decode cX9_both 28 = .ok (.if_icmp .eq 23, 3) := by decide +kernel
theorem dX9_both_31 : decode cX9_both 31 = .ok (.aload_n 0, 1) := by decide +kernel
theorem dX9_both_32 : decode cX9_both 32 = .ok (.getfield 35, 3) := by decide +kernel
theorem dX9_both_35 : decode cX9_both 35 = .ok (.bipush 8, 2) := by decide +kernel
theorem dX9_both_37 : decode cX9_both 37 = .ok (.iload_n 2, 1) := by decide +kernel
theorem dX9_both_38 : decode cX9_both 38 = .ok (.iadd, 1) := by decide +kernel
theorem dX9_both_39 : decode cX9_both 39 = .ok (.iaload, 1) := by decide +kernel
theorem dX9_both_40 : decode cX9_both 40 = .ok (.bipush (-9), 2) := by decide +kernel
theorem dX9_both_42 : decode cX9_both 42 = .ok (.if_icmp .eq 9, 3) := by decide +kernel
theorem dX9_both_45 : decode cX9_both 45 = .ok (.iconst 1, 1) := by decide +kernel
theorem dX9_both_46 : decode cX9_both 46 = .ok (.iload_n 2, 1) := by decide +kernel
theorem dX9_both_47 : decode cX9_both 47 = .ok (.ishl, 1) := by decide +kernel
theorem dX9_both_48 : decode cX9_both 48 = .ok (.goto 4, 3) := by decide +kernel
theorem dX9_both_51 : decode cX9_both 51 = .ok (.iconst 0, 1) := by decide +kernel
theorem dX9_both_52 : decode cX9_both 52 = .ok (.ior, 1) := by decide +kernel
theorem dX9_both_53 : decode cX9_both 53 = .ok (.istore_n 1, 1) := by decide +kernel
theorem dX9_both_54 : decode cX9_both 54 = .ok (.iinc 2 1, 3) := by decide +kernel
theorem dX9_both_57 : decode cX9_both 57 = .ok (.goto (-48), 3) := by decide +kernel
theorem dX9_both_60 : decode cX9_both 60 = .ok (.iload_n 1, 1) := by decide +kernel
theorem dX9_both_61 : decode cX9_both 61 = .ok (.ireturn, 1) := by decide +kernel
theorem dX9_carried_0 : decode cX9_carried 0 = .ok (.aload_n 0, 1) := by decide +kernel
theorem dX9_carried_1 : decode cX9_carried 1 = .ok (.iconst 1, 1) := by decide +kernel
theorem dX9_carried_2 : decode cX9_carried 2 = .ok (.iload_n 1, 1) := by decide +kernel
theorem dX9_carried_3 : decode cX9_carried 3 = .ok (.invokevirtual 94, 3) := by decide +kernel
theorem dX9_carried_6 : decode cX9_carried 6 = .ok (.ifCond .eq 30, 3) := by decide +kernel
theorem dX9_carried_9 : decode cX9_carried 9 = .ok (.iload_n 2, 1) := by decide +kernel
theorem dX9_carried_10 : decode cX9_carried 10 = .ok (.iconst 0, 1) := by decide +kernel
theorem dX9_carried_11 : decode cX9_carried 11 = .ok (.iconst 1, 1) := by decide +kernel
theorem dX9_carried_12 : decode cX9_carried 12 = .ok (.invokestatic 75, 3) := by decide +kernel
theorem dX9_carried_15 : decode cX9_carried 15 = .ok (.ifCond .eq 21, 3) := by decide +kernel
theorem dX9_carried_18 : decode cX9_carried 18 = .ok (.aload_n 0, 1) := by decide +kernel
theorem dX9_carried_19 : decode cX9_carried 19 = .ok (.invokevirtual 263, 3) := by decide +kernel
theorem dX9_carried_22 : decode cX9_carried 22 = .ok (.iconst 1, 1) := by decide +kernel
theorem dX9_carried_23 : decode cX9_carried 23 = .ok (.if_icmp .le 13, 3) := by decide +kernel
theorem dX9_carried_26 : decode cX9_carried 26 = .ok (.aload_n 0, 1) := by decide +kernel
theorem dX9_carried_27 : decode cX9_carried 27 = .ok (.iconst 1, 1) := by decide +kernel
theorem dX9_carried_28 : decode cX9_carried 28 = .ok (.iload_n 1, 1) := by decide +kernel
theorem dX9_carried_29 : decode cX9_carried 29 = .ok (.iload_n 2, 1) := by decide +kernel
theorem dX9_carried_30 : decode cX9_carried 30 = .ok (.invokevirtual 232, 3) := by decide +kernel
theorem dX9_carried_33 : decode cX9_carried 33 = .ok (.goto 6, 3) := by decide +kernel
theorem dX9_carried_36 : decode cX9_carried 36 = .ok (.ldc2_w 251, 3) := by decide +kernel
theorem dX9_carried_39 : decode cX9_carried 39 = .ok (.lreturn, 1) := by decide +kernel
theorem dX9_isMover_0 : decode cX9_isMover 0 = .ok (.iconst 0, 1) := by decide +kernel
theorem dX9_isMover_1 : decode cX9_isMover 1 = .ok (.istore_n 3, 1) := by decide +kernel
theorem dX9_isMover_2 : decode cX9_isMover 2 = .ok (.iconst 0, 1) := by decide +kernel
theorem dX9_isMover_3 : decode cX9_isMover 3 = .ok (.istore 4, 2) := by decide +kernel
theorem dX9_isMover_5 : decode cX9_isMover 5 = .ok (.iload 4, 2) := by decide +kernel
theorem dX9_isMover_7 : decode cX9_isMover 7 = .ok (.aload_n 0, 1) := by decide +kernel
theorem dX9_isMover_8 : decode cX9_isMover 8 = .ok (.getfield 267, 3) := by decide +kernel
theorem dX9_isMover_11 : decode cX9_isMover 11 = .ok (.if_icmp .ge 27, 3) := by decide +kernel
theorem dX9_isMover_14 : decode cX9_isMover 14 = .ok (.iload_n 3, 1) := by decide +kernel
theorem dX9_isMover_15 : decode cX9_isMover 15 = .ok (.ifCond .ne 11, 3) := by decide +kernel
theorem dX9_isMover_18 : decode cX9_isMover 18 = .ok (.aload_n 1, 1) := by decide +kernel
theorem dX9_isMover_19 : decode cX9_isMover 19 = .ok (.iload 4, 2) := by decide +kernel
theorem dX9_isMover_21 : decode cX9_isMover 21 = .ok (.iaload, 1) := by decide +kernel
theorem dX9_isMover_22 : decode cX9_isMover 22 = .ok (.iload_n 2, 1) := by decide +kernel
theorem dX9_isMover_23 : decode cX9_isMover 23 = .ok (.if_icmp .ne 7, 3) := by decide +kernel
theorem dX9_isMover_26 : decode cX9_isMover 26 = .ok (.iconst 1, 1) := by decide +kernel
theorem dX9_isMover_27 : decode cX9_isMover 27 = .ok (.goto 4, 3) := by decide +kernel
theorem dX9_isMover_30 : decode cX9_isMover 30 = .ok (.iconst 0, 1) := by decide +kernel
theorem dX9_isMover_31 : decode cX9_isMover 31 = .ok (.istore_n 3, 1) := by decide +kernel
theorem dX9_isMover_32 : decode cX9_isMover 32 = .ok (.iinc 4 1, 3) := by decide +kernel
theorem dX9_isMover_35 : decode cX9_isMover 35 = .ok (.goto (-30), 3) := by decide +kernel
theorem dX9_isMover_38 : decode cX9_isMover 38 = .ok (.iload_n 3, 1) := by decide +kernel
theorem dX9_isMover_39 : decode cX9_isMover 39 = .ok (.ireturn, 1) := by decide +kernel
theorem dX9_mayMove_0 : decode cX9_mayMove 0 = .ok (.aload_n 0, 1) := by decide +kernel
theorem dX9_mayMove_1 : decode cX9_mayMove 1 = .ok (.iconst 0, 1) := by decide +kernel
theorem dX9_mayMove_2 : decode cX9_mayMove 2 = .ok (.iload_n 1, 1) := by decide +kernel
theorem dX9_mayMove_3 : decode cX9_mayMove 3 = .ok (.invokevirtual 193, 3) := by decide +kernel
theorem dX9_mayMove_6 : decode cX9_mayMove 6 = .ok (.ifCond .ne 40, 3) := by decide +kernel
theorem dX9_mayMove_9 : decode cX9_mayMove 9 = .ok (.aload_n 0, 1) := by decide +kernel
theorem dX9_mayMove_10 : decode cX9_mayMove 10 = .ok (.iconst 1, 1) := by decide +kernel
theorem dX9_mayMove_11 : decode cX9_mayMove 11 = .ok (.iload_n 2, 1) := by decide +kernel
theorem dX9_mayMove_12 : decode cX9_mayMove 12 = .ok (.invokevirtual 193, 3) := by decide +kernel
theorem dX9_mayMove_15 : decode cX9_mayMove 15 = .ok (.ifCond .ne 31, 3) := by decide +kernel
theorem dX9_mayMove_18 : decode cX9_mayMove 18 = .ok (.aload_n 0, 1) := by decide +kernel
theorem dX9_mayMove_19 : decode cX9_mayMove 19 = .ok (.aload_n 0, 1) := by decide +kernel
theorem dX9_mayMove_20 : decode cX9_mayMove 20 = .ok (.getfield 44, 3) := by decide +kernel
theorem dX9_mayMove_23 : decode cX9_mayMove 23 = .ok (.iload_n 1, 1) := by decide +kernel
theorem dX9_mayMove_24 : decode cX9_mayMove 24 = .ok (.invokevirtual 270, 3) := by decide +kernel
theorem dX9_mayMove_27 : decode cX9_mayMove 27 = .ok (.ifCond .ne 19, 3) := by decide +kernel
theorem dX9_mayMove_30 : decode cX9_mayMove 30 = .ok (.aload_n 0, 1) := by decide +kernel
theorem dX9_mayMove_31 : decode cX9_mayMove 31 = .ok (.aload_n 0, 1) := by decide +kernel
theorem dX9_mayMove_32 : decode cX9_mayMove 32 = .ok (.getfield 47, 3) := by decide +kernel
theorem dX9_mayMove_35 : decode cX9_mayMove 35 = .ok (.iload_n 2, 1) := by decide +kernel
theorem dX9_mayMove_36 : decode cX9_mayMove 36 = .ok (.invokevirtual 270, 3) := by decide +kernel
theorem dX9_mayMove_39 : decode cX9_mayMove 39 = .ok (.ifCond .ne 7, 3) := by decide +kernel
theorem dX9_mayMove_42 : decode cX9_mayMove 42 = .ok (.iconst 1, 1) := by decide +kernel
theorem dX9_mayMove_43 : decode cX9_mayMove 43 = .ok (.goto 4, 3) := by decide +kernel
theorem dX9_mayMove_46 : decode cX9_mayMove 46 = .ok (.iconst 0, 1) := by decide +kernel
theorem dX9_mayMove_47 : decode cX9_mayMove 47 = .ok (.ireturn, 1) := by decide +kernel
theorem dX9_findMover_0 : decode cX9_findMover 0 = .ok (.bipush (-9), 2) := by decide +kernel
theorem dX9_findMover_2 : decode cX9_findMover 2 = .ok (.istore_n 1, 1) := by decide +kernel
theorem dX9_findMover_3 : decode cX9_findMover 3 = .ok (.lconst 0, 1) := by decide +kernel
theorem dX9_findMover_4 : decode cX9_findMover 4 = .ok (.lstore_n 2, 1) := by decide +kernel
theorem dX9_findMover_5 : decode cX9_findMover 5 = .ok (.iconst 0, 1) := by decide +kernel
theorem dX9_findMover_6 : decode cX9_findMover 6 = .ok (.istore 4, 2) := by decide +kernel
theorem dX9_findMover_8 : decode cX9_findMover 8 = .ok (.iload 4, 2) := by decide +kernel
theorem dX9_findMover_10 : decode cX9_findMover 10 = .ok (.aload_n 0, 1) := by decide +kernel
theorem dX9_findMover_11 : decode cX9_findMover 11 = .ok (.getfield 7, 3) := by decide +kernel
theorem dX9_findMover_14 : decode cX9_findMover 14 = .ok (.iconst 1, 1) := by decide +kernel
theorem dX9_findMover_15 : decode cX9_findMover 15 = .ok (.iaload, 1) := by decide +kernel
theorem dX9_findMover_16 : decode cX9_findMover 16 = .ok (.aload_n 0, 1) := by decide +kernel
theorem dX9_findMover_17 : decode cX9_findMover 17 = .ok (.getfield 7, 3) := by decide +kernel
theorem dX9_findMover_20 : decode cX9_findMover 20 = .ok (.iconst 2, 1) := by decide +kernel
theorem dX9_findMover_21 : decode cX9_findMover 21 = .ok (.iaload, 1) := by decide +kernel
theorem dX9_findMover_22 : decode cX9_findMover 22 = .ok (.imul, 1) := by decide +kernel
theorem dX9_findMover_23 : decode cX9_findMover 23 = .ok (.if_icmp .ge 101, 3) := by decide +kernel
theorem dX9_findMover_26 : decode cX9_findMover 26 = .ok (.iload 4, 2) := by decide +kernel
theorem dX9_findMover_28 : decode cX9_findMover 28 = .ok (.aload_n 0, 1) := by decide +kernel
theorem dX9_findMover_29 : decode cX9_findMover 29 = .ok (.getfield 7, 3) := by decide +kernel
theorem dX9_findMover_32 : decode cX9_findMover 32 = .ok (.iconst 2, 1) := by decide +kernel
theorem dX9_findMover_33 : decode cX9_findMover 33 = .ok (.iaload, 1) := by decide +kernel
theorem dX9_findMover_34 : decode cX9_findMover 34 = .ok (.idiv, 1) := by decide +kernel
theorem dX9_findMover_35 : decode cX9_findMover 35 = .ok (.istore 5, 2) := by decide +kernel
theorem dX9_findMover_37 : decode cX9_findMover 37 = .ok (.iload 4, 2) := by decide +kernel
theorem dX9_findMover_39 : decode cX9_findMover 39 = .ok (.aload_n 0, 1) := by decide +kernel
theorem dX9_findMover_40 : decode cX9_findMover 40 = .ok (.getfield 7, 3) := by decide +kernel
theorem dX9_findMover_43 : decode cX9_findMover 43 = .ok (.iconst 2, 1) := by decide +kernel
theorem dX9_findMover_44 : decode cX9_findMover 44 = .ok (.iaload, 1) := by decide +kernel
theorem dX9_findMover_45 : decode cX9_findMover 45 = .ok (.irem, 1) := by decide +kernel
theorem dX9_findMover_46 : decode cX9_findMover 46 = .ok (.istore 6, 2) := by decide +kernel
theorem dX9_findMover_48 : decode cX9_findMover 48 = .ok (.aload_n 0, 1) := by decide +kernel
theorem dX9_findMover_49 : decode cX9_findMover 49 = .ok (.iload 5, 2) := by decide +kernel
theorem dX9_findMover_51 : decode cX9_findMover 51 = .ok (.iload 6, 2) := by decide +kernel
theorem dX9_findMover_53 : decode cX9_findMover 53 = .ok (.invokevirtual 274, 3) := by decide +kernel
theorem dX9_findMover_56 : decode cX9_findMover 56 = .ok (.ifCond .eq 16, 3) := by decide +kernel
theorem dX9_findMover_59 : decode cX9_findMover 59 = .ok (.aload_n 0, 1) := by decide +kernel
theorem dX9_findMover_60 : decode cX9_findMover 60 = .ok (.iconst 1, 1) := by decide +kernel
theorem dX9_findMover_61 : decode cX9_findMover 61 = .ok (.iload 5, 2) := by decide +kernel
theorem dX9_findMover_63 : decode cX9_findMover 63 = .ok (.iconst 2, 1) := by decide +kernel
theorem dX9_findMover_64 : decode cX9_findMover 64 = .ok (.iload 6, 2) := by decide +kernel
theorem dX9_findMover_66 : decode cX9_findMover 66 = .ok (.invokevirtual 235, 3) := by decide +kernel
theorem dX9_findMover_69 : decode cX9_findMover 69 = .ok (.goto 6, 3) := by decide +kernel
theorem dX9_findMover_72 : decode cX9_findMover 72 = .ok (.ldc2_w 251, 3) := by decide +kernel
theorem dX9_findMover_75 : decode cX9_findMover 75 = .ok (.lstore 7, 2) := by decide +kernel
theorem dX9_findMover_77 : decode cX9_findMover 77 = .ok (.lload 7, 2) := by decide +kernel
theorem dX9_findMover_79 : decode cX9_findMover 79 = .ok (.ldc2_w 251, 3) := by decide +kernel
theorem dX9_findMover_82 : decode cX9_findMover 82 = .ok (.lcmp, 1) := by decide +kernel
theorem dX9_findMover_83 : decode cX9_findMover 83 = .ok (.ifCond .eq 35, 3) := by decide +kernel
theorem dX9_findMover_86 : decode cX9_findMover 86 = .ok (.lload 7, 2) := by decide +kernel
theorem dX9_findMover_88 : decode cX9_findMover 88 = .ok (.aload_n 0, 1) := by decide +kernel
theorem dX9_findMover_89 : decode cX9_findMover 89 = .ok (.getfield 23, 3) := by decide +kernel
theorem dX9_findMover_92 : decode cX9_findMover 92 = .ok (.iconst 2, 1) := by decide +kernel
theorem dX9_findMover_93 : decode cX9_findMover 93 = .ok (.iaload, 1) := by decide +kernel
theorem dX9_findMover_94 : decode cX9_findMover 94 = .ok (.i2l, 1) := by decide +kernel
theorem dX9_findMover_95 : decode cX9_findMover 95 = .ok (.lcmp, 1) := by decide +kernel
theorem dX9_findMover_96 : decode cX9_findMover 96 = .ok (.ifCond .gt 22, 3) := by decide +kernel
theorem dX9_findMover_99 : decode cX9_findMover 99 = .ok (.iload_n 1, 1) := by decide +kernel
theorem dX9_findMover_100 : decode cX9_findMover 100 = .ok (.bipush (-9), 2) := by decide +kernel
theorem dX9_findMover_102 : decode cX9_findMover 102 = .ok (.if_icmp .eq 10, 3) := by decide +kernel
theorem dX9_findMover_105 : decode cX9_findMover 105 = .ok (.lload 7, 2) := by decide +kernel
theorem dX9_findMover_107 : decode cX9_findMover 107 = .ok (.lload_n 2, 1) := by decide +kernel
theorem dX9_findMover_108 : decode cX9_findMover 108 = .ok (.lcmp, 1) := by decide +kernel
theorem dX9_findMover_109 : decode cX9_findMover 109 = .ok (.ifCond .ge 9, 3) := by decide +kernel
theorem dX9_findMover_112 : decode cX9_findMover 112 = .ok (.iload 4, 2) := by decide +kernel
theorem dX9_findMover_114 : decode cX9_findMover 114 = .ok (.istore_n 1, 1) := by decide +kernel
theorem dX9_findMover_115 : decode cX9_findMover 115 = .ok (.lload 7, 2) := by decide +kernel
theorem dX9_findMover_117 : decode cX9_findMover 117 = .ok (.lstore_n 2, 1) := by decide +kernel
theorem dX9_findMover_118 : decode cX9_findMover 118 = .ok (.iinc 4 1, 3) := by decide +kernel
theorem dX9_findMover_121 : decode cX9_findMover 121 = .ok (.goto (-113), 3) := by decide +kernel
theorem dX9_findMover_124 : decode cX9_findMover 124 = .ok (.iload_n 1, 1) := by decide +kernel
theorem dX9_findMover_125 : decode cX9_findMover 125 = .ok (.bipush (-9), 2) := by decide +kernel
theorem dX9_findMover_127 : decode cX9_findMover 127 = .ok (.if_icmp .eq 57, 3) := by decide +kernel
theorem dX9_findMover_130 : decode cX9_findMover 130 = .ok (.aload_n 0, 1) := by decide +kernel
theorem dX9_findMover_131 : decode cX9_findMover 131 = .ok (.getfield 44, 3) := by decide +kernel
theorem dX9_findMover_134 : decode cX9_findMover 134 = .ok (.aload_n 0, 1) := by decide +kernel
theorem dX9_findMover_135 : decode cX9_findMover 135 = .ok (.getfield 267, 3) := by decide +kernel
theorem dX9_findMover_138 : decode cX9_findMover 138 = .ok (.iload_n 1, 1) := by decide +kernel
theorem dX9_findMover_139 : decode cX9_findMover 139 = .ok (.aload_n 0, 1) := by decide +kernel
theorem dX9_findMover_140 : decode cX9_findMover 140 = .ok (.getfield 7, 3) := by decide +kernel
theorem dX9_findMover_143 : decode cX9_findMover 143 = .ok (.iconst 2, 1) := by decide +kernel
theorem dX9_findMover_144 : decode cX9_findMover 144 = .ok (.iaload, 1) := by decide +kernel
theorem dX9_findMover_145 : decode cX9_findMover 145 = .ok (.idiv, 1) := by decide +kernel
theorem dX9_findMover_146 : decode cX9_findMover 146 = .ok (.iastore, 1) := by decide +kernel
theorem dX9_findMover_147 : decode cX9_findMover 147 = .ok (.aload_n 0, 1) := by decide +kernel
theorem dX9_findMover_148 : decode cX9_findMover 148 = .ok (.getfield 47, 3) := by decide +kernel
theorem dX9_findMover_151 : decode cX9_findMover 151 = .ok (.aload_n 0, 1) := by decide +kernel
theorem dX9_findMover_152 : decode cX9_findMover 152 = .ok (.getfield 267, 3) := by decide +kernel
theorem dX9_findMover_155 : decode cX9_findMover 155 = .ok (.iload_n 1, 1) := by decide +kernel
theorem dX9_findMover_156 : decode cX9_findMover 156 = .ok (.aload_n 0, 1) := by decide +kernel
theorem dX9_findMover_157 : decode cX9_findMover 157 = .ok (.getfield 7, 3) := by decide +kernel
theorem dX9_findMover_160 : decode cX9_findMover 160 = .ok (.iconst 2, 1) := by decide +kernel
theorem dX9_findMover_161 : decode cX9_findMover 161 = .ok (.iaload, 1) := by decide +kernel
theorem dX9_findMover_162 : decode cX9_findMover 162 = .ok (.irem, 1) := by decide +kernel
theorem dX9_findMover_163 : decode cX9_findMover 163 = .ok (.iastore, 1) := by decide +kernel
theorem dX9_findMover_164 : decode cX9_findMover 164 = .ok (.aload_n 0, 1) := by decide +kernel
theorem dX9_findMover_165 : decode cX9_findMover 165 = .ok (.getfield 50, 3) := by decide +kernel
theorem dX9_findMover_168 : decode cX9_findMover 168 = .ok (.aload_n 0, 1) := by decide +kernel
theorem dX9_findMover_169 : decode cX9_findMover 169 = .ok (.getfield 267, 3) := by decide +kernel
theorem dX9_findMover_172 : decode cX9_findMover 172 = .ok (.lload_n 2, 1) := by decide +kernel
theorem dX9_findMover_173 : decode cX9_findMover 173 = .ok (.lastore, 1) := by decide +kernel
theorem dX9_findMover_174 : decode cX9_findMover 174 = .ok (.aload_n 0, 1) := by decide +kernel
theorem dX9_findMover_175 : decode cX9_findMover 175 = .ok (.dup, 1) := by decide +kernel
theorem dX9_findMover_176 : decode cX9_findMover 176 = .ok (.getfield 267, 3) := by decide +kernel
theorem dX9_findMover_179 : decode cX9_findMover 179 = .ok (.iconst 1, 1) := by decide +kernel
theorem dX9_findMover_180 : decode cX9_findMover 180 = .ok (.iadd, 1) := by decide +kernel
theorem dX9_findMover_181 : decode cX9_findMover 181 = .ok (.putfield 267, 3) := by decide +kernel
theorem dX9_findMover_184 : decode cX9_findMover 184 = .ok (.iload_n 1, 1) := by decide +kernel
theorem dX9_findMover_185 : decode cX9_findMover 185 = .ok (.bipush (-9), 2) := by decide +kernel
theorem dX9_findMover_187 : decode cX9_findMover 187 = .ok (.if_icmp .eq 7, 3) := by decide +kernel
theorem dX9_findMover_190 : decode cX9_findMover 190 = .ok (.iconst 1, 1) := by decide +kernel
theorem dX9_findMover_191 : decode cX9_findMover 191 = .ok (.goto 4, 3) := by decide +kernel
theorem dX9_findMover_194 : decode cX9_findMover 194 = .ok (.iconst 0, 1) := by decide +kernel
theorem dX9_findMover_195 : decode cX9_findMover 195 = .ok (.ireturn, 1) := by decide +kernel
theorem dX9_mover_0 : decode cX9_mover 0 = .ok (.iload_n 1, 1) := by decide +kernel
theorem dX9_mover_1 : decode cX9_mover 1 = .ok (.iconst (-1), 1) := by decide +kernel
theorem dX9_mover_2 : decode cX9_mover 2 = .ok (.bipush 7, 2) := by decide +kernel
theorem dX9_mover_4 : decode cX9_mover 4 = .ok (.invokestatic 75, 3) := by decide +kernel
theorem dX9_mover_7 : decode cX9_mover 7 = .ok (.ifCond .eq 12, 3) := by decide +kernel
theorem dX9_mover_10 : decode cX9_mover 10 = .ok (.iload_n 2, 1) := by decide +kernel
theorem dX9_mover_11 : decode cX9_mover 11 = .ok (.iconst 0, 1) := by decide +kernel
theorem dX9_mover_12 : decode cX9_mover 12 = .ok (.iconst 2, 1) := by decide +kernel
theorem dX9_mover_13 : decode cX9_mover 13 = .ok (.invokestatic 75, 3) := by decide +kernel
theorem dX9_mover_16 : decode cX9_mover 16 = .ok (.ifCond .ne 6, 3) := by decide +kernel
theorem dX9_mover_19 : decode cX9_mover 19 = .ok (.bipush (-2), 2) := by decide +kernel
theorem dX9_mover_21 : decode cX9_mover 21 = .ok (.ireturn, 1) := by decide +kernel
theorem dX9_mover_22 : decode cX9_mover 22 = .ok (.aload_n 0, 1) := by decide +kernel
theorem dX9_mover_23 : decode cX9_mover 23 = .ok (.iconst 0, 1) := by decide +kernel
theorem dX9_mover_24 : decode cX9_mover 24 = .ok (.putfield 267, 3) := by decide +kernel
theorem dX9_mover_27 : decode cX9_mover 27 = .ok (.aload_n 0, 1) := by decide +kernel
theorem dX9_mover_28 : decode cX9_mover 28 = .ok (.invokevirtual 263, 3) := by decide +kernel
theorem dX9_mover_31 : decode cX9_mover 31 = .ok (.iconst 1, 1) := by decide +kernel
theorem dX9_mover_32 : decode cX9_mover 32 = .ok (.if_icmp .le 7, 3) := by decide +kernel
theorem dX9_mover_35 : decode cX9_mover 35 = .ok (.iconst 1, 1) := by decide +kernel
theorem dX9_mover_36 : decode cX9_mover 36 = .ok (.goto 4, 3) := by decide +kernel
theorem dX9_mover_39 : decode cX9_mover 39 = .ok (.iconst 0, 1) := by decide +kernel
theorem dX9_mover_40 : decode cX9_mover 40 = .ok (.istore_n 3, 1) := by decide +kernel
theorem dX9_mover_41 : decode cX9_mover 41 = .ok (.iload_n 3, 1) := by decide +kernel
theorem dX9_mover_42 : decode cX9_mover 42 = .ok (.ifCond .eq 11, 3) := by decide +kernel
theorem dX9_mover_45 : decode cX9_mover 45 = .ok (.aload_n 0, 1) := by decide +kernel
theorem dX9_mover_46 : decode cX9_mover 46 = .ok (.invokevirtual 277, 3) := by decide +kernel
theorem dX9_mover_49 : decode cX9_mover 49 = .ok (.istore_n 3, 1) := by decide +kernel
theorem dX9_mover_50 : decode cX9_mover 50 = .ok (.goto (-9), 3) := by decide +kernel
theorem dX9_mover_53 : decode cX9_mover 53 = .ok (.iload_n 1, 1) := by decide +kernel
theorem dX9_mover_54 : decode cX9_mover 54 = .ok (.ifCond .ge 8, 3) := by decide +kernel
theorem dX9_mover_57 : decode cX9_mover 57 = .ok (.aload_n 0, 1) := by decide +kernel
theorem dX9_mover_58 : decode cX9_mover 58 = .ok (.getfield 267, 3) := by decide +kernel
theorem dX9_mover_61 : decode cX9_mover 61 = .ok (.ireturn, 1) := by decide +kernel
theorem dX9_mover_62 : decode cX9_mover 62 = .ok (.iload_n 1, 1) := by decide +kernel
theorem dX9_mover_63 : decode cX9_mover 63 = .ok (.aload_n 0, 1) := by decide +kernel
theorem dX9_mover_64 : decode cX9_mover 64 = .ok (.getfield 267, 3) := by decide +kernel
theorem dX9_mover_67 : decode cX9_mover 67 = .ok (.if_icmp .lt 8, 3) := by decide +kernel
theorem dX9_mover_70 : decode cX9_mover 70 = .ok (.bipush (-9), 2) := by decide +kernel
theorem dX9_mover_72 : decode cX9_mover 72 = .ok (.goto 37, 3) := by decide +kernel
theorem dX9_mover_75 : decode cX9_mover 75 = .ok (.iload_n 2, 1) := by decide +kernel
theorem dX9_mover_76 : decode cX9_mover 76 = .ok (.ifCond .ne 12, 3) := by decide +kernel
theorem dX9_mover_79 : decode cX9_mover 79 = .ok (.aload_n 0, 1) := by decide +kernel
theorem dX9_mover_80 : decode cX9_mover 80 = .ok (.getfield 44, 3) := by decide +kernel
theorem dX9_mover_83 : decode cX9_mover 83 = .ok (.iload_n 1, 1) := by decide +kernel
theorem dX9_mover_84 : decode cX9_mover 84 = .ok (.iaload, 1) := by decide +kernel
theorem dX9_mover_85 : decode cX9_mover 85 = .ok (.goto 24, 3) := by decide +kernel
theorem dX9_mover_88 : decode cX9_mover 88 = .ok (.iload_n 2, 1) := by decide +kernel
theorem dX9_mover_89 : decode cX9_mover 89 = .ok (.iconst 1, 1) := by decide +kernel
theorem dX9_mover_90 : decode cX9_mover 90 = .ok (.if_icmp .ne 12, 3) := by decide +kernel
theorem dX9_mover_93 : decode cX9_mover 93 = .ok (.aload_n 0, 1) := by decide +kernel
theorem dX9_mover_94 : decode cX9_mover 94 = .ok (.getfield 47, 3) := by decide +kernel
theorem dX9_mover_97 : decode cX9_mover 97 = .ok (.iload_n 1, 1) := by decide +kernel
theorem dX9_mover_98 : decode cX9_mover 98 = .ok (.iaload, 1) := by decide +kernel
theorem dX9_mover_99 : decode cX9_mover 99 = .ok (.goto 10, 3) := by decide +kernel
theorem dX9_mover_102 : decode cX9_mover 102 = .ok (.aload_n 0, 1) := by decide +kernel
theorem dX9_mover_103 : decode cX9_mover 103 = .ok (.getfield 50, 3) := by decide +kernel
theorem dX9_mover_106 : decode cX9_mover 106 = .ok (.iload_n 1, 1) := by decide +kernel
theorem dX9_mover_107 : decode cX9_mover 107 = .ok (.laload, 1) := by decide +kernel
theorem dX9_mover_108 : decode cX9_mover 108 = .ok (.l2i, 1) := by decide +kernel
theorem dX9_mover_109 : decode cX9_mover 109 = .ok (.ireturn, 1) := by decide +kernel
theorem dX9_blinks_0 : decode cX9_blinks 0 = .ok (.aload_n 0, 1) := by decide +kernel
theorem dX9_blinks_1 : decode cX9_blinks 1 = .ok (.iconst 0, 1) := by decide +kernel
theorem dX9_blinks_2 : decode cX9_blinks 2 = .ok (.invokevirtual 248, 3) := by decide +kernel
theorem dX9_blinks_5 : decode cX9_blinks 5 = .ok (.pop, 1) := by decide +kernel
theorem dX9_blinks_6 : decode cX9_blinks 6 = .ok (.aload_n 0, 1) := by decide +kernel
theorem dX9_blinks_7 : decode cX9_blinks 7 = .ok (.iconst 1, 1) := by decide +kernel
theorem dX9_blinks_8 : decode cX9_blinks 8 = .ok (.invokevirtual 248, 3) := by decide +kernel
theorem dX9_blinks_11 : decode cX9_blinks 11 = .ok (.pop, 1) := by decide +kernel
theorem dX9_blinks_12 : decode cX9_blinks 12 = .ok (.iconst 0, 1) := by decide +kernel
theorem dX9_blinks_13 : decode cX9_blinks 13 = .ok (.istore_n 1, 1) := by decide +kernel
theorem dX9_blinks_14 : decode cX9_blinks 14 = .ok (.iconst 0, 1) := by decide +kernel
theorem dX9_blinks_15 : decode cX9_blinks 15 = .ok (.istore_n 2, 1) := by decide +kernel
theorem dX9_blinks_16 : decode cX9_blinks 16 = .ok (.iload_n 2, 1) := by decide +kernel
theorem dX9_blinks_17 : decode cX9_blinks 17 = .ok (.aload_n 0, 1) := by decide +kernel
theorem dX9_blinks_18 : decode cX9_blinks 18 = .ok (.getfield 7, 3) := by decide +kernel
theorem dX9_blinks_21 : decode cX9_blinks 21 = .ok (.iconst 0, 1) := by decide +kernel
theorem dX9_blinks_22 : decode cX9_blinks 22 = .ok (.iaload, 1) := by decide +kernel
theorem dX9_blinks_23 : decode cX9_blinks 23 = .ok (.if_icmp .ge 140, 3) := by decide +kernel
theorem dX9_blinks_26 : decode cX9_blinks 26 = .ok (.aload_n 0, 1) := by decide +kernel
theorem dX9_blinks_27 : decode cX9_blinks 27 = .ok (.getfield 35, 3) := by decide +kernel
theorem dX9_blinks_30 : decode cX9_blinks 30 = .ok (.iload_n 2, 1) := by decide +kernel
theorem dX9_blinks_31 : decode cX9_blinks 31 = .ok (.iaload, 1) := by decide +kernel
theorem dX9_blinks_32 : decode cX9_blinks 32 = .ok (.istore_n 3, 1) := by decide +kernel
theorem dX9_blinks_33 : decode cX9_blinks 33 = .ok (.aload_n 0, 1) := by decide +kernel
theorem dX9_blinks_34 : decode cX9_blinks 34 = .ok (.getfield 35, 3) := by decide +kernel
theorem dX9_blinks_37 : decode cX9_blinks 37 = .ok (.bipush 8, 2) := by decide +kernel
theorem dX9_blinks_39 : decode cX9_blinks 39 = .ok (.iload_n 2, 1) := by decide +kernel
theorem dX9_blinks_40 : decode cX9_blinks 40 = .ok (.iadd, 1) := by decide +kernel
theorem dX9_blinks_41 : decode cX9_blinks 41 = .ok (.iaload, 1) := by decide +kernel
theorem dX9_blinks_42 : decode cX9_blinks 42 = .ok (.istore 4, 2) := by decide +kernel
theorem dX9_blinks_44 : decode cX9_blinks 44 = .ok (.iload_n 3, 1) := by decide +kernel
theorem dX9_blinks_45 : decode cX9_blinks 45 = .ok (.bipush (-9), 2) := by decide +kernel
theorem dX9_blinks_47 : decode cX9_blinks 47 = .ok (.if_icmp .ne 7, 3) := by decide +kernel
theorem dX9_blinks_50 : decode cX9_blinks 50 = .ok (.iconst 1, 1) := by decide +kernel
theorem dX9_blinks_51 : decode cX9_blinks 51 = .ok (.goto 4, 3) := by decide +kernel
theorem dX9_blinks_54 : decode cX9_blinks 54 = .ok (.iconst 0, 1) := by decide +kernel
theorem dX9_blinks_55 : decode cX9_blinks 55 = .ok (.iload 4, 2) := by decide +kernel
theorem dX9_blinks_57 : decode cX9_blinks 57 = .ok (.bipush (-9), 2) := by decide +kernel
theorem dX9_blinks_59 : decode cX9_blinks 59 = .ok (.if_icmp .ne 7, 3) := by decide +kernel
theorem dX9_blinks_62 : decode cX9_blinks 62 = .ok (.iconst 1, 1) := by decide +kernel
theorem dX9_blinks_63 : decode cX9_blinks 63 = .ok (.goto 4, 3) := by decide +kernel
theorem dX9_blinks_66 : decode cX9_blinks 66 = .ok (.iconst 0, 1) := by decide +kernel
theorem dX9_blinks_67 : decode cX9_blinks 67 = .ok (.if_icmp .eq 7, 3) := by decide +kernel
theorem dX9_blinks_70 : decode cX9_blinks 70 = .ok (.iconst 1, 1) := by decide +kernel
theorem dX9_blinks_71 : decode cX9_blinks 71 = .ok (.goto 4, 3) := by decide +kernel
theorem dX9_blinks_74 : decode cX9_blinks 74 = .ok (.iconst 0, 1) := by decide +kernel
theorem dX9_blinks_75 : decode cX9_blinks 75 = .ok (.istore 5, 2) := by decide +kernel
theorem dX9_blinks_77 : decode cX9_blinks 77 = .ok (.iload_n 3, 1) := by decide +kernel
theorem dX9_blinks_78 : decode cX9_blinks 78 = .ok (.bipush (-9), 2) := by decide +kernel
theorem dX9_blinks_80 : decode cX9_blinks 80 = .ok (.if_icmp .eq 62, 3) := by decide +kernel
theorem dX9_blinks_83 : decode cX9_blinks 83 = .ok (.iload 4, 2) := by decide +kernel
theorem dX9_blinks_85 : decode cX9_blinks 85 = .ok (.bipush (-9), 2) := by decide +kernel
theorem dX9_blinks_87 : decode cX9_blinks 87 = .ok (.if_icmp .eq 55, 3) := by decide +kernel
theorem dX9_blinks_90 : decode cX9_blinks 90 = .ok (.aload_n 0, 1) := by decide +kernel
theorem dX9_blinks_91 : decode cX9_blinks 91 = .ok (.getfield 19, 3) := by decide +kernel
theorem dX9_blinks_94 : decode cX9_blinks 94 = .ok (.bipush 8, 2) := by decide +kernel
theorem dX9_blinks_96 : decode cX9_blinks 96 = .ok (.iload_n 3, 1) := by decide +kernel
theorem dX9_blinks_97 : decode cX9_blinks 97 = .ok (.iadd, 1) := by decide +kernel
theorem dX9_blinks_98 : decode cX9_blinks 98 = .ok (.iaload, 1) := by decide +kernel
theorem dX9_blinks_99 : decode cX9_blinks 99 = .ok (.aload_n 0, 1) := by decide +kernel
theorem dX9_blinks_100 : decode cX9_blinks 100 = .ok (.getfield 19, 3) := by decide +kernel
theorem dX9_blinks_103 : decode cX9_blinks 103 = .ok (.bipush 16, 2) := by decide +kernel
theorem dX9_blinks_105 : decode cX9_blinks 105 = .ok (.iload 4, 2) := by decide +kernel
theorem dX9_blinks_107 : decode cX9_blinks 107 = .ok (.iadd, 1) := by decide +kernel
theorem dX9_blinks_108 : decode cX9_blinks 108 = .ok (.iaload, 1) := by decide +kernel
theorem dX9_blinks_109 : decode cX9_blinks 109 = .ok (.isub, 1) := by decide +kernel
theorem dX9_blinks_110 : decode cX9_blinks 110 = .ok (.istore 6, 2) := by decide +kernel
theorem dX9_blinks_112 : decode cX9_blinks 112 = .ok (.iload 6, 2) := by decide +kernel
theorem dX9_blinks_114 : decode cX9_blinks 114 = .ok (.aload_n 0, 1) := by decide +kernel
theorem dX9_blinks_115 : decode cX9_blinks 115 = .ok (.getfield 23, 3) := by decide +kernel
theorem dX9_blinks_118 : decode cX9_blinks 118 = .ok (.iconst 3, 1) := by decide +kernel
theorem dX9_blinks_119 : decode cX9_blinks 119 = .ok (.iaload, 1) := by decide +kernel
theorem dX9_blinks_120 : decode cX9_blinks 120 = .ok (.if_icmp .ge 15, 3) := by decide +kernel
theorem dX9_blinks_123 : decode cX9_blinks 123 = .ok (.iload 6, 2) := by decide +kernel
theorem dX9_blinks_125 : decode cX9_blinks 125 = .ok (.aload_n 0, 1) := by decide +kernel
theorem dX9_blinks_126 : decode cX9_blinks 126 = .ok (.getfield 23, 3) := by decide +kernel
theorem dX9_blinks_129 : decode cX9_blinks 129 = .ok (.iconst 3, 1) := by decide +kernel
theorem dX9_blinks_130 : decode cX9_blinks 130 = .ok (.iaload, 1) := by decide +kernel
theorem dX9_blinks_131 : decode cX9_blinks 131 = .ok (.ineg, 1) := by decide +kernel
theorem dX9_blinks_132 : decode cX9_blinks 132 = .ok (.if_icmp .gt 7, 3) := by decide +kernel
theorem dX9_blinks_135 : decode cX9_blinks 135 = .ok (.iconst 1, 1) := by decide +kernel
theorem dX9_blinks_136 : decode cX9_blinks 136 = .ok (.goto 4, 3) := by decide +kernel
theorem dX9_blinks_139 : decode cX9_blinks 139 = .ok (.iconst 0, 1) := by decide +kernel
theorem dX9_blinks_140 : decode cX9_blinks 140 = .ok (.istore 5, 2) := by decide +kernel
theorem dX9_blinks_142 : decode cX9_blinks 142 = .ok (.iload_n 1, 1) := by decide +kernel
theorem dX9_blinks_143 : decode cX9_blinks 143 = .ok (.iload 5, 2) := by decide +kernel
theorem dX9_blinks_145 : decode cX9_blinks 145 = .ok (.ifCond .eq 9, 3) := by decide +kernel
theorem dX9_blinks_148 : decode cX9_blinks 148 = .ok (.iconst 1, 1) := by decide +kernel
theorem dX9_blinks_149 : decode cX9_blinks 149 = .ok (.iload_n 2, 1) := by decide +kernel
theorem dX9_blinks_150 : decode cX9_blinks 150 = .ok (.ishl, 1) := by decide +kernel
theorem dX9_blinks_151 : decode cX9_blinks 151 = .ok (.goto 4, 3) := by decide +kernel
theorem dX9_blinks_154 : decode cX9_blinks 154 = .ok (.iconst 0, 1) := by decide +kernel
theorem dX9_blinks_155 : decode cX9_blinks 155 = .ok (.ior, 1) := by decide +kernel
theorem dX9_blinks_156 : decode cX9_blinks 156 = .ok (.istore_n 1, 1) := by decide +kernel
theorem dX9_blinks_157 : decode cX9_blinks 157 = .ok (.iinc 2 1, 3) := by decide +kernel
theorem dX9_blinks_160 : decode cX9_blinks 160 = .ok (.goto (-144), 3) := by decide +kernel
theorem dX9_blinks_163 : decode cX9_blinks 163 = .ok (.iload_n 1, 1) := by decide +kernel
theorem dX9_blinks_164 : decode cX9_blinks 164 = .ok (.ireturn, 1) := by decide +kernel
theorem dX9_keep_0 : decode cX9_keep 0 = .ok (.iload_n 1, 1) := by decide +kernel
theorem dX9_keep_1 : decode cX9_keep 1 = .ok (.invokestatic 90, 3) := by decide +kernel
theorem dX9_keep_4 : decode cX9_keep 4 = .ok (.ifCond .eq 12, 3) := by decide +kernel
theorem dX9_keep_7 : decode cX9_keep 7 = .ok (.iload_n 2, 1) := by decide +kernel
theorem dX9_keep_8 : decode cX9_keep 8 = .ok (.iconst 0, 1) := by decide +kernel
theorem dX9_keep_9 : decode cX9_keep 9 = .ok (.iconst 1, 1) := by decide +kernel
theorem dX9_keep_10 : decode cX9_keep 10 = .ok (.invokestatic 75, 3) := by decide +kernel
theorem dX9_keep_13 : decode cX9_keep 13 = .ok (.ifCond .ne 5, 3) := by decide +kernel
theorem dX9_keep_16 : decode cX9_keep 16 = .ok (.iconst (-1), 1) := by decide +kernel
theorem dX9_keep_17 : decode cX9_keep 17 = .ok (.ireturn, 1) := by decide +kernel
theorem dX9_keep_18 : decode cX9_keep 18 = .ok (.aload_n 0, 1) := by decide +kernel
theorem dX9_keep_19 : decode cX9_keep 19 = .ok (.getfield 54, 3) := by decide +kernel
theorem dX9_keep_22 : decode cX9_keep 22 = .ok (.iload_n 2, 1) := by decide +kernel
theorem dX9_keep_23 : decode cX9_keep 23 = .ok (.aload_n 0, 1) := by decide +kernel
theorem dX9_keep_24 : decode cX9_keep 24 = .ok (.getfield 7, 3) := by decide +kernel
theorem dX9_keep_27 : decode cX9_keep 27 = .ok (.iconst 1, 1) := by decide +kernel
theorem dX9_keep_28 : decode cX9_keep 28 = .ok (.iload_n 1, 1) := by decide +kernel
theorem dX9_keep_29 : decode cX9_keep 29 = .ok (.iadd, 1) := by decide +kernel
theorem dX9_keep_30 : decode cX9_keep 30 = .ok (.iaload, 1) := by decide +kernel
theorem dX9_keep_31 : decode cX9_keep 31 = .ok (.iastore, 1) := by decide +kernel
theorem dX9_keep_32 : decode cX9_keep 32 = .ok (.iconst 0, 1) := by decide +kernel
theorem dX9_keep_33 : decode cX9_keep 33 = .ok (.istore_n 3, 1) := by decide +kernel
theorem dX9_keep_34 : decode cX9_keep 34 = .ok (.iload_n 3, 1) := by decide +kernel
theorem dX9_keep_35 : decode cX9_keep 35 = .ok (.bipush 8, 2) := by decide +kernel
theorem dX9_keep_37 : decode cX9_keep 37 = .ok (.if_icmp .ge 81, 3) := by decide +kernel
theorem dX9_keep_40 : decode cX9_keep 40 = .ok (.aload_n 0, 1) := by decide +kernel
theorem dX9_keep_41 : decode cX9_keep 41 = .ok (.getfield 57, 3) := by decide +kernel
theorem dX9_keep_44 : decode cX9_keep 44 = .ok (.bipush 8, 2) := by decide +kernel
theorem dX9_keep_46 : decode cX9_keep 46 = .ok (.iload_n 2, 1) := by decide +kernel
theorem dX9_keep_47 : decode cX9_keep 47 = .ok (.imul, 1) := by decide +kernel
theorem dX9_keep_48 : decode cX9_keep 48 = .ok (.iload_n 3, 1) := by decide +kernel
theorem dX9_keep_49 : decode cX9_keep 49 = .ok (.iadd, 1) := by decide +kernel
theorem dX9_keep_50 : decode cX9_keep 50 = .ok (.aload_n 0, 1) := by decide +kernel
theorem dX9_keep_51 : decode cX9_keep 51 = .ok (.getfield 13, 3) := by decide +kernel
theorem dX9_keep_54 : decode cX9_keep 54 = .ok (.bipush 8, 2) := by decide +kernel
theorem dX9_keep_56 : decode cX9_keep 56 = .ok (.iconst 1, 1) := by decide +kernel
theorem dX9_keep_57 : decode cX9_keep 57 = .ok (.iload_n 1, 1) := by decide +kernel
theorem dX9_keep_58 : decode cX9_keep 58 = .ok (.iadd, 1) := by decide +kernel
theorem dX9_keep_59 : decode cX9_keep 59 = .ok (.imul, 1) := by decide +kernel
theorem dX9_keep_60 : decode cX9_keep 60 = .ok (.iload_n 3, 1) := by decide +kernel
theorem dX9_keep_61 : decode cX9_keep 61 = .ok (.iadd, 1) := by decide +kernel
theorem dX9_keep_62 : decode cX9_keep 62 = .ok (.iaload, 1) := by decide +kernel
theorem dX9_keep_63 : decode cX9_keep 63 = .ok (.iastore, 1) := by decide +kernel
theorem dX9_keep_64 : decode cX9_keep 64 = .ok (.aload_n 0, 1) := by decide +kernel
theorem dX9_keep_65 : decode cX9_keep 65 = .ok (.getfield 60, 3) := by decide +kernel
theorem dX9_keep_68 : decode cX9_keep 68 = .ok (.bipush 8, 2) := by decide +kernel
theorem dX9_keep_70 : decode cX9_keep 70 = .ok (.iload_n 2, 1) := by decide +kernel
theorem dX9_keep_71 : decode cX9_keep 71 = .ok (.imul, 1) := by decide +kernel
theorem dX9_keep_72 : decode cX9_keep 72 = .ok (.iload_n 3, 1) := by decide +kernel
theorem dX9_keep_73 : decode cX9_keep 73 = .ok (.iadd, 1) := by decide +kernel
theorem dX9_keep_74 : decode cX9_keep 74 = .ok (.aload_n 0, 1) := by decide +kernel
theorem dX9_keep_75 : decode cX9_keep 75 = .ok (.getfield 16, 3) := by decide +kernel
theorem dX9_keep_78 : decode cX9_keep 78 = .ok (.bipush 8, 2) := by decide +kernel
theorem dX9_keep_80 : decode cX9_keep 80 = .ok (.iconst 1, 1) := by decide +kernel
theorem dX9_keep_81 : decode cX9_keep 81 = .ok (.iload_n 1, 1) := by decide +kernel
theorem dX9_keep_82 : decode cX9_keep 82 = .ok (.iadd, 1) := by decide +kernel
theorem dX9_keep_83 : decode cX9_keep 83 = .ok (.imul, 1) := by decide +kernel
theorem dX9_keep_84 : decode cX9_keep 84 = .ok (.iload_n 3, 1) := by decide +kernel
theorem dX9_keep_85 : decode cX9_keep 85 = .ok (.iadd, 1) := by decide +kernel
theorem dX9_keep_86 : decode cX9_keep 86 = .ok (.iaload, 1) := by decide +kernel
theorem dX9_keep_87 : decode cX9_keep 87 = .ok (.iastore, 1) := by decide +kernel
theorem dX9_keep_88 : decode cX9_keep 88 = .ok (.aload_n 0, 1) := by decide +kernel
theorem dX9_keep_89 : decode cX9_keep 89 = .ok (.getfield 63, 3) := by decide +kernel
theorem dX9_keep_92 : decode cX9_keep 92 = .ok (.bipush 8, 2) := by decide +kernel
theorem dX9_keep_94 : decode cX9_keep 94 = .ok (.iload_n 2, 1) := by decide +kernel
theorem dX9_keep_95 : decode cX9_keep 95 = .ok (.imul, 1) := by decide +kernel
theorem dX9_keep_96 : decode cX9_keep 96 = .ok (.iload_n 3, 1) := by decide +kernel
theorem dX9_keep_97 : decode cX9_keep 97 = .ok (.iadd, 1) := by decide +kernel
theorem dX9_keep_98 : decode cX9_keep 98 = .ok (.aload_n 0, 1) := by decide +kernel
theorem dX9_keep_99 : decode cX9_keep 99 = .ok (.getfield 19, 3) := by decide +kernel
theorem dX9_keep_102 : decode cX9_keep 102 = .ok (.bipush 8, 2) := by decide +kernel
theorem dX9_keep_104 : decode cX9_keep 104 = .ok (.iconst 1, 1) := by decide +kernel
theorem dX9_keep_105 : decode cX9_keep 105 = .ok (.iload_n 1, 1) := by decide +kernel
theorem dX9_keep_106 : decode cX9_keep 106 = .ok (.iadd, 1) := by decide +kernel
theorem dX9_keep_107 : decode cX9_keep 107 = .ok (.imul, 1) := by decide +kernel
theorem dX9_keep_108 : decode cX9_keep 108 = .ok (.iload_n 3, 1) := by decide +kernel
theorem dX9_keep_109 : decode cX9_keep 109 = .ok (.iadd, 1) := by decide +kernel
theorem dX9_keep_110 : decode cX9_keep 110 = .ok (.iaload, 1) := by decide +kernel
theorem dX9_keep_111 : decode cX9_keep 111 = .ok (.iastore, 1) := by decide +kernel
theorem dX9_keep_112 : decode cX9_keep 112 = .ok (.iinc 3 1, 3) := by decide +kernel
theorem dX9_keep_115 : decode cX9_keep 115 = .ok (.goto (-81), 3) := by decide +kernel
theorem dX9_keep_118 : decode cX9_keep 118 = .ok (.aload_n 0, 1) := by decide +kernel
theorem dX9_keep_119 : decode cX9_keep 119 = .ok (.getfield 7, 3) := by decide +kernel
theorem dX9_keep_122 : decode cX9_keep 122 = .ok (.iconst 1, 1) := by decide +kernel
theorem dX9_keep_123 : decode cX9_keep 123 = .ok (.iload_n 1, 1) := by decide +kernel
theorem dX9_keep_124 : decode cX9_keep 124 = .ok (.iadd, 1) := by decide +kernel
theorem dX9_keep_125 : decode cX9_keep 125 = .ok (.iaload, 1) := by decide +kernel
theorem dX9_keep_126 : decode cX9_keep 126 = .ok (.ireturn, 1) := by decide +kernel
theorem dX9_restore_0 : decode cX9_restore 0 = .ok (.iload_n 1, 1) := by decide +kernel
theorem dX9_restore_1 : decode cX9_restore 1 = .ok (.invokestatic 90, 3) := by decide +kernel
theorem dX9_restore_4 : decode cX9_restore 4 = .ok (.ifCond .eq 12, 3) := by decide +kernel
theorem dX9_restore_7 : decode cX9_restore 7 = .ok (.iload_n 2, 1) := by decide +kernel
theorem dX9_restore_8 : decode cX9_restore 8 = .ok (.iconst 0, 1) := by decide +kernel
theorem dX9_restore_9 : decode cX9_restore 9 = .ok (.iconst 1, 1) := by decide +kernel
theorem dX9_restore_10 : decode cX9_restore 10 = .ok (.invokestatic 75, 3) := by decide +kernel
theorem dX9_restore_13 : decode cX9_restore 13 = .ok (.ifCond .ne 5, 3) := by decide +kernel
theorem dX9_restore_16 : decode cX9_restore 16 = .ok (.iconst (-1), 1) := by decide +kernel
theorem dX9_restore_17 : decode cX9_restore 17 = .ok (.ireturn, 1) := by decide +kernel
theorem dX9_restore_18 : decode cX9_restore 18 = .ok (.aload_n 0, 1) := by decide +kernel
theorem dX9_restore_19 : decode cX9_restore 19 = .ok (.getfield 54, 3) := by decide +kernel
theorem dX9_restore_22 : decode cX9_restore 22 = .ok (.iload_n 2, 1) := by decide +kernel
theorem dX9_restore_23 : decode cX9_restore 23 = .ok (.iaload, 1) := by decide +kernel
theorem dX9_restore_24 : decode cX9_restore 24 = .ok (.bipush (-9), 2) := by decide +kernel
theorem dX9_restore_26 : decode cX9_restore 26 = .ok (.if_icmp .ne 6, 3) := by decide +kernel
theorem dX9_restore_29 : decode cX9_restore 29 = .ok (.bipush (-3), 2) := by decide +kernel
theorem dX9_restore_31 : decode cX9_restore 31 = .ok (.ireturn, 1) := by decide +kernel
theorem dX9_restore_32 : decode cX9_restore 32 = .ok (.aload_n 0, 1) := by decide +kernel
theorem dX9_restore_33 : decode cX9_restore 33 = .ok (.getfield 7, 3) := by decide +kernel
theorem dX9_restore_36 : decode cX9_restore 36 = .ok (.iconst 1, 1) := by decide +kernel
theorem dX9_restore_37 : decode cX9_restore 37 = .ok (.iload_n 1, 1) := by decide +kernel
theorem dX9_restore_38 : decode cX9_restore 38 = .ok (.iadd, 1) := by decide +kernel
theorem dX9_restore_39 : decode cX9_restore 39 = .ok (.aload_n 0, 1) := by decide +kernel
theorem dX9_restore_40 : decode cX9_restore 40 = .ok (.getfield 54, 3) := by decide +kernel
theorem dX9_restore_43 : decode cX9_restore 43 = .ok (.iload_n 2, 1) := by decide +kernel
theorem dX9_restore_44 : decode cX9_restore 44 = .ok (.iaload, 1) := by decide +kernel
theorem dX9_restore_45 : decode cX9_restore 45 = .ok (.iastore, 1) := by decide +kernel
theorem dX9_restore_46 : decode cX9_restore 46 = .ok (.iconst 0, 1) := by decide +kernel
theorem dX9_restore_47 : decode cX9_restore 47 = .ok (.istore_n 3, 1) := by decide +kernel
theorem dX9_restore_48 : decode cX9_restore 48 = .ok (.iload_n 3, 1) := by decide +kernel
theorem dX9_restore_49 : decode cX9_restore 49 = .ok (.bipush 8, 2) := by decide +kernel
theorem dX9_restore_51 : decode cX9_restore 51 = .ok (.if_icmp .ge 81, 3) := by decide +kernel
theorem dX9_restore_54 : decode cX9_restore 54 = .ok (.aload_n 0, 1) := by decide +kernel
theorem dX9_restore_55 : decode cX9_restore 55 = .ok (.getfield 13, 3) := by decide +kernel
theorem dX9_restore_58 : decode cX9_restore 58 = .ok (.bipush 8, 2) := by decide +kernel
theorem dX9_restore_60 : decode cX9_restore 60 = .ok (.iconst 1, 1) := by decide +kernel
theorem dX9_restore_61 : decode cX9_restore 61 = .ok (.iload_n 1, 1) := by decide +kernel
theorem dX9_restore_62 : decode cX9_restore 62 = .ok (.iadd, 1) := by decide +kernel
theorem dX9_restore_63 : decode cX9_restore 63 = .ok (.imul, 1) := by decide +kernel
theorem dX9_restore_64 : decode cX9_restore 64 = .ok (.iload_n 3, 1) := by decide +kernel
theorem dX9_restore_65 : decode cX9_restore 65 = .ok (.iadd, 1) := by decide +kernel
theorem dX9_restore_66 : decode cX9_restore 66 = .ok (.aload_n 0, 1) := by decide +kernel
theorem dX9_restore_67 : decode cX9_restore 67 = .ok (.getfield 57, 3) := by decide +kernel
theorem dX9_restore_70 : decode cX9_restore 70 = .ok (.bipush 8, 2) := by decide +kernel
theorem dX9_restore_72 : decode cX9_restore 72 = .ok (.iload_n 2, 1) := by decide +kernel
theorem dX9_restore_73 : decode cX9_restore 73 = .ok (.imul, 1) := by decide +kernel
theorem dX9_restore_74 : decode cX9_restore 74 = .ok (.iload_n 3, 1) := by decide +kernel
theorem dX9_restore_75 : decode cX9_restore 75 = .ok (.iadd, 1) := by decide +kernel
theorem dX9_restore_76 : decode cX9_restore 76 = .ok (.iaload, 1) := by decide +kernel
theorem dX9_restore_77 : decode cX9_restore 77 = .ok (.iastore, 1) := by decide +kernel
theorem dX9_restore_78 : decode cX9_restore 78 = .ok (.aload_n 0, 1) := by decide +kernel
theorem dX9_restore_79 : decode cX9_restore 79 = .ok (.getfield 16, 3) := by decide +kernel
theorem dX9_restore_82 : decode cX9_restore 82 = .ok (.bipush 8, 2) := by decide +kernel
theorem dX9_restore_84 : decode cX9_restore 84 = .ok (.iconst 1, 1) := by decide +kernel
theorem dX9_restore_85 : decode cX9_restore 85 = .ok (.iload_n 1, 1) := by decide +kernel
theorem dX9_restore_86 : decode cX9_restore 86 = .ok (.iadd, 1) := by decide +kernel
theorem dX9_restore_87 : decode cX9_restore 87 = .ok (.imul, 1) := by decide +kernel
theorem dX9_restore_88 : decode cX9_restore 88 = .ok (.iload_n 3, 1) := by decide +kernel
theorem dX9_restore_89 : decode cX9_restore 89 = .ok (.iadd, 1) := by decide +kernel
theorem dX9_restore_90 : decode cX9_restore 90 = .ok (.aload_n 0, 1) := by decide +kernel
theorem dX9_restore_91 : decode cX9_restore 91 = .ok (.getfield 60, 3) := by decide +kernel
theorem dX9_restore_94 : decode cX9_restore 94 = .ok (.bipush 8, 2) := by decide +kernel
theorem dX9_restore_96 : decode cX9_restore 96 = .ok (.iload_n 2, 1) := by decide +kernel
theorem dX9_restore_97 : decode cX9_restore 97 = .ok (.imul, 1) := by decide +kernel
theorem dX9_restore_98 : decode cX9_restore 98 = .ok (.iload_n 3, 1) := by decide +kernel
theorem dX9_restore_99 : decode cX9_restore 99 = .ok (.iadd, 1) := by decide +kernel
theorem dX9_restore_100 : decode cX9_restore 100 = .ok (.iaload, 1) := by decide +kernel
theorem dX9_restore_101 : decode cX9_restore 101 = .ok (.iastore, 1) := by decide +kernel
theorem dX9_restore_102 : decode cX9_restore 102 = .ok (.aload_n 0, 1) := by decide +kernel
theorem dX9_restore_103 : decode cX9_restore 103 = .ok (.getfield 19, 3) := by decide +kernel
theorem dX9_restore_106 : decode cX9_restore 106 = .ok (.bipush 8, 2) := by decide +kernel
theorem dX9_restore_108 : decode cX9_restore 108 = .ok (.iconst 1, 1) := by decide +kernel
theorem dX9_restore_109 : decode cX9_restore 109 = .ok (.iload_n 1, 1) := by decide +kernel
theorem dX9_restore_110 : decode cX9_restore 110 = .ok (.iadd, 1) := by decide +kernel
theorem dX9_restore_111 : decode cX9_restore 111 = .ok (.imul, 1) := by decide +kernel
theorem dX9_restore_112 : decode cX9_restore 112 = .ok (.iload_n 3, 1) := by decide +kernel
theorem dX9_restore_113 : decode cX9_restore 113 = .ok (.iadd, 1) := by decide +kernel
theorem dX9_restore_114 : decode cX9_restore 114 = .ok (.aload_n 0, 1) := by decide +kernel
theorem dX9_restore_115 : decode cX9_restore 115 = .ok (.getfield 63, 3) := by decide +kernel
theorem dX9_restore_118 : decode cX9_restore 118 = .ok (.bipush 8, 2) := by decide +kernel
theorem dX9_restore_120 : decode cX9_restore 120 = .ok (.iload_n 2, 1) := by decide +kernel
theorem dX9_restore_121 : decode cX9_restore 121 = .ok (.imul, 1) := by decide +kernel
theorem dX9_restore_122 : decode cX9_restore 122 = .ok (.iload_n 3, 1) := by decide +kernel
theorem dX9_restore_123 : decode cX9_restore 123 = .ok (.iadd, 1) := by decide +kernel
theorem dX9_restore_124 : decode cX9_restore 124 = .ok (.iaload, 1) := by decide +kernel
theorem dX9_restore_125 : decode cX9_restore 125 = .ok (.iastore, 1) := by decide +kernel
theorem dX9_restore_126 : decode cX9_restore 126 = .ok (.iinc 3 1, 3) := by decide +kernel
theorem dX9_restore_129 : decode cX9_restore 129 = .ok (.goto (-81), 3) := by decide +kernel
theorem dX9_restore_132 : decode cX9_restore 132 = .ok (.aload_n 0, 1) := by decide +kernel
theorem dX9_restore_133 : decode cX9_restore 133 = .ok (.getfield 7, 3) := by decide +kernel
theorem dX9_restore_136 : decode cX9_restore 136 = .ok (.iconst 1, 1) := by decide +kernel
theorem dX9_restore_137 : decode cX9_restore 137 = .ok (.iload_n 1, 1) := by decide +kernel
theorem dX9_restore_138 : decode cX9_restore 138 = .ok (.iadd, 1) := by decide +kernel
theorem dX9_restore_139 : decode cX9_restore 139 = .ok (.iaload, 1) := by decide +kernel
theorem dX9_restore_140 : decode cX9_restore 140 = .ok (.ireturn, 1) := by decide +kernel
theorem dX9_isTray_0 : decode cX9_isTray 0 = .ok (.iload_n 0, 1) := by decide +kernel
theorem dX9_isTray_1 : decode cX9_isTray 1 = .ok (.iconst 0, 1) := by decide +kernel
theorem dX9_isTray_2 : decode cX9_isTray 2 = .ok (.iconst 2, 1) := by decide +kernel
theorem dX9_isTray_3 : decode cX9_isTray 3 = .ok (.invokestatic 75, 3) := by decide +kernel
theorem dX9_isTray_6 : decode cX9_isTray 6 = .ok (.ireturn, 1) := by decide +kernel
theorem dX9_tray_0 : decode cX9_tray 0 = .ok (.iload_n 1, 1) := by decide +kernel
theorem dX9_tray_1 : decode cX9_tray 1 = .ok (.invokestatic 281, 3) := by decide +kernel
theorem dX9_tray_4 : decode cX9_tray 4 = .ok (.ifCond .ne 5, 3) := by decide +kernel
theorem dX9_tray_7 : decode cX9_tray 7 = .ok (.iconst (-1), 1) := by decide +kernel
theorem dX9_tray_8 : decode cX9_tray 8 = .ok (.ireturn, 1) := by decide +kernel
theorem dX9_tray_9 : decode cX9_tray 9 = .ok (.iload_n 2, 1) := by decide +kernel
theorem dX9_tray_10 : decode cX9_tray 10 = .ok (.iconst 0, 1) := by decide +kernel
theorem dX9_tray_11 : decode cX9_tray 11 = .ok (.iconst 2, 1) := by decide +kernel
theorem dX9_tray_12 : decode cX9_tray 12 = .ok (.invokestatic 75, 3) := by decide +kernel
theorem dX9_tray_15 : decode cX9_tray 15 = .ok (.ifCond .eq 9, 3) := by decide +kernel
theorem dX9_tray_18 : decode cX9_tray 18 = .ok (.iload_n 3, 1) := by decide +kernel
theorem dX9_tray_19 : decode cX9_tray 19 = .ok (.bipush 8, 2) := by decide +kernel
theorem dX9_tray_21 : decode cX9_tray 21 = .ok (.if_icmp .le 6, 3) := by decide +kernel
theorem dX9_tray_24 : decode cX9_tray 24 = .ok (.bipush (-2), 2) := by decide +kernel
theorem dX9_tray_26 : decode cX9_tray 26 = .ok (.ireturn, 1) := by decide +kernel
theorem dX9_tray_27 : decode cX9_tray 27 = .ok (.iload_n 3, 1) := by decide +kernel
theorem dX9_tray_28 : decode cX9_tray 28 = .ok (.ifCond .ge 6, 3) := by decide +kernel
theorem dX9_tray_31 : decode cX9_tray 31 = .ok (.bipush (-14), 2) := by decide +kernel
theorem dX9_tray_33 : decode cX9_tray 33 = .ok (.ireturn, 1) := by decide +kernel
theorem dX9_tray_34 : decode cX9_tray 34 = .ok (.aload_n 0, 1) := by decide +kernel
theorem dX9_tray_35 : decode cX9_tray 35 = .ok (.getfield 66, 3) := by decide +kernel
theorem dX9_tray_38 : decode cX9_tray 38 = .ok (.iload_n 1, 1) := by decide +kernel
theorem dX9_tray_39 : decode cX9_tray 39 = .ok (.iload_n 3, 1) := by decide +kernel
theorem dX9_tray_40 : decode cX9_tray 40 = .ok (.iastore, 1) := by decide +kernel
theorem dX9_tray_41 : decode cX9_tray 41 = .ok (.aload_n 0, 1) := by decide +kernel
theorem dX9_tray_42 : decode cX9_tray 42 = .ok (.getfield 69, 3) := by decide +kernel
theorem dX9_tray_45 : decode cX9_tray 45 = .ok (.iload_n 1, 1) := by decide +kernel
theorem dX9_tray_46 : decode cX9_tray 46 = .ok (.iload_n 2, 1) := by decide +kernel
theorem dX9_tray_47 : decode cX9_tray 47 = .ok (.iastore, 1) := by decide +kernel
theorem dX9_tray_48 : decode cX9_tray 48 = .ok (.iconst 0, 1) := by decide +kernel
theorem dX9_tray_49 : decode cX9_tray 49 = .ok (.istore 4, 2) := by decide +kernel
theorem dX9_tray_51 : decode cX9_tray 51 = .ok (.iload 4, 2) := by decide +kernel
theorem dX9_tray_53 : decode cX9_tray 53 = .ok (.bipush 8, 2) := by decide +kernel
theorem dX9_tray_55 : decode cX9_tray 55 = .ok (.if_icmp .ge 23, 3) := by decide +kernel
theorem dX9_tray_58 : decode cX9_tray 58 = .ok (.aload_n 0, 1) := by decide +kernel
theorem dX9_tray_59 : decode cX9_tray 59 = .ok (.getfield 72, 3) := by decide +kernel
theorem dX9_tray_62 : decode cX9_tray 62 = .ok (.bipush 8, 2) := by decide +kernel
theorem dX9_tray_64 : decode cX9_tray 64 = .ok (.iload_n 1, 1) := by decide +kernel
theorem dX9_tray_65 : decode cX9_tray 65 = .ok (.imul, 1) := by decide +kernel
theorem dX9_tray_66 : decode cX9_tray 66 = .ok (.iload 4, 2) := by decide +kernel
theorem dX9_tray_68 : decode cX9_tray 68 = .ok (.iadd, 1) := by decide +kernel
theorem dX9_tray_69 : decode cX9_tray 69 = .ok (.bipush (-9), 2) := by decide +kernel
theorem dX9_tray_71 : decode cX9_tray 71 = .ok (.iastore, 1) := by decide +kernel
theorem dX9_tray_72 : decode cX9_tray 72 = .ok (.iinc 4 1, 3) := by decide +kernel
theorem dX9_tray_75 : decode cX9_tray 75 = .ok (.goto (-24), 3) := by decide +kernel
theorem dX9_tray_78 : decode cX9_tray 78 = .ok (.iload_n 3, 1) := by decide +kernel
theorem dX9_tray_79 : decode cX9_tray 79 = .ok (.ireturn, 1) := by decide +kernel
theorem dX9_faultOf_0 : decode cX9_faultOf 0 = .ok (.aload_n 0, 1) := by decide +kernel
theorem dX9_faultOf_1 : decode cX9_faultOf 1 = .ok (.getfield 66, 3) := by decide +kernel
theorem dX9_faultOf_4 : decode cX9_faultOf 4 = .ok (.iload_n 1, 1) := by decide +kernel
theorem dX9_faultOf_5 : decode cX9_faultOf 5 = .ok (.iaload, 1) := by decide +kernel
theorem dX9_faultOf_6 : decode cX9_faultOf 6 = .ok (.bipush (-9), 2) := by decide +kernel
theorem dX9_faultOf_8 : decode cX9_faultOf 8 = .ok (.if_icmp .ne 8, 3) := by decide +kernel
theorem dX9_faultOf_11 : decode cX9_faultOf 11 = .ok (.bipush (-11), 2) := by decide +kernel
theorem dX9_faultOf_13 : decode cX9_faultOf 13 = .ok (.goto 25, 3) := by decide +kernel
theorem dX9_faultOf_16 : decode cX9_faultOf 16 = .ok (.iload_n 2, 1) := by decide +kernel
theorem dX9_faultOf_17 : decode cX9_faultOf 17 = .ok (.iconst 0, 1) := by decide +kernel
theorem dX9_faultOf_18 : decode cX9_faultOf 18 = .ok (.aload_n 0, 1) := by decide +kernel
theorem dX9_faultOf_19 : decode cX9_faultOf 19 = .ok (.getfield 66, 3) := by decide +kernel
theorem dX9_faultOf_22 : decode cX9_faultOf 22 = .ok (.iload_n 1, 1) := by decide +kernel
theorem dX9_faultOf_23 : decode cX9_faultOf 23 = .ok (.iaload, 1) := by decide +kernel
theorem dX9_faultOf_24 : decode cX9_faultOf 24 = .ok (.iconst 1, 1) := by decide +kernel
theorem dX9_faultOf_25 : decode cX9_faultOf 25 = .ok (.isub, 1) := by decide +kernel
theorem dX9_faultOf_26 : decode cX9_faultOf 26 = .ok (.invokestatic 75, 3) := by decide +kernel
theorem dX9_faultOf_29 : decode cX9_faultOf 29 = .ok (.ifCond .eq 7, 3) := by decide +kernel
theorem dX9_faultOf_32 : decode cX9_faultOf 32 = .ok (.iconst 0, 1) := by decide +kernel
theorem dX9_faultOf_33 : decode cX9_faultOf 33 = .ok (.goto 5, 3) := by decide +kernel
theorem dX9_faultOf_36 : decode cX9_faultOf 36 = .ok (.bipush (-13), 2) := by decide +kernel
theorem dX9_faultOf_38 : decode cX9_faultOf 38 = .ok (.ireturn, 1) := by decide +kernel
theorem dX9_lay_0 : decode cX9_lay 0 = .ok (.iload_n 1, 1) := by decide +kernel
theorem dX9_lay_1 : decode cX9_lay 1 = .ok (.invokestatic 281, 3) := by decide +kernel
theorem dX9_lay_4 : decode cX9_lay 4 = .ok (.ifCond .ne 5, 3) := by decide +kernel
theorem dX9_lay_7 : decode cX9_lay 7 = .ok (.iconst (-1), 1) := by decide +kernel
theorem dX9_lay_8 : decode cX9_lay 8 = .ok (.ireturn, 1) := by decide +kernel
theorem dX9_lay_9 : decode cX9_lay 9 = .ok (.iload_n 3, 1) := by decide +kernel
theorem dX9_lay_10 : decode cX9_lay 10 = .ok (.iconst 0, 1) := by decide +kernel
theorem dX9_lay_11 : decode cX9_lay 11 = .ok (.iconst 2, 1) := by decide +kernel
theorem dX9_lay_12 : decode cX9_lay 12 = .ok (.invokestatic 75, 3) := by decide +kernel
theorem dX9_lay_15 : decode cX9_lay 15 = .ok (.ifCond .ne 6, 3) := by decide +kernel
theorem dX9_lay_18 : decode cX9_lay 18 = .ok (.bipush (-2), 2) := by decide +kernel
theorem dX9_lay_20 : decode cX9_lay 20 = .ok (.ireturn, 1) := by decide +kernel
theorem dX9_lay_21 : decode cX9_lay 21 = .ok (.aload_n 0, 1) := by decide +kernel
theorem dX9_lay_22 : decode cX9_lay 22 = .ok (.iload_n 3, 1) := by decide +kernel
theorem dX9_lay_23 : decode cX9_lay 23 = .ok (.iload 4, 2) := by decide +kernel
theorem dX9_lay_25 : decode cX9_lay 25 = .ok (.invokevirtual 94, 3) := by decide +kernel
theorem dX9_lay_28 : decode cX9_lay 28 = .ok (.ifCond .ne 5, 3) := by decide +kernel
theorem dX9_lay_31 : decode cX9_lay 31 = .ok (.iconst (-1), 1) := by decide +kernel
theorem dX9_lay_32 : decode cX9_lay 32 = .ok (.ireturn, 1) := by decide +kernel
theorem dX9_lay_33 : decode cX9_lay 33 = .ok (.aload_n 0, 1) := by decide +kernel
theorem dX9_lay_34 : decode cX9_lay 34 = .ok (.iload_n 1, 1) := by decide +kernel
theorem dX9_lay_35 : decode cX9_lay 35 = .ok (.iload_n 2, 1) := by decide +kernel
theorem dX9_lay_36 : decode cX9_lay 36 = .ok (.invokevirtual 284, 3) := by decide +kernel
theorem dX9_lay_39 : decode cX9_lay 39 = .ok (.istore 5, 2) := by decide +kernel
theorem dX9_lay_41 : decode cX9_lay 41 = .ok (.iload 5, 2) := by decide +kernel
theorem dX9_lay_43 : decode cX9_lay 43 = .ok (.ifCond .eq 6, 3) := by decide +kernel
theorem dX9_lay_46 : decode cX9_lay 46 = .ok (.iload 5, 2) := by decide +kernel
theorem dX9_lay_48 : decode cX9_lay 48 = .ok (.ireturn, 1) := by decide +kernel
theorem dX9_lay_49 : decode cX9_lay 49 = .ok (.aload_n 0, 1) := by decide +kernel
theorem dX9_lay_50 : decode cX9_lay 50 = .ok (.getfield 69, 3) := by decide +kernel
theorem dX9_lay_53 : decode cX9_lay 53 = .ok (.iload_n 1, 1) := by decide +kernel
theorem dX9_lay_54 : decode cX9_lay 54 = .ok (.iaload, 1) := by decide +kernel
theorem dX9_lay_55 : decode cX9_lay 55 = .ok (.ifCond .ne 7, 3) := by decide +kernel
theorem dX9_lay_58 : decode cX9_lay 58 = .ok (.iload_n 3, 1) := by decide +kernel
theorem dX9_lay_59 : decode cX9_lay 59 = .ok (.ifCond .gt 17, 3) := by decide +kernel
theorem dX9_lay_62 : decode cX9_lay 62 = .ok (.aload_n 0, 1) := by decide +kernel
theorem dX9_lay_63 : decode cX9_lay 63 = .ok (.getfield 69, 3) := by decide +kernel
theorem dX9_lay_66 : decode cX9_lay 66 = .ok (.iload_n 1, 1) := by decide +kernel
theorem dX9_lay_67 : decode cX9_lay 67 = .ok (.iaload, 1) := by decide +kernel
theorem dX9_lay_68 : decode cX9_lay 68 = .ok (.iconst 1, 1) := by decide +kernel
theorem dX9_lay_69 : decode cX9_lay 69 = .ok (.if_icmp .ne 10, 3) := by decide +kernel
theorem dX9_lay_72 : decode cX9_lay 72 = .ok (.iload_n 3, 1) := by decide +kernel
theorem dX9_lay_73 : decode cX9_lay 73 = .ok (.ifCond .ne 6, 3) := by decide +kernel
theorem dX9_lay_76 : decode cX9_lay 76 = .ok (.bipush (-15), 2) := by decide +kernel
theorem dX9_lay_78 : decode cX9_lay 78 = .ok (.ireturn, 1) := by decide +kernel
theorem dX9_lay_79 : decode cX9_lay 79 = .ok (.aload_n 0, 1) := by decide +kernel
theorem dX9_lay_80 : decode cX9_lay 80 = .ok (.getfield 72, 3) := by decide +kernel
theorem dX9_lay_83 : decode cX9_lay 83 = .ok (.bipush 8, 2) := by decide +kernel
theorem dX9_lay_85 : decode cX9_lay 85 = .ok (.iload_n 1, 1) := by decide +kernel
theorem dX9_lay_86 : decode cX9_lay 86 = .ok (.imul, 1) := by decide +kernel
theorem dX9_lay_87 : decode cX9_lay 87 = .ok (.iload_n 2, 1) := by decide +kernel
theorem dX9_lay_88 : decode cX9_lay 88 = .ok (.iadd, 1) := by decide +kernel
theorem dX9_lay_89 : decode cX9_lay 89 = .ok (.bipush 10, 2) := by decide +kernel
theorem dX9_lay_91 : decode cX9_lay 91 = .ok (.iload_n 3, 1) := by decide +kernel
theorem dX9_lay_92 : decode cX9_lay 92 = .ok (.imul, 1) := by decide +kernel
theorem dX9_lay_93 : decode cX9_lay 93 = .ok (.iload 4, 2) := by decide +kernel
theorem dX9_lay_95 : decode cX9_lay 95 = .ok (.iadd, 1) := by decide +kernel
theorem dX9_lay_96 : decode cX9_lay 96 = .ok (.iastore, 1) := by decide +kernel
theorem dX9_lay_97 : decode cX9_lay 97 = .ok (.iconst 1, 1) := by decide +kernel
theorem dX9_lay_98 : decode cX9_lay 98 = .ok (.ireturn, 1) := by decide +kernel
theorem dX9_seen_0 : decode cX9_seen 0 = .ok (.iload_n 1, 1) := by decide +kernel
theorem dX9_seen_1 : decode cX9_seen 1 = .ok (.invokestatic 281, 3) := by decide +kernel
theorem dX9_seen_4 : decode cX9_seen 4 = .ok (.ifCond .ne 5, 3) := by decide +kernel
theorem dX9_seen_7 : decode cX9_seen 7 = .ok (.iconst (-1), 1) := by decide +kernel
theorem dX9_seen_8 : decode cX9_seen 8 = .ok (.ireturn, 1) := by decide +kernel
theorem dX9_seen_9 : decode cX9_seen 9 = .ok (.aload_n 0, 1) := by decide +kernel
theorem dX9_seen_10 : decode cX9_seen 10 = .ok (.iload_n 1, 1) := by decide +kernel
theorem dX9_seen_11 : decode cX9_seen 11 = .ok (.iload_n 2, 1) := by decide +kernel
theorem dX9_seen_12 : decode cX9_seen 12 = .ok (.invokevirtual 284, 3) := by decide +kernel
theorem dX9_seen_15 : decode cX9_seen 15 = .ok (.istore_n 3, 1) := by decide +kernel
theorem dX9_seen_16 : decode cX9_seen 16 = .ok (.iload_n 3, 1) := by decide +kernel
theorem dX9_seen_17 : decode cX9_seen 17 = .ok (.ifCond .eq 7, 3) := by decide +kernel
theorem dX9_seen_20 : decode cX9_seen 20 = .ok (.iload_n 3, 1) := by decide +kernel
theorem dX9_seen_21 : decode cX9_seen 21 = .ok (.goto 14, 3) := by decide +kernel
theorem dX9_seen_24 : decode cX9_seen 24 = .ok (.aload_n 0, 1) := by decide +kernel
theorem dX9_seen_25 : decode cX9_seen 25 = .ok (.getfield 72, 3) := by decide +kernel
theorem dX9_seen_28 : decode cX9_seen 28 = .ok (.bipush 8, 2) := by decide +kernel
theorem dX9_seen_30 : decode cX9_seen 30 = .ok (.iload_n 1, 1) := by decide +kernel
theorem dX9_seen_31 : decode cX9_seen 31 = .ok (.imul, 1) := by decide +kernel
theorem dX9_seen_32 : decode cX9_seen 32 = .ok (.iload_n 2, 1) := by decide +kernel
theorem dX9_seen_33 : decode cX9_seen 33 = .ok (.iadd, 1) := by decide +kernel
theorem dX9_seen_34 : decode cX9_seen 34 = .ok (.iaload, 1) := by decide +kernel
theorem dX9_seen_35 : decode cX9_seen 35 = .ok (.ireturn, 1) := by decide +kernel
theorem dX9_thatAre_0 : decode cX9_thatAre 0 = .ok (.iconst 0, 1) := by decide +kernel
theorem dX9_thatAre_1 : decode cX9_thatAre 1 = .ok (.istore_n 2, 1) := by decide +kernel
theorem dX9_thatAre_2 : decode cX9_thatAre 2 = .ok (.iconst 0, 1) := by decide +kernel
theorem dX9_thatAre_3 : decode cX9_thatAre 3 = .ok (.istore_n 3, 1) := by decide +kernel
theorem dX9_thatAre_4 : decode cX9_thatAre 4 = .ok (.iload_n 3, 1) := by decide +kernel
theorem dX9_thatAre_5 : decode cX9_thatAre 5 = .ok (.iload_n 1, 1) := by decide +kernel
theorem dX9_thatAre_6 : decode cX9_thatAre 6 = .ok (.if_icmp .ge 25, 3) := by decide +kernel
theorem dX9_thatAre_9 : decode cX9_thatAre 9 = .ok (.iload_n 2, 1) := by decide +kernel
theorem dX9_thatAre_10 : decode cX9_thatAre 10 = .ok (.aload_n 0, 1) := by decide +kernel
theorem dX9_thatAre_11 : decode cX9_thatAre 11 = .ok (.iload_n 3, 1) := by decide +kernel
theorem dX9_thatAre_12 : decode cX9_thatAre 12 = .ok (.iaload, 1) := by decide +kernel
theorem dX9_thatAre_13 : decode cX9_thatAre 13 = .ok (.bipush (-9), 2) := by decide +kernel
theorem dX9_thatAre_15 : decode cX9_thatAre 15 = .ok (.if_icmp .eq 7, 3) := by decide +kernel
theorem dX9_thatAre_18 : decode cX9_thatAre 18 = .ok (.iconst 1, 1) := by decide +kernel
theorem dX9_thatAre_19 : decode cX9_thatAre 19 = .ok (.goto 4, 3) := by decide +kernel
theorem dX9_thatAre_22 : decode cX9_thatAre 22 = .ok (.iconst 0, 1) := by decide +kernel
theorem dX9_thatAre_23 : decode cX9_thatAre 23 = .ok (.iadd, 1) := by decide +kernel
theorem dX9_thatAre_24 : decode cX9_thatAre 24 = .ok (.istore_n 2, 1) := by decide +kernel
theorem dX9_thatAre_25 : decode cX9_thatAre 25 = .ok (.iinc 3 1, 3) := by decide +kernel
theorem dX9_thatAre_28 : decode cX9_thatAre 28 = .ok (.goto (-24), 3) := by decide +kernel
theorem dX9_thatAre_31 : decode cX9_thatAre 31 = .ok (.iload_n 2, 1) := by decide +kernel
theorem dX9_thatAre_32 : decode cX9_thatAre 32 = .ok (.ireturn, 1) := by decide +kernel
theorem dX9_many_0 : decode cX9_many 0 = .ok (.iload_n 1, 1) := by decide +kernel
theorem dX9_many_1 : decode cX9_many 1 = .ok (.tableswitch 92 0 8 #[51, 51, 51, 58, 58, 66, 66, 74, 83], 51) := by decide +kernel
theorem dX9_many_52 : decode cX9_many 52 = .ok (.aload_n 0, 1) := by decide +kernel
theorem dX9_many_53 : decode cX9_many 53 = .ok (.getfield 7, 3) := by decide +kernel
theorem dX9_many_56 : decode cX9_many 56 = .ok (.iload_n 1, 1) := by decide +kernel
theorem dX9_many_57 : decode cX9_many 57 = .ok (.iaload, 1) := by decide +kernel
theorem dX9_many_58 : decode cX9_many 58 = .ok (.ireturn, 1) := by decide +kernel
theorem dX9_many_59 : decode cX9_many 59 = .ok (.aload_n 0, 1) := by decide +kernel
theorem dX9_many_60 : decode cX9_many 60 = .ok (.iload_n 1, 1) := by decide +kernel
theorem dX9_many_61 : decode cX9_many 61 = .ok (.iconst 3, 1) := by decide +kernel
theorem dX9_many_62 : decode cX9_many 62 = .ok (.isub, 1) := by decide +kernel
theorem dX9_many_63 : decode cX9_many 63 = .ok (.invokevirtual 238, 3) := by decide +kernel
theorem dX9_many_66 : decode cX9_many 66 = .ok (.ireturn, 1) := by decide +kernel
theorem dX9_many_67 : decode cX9_many 67 = .ok (.aload_n 0, 1) := by decide +kernel
theorem dX9_many_68 : decode cX9_many 68 = .ok (.iload_n 1, 1) := by decide +kernel
theorem dX9_many_69 : decode cX9_many 69 = .ok (.iconst 5, 1) := by decide +kernel
theorem dX9_many_70 : decode cX9_many 70 = .ok (.isub, 1) := by decide +kernel
theorem dX9_many_71 : decode cX9_many 71 = .ok (.invokevirtual 248, 3) := by decide +kernel
theorem dX9_many_74 : decode cX9_many 74 = .ok (.ireturn, 1) := by decide +kernel
theorem dX9_many_75 : decode cX9_many 75 = .ok (.aload_n 0, 1) := by decide +kernel
theorem dX9_many_76 : decode cX9_many 76 = .ok (.getfield 66, 3) := by decide +kernel
theorem dX9_many_79 : decode cX9_many 79 = .ok (.iconst 3, 1) := by decide +kernel
theorem dX9_many_80 : decode cX9_many 80 = .ok (.invokestatic 287, 3) := by decide +kernel
theorem dX9_many_83 : decode cX9_many 83 = .ok (.ireturn, 1) := by decide +kernel
theorem dX9_many_84 : decode cX9_many 84 = .ok (.aload_n 0, 1) := by decide +kernel
theorem dX9_many_85 : decode cX9_many 85 = .ok (.getfield 54, 3) := by decide +kernel
theorem dX9_many_88 : decode cX9_many 88 = .ok (.iconst 2, 1) := by decide +kernel
theorem dX9_many_89 : decode cX9_many 89 = .ok (.invokestatic 287, 3) := by decide +kernel
theorem dX9_many_92 : decode cX9_many 92 = .ok (.ireturn, 1) := by decide +kernel
theorem dX9_many_93 : decode cX9_many 93 = .ok (.bipush (-2), 2) := by decide +kernel
theorem dX9_many_95 : decode cX9_many 95 = .ok (.ireturn, 1) := by decide +kernel
