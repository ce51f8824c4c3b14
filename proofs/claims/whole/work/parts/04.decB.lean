theorem dX8_init_0 : decode cX8_init 0 = .ok (.aload_n 0, 1) := by decide +kernel
theorem dX8_init_1 : decode cX8_init 1 = .ok (.invokespecial 5, 3) := by decide +kernel
theorem dX8_init_4 : decode cX8_init 4 = .ok (.aload_n 0, 1) := by decide +kernel
theorem dX8_init_5 : decode cX8_init 5 = .ok (.new 11, 3) := by decide +kernel
theorem dX8_init_8 : decode cX8_init 8 = .ok (.dup, 1) := by decide +kernel
theorem dX8_init_9 : decode cX8_init 9 = .ok (.invokespecial 13, 3) := by decide +kernel
theorem dX8_init_12 : decode cX8_init 12 = .ok (.putfield 14, 3) := by decide +kernel
theorem dX8_init_15 : decode cX8_init 15 = .ok (.aload_n 0, 1) := by decide +kernel
theorem dX8_init_16 : decode cX8_init 16 = .ok (.iconst 2, 1) := by decide +kernel
theorem dX8_init_17 : decode cX8_init 17 = .ok (.anewarray 11, 3) := by decide +kernel
theorem dX8_init_20 : decode cX8_init 20 = .ok (.dup, 1) := by decide +kernel
theorem dX8_init_21 : decode cX8_init 21 = .ok (.iconst 0, 1) := by decide +kernel
theorem dX8_init_22 : decode cX8_init 22 = .ok (.new 11, 3) := by decide +kernel
theorem dX8_init_25 : decode cX8_init 25 = .ok (.dup, 1) := by decide +kernel
theorem dX8_init_26 : decode cX8_init 26 = .ok (.invokespecial 13, 3) := by decide +kernel
theorem dX8_init_29 : decode cX8_init 29 = .ok (.aastore, 1) := by decide +kernel
theorem dX8_init_30 : decode cX8_init 30 = .ok (.dup, 1) := by decide +kernel
theorem dX8_init_31 : decode cX8_init 31 = .ok (.iconst 1, 1) := by decide +kernel
theorem dX8_init_32 : decode cX8_init 32 = .ok (.new 11, 3) := by decide +kernel
theorem dX8_init_35 : decode cX8_init 35 = .ok (.dup, 1) := by decide +kernel
theorem dX8_init_36 : decode cX8_init 36 = .ok (.invokespecial 13, 3) := by decide +kernel
theorem dX8_init_39 : decode cX8_init 39 = .ok (.aastore, 1) := by decide +kernel
theorem dX8_init_40 : decode cX8_init 40 = .ok (.putfield 18, 3) := by decide +kernel
theorem dX8_init_43 : decode cX8_init 43 = .ok (.aload_n 0, 1) := by decide +kernel
theorem dX8_init_44 : decode cX8_init 44 = .ok (.iconst 2, 1) := by decide +kernel
theorem dX8_init_45 : decode cX8_init 45 = .ok (.anewarray 11, 3) := by decide +kernel
theorem dX8_init_48 : decode cX8_init 48 = .ok (.dup, 1) := by decide +kernel
theorem dX8_init_49 : decode cX8_init 49 = .ok (.iconst 0, 1) := by decide +kernel
theorem dX8_init_50 : decode cX8_init 50 = .ok (.new 11, 3) := by decide +kernel
theorem dX8_init_53 : decode cX8_init 53 = .ok (.dup, 1) := by decide +kernel
theorem dX8_init_54 : decode cX8_init 54 = .ok (.invokespecial 13, 3) := by decide +kernel
theorem dX8_init_57 : decode cX8_init 57 = .ok (.aastore, 1) := by decide +kernel
theorem dX8_init_58 : decode cX8_init 58 = .ok (.dup, 1) := by decide +kernel
theorem dX8_init_59 : decode cX8_init 59 = .ok (.iconst 1, 1) := by decide +kernel
theorem dX8_init_60 : decode cX8_init 60 = .ok (.new 11, 3) := by decide +kernel
theorem dX8_init_63 : decode cX8_init 63 = .ok (.dup, 1) := by decide +kernel
theorem dX8_init_64 : decode cX8_init 64 = .ok (.invokespecial 13, 3) := by decide +kernel
theorem dX8_init_67 : decode cX8_init 67 = .ok (.aastore, 1) := by decide +kernel
theorem dX8_init_68 : decode cX8_init 68 = .ok (.putfield 22, 3) := by decide +kernel
theorem dX8_init_71 : decode cX8_init 71 = .ok (.aload_n 0, 1) := by decide +kernel
theorem dX8_init_72 : decode cX8_init 72 = .ok (.iconst 2, 1) := by decide +kernel
theorem dX8_init_73 : decode cX8_init 73 = .ok (.newarray .boolean, 2) := by decide +kernel
theorem dX8_init_75 : decode cX8_init 75 = .ok (.putfield 25, 3) := by decide +kernel
theorem dX8_init_78 : decode cX8_init 78 = .ok (.aload_n 0, 1) := by decide +kernel
theorem dX8_init_79 : decode cX8_init 79 = .ok (.iconst 3, 1) := by decide +kernel
theorem dX8_init_80 : decode cX8_init 80 = .ok (.anewarray 29, 3) := by decide +kernel
theorem dX8_init_83 : decode cX8_init 83 = .ok (.dup, 1) := by decide +kernel
theorem dX8_init_84 : decode cX8_init 84 = .ok (.iconst 0, 1) := by decide +kernel
theorem dX8_init_85 : decode cX8_init 85 = .ok (.new 29, 3) := by decide +kernel
theorem dX8_init_88 : decode cX8_init 88 = .ok (.dup, 1) := by decide +kernel
theorem dX8_init_89 : decode cX8_init 89 = .ok (.invokespecial 31, 3) := by decide +kernel
theorem dX8_init_92 : decode cX8_init 92 = .ok (.aastore, 1) := by decide +kernel
theorem dX8_init_93 : decode cX8_init 93 = .ok (.dup, 1) := by decide +kernel
theorem dX8_init_94 : decode cX8_init 94 = .ok (.iconst 1, 1) := by decide +kernel
theorem dX8_init_95 : decode cX8_init 95 = .ok (.new 29, 3) := by decide +kernel
theorem dX8_init_98 : decode cX8_init 98 = .ok (.dup, 1) := by decide +kernel
theorem dX8_init_99 : decode cX8_init 99 = .ok (.invokespecial 31, 3) := by decide +kernel
theorem dX8_init_102 : decode cX8_init 102 = .ok (.aastore, 1) := by decide +kernel
theorem dX8_init_103 : decode cX8_init 103 = .ok (.dup, 1) := by decide +kernel
theorem dX8_init_104 : decode cX8_init 104 = .ok (.iconst 2, 1) := by decide +kernel
theorem dX8_init_105 : decode cX8_init 105 = .ok (.new 29, 3) := by decide +kernel
theorem dX8_init_108 : decode cX8_init 108 = .ok (.dup, 1) := by decide +kernel
theorem dX8_init_109 : decode cX8_init 109 = .ok (.invokespecial 31, 3) := by decide +kernel
theorem dX8_init_112 : decode cX8_init 112 = .ok (.aastore, 1) := by decide +kernel
theorem dX8_init_113 : decode cX8_init 113 = .ok (.putfield 32, 3) := by decide +kernel
theorem dX8_init_116 : decode cX8_init 116 = .ok (.aload_n 0, 1) := by decide +kernel
theorem dX8_init_117 : decode cX8_init 117 = .ok (.iconst 4, 1) := by decide +kernel
theorem dX8_init_118 : decode cX8_init 118 = .ok (.newarray .int, 2) := by decide +kernel
theorem dX8_init_120 : decode cX8_init 120 = .ok (.dup, 1) := by decide +kernel
theorem dX8_init_121 : decode cX8_init 121 = .ok (.iconst 0, 1) := by decide +kernel
theorem dX8_init_122 : decode cX8_init 122 = .ok (.iconst 2, 1) := by decide +kernel
theorem dX8_init_123 : decode cX8_init 123 = .ok (.iastore, 1) := by decide +kernel
theorem dX8_init_124 : decode cX8_init 124 = .ok (.dup, 1) := by decide +kernel
theorem dX8_init_125 : decode cX8_init 125 = .ok (.iconst 1, 1) := by decide +kernel
theorem dX8_init_126 : decode cX8_init 126 = .ok (.bipush 100, 2) := by decide +kernel
theorem dX8_init_128 : decode cX8_init 128 = .ok (.iastore, 1) := by decide +kernel
theorem dX8_init_129 : decode cX8_init 129 = .ok (.dup, 1) := by decide +kernel
theorem dX8_init_130 : decode cX8_init 130 = .ok (.iconst 2, 1) := by decide +kernel
theorem dX8_init_131 : decode cX8_init 131 = .ok (.ldc 36, 2) := by decide +kernel
theorem dX8_init_133 : decode cX8_init 133 = .ok (.iastore, 1) := by decide +kernel
theorem dX8_init_134 : decode cX8_init 134 = .ok (.dup, 1) := by decide +kernel
theorem dX8_init_135 : decode cX8_init 135 = .ok (.iconst 3, 1) := by decide +kernel
theorem dX8_init_136 : decode cX8_init 136 = .ok (.bipush 40, 2) := by decide +kernel
theorem dX8_init_138 : decode cX8_init 138 = .ok (.iastore, 1) := by decide +kernel
theorem dX8_init_139 : decode cX8_init 139 = .ok (.putfield 37, 3) := by decide +kernel
theorem dX8_init_142 : decode cX8_init 142 = .ok (.aload_n 0, 1) := by decide +kernel
theorem dX8_init_143 : decode cX8_init 143 = .ok (.new 41, 3) := by decide +kernel
theorem dX8_init_146 : decode cX8_init 146 = .ok (.dup, 1) := by decide +kernel
theorem dX8_init_147 : decode cX8_init 147 = .ok (.invokespecial 43, 3) := by decide +kernel
theorem dX8_init_150 : decode cX8_init 150 = .ok (.putfield 44, 3) := by decide +kernel
theorem dX8_init_153 : decode cX8_init 153 = .ok (.aload_n 0, 1) := by decide +kernel
theorem dX8_init_154 : decode cX8_init 154 = .ok (.new 48, 3) := by decide +kernel
theorem dX8_init_157 : decode cX8_init 157 = .ok (.dup, 1) := by decide +kernel
theorem dX8_init_158 : decode cX8_init 158 = .ok (.invokespecial 50, 3) := by decide +kernel
theorem dX8_init_161 : decode cX8_init 161 = .ok (.putfield 51, 3) := by decide +kernel
theorem dX8_init_164 : decode cX8_init 164 = .ok (.aload_n 0, 1) := by decide +kernel
theorem dX8_init_165 : decode cX8_init 165 = .ok (.iconst 2, 1) := by decide +kernel
theorem dX8_init_166 : decode cX8_init 166 = .ok (.anewarray 55, 3) := by decide +kernel
theorem dX8_init_169 : decode cX8_init 169 = .ok (.dup, 1) := by decide +kernel
theorem dX8_init_170 : decode cX8_init 170 = .ok (.iconst 0, 1) := by decide +kernel
theorem dX8_init_171 : decode cX8_init 171 = .ok (.new 55, 3) := by decide +kernel
theorem dX8_init_174 : decode cX8_init 174 = .ok (.dup, 1) := by decide +kernel
theorem dX8_init_175 : decode cX8_init 175 = .ok (.invokespecial 57, 3) := by decide +kernel
theorem dX8_init_178 : decode cX8_init 178 = .ok (.aastore, 1) := by decide +kernel
theorem dX8_init_179 : decode cX8_init 179 = .ok (.dup, 1) := by decide +kernel
theorem dX8_init_180 : decode cX8_init 180 = .ok (.iconst 1, 1) := by decide +kernel
theorem dX8_init_181 : decode cX8_init 181 = .ok (.new 55, 3) := by decide +kernel
theorem dX8_init_184 : decode cX8_init 184 = .ok (.dup, 1) := by decide +kernel
theorem dX8_init_185 : decode cX8_init 185 = .ok (.invokespecial 57, 3) := by decide +kernel
theorem dX8_init_188 : decode cX8_init 188 = .ok (.aastore, 1) := by decide +kernel
theorem dX8_init_189 : decode cX8_init 189 = .ok (.putfield 58, 3) := by decide +kernel
theorem dX8_init_192 : decode cX8_init 192 = .ok (.aload_n 0, 1) := by decide +kernel
theorem dX8_init_193 : decode cX8_init 193 = .ok (.new 62, 3) := by decide +kernel
theorem dX8_init_196 : decode cX8_init 196 = .ok (.dup, 1) := by decide +kernel
theorem dX8_init_197 : decode cX8_init 197 = .ok (.invokespecial 64, 3) := by decide +kernel
theorem dX8_init_200 : decode cX8_init 200 = .ok (.putfield 65, 3) := by decide +kernel
theorem dX8_init_203 : decode cX8_init 203 = .ok (.aload_n 0, 1) := by decide +kernel
theorem dX8_init_204 : decode cX8_init 204 = .ok (.new 69, 3) := by decide +kernel
theorem dX8_init_207 : decode cX8_init 207 = .ok (.dup, 1) := by decide +kernel
theorem dX8_init_208 : decode cX8_init 208 = .ok (.invokespecial 71, 3) := by decide +kernel
theorem dX8_init_211 : decode cX8_init 211 = .ok (.putfield 72, 3) := by decide +kernel
theorem dX8_init_214 : decode cX8_init 214 = .ok (.return_, 1) := by decide +kernel
theorem dX8_star_0 : decode cX8_star 0 = .ok (.iload_n 1, 1) := by decide +kernel
theorem dX8_star_1 : decode cX8_star 1 = .ok (.sipush (-9999), 3) := by decide +kernel
theorem dX8_star_4 : decode cX8_star 4 = .ok (.sipush 9999, 3) := by decide +kernel
theorem dX8_star_7 : decode cX8_star 7 = .ok (.invokestatic 76, 3) := by decide +kernel
theorem dX8_star_10 : decode cX8_star 10 = .ok (.ifCond .eq 16, 3) := by decide +kernel
theorem dX8_star_13 : decode cX8_star 13 = .ok (.iload_n 2, 1) := by decide +kernel
theorem dX8_star_14 : decode cX8_star 14 = .ok (.sipush (-9999), 3) := by decide +kernel
theorem dX8_star_17 : decode cX8_star 17 = .ok (.sipush 9999, 3) := by decide +kernel
theorem dX8_star_20 : decode cX8_star 20 = .ok (.invokestatic 76, 3) := by decide +kernel
theorem dX8_star_23 : decode cX8_star 23 = .ok (.ifCond .ne 6, 3) := by decide +kernel
theorem dX8_star_26 : decode cX8_star 26 = .ok (.bipush (-2), 2) := by decide +kernel
theorem dX8_star_28 : decode cX8_star 28 = .ok (.ireturn, 1) := by decide +kernel
theorem dX8_star_29 : decode cX8_star 29 = .ok (.iload_n 3, 1) := by decide +kernel
theorem dX8_star_30 : decode cX8_star 30 = .ok (.iconst 0, 1) := by decide +kernel
theorem dX8_star_31 : decode cX8_star 31 = .ok (.sipush 999, 3) := by decide +kernel
theorem dX8_star_34 : decode cX8_star 34 = .ok (.invokestatic 76, 3) := by decide +kernel
theorem dX8_star_37 : decode cX8_star 37 = .ok (.ifCond .ne 6, 3) := by decide +kernel
theorem dX8_star_40 : decode cX8_star 40 = .ok (.bipush (-2), 2) := by decide +kernel
theorem dX8_star_42 : decode cX8_star 42 = .ok (.ireturn, 1) := by decide +kernel
theorem dX8_star_43 : decode cX8_star 43 = .ok (.aload_n 0, 1) := by decide +kernel
theorem dX8_star_44 : decode cX8_star 44 = .ok (.getfield 14, 3) := by decide +kernel
theorem dX8_star_47 : decode cX8_star 47 = .ok (.iload_n 1, 1) := by decide +kernel
theorem dX8_star_48 : decode cX8_star 48 = .ok (.iload_n 2, 1) := by decide +kernel
theorem dX8_star_49 : decode cX8_star 49 = .ok (.iload_n 3, 1) := by decide +kernel
theorem dX8_star_50 : decode cX8_star 50 = .ok (.invokevirtual 80, 3) := by decide +kernel
theorem dX8_star_53 : decode cX8_star 53 = .ok (.ireturn, 1) := by decide +kernel
theorem dX8_unstar_0 : decode cX8_unstar 0 = .ok (.aload_n 0, 1) := by decide +kernel
theorem dX8_unstar_1 : decode cX8_unstar 1 = .ok (.getfield 14, 3) := by decide +kernel
theorem dX8_unstar_4 : decode cX8_unstar 4 = .ok (.invokevirtual 84, 3) := by decide +kernel
theorem dX8_unstar_7 : decode cX8_unstar 7 = .ok (.ireturn, 1) := by decide +kernel
theorem dX8_spot_0 : decode cX8_spot 0 = .ok (.iload_n 1, 1) := by decide +kernel
theorem dX8_spot_1 : decode cX8_spot 1 = .ok (.invokestatic 88, 3) := by decide +kernel
theorem dX8_spot_4 : decode cX8_spot 4 = .ok (.ifCond .ne 5, 3) := by decide +kernel
theorem dX8_spot_7 : decode cX8_spot 7 = .ok (.iconst (-1), 1) := by decide +kernel
theorem dX8_spot_8 : decode cX8_spot 8 = .ok (.ireturn, 1) := by decide +kernel
theorem dX8_spot_9 : decode cX8_spot 9 = .ok (.iload_n 2, 1) := by decide +kernel
theorem dX8_spot_10 : decode cX8_spot 10 = .ok (.iconst 0, 1) := by decide +kernel
theorem dX8_spot_11 : decode cX8_spot 11 = .ok (.sipush 4095, 3) := by decide +kernel
theorem dX8_spot_14 : decode cX8_spot 14 = .ok (.invokestatic 76, 3) := by decide +kernel
theorem dX8_spot_17 : decode cX8_spot 17 = .ok (.ifCond .eq 14, 3) := by decide +kernel
theorem dX8_spot_20 : decode cX8_spot 20 = .ok (.iload_n 3, 1) := by decide +kernel
theorem dX8_spot_21 : decode cX8_spot 21 = .ok (.iconst 0, 1) := by decide +kernel
theorem dX8_spot_22 : decode cX8_spot 22 = .ok (.sipush 4095, 3) := by decide +kernel
theorem dX8_spot_25 : decode cX8_spot 25 = .ok (.invokestatic 76, 3) := by decide +kernel
theorem dX8_spot_28 : decode cX8_spot 28 = .ok (.ifCond .ne 6, 3) := by decide +kernel
theorem dX8_spot_31 : decode cX8_spot 31 = .ok (.bipush (-2), 2) := by decide +kernel
theorem dX8_spot_33 : decode cX8_spot 33 = .ok (.ireturn, 1) := by decide +kernel
theorem dX8_spot_34 : decode cX8_spot 34 = .ok (.iload 4, 2) := by decide +kernel
theorem dX8_spot_36 : decode cX8_spot 36 = .ok (.iconst 0, 1) := by decide +kernel
theorem dX8_spot_37 : decode cX8_spot 37 = .ok (.sipush 255, 3) := by decide +kernel
theorem dX8_spot_40 : decode cX8_spot 40 = .ok (.invokestatic 76, 3) := by decide +kernel
theorem dX8_spot_43 : decode cX8_spot 43 = .ok (.ifCond .ne 6, 3) := by decide +kernel
theorem dX8_spot_46 : decode cX8_spot 46 = .ok (.bipush (-2), 2) := by decide +kernel
theorem dX8_spot_48 : decode cX8_spot 48 = .ok (.ireturn, 1) := by decide +kernel
theorem dX8_spot_49 : decode cX8_spot 49 = .ok (.aload_n 0, 1) := by decide +kernel
theorem dX8_spot_50 : decode cX8_spot 50 = .ok (.getfield 18, 3) := by decide +kernel
theorem dX8_spot_53 : decode cX8_spot 53 = .ok (.iload_n 1, 1) := by decide +kernel
theorem dX8_spot_54 : decode cX8_spot 54 = .ok (.aaload, 1) := by decide +kernel
theorem dX8_spot_55 : decode cX8_spot 55 = .ok (.iload_n 2, 1) := by decide +kernel
theorem dX8_spot_56 : decode cX8_spot 56 = .ok (.iload_n 3, 1) := by decide +kernel
theorem dX8_spot_57 : decode cX8_spot 57 = .ok (.iload 4, 2) := by decide +kernel
theorem dX8_spot_59 : decode cX8_spot 59 = .ok (.invokevirtual 80, 3) := by decide +kernel
theorem dX8_spot_62 : decode cX8_spot 62 = .ok (.ireturn, 1) := by decide +kernel
theorem dX8_unspot_0 : decode cX8_unspot 0 = .ok (.iload_n 1, 1) := by decide +kernel
theorem dX8_unspot_1 : decode cX8_unspot 1 = .ok (.invokestatic 88, 3) := by decide +kernel
theorem dX8_unspot_4 : decode cX8_unspot 4 = .ok (.ifCond .ne 5, 3) := by decide +kernel
theorem dX8_unspot_7 : decode cX8_unspot 7 = .ok (.iconst (-1), 1) := by decide +kernel
theorem dX8_unspot_8 : decode cX8_unspot 8 = .ok (.ireturn, 1) := by decide +kernel
theorem dX8_unspot_9 : decode cX8_unspot 9 = .ok (.aload_n 0, 1) := by decide +kernel
theorem dX8_unspot_10 : decode cX8_unspot 10 = .ok (.getfield 18, 3) := by decide +kernel
theorem dX8_unspot_13 : decode cX8_unspot 13 = .ok (.iload_n 1, 1) := by decide +kernel
theorem dX8_unspot_14 : decode cX8_unspot 14 = .ok (.aaload, 1) := by decide +kernel
theorem dX8_unspot_15 : decode cX8_unspot 15 = .ok (.invokevirtual 84, 3) := by decide +kernel
theorem dX8_unspot_18 : decode cX8_unspot 18 = .ok (.ireturn, 1) := by decide +kernel
theorem dX8_ofStar_0 : decode cX8_ofStar 0 = .ok (.aload_n 0, 1) := by decide +kernel
theorem dX8_ofStar_1 : decode cX8_ofStar 1 = .ok (.getfield 14, 3) := by decide +kernel
theorem dX8_ofStar_4 : decode cX8_ofStar 4 = .ok (.iload_n 1, 1) := by decide +kernel
theorem dX8_ofStar_5 : decode cX8_ofStar 5 = .ok (.invokevirtual 92, 3) := by decide +kernel
theorem dX8_ofStar_8 : decode cX8_ofStar 8 = .ok (.ifCond .ne 5, 3) := by decide +kernel
theorem dX8_ofStar_11 : decode cX8_ofStar 11 = .ok (.iconst (-1), 1) := by decide +kernel
theorem dX8_ofStar_12 : decode cX8_ofStar 12 = .ok (.ireturn, 1) := by decide +kernel
theorem dX8_ofStar_13 : decode cX8_ofStar 13 = .ok (.iload_n 2, 1) := by decide +kernel
theorem dX8_ofStar_14 : decode cX8_ofStar 14 = .ok (.iconst 0, 1) := by decide +kernel
theorem dX8_ofStar_15 : decode cX8_ofStar 15 = .ok (.iconst 2, 1) := by decide +kernel
theorem dX8_ofStar_16 : decode cX8_ofStar 16 = .ok (.invokestatic 76, 3) := by decide +kernel
theorem dX8_ofStar_19 : decode cX8_ofStar 19 = .ok (.ifCond .ne 6, 3) := by decide +kernel
theorem dX8_ofStar_22 : decode cX8_ofStar 22 = .ok (.bipush (-2), 2) := by decide +kernel
theorem dX8_ofStar_24 : decode cX8_ofStar 24 = .ok (.ireturn, 1) := by decide +kernel
theorem dX8_ofStar_25 : decode cX8_ofStar 25 = .ok (.iload_n 2, 1) := by decide +kernel
theorem dX8_ofStar_26 : decode cX8_ofStar 26 = .ok (.iconst 2, 1) := by decide +kernel
theorem dX8_ofStar_27 : decode cX8_ofStar 27 = .ok (.if_icmp .ne 15, 3) := by decide +kernel
theorem dX8_ofStar_30 : decode cX8_ofStar 30 = .ok (.aload_n 0, 1) := by decide +kernel
theorem dX8_ofStar_31 : decode cX8_ofStar 31 = .ok (.getfield 14, 3) := by decide +kernel
theorem dX8_ofStar_34 : decode cX8_ofStar 34 = .ok (.getfield 95, 3) := by decide +kernel
theorem dX8_ofStar_37 : decode cX8_ofStar 37 = .ok (.iload_n 1, 1) := by decide +kernel
theorem dX8_ofStar_38 : decode cX8_ofStar 38 = .ok (.iaload, 1) := by decide +kernel
theorem dX8_ofStar_39 : decode cX8_ofStar 39 = .ok (.goto 16, 3) := by decide +kernel
theorem dX8_ofStar_42 : decode cX8_ofStar 42 = .ok (.aload_n 0, 1) := by decide +kernel
theorem dX8_ofStar_43 : decode cX8_ofStar 43 = .ok (.getfield 14, 3) := by decide +kernel
theorem dX8_ofStar_46 : decode cX8_ofStar 46 = .ok (.iload_n 1, 1) := by decide +kernel
theorem dX8_ofStar_47 : decode cX8_ofStar 47 = .ok (.iload_n 2, 1) := by decide +kernel
theorem dX8_ofStar_48 : decode cX8_ofStar 48 = .ok (.invokevirtual 98, 3) := by decide +kernel
theorem dX8_ofStar_51 : decode cX8_ofStar 51 = .ok (.sipush 10000, 3) := by decide +kernel
theorem dX8_ofStar_54 : decode cX8_ofStar 54 = .ok (.iadd, 1) := by decide +kernel
theorem dX8_ofStar_55 : decode cX8_ofStar 55 = .ok (.ireturn, 1) := by decide +kernel
theorem dX8_ofSpot_0 : decode cX8_ofSpot 0 = .ok (.aload_n 0, 1) := by decide +kernel
theorem dX8_ofSpot_1 : decode cX8_ofSpot 1 = .ok (.iload_n 1, 1) := by decide +kernel
theorem dX8_ofSpot_2 : decode cX8_ofSpot 2 = .ok (.iload_n 2, 1) := by decide +kernel
theorem dX8_ofSpot_3 : decode cX8_ofSpot 3 = .ok (.invokevirtual 102, 3) := by decide +kernel
theorem dX8_ofSpot_6 : decode cX8_ofSpot 6 = .ok (.ifCond .ne 5, 3) := by decide +kernel
theorem dX8_ofSpot_9 : decode cX8_ofSpot 9 = .ok (.iconst (-1), 1) := by decide +kernel
theorem dX8_ofSpot_10 : decode cX8_ofSpot 10 = .ok (.ireturn, 1) := by decide +kernel
theorem dX8_ofSpot_11 : decode cX8_ofSpot 11 = .ok (.iload_n 3, 1) := by decide +kernel
theorem dX8_ofSpot_12 : decode cX8_ofSpot 12 = .ok (.iconst 0, 1) := by decide +kernel
theorem dX8_ofSpot_13 : decode cX8_ofSpot 13 = .ok (.iconst 2, 1) := by decide +kernel
theorem dX8_ofSpot_14 : decode cX8_ofSpot 14 = .ok (.invokestatic 76, 3) := by decide +kernel
theorem dX8_ofSpot_17 : decode cX8_ofSpot 17 = .ok (.ifCond .ne 6, 3) := by decide +kernel
theorem dX8_ofSpot_20 : decode cX8_ofSpot 20 = .ok (.bipush (-2), 2) := by decide +kernel
theorem dX8_ofSpot_22 : decode cX8_ofSpot 22 = .ok (.ireturn, 1) := by decide +kernel
theorem dX8_ofSpot_23 : decode cX8_ofSpot 23 = .ok (.aload_n 0, 1) := by decide +kernel
theorem dX8_ofSpot_24 : decode cX8_ofSpot 24 = .ok (.getfield 18, 3) := by decide +kernel
theorem dX8_ofSpot_27 : decode cX8_ofSpot 27 = .ok (.iload_n 1, 1) := by decide +kernel
theorem dX8_ofSpot_28 : decode cX8_ofSpot 28 = .ok (.aaload, 1) := by decide +kernel
theorem dX8_ofSpot_29 : decode cX8_ofSpot 29 = .ok (.iload_n 2, 1) := by decide +kernel
theorem dX8_ofSpot_30 : decode cX8_ofSpot 30 = .ok (.iload_n 3, 1) := by decide +kernel
theorem dX8_ofSpot_31 : decode cX8_ofSpot 31 = .ok (.invokevirtual 98, 3) := by decide +kernel
theorem dX8_ofSpot_34 : decode cX8_ofSpot 34 = .ok (.ireturn, 1) := by decide +kernel
theorem dX8_light_0 : decode cX8_light 0 = .ok (.aload_n 0, 1) := by decide +kernel
theorem dX8_light_1 : decode cX8_light 1 = .ok (.iload_n 1, 1) := by decide +kernel
theorem dX8_light_2 : decode cX8_light 2 = .ok (.iload_n 2, 1) := by decide +kernel
theorem dX8_light_3 : decode cX8_light 3 = .ok (.invokevirtual 102, 3) := by decide +kernel
theorem dX8_light_6 : decode cX8_light 6 = .ok (.ifCond .ne 5, 3) := by decide +kernel
theorem dX8_light_9 : decode cX8_light 9 = .ok (.iconst (-1), 1) := by decide +kernel
theorem dX8_light_10 : decode cX8_light 10 = .ok (.ireturn, 1) := by decide +kernel
theorem dX8_light_11 : decode cX8_light 11 = .ok (.aload_n 0, 1) := by decide +kernel
theorem dX8_light_12 : decode cX8_light 12 = .ok (.getfield 18, 3) := by decide +kernel
theorem dX8_light_15 : decode cX8_light 15 = .ok (.iload_n 1, 1) := by decide +kernel
theorem dX8_light_16 : decode cX8_light 16 = .ok (.aaload, 1) := by decide +kernel
theorem dX8_light_17 : decode cX8_light 17 = .ok (.getfield 95, 3) := by decide +kernel
theorem dX8_light_20 : decode cX8_light 20 = .ok (.iload_n 2, 1) := by decide +kernel
theorem dX8_light_21 : decode cX8_light 21 = .ok (.iaload, 1) := by decide +kernel
theorem dX8_light_22 : decode cX8_light 22 = .ok (.istore 4, 2) := by decide +kernel
theorem dX8_light_24 : decode cX8_light 24 = .ok (.aload_n 0, 1) := by decide +kernel
theorem dX8_light_25 : decode cX8_light 25 = .ok (.getfield 18, 3) := by decide +kernel
theorem dX8_light_28 : decode cX8_light 28 = .ok (.iload_n 1, 1) := by decide +kernel
theorem dX8_light_29 : decode cX8_light 29 = .ok (.aaload, 1) := by decide +kernel
theorem dX8_light_30 : decode cX8_light 30 = .ok (.getfield 95, 3) := by decide +kernel
theorem dX8_light_33 : decode cX8_light 33 = .ok (.iload_n 2, 1) := by decide +kernel
theorem dX8_light_34 : decode cX8_light 34 = .ok (.iconst 0, 1) := by decide +kernel
theorem dX8_light_35 : decode cX8_light 35 = .ok (.sipush 255, 3) := by decide +kernel
theorem dX8_light_38 : decode cX8_light 38 = .ok (.iload_n 3, 1) := by decide +kernel
theorem dX8_light_39 : decode cX8_light 39 = .ok (.iconst 2, 1) := by decide +kernel
theorem dX8_light_40 : decode cX8_light 40 = .ok (.invokestatic 106, 3) := by decide +kernel
theorem dX8_light_43 : decode cX8_light 43 = .ok (.invokestatic 109, 3) := by decide +kernel
theorem dX8_light_46 : decode cX8_light 46 = .ok (.invokestatic 114, 3) := by decide +kernel
theorem dX8_light_49 : decode cX8_light 49 = .ok (.iastore, 1) := by decide +kernel
theorem dX8_light_50 : decode cX8_light 50 = .ok (.iload 4, 2) := by decide +kernel
theorem dX8_light_52 : decode cX8_light 52 = .ok (.ireturn, 1) := by decide +kernel
theorem dX8_word_0 : decode cX8_word 0 = .ok (.iload_n 1, 1) := by decide +kernel
theorem dX8_word_1 : decode cX8_word 1 = .ok (.ifCond .ne 5, 3) := by decide +kernel
theorem dX8_word_4 : decode cX8_word 4 = .ok (.iconst 0, 1) := by decide +kernel
theorem dX8_word_5 : decode cX8_word 5 = .ok (.ireturn, 1) := by decide +kernel
theorem dX8_word_6 : decode cX8_word 6 = .ok (.iload_n 1, 1) := by decide +kernel
theorem dX8_word_7 : decode cX8_word 7 = .ok (.i2l, 1) := by decide +kernel
theorem dX8_word_8 : decode cX8_word 8 = .ok (.invokestatic 117, 3) := by decide +kernel
theorem dX8_word_11 : decode cX8_word 11 = .ok (.lstore_n 2, 1) := by decide +kernel
theorem dX8_word_12 : decode cX8_word 12 = .ok (.lload_n 2, 1) := by decide +kernel
theorem dX8_word_13 : decode cX8_word 13 = .ok (.invokestatic 121, 3) := by decide +kernel
theorem dX8_word_16 : decode cX8_word 16 = .ok (.istore 4, 2) := by decide +kernel
theorem dX8_word_18 : decode cX8_word 18 = .ok (.iload 4, 2) := by decide +kernel
theorem dX8_word_20 : decode cX8_word 20 = .ok (.bipush 23, 2) := by decide +kernel
theorem dX8_word_22 : decode cX8_word 22 = .ok (.if_icmp .gt 13, 3) := by decide +kernel
theorem dX8_word_25 : decode cX8_word 25 = .ok (.lload_n 2, 1) := by decide +kernel
theorem dX8_word_26 : decode cX8_word 26 = .ok (.bipush 23, 2) := by decide +kernel
theorem dX8_word_28 : decode cX8_word 28 = .ok (.iload 4, 2) := by decide +kernel
theorem dX8_word_30 : decode cX8_word 30 = .ok (.isub, 1) := by decide +kernel
theorem dX8_word_31 : decode cX8_word 31 = .ok (.lshl, 1) := by decide +kernel
theorem dX8_word_32 : decode cX8_word 32 = .ok (.goto 12, 3) := by decide +kernel
theorem dX8_word_35 : decode cX8_word 35 = .ok (.lload_n 2, 1) := by decide +kernel
theorem dX8_word_36 : decode cX8_word 36 = .ok (.iload 4, 2) := by decide +kernel
theorem dX8_word_38 : decode cX8_word 38 = .ok (.bipush 23, 2) := by decide +kernel
theorem dX8_word_40 : decode cX8_word 40 = .ok (.isub, 1) := by decide +kernel
theorem dX8_word_41 : decode cX8_word 41 = .ok (.invokestatic 125, 3) := by decide +kernel
theorem dX8_word_44 : decode cX8_word 44 = .ok (.lstore 5, 2) := by decide +kernel
theorem dX8_word_46 : decode cX8_word 46 = .ok (.bipush 127, 2) := by decide +kernel
theorem dX8_word_48 : decode cX8_word 48 = .ok (.iload 4, 2) := by decide +kernel
theorem dX8_word_50 : decode cX8_word 50 = .ok (.iadd, 1) := by decide +kernel
theorem dX8_word_51 : decode cX8_word 51 = .ok (.i2l, 1) := by decide +kernel
theorem dX8_word_52 : decode cX8_word 52 = .ok (.bipush 23, 2) := by decide +kernel
theorem dX8_word_54 : decode cX8_word 54 = .ok (.lshl, 1) := by decide +kernel
theorem dX8_word_55 : decode cX8_word 55 = .ok (.lload 5, 2) := by decide +kernel
theorem dX8_word_57 : decode cX8_word 57 = .ok (.ladd, 1) := by decide +kernel
theorem dX8_word_58 : decode cX8_word 58 = .ok (.ldc2_w 129, 3) := by decide +kernel
theorem dX8_word_61 : decode cX8_word 61 = .ok (.lsub, 1) := by decide +kernel
theorem dX8_word_62 : decode cX8_word 62 = .ok (.l2i, 1) := by decide +kernel
theorem dX8_word_63 : decode cX8_word 63 = .ok (.istore 7, 2) := by decide +kernel
theorem dX8_word_65 : decode cX8_word 65 = .ok (.iload_n 1, 1) := by decide +kernel
theorem dX8_word_66 : decode cX8_word 66 = .ok (.ifCond .ge 11, 3) := by decide +kernel
theorem dX8_word_69 : decode cX8_word 69 = .ok (.iload 7, 2) := by decide +kernel
theorem dX8_word_71 : decode cX8_word 71 = .ok (.ldc 131, 2) := by decide +kernel
theorem dX8_word_73 : decode cX8_word 73 = .ok (.ior, 1) := by decide +kernel
theorem dX8_word_74 : decode cX8_word 74 = .ok (.goto 5, 3) := by decide +kernel
theorem dX8_word_77 : decode cX8_word 77 = .ok (.iload 7, 2) := by decide +kernel
theorem dX8_word_79 : decode cX8_word 79 = .ok (.ireturn, 1) := by decide +kernel
theorem dX8_number_0 : decode cX8_number 0 = .ok (.iload_n 1, 1) := by decide +kernel
theorem dX8_number_1 : decode cX8_number 1 = .ok (.iconst 0, 1) := by decide +kernel
theorem dX8_number_2 : decode cX8_number 2 = .ok (.invokestatic 106, 3) := by decide +kernel
theorem dX8_number_5 : decode cX8_number 5 = .ok (.ireturn, 1) := by decide +kernel
theorem dX8_set_0 : decode cX8_set 0 = .ok (.iload_n 1, 1) := by decide +kernel
theorem dX8_set_1 : decode cX8_set 1 = .ok (.iconst 0, 1) := by decide +kernel
theorem dX8_set_2 : decode cX8_set 2 = .ok (.iconst 3, 1) := by decide +kernel
theorem dX8_set_3 : decode cX8_set 3 = .ok (.invokestatic 76, 3) := by decide +kernel
theorem dX8_set_6 : decode cX8_set 6 = .ok (.ifCond .ne 6, 3) := by decide +kernel
theorem dX8_set_9 : decode cX8_set 9 = .ok (.bipush (-2), 2) := by decide +kernel
theorem dX8_set_11 : decode cX8_set 11 = .ok (.ireturn, 1) := by decide +kernel
theorem dX8_set_12 : decode cX8_set 12 = .ok (.iload_n 2, 1) := by decide +kernel
theorem dX8_set_13 : decode cX8_set 13 = .ok (.getstatic 132, 3) := by decide +kernel
theorem dX8_set_16 : decode cX8_set 16 = .ok (.iload_n 1, 1) := by decide +kernel
theorem dX8_set_17 : decode cX8_set 17 = .ok (.iaload, 1) := by decide +kernel
theorem dX8_set_18 : decode cX8_set 18 = .ok (.getstatic 135, 3) := by decide +kernel
theorem dX8_set_21 : decode cX8_set 21 = .ok (.iload_n 1, 1) := by decide +kernel
theorem dX8_set_22 : decode cX8_set 22 = .ok (.iaload, 1) := by decide +kernel
theorem dX8_set_23 : decode cX8_set 23 = .ok (.invokestatic 76, 3) := by decide +kernel
theorem dX8_set_26 : decode cX8_set 26 = .ok (.ifCond .ne 6, 3) := by decide +kernel
theorem dX8_set_29 : decode cX8_set 29 = .ok (.bipush (-2), 2) := by decide +kernel
theorem dX8_set_31 : decode cX8_set 31 = .ok (.ireturn, 1) := by decide +kernel
theorem dX8_set_32 : decode cX8_set 32 = .ok (.aload_n 0, 1) := by decide +kernel
theorem dX8_set_33 : decode cX8_set 33 = .ok (.getfield 37, 3) := by decide +kernel
theorem dX8_set_36 : decode cX8_set 36 = .ok (.iload_n 1, 1) := by decide +kernel
theorem dX8_set_37 : decode cX8_set 37 = .ok (.iaload, 1) := by decide +kernel
theorem dX8_set_38 : decode cX8_set 38 = .ok (.istore_n 3, 1) := by decide +kernel
theorem dX8_set_39 : decode cX8_set 39 = .ok (.aload_n 0, 1) := by decide +kernel
theorem dX8_set_40 : decode cX8_set 40 = .ok (.getfield 37, 3) := by decide +kernel
theorem dX8_set_43 : decode cX8_set 43 = .ok (.iload_n 1, 1) := by decide +kernel
theorem dX8_set_44 : decode cX8_set 44 = .ok (.iload_n 2, 1) := by decide +kernel
theorem dX8_set_45 : decode cX8_set 45 = .ok (.iastore, 1) := by decide +kernel
theorem dX8_set_46 : decode cX8_set 46 = .ok (.iload_n 3, 1) := by decide +kernel
theorem dX8_set_47 : decode cX8_set 47 = .ok (.ireturn, 1) := by decide +kernel
theorem dX8_triple_0 : decode cX8_triple 0 = .ok (.iload_n 1, 1) := by decide +kernel
theorem dX8_triple_1 : decode cX8_triple 1 = .ok (.iconst (-1), 1) := by decide +kernel
theorem dX8_triple_2 : decode cX8_triple 2 = .ok (.if_icmp .eq 12, 3) := by decide +kernel
theorem dX8_triple_5 : decode cX8_triple 5 = .ok (.iload_n 1, 1) := by decide +kernel
theorem dX8_triple_6 : decode cX8_triple 6 = .ok (.invokestatic 88, 3) := by decide +kernel
theorem dX8_triple_9 : decode cX8_triple 9 = .ok (.ifCond .ne 5, 3) := by decide +kernel
theorem dX8_triple_12 : decode cX8_triple 12 = .ok (.iconst (-1), 1) := by decide +kernel
theorem dX8_triple_13 : decode cX8_triple 13 = .ok (.ireturn, 1) := by decide +kernel
theorem dX8_triple_14 : decode cX8_triple 14 = .ok (.iload_n 1, 1) := by decide +kernel
theorem dX8_triple_15 : decode cX8_triple 15 = .ok (.iconst (-1), 1) := by decide +kernel
theorem dX8_triple_16 : decode cX8_triple 16 = .ok (.if_icmp .ne 10, 3) := by decide +kernel
theorem dX8_triple_19 : decode cX8_triple 19 = .ok (.aload_n 0, 1) := by decide +kernel
theorem dX8_triple_20 : decode cX8_triple 20 = .ok (.getfield 14, 3) := by decide +kernel
theorem dX8_triple_23 : decode cX8_triple 23 = .ok (.goto 9, 3) := by decide +kernel
theorem dX8_triple_26 : decode cX8_triple 26 = .ok (.aload_n 0, 1) := by decide +kernel
theorem dX8_triple_27 : decode cX8_triple 27 = .ok (.getfield 18, 3) := by decide +kernel
theorem dX8_triple_30 : decode cX8_triple 30 = .ok (.iload_n 1, 1) := by decide +kernel
theorem dX8_triple_31 : decode cX8_triple 31 = .ok (.aaload, 1) := by decide +kernel
theorem dX8_triple_32 : decode cX8_triple 32 = .ok (.astore 6, 2) := by decide +kernel
theorem dX8_triple_34 : decode cX8_triple 34 = .ok (.aload 6, 2) := by decide +kernel
theorem dX8_triple_36 : decode cX8_triple 36 = .ok (.iload_n 2, 1) := by decide +kernel
theorem dX8_triple_37 : decode cX8_triple 37 = .ok (.invokevirtual 92, 3) := by decide +kernel
theorem dX8_triple_40 : decode cX8_triple 40 = .ok (.ifCond .eq 22, 3) := by decide +kernel
theorem dX8_triple_43 : decode cX8_triple 43 = .ok (.aload 6, 2) := by decide +kernel
theorem dX8_triple_45 : decode cX8_triple 45 = .ok (.iload_n 3, 1) := by decide +kernel
theorem dX8_triple_46 : decode cX8_triple 46 = .ok (.invokevirtual 92, 3) := by decide +kernel
theorem dX8_triple_49 : decode cX8_triple 49 = .ok (.ifCond .eq 13, 3) := by decide +kernel
theorem dX8_triple_52 : decode cX8_triple 52 = .ok (.aload 6, 2) := by decide +kernel
theorem dX8_triple_54 : decode cX8_triple 54 = .ok (.iload 4, 2) := by decide +kernel
theorem dX8_triple_56 : decode cX8_triple 56 = .ok (.invokevirtual 92, 3) := by decide +kernel
theorem dX8_triple_59 : decode cX8_triple 59 = .ok (.ifCond .ne 5, 3) := by decide +kernel
theorem dX8_triple_62 : decode cX8_triple 62 = .ok (.iconst (-1), 1) := by decide +kernel
theorem dX8_triple_63 : decode cX8_triple 63 = .ok (.ireturn, 1) := by decide +kernel
theorem dX8_triple_64 : decode cX8_triple 64 = .ok (.iload_n 2, 1) := by decide +kernel
theorem dX8_triple_65 : decode cX8_triple 65 = .ok (.iload_n 3, 1) := by decide +kernel
theorem dX8_triple_66 : decode cX8_triple 66 = .ok (.if_icmp .eq 15, 3) := by decide +kernel
theorem dX8_triple_69 : decode cX8_triple 69 = .ok (.iload_n 3, 1) := by decide +kernel
theorem dX8_triple_70 : decode cX8_triple 70 = .ok (.iload 4, 2) := by decide +kernel
theorem dX8_triple_72 : decode cX8_triple 72 = .ok (.if_icmp .eq 9, 3) := by decide +kernel
theorem dX8_triple_75 : decode cX8_triple 75 = .ok (.iload_n 2, 1) := by decide +kernel
theorem dX8_triple_76 : decode cX8_triple 76 = .ok (.iload 4, 2) := by decide +kernel
theorem dX8_triple_78 : decode cX8_triple 78 = .ok (.if_icmp .ne 5, 3) := by decide +kernel
theorem dX8_triple_81 : decode cX8_triple 81 = .ok (.iconst (-1), 1) := by decide +kernel
theorem dX8_triple_82 : decode cX8_triple 82 = .ok (.ireturn, 1) := by decide +kernel
theorem dX8_triple_83 : decode cX8_triple 83 = .ok (.iload 5, 2) := by decide +kernel
theorem dX8_triple_85 : decode cX8_triple 85 = .ok (.iconst 0, 1) := by decide +kernel
theorem dX8_triple_86 : decode cX8_triple 86 = .ok (.iconst 5, 1) := by decide +kernel
theorem dX8_triple_87 : decode cX8_triple 87 = .ok (.invokestatic 76, 3) := by decide +kernel
theorem dX8_triple_90 : decode cX8_triple 90 = .ok (.ifCond .ne 6, 3) := by decide +kernel
theorem dX8_triple_93 : decode cX8_triple 93 = .ok (.bipush (-2), 2) := by decide +kernel
theorem dX8_triple_95 : decode cX8_triple 95 = .ok (.ireturn, 1) := by decide +kernel
theorem dX8_triple_96 : decode cX8_triple 96 = .ok (.aload_n 0, 1) := by decide +kernel
theorem dX8_triple_97 : decode cX8_triple 97 = .ok (.getfield 44, 3) := by decide +kernel
theorem dX8_triple_100 : decode cX8_triple 100 = .ok (.aload 6, 2) := by decide +kernel
theorem dX8_triple_102 : decode cX8_triple 102 = .ok (.iload_n 2, 1) := by decide +kernel
theorem dX8_triple_103 : decode cX8_triple 103 = .ok (.iload_n 3, 1) := by decide +kernel
theorem dX8_triple_104 : decode cX8_triple 104 = .ok (.iload 4, 2) := by decide +kernel
theorem dX8_triple_106 : decode cX8_triple 106 = .ok (.invokevirtual 138, 3) := by decide +kernel
theorem dX8_triple_109 : decode cX8_triple 109 = .ok (.aload_n 0, 1) := by decide +kernel
theorem dX8_triple_110 : decode cX8_triple 110 = .ok (.getfield 44, 3) := by decide +kernel
theorem dX8_triple_113 : decode cX8_triple 113 = .ok (.getfield 142, 3) := by decide +kernel
theorem dX8_triple_116 : decode cX8_triple 116 = .ok (.ifCond .eq 6, 3) := by decide +kernel
theorem dX8_triple_119 : decode cX8_triple 119 = .ok (.bipush (-9), 2) := by decide +kernel
theorem dX8_triple_121 : decode cX8_triple 121 = .ok (.ireturn, 1) := by decide +kernel
theorem dX8_triple_122 : decode cX8_triple 122 = .ok (.iload 5, 2) := by decide +kernel
theorem dX8_triple_124 : decode cX8_triple 124 = .ok (.tableswitch 60 0 2 #[28, 36, 44], 28) := by decide +kernel
theorem dX8_triple_152 : decode cX8_triple 152 = .ok (.aload_n 0, 1) := by decide +kernel
theorem dX8_triple_153 : decode cX8_triple 153 = .ok (.getfield 44, 3) := by decide +kernel
theorem dX8_triple_156 : decode cX8_triple 156 = .ok (.getfield 146, 3) := by decide +kernel
theorem dX8_triple_159 : decode cX8_triple 159 = .ok (.ireturn, 1) := by decide +kernel
theorem dX8_triple_160 : decode cX8_triple 160 = .ok (.aload_n 0, 1) := by decide +kernel
theorem dX8_triple_161 : decode cX8_triple 161 = .ok (.getfield 44, 3) := by decide +kernel
theorem dX8_triple_164 : decode cX8_triple 164 = .ok (.getfield 150, 3) := by decide +kernel
theorem dX8_triple_167 : decode cX8_triple 167 = .ok (.ireturn, 1) := by decide +kernel
theorem dX8_triple_168 : decode cX8_triple 168 = .ok (.aload_n 0, 1) := by decide +kernel
theorem dX8_triple_169 : decode cX8_triple 169 = .ok (.getfield 44, 3) := by decide +kernel
theorem dX8_triple_172 : decode cX8_triple 172 = .ok (.getfield 153, 3) := by decide +kernel
theorem dX8_triple_175 : decode cX8_triple 175 = .ok (.ifCond .le 7, 3) := by decide +kernel
theorem dX8_triple_178 : decode cX8_triple 178 = .ok (.iconst 1, 1) := by decide +kernel
theorem dX8_triple_179 : decode cX8_triple 179 = .ok (.goto 4, 3) := by decide +kernel
theorem dX8_triple_182 : decode cX8_triple 182 = .ok (.iconst 0, 1) := by decide +kernel
theorem dX8_triple_183 : decode cX8_triple 183 = .ok (.ireturn, 1) := by decide +kernel
theorem dX8_triple_184 : decode cX8_triple 184 = .ok (.aload_n 0, 1) := by decide +kernel
theorem dX8_triple_185 : decode cX8_triple 185 = .ok (.getfield 44, 3) := by decide +kernel
theorem dX8_triple_188 : decode cX8_triple 188 = .ok (.getfield 156, 3) := by decide +kernel
theorem dX8_triple_191 : decode cX8_triple 191 = .ok (.iload 5, 2) := by decide +kernel
theorem dX8_triple_193 : decode cX8_triple 193 = .ok (.iconst 3, 1) := by decide +kernel
theorem dX8_triple_194 : decode cX8_triple 194 = .ok (.isub, 1) := by decide +kernel
theorem dX8_triple_195 : decode cX8_triple 195 = .ok (.iaload, 1) := by decide +kernel
theorem dX8_triple_196 : decode cX8_triple 196 = .ok (.ireturn, 1) := by decide +kernel
theorem dX8_alike_0 : decode cX8_alike 0 = .ok (.iload_n 1, 1) := by decide +kernel
theorem dX8_alike_1 : decode cX8_alike 1 = .ok (.invokestatic 88, 3) := by decide +kernel
theorem dX8_alike_4 : decode cX8_alike 4 = .ok (.ifCond .ne 5, 3) := by decide +kernel
theorem dX8_alike_7 : decode cX8_alike 7 = .ok (.iconst (-1), 1) := by decide +kernel
theorem dX8_alike_8 : decode cX8_alike 8 = .ok (.ireturn, 1) := by decide +kernel
theorem dX8_alike_9 : decode cX8_alike 9 = .ok (.aload_n 0, 1) := by decide +kernel
theorem dX8_alike_10 : decode cX8_alike 10 = .ok (.getfield 51, 3) := by decide +kernel
theorem dX8_alike_13 : decode cX8_alike 13 = .ok (.aload_n 0, 1) := by decide +kernel
theorem dX8_alike_14 : decode cX8_alike 14 = .ok (.getfield 14, 3) := by decide +kernel
theorem dX8_alike_17 : decode cX8_alike 17 = .ok (.aload_n 0, 1) := by decide +kernel
theorem dX8_alike_18 : decode cX8_alike 18 = .ok (.getfield 18, 3) := by decide +kernel
theorem dX8_alike_21 : decode cX8_alike 21 = .ok (.iload_n 1, 1) := by decide +kernel
theorem dX8_alike_22 : decode cX8_alike 22 = .ok (.aaload, 1) := by decide +kernel
theorem dX8_alike_23 : decode cX8_alike 23 = .ok (.aload_n 0, 1) := by decide +kernel
theorem dX8_alike_24 : decode cX8_alike 24 = .ok (.getfield 37, 3) := by decide +kernel
theorem dX8_alike_27 : decode cX8_alike 27 = .ok (.iconst 0, 1) := by decide +kernel
theorem dX8_alike_28 : decode cX8_alike 28 = .ok (.iaload, 1) := by decide +kernel
theorem dX8_alike_29 : decode cX8_alike 29 = .ok (.invokevirtual 159, 3) := by decide +kernel
theorem dX8_alike_32 : decode cX8_alike 32 = .ok (.aload_n 0, 1) := by decide +kernel
theorem dX8_alike_33 : decode cX8_alike 33 = .ok (.getfield 51, 3) := by decide +kernel
theorem dX8_alike_36 : decode cX8_alike 36 = .ok (.getfield 163, 3) := by decide +kernel
theorem dX8_alike_39 : decode cX8_alike 39 = .ok (.ireturn, 1) := by decide +kernel
theorem dX8_votes_0 : decode cX8_votes 0 = .ok (.aload_n 0, 1) := by decide +kernel
theorem dX8_votes_1 : decode cX8_votes 1 = .ok (.iload_n 1, 1) := by decide +kernel
theorem dX8_votes_2 : decode cX8_votes 2 = .ok (.iload_n 3, 1) := by decide +kernel
theorem dX8_votes_3 : decode cX8_votes 3 = .ok (.invokevirtual 102, 3) := by decide +kernel
theorem dX8_votes_6 : decode cX8_votes 6 = .ok (.ifCond .eq 14, 3) := by decide +kernel
theorem dX8_votes_9 : decode cX8_votes 9 = .ok (.aload_n 0, 1) := by decide +kernel
theorem dX8_votes_10 : decode cX8_votes 10 = .ok (.getfield 14, 3) := by decide +kernel
theorem dX8_votes_13 : decode cX8_votes 13 = .ok (.iload_n 2, 1) := by decide +kernel
theorem dX8_votes_14 : decode cX8_votes 14 = .ok (.invokevirtual 92, 3) := by decide +kernel
theorem dX8_votes_17 : decode cX8_votes 17 = .ok (.ifCond .ne 5, 3) := by decide +kernel
theorem dX8_votes_20 : decode cX8_votes 20 = .ok (.iconst (-1), 1) := by decide +kernel
theorem dX8_votes_21 : decode cX8_votes 21 = .ok (.ireturn, 1) := by decide +kernel
theorem dX8_votes_22 : decode cX8_votes 22 = .ok (.aload_n 0, 1) := by decide +kernel
theorem dX8_votes_23 : decode cX8_votes 23 = .ok (.getfield 51, 3) := by decide +kernel
theorem dX8_votes_26 : decode cX8_votes 26 = .ok (.aload_n 0, 1) := by decide +kernel
theorem dX8_votes_27 : decode cX8_votes 27 = .ok (.getfield 14, 3) := by decide +kernel
theorem dX8_votes_30 : decode cX8_votes 30 = .ok (.aload_n 0, 1) := by decide +kernel
theorem dX8_votes_31 : decode cX8_votes 31 = .ok (.getfield 18, 3) := by decide +kernel
theorem dX8_votes_34 : decode cX8_votes 34 = .ok (.iload_n 1, 1) := by decide +kernel
theorem dX8_votes_35 : decode cX8_votes 35 = .ok (.aaload, 1) := by decide +kernel
theorem dX8_votes_36 : decode cX8_votes 36 = .ok (.aload_n 0, 1) := by decide +kernel
theorem dX8_votes_37 : decode cX8_votes 37 = .ok (.getfield 37, 3) := by decide +kernel
theorem dX8_votes_40 : decode cX8_votes 40 = .ok (.iconst 0, 1) := by decide +kernel
theorem dX8_votes_41 : decode cX8_votes 41 = .ok (.iaload, 1) := by decide +kernel
theorem dX8_votes_42 : decode cX8_votes 42 = .ok (.invokevirtual 159, 3) := by decide +kernel
theorem dX8_votes_45 : decode cX8_votes 45 = .ok (.aload_n 0, 1) := by decide +kernel
theorem dX8_votes_46 : decode cX8_votes 46 = .ok (.getfield 51, 3) := by decide +kernel
theorem dX8_votes_49 : decode cX8_votes 49 = .ok (.iload_n 2, 1) := by decide +kernel
theorem dX8_votes_50 : decode cX8_votes 50 = .ok (.iload_n 3, 1) := by decide +kernel
theorem dX8_votes_51 : decode cX8_votes 51 = .ok (.invokevirtual 166, 3) := by decide +kernel
theorem dX8_votes_54 : decode cX8_votes 54 = .ok (.ireturn, 1) := by decide +kernel
theorem dX8_match_0 : decode cX8_match 0 = .ok (.iload_n 1, 1) := by decide +kernel
theorem dX8_match_1 : decode cX8_match 1 = .ok (.invokestatic 88, 3) := by decide +kernel
theorem dX8_match_4 : decode cX8_match 4 = .ok (.ifCond .eq 14, 3) := by decide +kernel
theorem dX8_match_7 : decode cX8_match 7 = .ok (.aload_n 0, 1) := by decide +kernel
theorem dX8_match_8 : decode cX8_match 8 = .ok (.getfield 14, 3) := by decide +kernel
theorem dX8_match_11 : decode cX8_match 11 = .ok (.iload_n 2, 1) := by decide +kernel
theorem dX8_match_12 : decode cX8_match 12 = .ok (.invokevirtual 92, 3) := by decide +kernel
theorem dX8_match_15 : decode cX8_match 15 = .ok (.ifCond .ne 5, 3) := by decide +kernel
theorem dX8_match_18 : decode cX8_match 18 = .ok (.iconst (-1), 1) := by decide +kernel
theorem dX8_match_19 : decode cX8_match 19 = .ok (.ireturn, 1) := by decide +kernel
theorem dX8_match_20 : decode cX8_match 20 = .ok (.iload_n 3, 1) := by decide +kernel
theorem dX8_match_21 : decode cX8_match 21 = .ok (.ifCond .eq 11, 3) := by decide +kernel
theorem dX8_match_24 : decode cX8_match 24 = .ok (.aload_n 0, 1) := by decide +kernel
theorem dX8_match_25 : decode cX8_match 25 = .ok (.iload_n 1, 1) := by decide +kernel
theorem dX8_match_26 : decode cX8_match 26 = .ok (.invokevirtual 169, 3) := by decide +kernel
theorem dX8_match_29 : decode cX8_match 29 = .ok (.goto 8, 3) := by decide +kernel
theorem dX8_match_32 : decode cX8_match 32 = .ok (.aload_n 0, 1) := by decide +kernel
theorem dX8_match_33 : decode cX8_match 33 = .ok (.iload_n 1, 1) := by decide +kernel
theorem dX8_match_34 : decode cX8_match 34 = .ok (.invokevirtual 173, 3) := by decide +kernel
theorem dX8_match_37 : decode cX8_match 37 = .ok (.aload_n 0, 1) := by decide +kernel
theorem dX8_match_38 : decode cX8_match 38 = .ok (.getfield 58, 3) := by decide +kernel
theorem dX8_match_41 : decode cX8_match 41 = .ok (.iload_n 1, 1) := by decide +kernel
theorem dX8_match_42 : decode cX8_match 42 = .ok (.aaload, 1) := by decide +kernel
theorem dX8_match_43 : decode cX8_match 43 = .ok (.getfield 176, 3) := by decide +kernel
theorem dX8_match_46 : decode cX8_match 46 = .ok (.iload_n 2, 1) := by decide +kernel
theorem dX8_match_47 : decode cX8_match 47 = .ok (.iaload, 1) := by decide +kernel
theorem dX8_match_48 : decode cX8_match 48 = .ok (.ireturn, 1) := by decide +kernel
theorem dX8_fit_0 : decode cX8_fit 0 = .ok (.iload_n 1, 1) := by decide +kernel
theorem dX8_fit_1 : decode cX8_fit 1 = .ok (.invokestatic 88, 3) := by decide +kernel
theorem dX8_fit_4 : decode cX8_fit 4 = .ok (.ifCond .eq 21, 3) := by decide +kernel
theorem dX8_fit_7 : decode cX8_fit 7 = .ok (.iload_n 2, 1) := by decide +kernel
theorem dX8_fit_8 : decode cX8_fit 8 = .ok (.iconst 0, 1) := by decide +kernel
theorem dX8_fit_9 : decode cX8_fit 9 = .ok (.iconst 1, 1) := by decide +kernel
theorem dX8_fit_10 : decode cX8_fit 10 = .ok (.invokestatic 76, 3) := by decide +kernel
theorem dX8_fit_13 : decode cX8_fit 13 = .ok (.ifCond .eq 12, 3) := by decide +kernel
theorem dX8_fit_16 : decode cX8_fit 16 = .ok (.iload_n 3, 1) := by decide +kernel
theorem dX8_fit_17 : decode cX8_fit 17 = .ok (.iconst 0, 1) := by decide +kernel
theorem dX8_fit_18 : decode cX8_fit 18 = .ok (.iconst 1, 1) := by decide +kernel
theorem dX8_fit_19 : decode cX8_fit 19 = .ok (.invokestatic 76, 3) := by decide +kernel
theorem dX8_fit_22 : decode cX8_fit 22 = .ok (.ifCond .ne 7, 3) := by decide +kernel
theorem dX8_fit_25 : decode cX8_fit 25 = .ok (.ldc2_w 179, 3) := by decide +kernel
theorem dX8_fit_28 : decode cX8_fit 28 = .ok (.lreturn, 1) := by decide +kernel
theorem dX8_fit_29 : decode cX8_fit 29 = .ok (.aload_n 0, 1) := by decide +kernel
theorem dX8_fit_30 : decode cX8_fit 30 = .ok (.iload_n 1, 1) := by decide +kernel
theorem dX8_fit_31 : decode cX8_fit 31 = .ok (.invokevirtual 169, 3) := by decide +kernel
theorem dX8_fit_34 : decode cX8_fit 34 = .ok (.aload_n 0, 1) := by decide +kernel
theorem dX8_fit_35 : decode cX8_fit 35 = .ok (.iload_n 1, 1) := by decide +kernel
theorem dX8_fit_36 : decode cX8_fit 36 = .ok (.invokevirtual 181, 3) := by decide +kernel
theorem dX8_fit_39 : decode cX8_fit 39 = .ok (.ifCond .ne 7, 3) := by decide +kernel
theorem dX8_fit_42 : decode cX8_fit 42 = .ok (.ldc2_w 179, 3) := by decide +kernel
theorem dX8_fit_45 : decode cX8_fit 45 = .ok (.lreturn, 1) := by decide +kernel
theorem dX8_fit_46 : decode cX8_fit 46 = .ok (.iload_n 2, 1) := by decide +kernel
theorem dX8_fit_47 : decode cX8_fit 47 = .ok (.ifCond .ne 13, 3) := by decide +kernel
theorem dX8_fit_50 : decode cX8_fit 50 = .ok (.aload_n 0, 1) := by decide +kernel
theorem dX8_fit_51 : decode cX8_fit 51 = .ok (.getfield 65, 3) := by decide +kernel
theorem dX8_fit_54 : decode cX8_fit 54 = .ok (.getfield 184, 3) := by decide +kernel
theorem dX8_fit_57 : decode cX8_fit 57 = .ok (.goto 10, 3) := by decide +kernel
theorem dX8_fit_60 : decode cX8_fit 60 = .ok (.aload_n 0, 1) := by decide +kernel
theorem dX8_fit_61 : decode cX8_fit 61 = .ok (.getfield 65, 3) := by decide +kernel
theorem dX8_fit_64 : decode cX8_fit 64 = .ok (.getfield 188, 3) := by decide +kernel
theorem dX8_fit_67 : decode cX8_fit 67 = .ok (.lstore 4, 2) := by decide +kernel
theorem dX8_fit_69 : decode cX8_fit 69 = .ok (.lload 4, 2) := by decide +kernel
theorem dX8_fit_71 : decode cX8_fit 71 = .ok (.invokestatic 117, 3) := by decide +kernel
theorem dX8_fit_74 : decode cX8_fit 74 = .ok (.aload_n 0, 1) := by decide +kernel
theorem dX8_fit_75 : decode cX8_fit 75 = .ok (.getfield 65, 3) := by decide +kernel
theorem dX8_fit_78 : decode cX8_fit 78 = .ok (.getfield 191, 3) := by decide +kernel
theorem dX8_fit_81 : decode cX8_fit 81 = .ok (.invokestatic 194, 3) := by decide +kernel
theorem dX8_fit_84 : decode cX8_fit 84 = .ok (.lstore 6, 2) := by decide +kernel
theorem dX8_fit_86 : decode cX8_fit 86 = .ok (.lload 6, 2) := by decide +kernel
theorem dX8_fit_88 : decode cX8_fit 88 = .ok (.lconst 1, 1) := by decide +kernel
theorem dX8_fit_89 : decode cX8_fit 89 = .ok (.lcmp, 1) := by decide +kernel
theorem dX8_fit_90 : decode cX8_fit 90 = .ok (.ifCond .ge 7, 3) := by decide +kernel
theorem dX8_fit_93 : decode cX8_fit 93 = .ok (.ldc2_w 179, 3) := by decide +kernel
theorem dX8_fit_96 : decode cX8_fit 96 = .ok (.lreturn, 1) := by decide +kernel
theorem dX8_fit_97 : decode cX8_fit 97 = .ok (.iload_n 3, 1) := by decide +kernel
theorem dX8_fit_98 : decode cX8_fit 98 = .ok (.ifCond .ne 8, 3) := by decide +kernel
theorem dX8_fit_101 : decode cX8_fit 101 = .ok (.lload 4, 2) := by decide +kernel
theorem dX8_fit_103 : decode cX8_fit 103 = .ok (.goto 10, 3) := by decide +kernel
theorem dX8_fit_106 : decode cX8_fit 106 = .ok (.aload_n 0, 1) := by decide +kernel
theorem dX8_fit_107 : decode cX8_fit 107 = .ok (.getfield 65, 3) := by decide +kernel
theorem dX8_fit_110 : decode cX8_fit 110 = .ok (.getfield 191, 3) := by decide +kernel
theorem dX8_fit_113 : decode cX8_fit 113 = .ok (.lload 6, 2) := by decide +kernel
theorem dX8_fit_115 : decode cX8_fit 115 = .ok (.ldiv, 1) := by decide +kernel
theorem dX8_fit_116 : decode cX8_fit 116 = .ok (.lreturn, 1) := by decide +kernel
theorem dX8_laid_0 : decode cX8_laid 0 = .ok (.iload_n 1, 1) := by decide +kernel
theorem dX8_laid_1 : decode cX8_laid 1 = .ok (.invokestatic 88, 3) := by decide +kernel
theorem dX8_laid_4 : decode cX8_laid 4 = .ok (.ifCond .eq 23, 3) := by decide +kernel
theorem dX8_laid_7 : decode cX8_laid 7 = .ok (.aload_n 0, 1) := by decide +kernel
theorem dX8_laid_8 : decode cX8_laid 8 = .ok (.getfield 14, 3) := by decide +kernel
theorem dX8_laid_11 : decode cX8_laid 11 = .ok (.iload_n 2, 1) := by decide +kernel
theorem dX8_laid_12 : decode cX8_laid 12 = .ok (.invokevirtual 92, 3) := by decide +kernel
theorem dX8_laid_15 : decode cX8_laid 15 = .ok (.ifCond .eq 12, 3) := by decide +kernel
theorem dX8_laid_18 : decode cX8_laid 18 = .ok (.iload_n 3, 1) := by decide +kernel
theorem dX8_laid_19 : decode cX8_laid 19 = .ok (.iconst 0, 1) := by decide +kernel
theorem dX8_laid_20 : decode cX8_laid 20 = .ok (.iconst 1, 1) := by decide +kernel
theorem dX8_laid_21 : decode cX8_laid 21 = .ok (.invokestatic 76, 3) := by decide +kernel
theorem dX8_laid_24 : decode cX8_laid 24 = .ok (.ifCond .ne 7, 3) := by decide +kernel
theorem dX8_laid_27 : decode cX8_laid 27 = .ok (.ldc2_w 179, 3) := by decide +kernel
theorem dX8_laid_30 : decode cX8_laid 30 = .ok (.lreturn, 1) := by decide +kernel
theorem dX8_laid_31 : decode cX8_laid 31 = .ok (.aload_n 0, 1) := by decide +kernel
theorem dX8_laid_32 : decode cX8_laid 32 = .ok (.iload_n 1, 1) := by decide +kernel
theorem dX8_laid_33 : decode cX8_laid 33 = .ok (.invokevirtual 169, 3) := by decide +kernel
theorem dX8_laid_36 : decode cX8_laid 36 = .ok (.aload_n 0, 1) := by decide +kernel
theorem dX8_laid_37 : decode cX8_laid 37 = .ok (.iload_n 1, 1) := by decide +kernel
theorem dX8_laid_38 : decode cX8_laid 38 = .ok (.invokevirtual 181, 3) := by decide +kernel
theorem dX8_laid_41 : decode cX8_laid 41 = .ok (.ifCond .ne 7, 3) := by decide +kernel
theorem dX8_laid_44 : decode cX8_laid 44 = .ok (.ldc2_w 179, 3) := by decide +kernel
theorem dX8_laid_47 : decode cX8_laid 47 = .ok (.lreturn, 1) := by decide +kernel
theorem dX8_laid_48 : decode cX8_laid 48 = .ok (.aload_n 0, 1) := by decide +kernel
theorem dX8_laid_49 : decode cX8_laid 49 = .ok (.getfield 65, 3) := by decide +kernel
theorem dX8_laid_52 : decode cX8_laid 52 = .ok (.aload_n 0, 1) := by decide +kernel
theorem dX8_laid_53 : decode cX8_laid 53 = .ok (.getfield 14, 3) := by decide +kernel
theorem dX8_laid_56 : decode cX8_laid 56 = .ok (.getfield 198, 3) := by decide +kernel
theorem dX8_laid_59 : decode cX8_laid 59 = .ok (.iload_n 2, 1) := by decide +kernel
theorem dX8_laid_60 : decode cX8_laid 60 = .ok (.iaload, 1) := by decide +kernel
theorem dX8_laid_61 : decode cX8_laid 61 = .ok (.aload_n 0, 1) := by decide +kernel
theorem dX8_laid_62 : decode cX8_laid 62 = .ok (.getfield 14, 3) := by decide +kernel
theorem dX8_laid_65 : decode cX8_laid 65 = .ok (.getfield 201, 3) := by decide +kernel
theorem dX8_laid_68 : decode cX8_laid 68 = .ok (.iload_n 2, 1) := by decide +kernel
theorem dX8_laid_69 : decode cX8_laid 69 = .ok (.iaload, 1) := by decide +kernel
theorem dX8_laid_70 : decode cX8_laid 70 = .ok (.iload_n 3, 1) := by decide +kernel
theorem dX8_laid_71 : decode cX8_laid 71 = .ok (.invokevirtual 204, 3) := by decide +kernel
theorem dX8_laid_74 : decode cX8_laid 74 = .ok (.lreturn, 1) := by decide +kernel
theorem dX8_off_0 : decode cX8_off 0 = .ok (.iload_n 1, 1) := by decide +kernel
theorem dX8_off_1 : decode cX8_off 1 = .ok (.invokestatic 88, 3) := by decide +kernel
theorem dX8_off_4 : decode cX8_off 4 = .ok (.ifCond .eq 14, 3) := by decide +kernel
theorem dX8_off_7 : decode cX8_off 7 = .ok (.aload_n 0, 1) := by decide +kernel
theorem dX8_off_8 : decode cX8_off 8 = .ok (.getfield 14, 3) := by decide +kernel
theorem dX8_off_11 : decode cX8_off 11 = .ok (.iload_n 2, 1) := by decide +kernel
theorem dX8_off_12 : decode cX8_off 12 = .ok (.invokevirtual 92, 3) := by decide +kernel
theorem dX8_off_15 : decode cX8_off 15 = .ok (.ifCond .ne 7, 3) := by decide +kernel
theorem dX8_off_18 : decode cX8_off 18 = .ok (.ldc2_w 179, 3) := by decide +kernel
theorem dX8_off_21 : decode cX8_off 21 = .ok (.lreturn, 1) := by decide +kernel
theorem dX8_off_22 : decode cX8_off 22 = .ok (.aload_n 0, 1) := by decide +kernel
theorem dX8_off_23 : decode cX8_off 23 = .ok (.iload_n 1, 1) := by decide +kernel
theorem dX8_off_24 : decode cX8_off 24 = .ok (.invokevirtual 169, 3) := by decide +kernel
theorem dX8_off_27 : decode cX8_off 27 = .ok (.aload_n 0, 1) := by decide +kernel
theorem dX8_off_28 : decode cX8_off 28 = .ok (.getfield 58, 3) := by decide +kernel
theorem dX8_off_31 : decode cX8_off 31 = .ok (.iload_n 1, 1) := by decide +kernel
theorem dX8_off_32 : decode cX8_off 32 = .ok (.aaload, 1) := by decide +kernel
theorem dX8_off_33 : decode cX8_off 33 = .ok (.iload_n 2, 1) := by decide +kernel
theorem dX8_off_34 : decode cX8_off 34 = .ok (.invokevirtual 208, 3) := by decide +kernel
theorem dX8_off_37 : decode cX8_off 37 = .ok (.ifCond .eq 11, 3) := by decide +kernel
theorem dX8_off_40 : decode cX8_off 40 = .ok (.aload_n 0, 1) := by decide +kernel
theorem dX8_off_41 : decode cX8_off 41 = .ok (.iload_n 1, 1) := by decide +kernel
theorem dX8_off_42 : decode cX8_off 42 = .ok (.invokevirtual 181, 3) := by decide +kernel
theorem dX8_off_45 : decode cX8_off 45 = .ok (.ifCond .ne 7, 3) := by decide +kernel
theorem dX8_off_48 : decode cX8_off 48 = .ok (.ldc2_w 179, 3) := by decide +kernel
theorem dX8_off_51 : decode cX8_off 51 = .ok (.lreturn, 1) := by decide +kernel
theorem dX8_off_52 : decode cX8_off 52 = .ok (.aload_n 0, 1) := by decide +kernel
theorem dX8_off_53 : decode cX8_off 53 = .ok (.iload_n 1, 1) := by decide +kernel
theorem dX8_off_54 : decode cX8_off 54 = .ok (.iload_n 2, 1) := by decide +kernel
theorem dX8_off_55 : decode cX8_off 55 = .ok (.invokevirtual 211, 3) := by decide +kernel
theorem dX8_off_58 : decode cX8_off 58 = .ok (.lreturn, 1) := by decide +kernel
theorem dX8_wrong_0 : decode cX8_wrong 0 = .ok (.iload_n 1, 1) := by decide +kernel
theorem dX8_wrong_1 : decode cX8_wrong 1 = .ok (.invokestatic 88, 3) := by decide +kernel
theorem dX8_wrong_4 : decode cX8_wrong 4 = .ok (.ifCond .ne 5, 3) := by decide +kernel
theorem dX8_wrong_7 : decode cX8_wrong 7 = .ok (.iconst (-1), 1) := by decide +kernel
theorem dX8_wrong_8 : decode cX8_wrong 8 = .ok (.ireturn, 1) := by decide +kernel
theorem dX8_wrong_9 : decode cX8_wrong 9 = .ok (.iload_n 2, 1) := by decide +kernel
theorem dX8_wrong_10 : decode cX8_wrong 10 = .ok (.iconst 0, 1) := by decide +kernel
theorem dX8_wrong_11 : decode cX8_wrong 11 = .ok (.iconst 1, 1) := by decide +kernel
theorem dX8_wrong_12 : decode cX8_wrong 12 = .ok (.invokestatic 76, 3) := by decide +kernel
theorem dX8_wrong_15 : decode cX8_wrong 15 = .ok (.ifCond .ne 6, 3) := by decide +kernel
theorem dX8_wrong_18 : decode cX8_wrong 18 = .ok (.bipush (-2), 2) := by decide +kernel
theorem dX8_wrong_20 : decode cX8_wrong 20 = .ok (.ireturn, 1) := by decide +kernel
theorem dX8_wrong_21 : decode cX8_wrong 21 = .ok (.aload_n 0, 1) := by decide +kernel
theorem dX8_wrong_22 : decode cX8_wrong 22 = .ok (.iload_n 1, 1) := by decide +kernel
theorem dX8_wrong_23 : decode cX8_wrong 23 = .ok (.invokevirtual 169, 3) := by decide +kernel
theorem dX8_wrong_26 : decode cX8_wrong 26 = .ok (.iconst 0, 1) := by decide +kernel
theorem dX8_wrong_27 : decode cX8_wrong 27 = .ok (.istore_n 3, 1) := by decide +kernel
theorem dX8_wrong_28 : decode cX8_wrong 28 = .ok (.iconst 0, 1) := by decide +kernel
theorem dX8_wrong_29 : decode cX8_wrong 29 = .ok (.istore 4, 2) := by decide +kernel
theorem dX8_wrong_31 : decode cX8_wrong 31 = .ok (.bipush (-9), 2) := by decide +kernel
theorem dX8_wrong_33 : decode cX8_wrong 33 = .ok (.istore 5, 2) := by decide +kernel
theorem dX8_wrong_35 : decode cX8_wrong 35 = .ok (.iconst 0, 1) := by decide +kernel
theorem dX8_wrong_36 : decode cX8_wrong 36 = .ok (.istore 6, 2) := by decide +kernel
theorem dX8_wrong_38 : decode cX8_wrong 38 = .ok (.iload 6, 2) := by decide +kernel
theorem dX8_wrong_40 : decode cX8_wrong 40 = .ok (.aload_n 0, 1) := by decide +kernel
theorem dX8_wrong_41 : decode cX8_wrong 41 = .ok (.getfield 14, 3) := by decide +kernel
theorem dX8_wrong_44 : decode cX8_wrong 44 = .ok (.getfield 215, 3) := by decide +kernel
theorem dX8_wrong_47 : decode cX8_wrong 47 = .ok (.if_icmp .ge 38, 3) := by decide +kernel
theorem dX8_wrong_50 : decode cX8_wrong 50 = .ok (.aload_n 0, 1) := by decide +kernel
theorem dX8_wrong_51 : decode cX8_wrong 51 = .ok (.iload_n 1, 1) := by decide +kernel
theorem dX8_wrong_52 : decode cX8_wrong 52 = .ok (.iload 6, 2) := by decide +kernel
theorem dX8_wrong_54 : decode cX8_wrong 54 = .ok (.invokevirtual 218, 3) := by decide +kernel
theorem dX8_wrong_57 : decode cX8_wrong 57 = .ok (.istore 7, 2) := by decide +kernel
theorem dX8_wrong_59 : decode cX8_wrong 59 = .ok (.iload_n 3, 1) := by decide +kernel
theorem dX8_wrong_60 : decode cX8_wrong 60 = .ok (.iload 7, 2) := by decide +kernel
theorem dX8_wrong_62 : decode cX8_wrong 62 = .ok (.iadd, 1) := by decide +kernel
theorem dX8_wrong_63 : decode cX8_wrong 63 = .ok (.istore_n 3, 1) := by decide +kernel
theorem dX8_wrong_64 : decode cX8_wrong 64 = .ok (.iload 7, 2) := by decide +kernel
theorem dX8_wrong_66 : decode cX8_wrong 66 = .ok (.iload 4, 2) := by decide +kernel
theorem dX8_wrong_68 : decode cX8_wrong 68 = .ok (.if_icmp .le 11, 3) := by decide +kernel
theorem dX8_wrong_71 : decode cX8_wrong 71 = .ok (.iload 7, 2) := by decide +kernel
theorem dX8_wrong_73 : decode cX8_wrong 73 = .ok (.istore 4, 2) := by decide +kernel
theorem dX8_wrong_75 : decode cX8_wrong 75 = .ok (.iload 6, 2) := by decide +kernel
theorem dX8_wrong_77 : decode cX8_wrong 77 = .ok (.istore 5, 2) := by decide +kernel
theorem dX8_wrong_79 : decode cX8_wrong 79 = .ok (.iinc 6 1, 3) := by decide +kernel
theorem dX8_wrong_82 : decode cX8_wrong 82 = .ok (.goto (-44), 3) := by decide +kernel
theorem dX8_wrong_85 : decode cX8_wrong 85 = .ok (.iload_n 2, 1) := by decide +kernel
theorem dX8_wrong_86 : decode cX8_wrong 86 = .ok (.ifCond .ne 9, 3) := by decide +kernel
theorem dX8_wrong_89 : decode cX8_wrong 89 = .ok (.iload_n 3, 1) := by decide +kernel
theorem dX8_wrong_90 : decode cX8_wrong 90 = .ok (.iconst 2, 1) := by decide +kernel
theorem dX8_wrong_91 : decode cX8_wrong 91 = .ok (.idiv, 1) := by decide +kernel
theorem dX8_wrong_92 : decode cX8_wrong 92 = .ok (.goto 5, 3) := by decide +kernel
theorem dX8_wrong_95 : decode cX8_wrong 95 = .ok (.iload 5, 2) := by decide +kernel
theorem dX8_wrong_97 : decode cX8_wrong 97 = .ok (.ireturn, 1) := by decide +kernel
theorem dX8_both_0 : decode cX8_both 0 = .ok (.aload_n 0, 1) := by decide +kernel
theorem dX8_both_1 : decode cX8_both 1 = .ok (.iconst 0, 1) := by decide +kernel
theorem dX8_both_2 : decode cX8_both 2 = .ok (.invokevirtual 169, 3) := by decide +kernel
theorem dX8_both_5 : decode cX8_both 5 = .ok (.aload_n 0, 1) := by decide +kernel
theorem dX8_both_6 : decode cX8_both 6 = .ok (.iconst 1, 1) := by decide +kernel
theorem dX8_both_7 : decode cX8_both 7 = .ok (.invokevirtual 169, 3) := by decide +kernel
theorem dX8_both_10 : decode cX8_both 10 = .ok (.iconst 0, 1) := by decide +kernel
theorem dX8_both_11 : decode cX8_both 11 = .ok (.istore_n 1, 1) := by decide +kernel
theorem dX8_both_12 : decode cX8_both 12 = .ok (.iconst 0, 1) := by decide +kernel
theorem dX8_both_13 : decode cX8_both 13 = .ok (.istore_n 2, 1) := by decide +kernel
theorem dX8_both_14 : decode cX8_both 14 = .ok (.iload_n 2, 1) := by decide +kernel
theorem dX8_both_15 : decode cX8_both 15 = .ok (.aload_n 0, 1) := by decide +kernel
theorem dX8_both_16 : decode cX8_both 16 = .ok (.getfield 14, 3) := by decide +kernel
theorem dX8_both_19 : decode cX8_both 19 = .ok (.getfield 215, 3) := by decide +kernel
theorem dX8_both_22 : decode cX8_both 22 = .ok (.if_icmp .ge 23, 3) := by decide +kernel
theorem dX8_both_25 : decode cX8_both 25 = .ok (.aload_n 0, 1) := by decide +kernel
theorem dX8_both_26 : decode cX8_both 26 = .ok (.iload_n 2, 1) := by decide +kernel
theorem dX8_both_27 : decode cX8_both 27 = .ok (.invokevirtual 221, 3) := by decide +kernel
theorem dX8_both_30 : decode cX8_both 30 = .ok (.ifCond .eq 9, 3) := by decide +kernel
theorem dX8_both_33 : decode cX8_both 33 = .ok (.iload_n 1, 1) := by decide +kernel
theorem dX8_both_34 : decode cX8_both 34 = .ok (.iconst 1, 1) := by decide +kernel
theorem dX8_both_35 : decode cX8_both 35 = .ok (.iload_n 2, 1) := by decide +kernel
theorem dX8_both_36 : decode cX8_both 36 = .ok (.ishl, 1) := by decide +kernel
theorem dX8_both_37 : decode cX8_both 37 = .ok (.ior, 1) := by decide +kernel
theorem dX8_both_38 : decode cX8_both 38 = .ok (.istore_n 1, 1) := by decide +kernel
theorem dX8_both_39 : decode cX8_both 39 = .ok (.iinc 2 1, 3) := by decide +kernel
theorem dX8_both_42 : decode cX8_both 42 = .ok (.goto (-28), 3) := by decide +kernel
theorem dX8_both_45 : decode cX8_both 45 = .ok (.iload_n 1, 1) := by decide +kernel
theorem dX8_both_46 : decode cX8_both 46 = .ok (.ireturn, 1) := by decide +kernel
theorem dX8_carried_0 : decode cX8_carried 0 = .ok (.aload_n 0, 1) := by decide +kernel
theorem dX8_carried_1 : decode cX8_carried 1 = .ok (.getfield 18, 3) := by decide +kernel
theorem dX8_carried_4 : decode cX8_carried 4 = .ok (.iconst 0, 1) := by decide +kernel
theorem dX8_carried_5 : decode cX8_carried 5 = .ok (.aaload, 1) := by decide +kernel
theorem dX8_carried_6 : decode cX8_carried 6 = .ok (.iload_n 1, 1) := by decide +kernel
theorem dX8_carried_7 : decode cX8_carried 7 = .ok (.invokevirtual 92, 3) := by decide +kernel
theorem dX8_carried_10 : decode cX8_carried 10 = .ok (.ifCond .eq 12, 3) := by decide +kernel
theorem dX8_carried_13 : decode cX8_carried 13 = .ok (.iload_n 2, 1) := by decide +kernel
theorem dX8_carried_14 : decode cX8_carried 14 = .ok (.iconst 0, 1) := by decide +kernel
theorem dX8_carried_15 : decode cX8_carried 15 = .ok (.iconst 1, 1) := by decide +kernel
theorem dX8_carried_16 : decode cX8_carried 16 = .ok (.invokestatic 76, 3) := by decide +kernel
theorem dX8_carried_19 : decode cX8_carried 19 = .ok (.ifCond .ne 7, 3) := by decide +kernel
theorem dX8_carried_22 : decode cX8_carried 22 = .ok (.ldc2_w 179, 3) := by decide +kernel
theorem dX8_carried_25 : decode cX8_carried 25 = .ok (.lreturn, 1) := by decide +kernel
theorem dX8_carried_26 : decode cX8_carried 26 = .ok (.aload_n 0, 1) := by decide +kernel
theorem dX8_carried_27 : decode cX8_carried 27 = .ok (.iconst 0, 1) := by decide +kernel
theorem dX8_carried_28 : decode cX8_carried 28 = .ok (.invokevirtual 169, 3) := by decide +kernel
theorem dX8_carried_31 : decode cX8_carried 31 = .ok (.aload_n 0, 1) := by decide +kernel
theorem dX8_carried_32 : decode cX8_carried 32 = .ok (.iconst 1, 1) := by decide +kernel
theorem dX8_carried_33 : decode cX8_carried 33 = .ok (.invokevirtual 169, 3) := by decide +kernel
theorem dX8_carried_36 : decode cX8_carried 36 = .ok (.aload_n 0, 1) := by decide +kernel
theorem dX8_carried_37 : decode cX8_carried 37 = .ok (.invokevirtual 224, 3) := by decide +kernel
theorem dX8_carried_40 : decode cX8_carried 40 = .ok (.ifCond .ne 7, 3) := by decide +kernel
theorem dX8_carried_43 : decode cX8_carried 43 = .ok (.ldc2_w 179, 3) := by decide +kernel
theorem dX8_carried_46 : decode cX8_carried 46 = .ok (.lreturn, 1) := by decide +kernel
theorem dX8_carried_47 : decode cX8_carried 47 = .ok (.aload_n 0, 1) := by decide +kernel
theorem dX8_carried_48 : decode cX8_carried 48 = .ok (.getfield 65, 3) := by decide +kernel
theorem dX8_carried_51 : decode cX8_carried 51 = .ok (.aload_n 0, 1) := by decide +kernel
theorem dX8_carried_52 : decode cX8_carried 52 = .ok (.getfield 18, 3) := by decide +kernel
theorem dX8_carried_55 : decode cX8_carried 55 = .ok (.iconst 0, 1) := by decide +kernel
theorem dX8_carried_56 : decode cX8_carried 56 = .ok (.aaload, 1) := by decide +kernel
theorem dX8_carried_57 : decode cX8_carried 57 = .ok (.getfield 198, 3) := by decide +kernel
theorem dX8_carried_60 : decode cX8_carried 60 = .ok (.iload_n 1, 1) := by decide +kernel
theorem dX8_carried_61 : decode cX8_carried 61 = .ok (.iaload, 1) := by decide +kernel
theorem dX8_carried_62 : decode cX8_carried 62 = .ok (.aload_n 0, 1) := by decide +kernel
theorem dX8_carried_63 : decode cX8_carried 63 = .ok (.getfield 18, 3) := by decide +kernel
theorem dX8_carried_66 : decode cX8_carried 66 = .ok (.iconst 0, 1) := by decide +kernel
theorem dX8_carried_67 : decode cX8_carried 67 = .ok (.aaload, 1) := by decide +kernel
theorem dX8_carried_68 : decode cX8_carried 68 = .ok (.getfield 201, 3) := by decide +kernel
theorem dX8_carried_71 : decode cX8_carried 71 = .ok (.iload_n 1, 1) := by decide +kernel
theorem dX8_carried_72 : decode cX8_carried 72 = .ok (.iaload, 1) := by decide +kernel
theorem dX8_carried_73 : decode cX8_carried 73 = .ok (.iload_n 2, 1) := by decide +kernel
theorem dX8_carried_74 : decode cX8_carried 74 = .ok (.invokevirtual 204, 3) := by decide +kernel
theorem dX8_carried_77 : decode cX8_carried 77 = .ok (.lreturn, 1) := by decide +kernel
theorem dX8_mover_0 : decode cX8_mover 0 = .ok (.iload_n 1, 1) := by decide +kernel
theorem dX8_mover_1 : decode cX8_mover 1 = .ok (.iconst (-1), 1) := by decide +kernel
theorem dX8_mover_2 : decode cX8_mover 2 = .ok (.bipush 7, 2) := by decide +kernel
theorem dX8_mover_4 : decode cX8_mover 4 = .ok (.invokestatic 76, 3) := by decide +kernel
theorem dX8_mover_7 : decode cX8_mover 7 = .ok (.ifCond .eq 12, 3) := by decide +kernel
theorem dX8_mover_10 : decode cX8_mover 10 = .ok (.iload_n 2, 1) := by decide +kernel
theorem dX8_mover_11 : decode cX8_mover 11 = .ok (.iconst 0, 1) := by decide +kernel
theorem dX8_mover_12 : decode cX8_mover 12 = .ok (.iconst 2, 1) := by decide +kernel
theorem dX8_mover_13 : decode cX8_mover 13 = .ok (.invokestatic 76, 3) := by decide +kernel
theorem dX8_mover_16 : decode cX8_mover 16 = .ok (.ifCond .ne 6, 3) := by decide +kernel
theorem dX8_mover_19 : decode cX8_mover 19 = .ok (.bipush (-2), 2) := by decide +kernel
theorem dX8_mover_21 : decode cX8_mover 21 = .ok (.ireturn, 1) := by decide +kernel
theorem dX8_mover_22 : decode cX8_mover 22 = .ok (.aload_n 0, 1) := by decide +kernel
theorem dX8_mover_23 : decode cX8_mover 23 = .ok (.iconst 0, 1) := by decide +kernel
theorem dX8_mover_24 : decode cX8_mover 24 = .ok (.invokevirtual 169, 3) := by decide +kernel
theorem dX8_mover_27 : decode cX8_mover 27 = .ok (.aload_n 0, 1) := by decide +kernel
theorem dX8_mover_28 : decode cX8_mover 28 = .ok (.iconst 1, 1) := by decide +kernel
theorem dX8_mover_29 : decode cX8_mover 29 = .ok (.invokevirtual 169, 3) := by decide +kernel
theorem dX8_mover_32 : decode cX8_mover 32 = .ok (.aload_n 0, 1) := by decide +kernel
theorem dX8_mover_33 : decode cX8_mover 33 = .ok (.invokevirtual 228, 3) := by decide +kernel
theorem dX8_mover_36 : decode cX8_mover 36 = .ok (.iload_n 1, 1) := by decide +kernel
theorem dX8_mover_37 : decode cX8_mover 37 = .ok (.iconst (-1), 1) := by decide +kernel
theorem dX8_mover_38 : decode cX8_mover 38 = .ok (.if_icmp .ne 11, 3) := by decide +kernel
theorem dX8_mover_41 : decode cX8_mover 41 = .ok (.aload_n 0, 1) := by decide +kernel
theorem dX8_mover_42 : decode cX8_mover 42 = .ok (.getfield 72, 3) := by decide +kernel
theorem dX8_mover_45 : decode cX8_mover 45 = .ok (.getfield 231, 3) := by decide +kernel
theorem dX8_mover_48 : decode cX8_mover 48 = .ok (.ireturn, 1) := by decide +kernel
theorem dX8_mover_49 : decode cX8_mover 49 = .ok (.iload_n 1, 1) := by decide +kernel
theorem dX8_mover_50 : decode cX8_mover 50 = .ok (.aload_n 0, 1) := by decide +kernel
theorem dX8_mover_51 : decode cX8_mover 51 = .ok (.getfield 72, 3) := by decide +kernel
theorem dX8_mover_54 : decode cX8_mover 54 = .ok (.getfield 231, 3) := by decide +kernel
theorem dX8_mover_57 : decode cX8_mover 57 = .ok (.if_icmp .lt 6, 3) := by decide +kernel
theorem dX8_mover_60 : decode cX8_mover 60 = .ok (.bipush (-9), 2) := by decide +kernel
theorem dX8_mover_62 : decode cX8_mover 62 = .ok (.ireturn, 1) := by decide +kernel
theorem dX8_mover_63 : decode cX8_mover 63 = .ok (.iload_n 2, 1) := by decide +kernel
theorem dX8_mover_64 : decode cX8_mover 64 = .ok (.lookupswitch 48 #[(0, 28), (1, 38)], 28) := by decide +kernel
theorem dX8_mover_92 : decode cX8_mover 92 = .ok (.aload_n 0, 1) := by decide +kernel
theorem dX8_mover_93 : decode cX8_mover 93 = .ok (.getfield 72, 3) := by decide +kernel
theorem dX8_mover_96 : decode cX8_mover 96 = .ok (.getfield 232, 3) := by decide +kernel
theorem dX8_mover_99 : decode cX8_mover 99 = .ok (.iload_n 1, 1) := by decide +kernel
theorem dX8_mover_100 : decode cX8_mover 100 = .ok (.iaload, 1) := by decide +kernel
theorem dX8_mover_101 : decode cX8_mover 101 = .ok (.ireturn, 1) := by decide +kernel
theorem dX8_mover_102 : decode cX8_mover 102 = .ok (.aload_n 0, 1) := by decide +kernel
theorem dX8_mover_103 : decode cX8_mover 103 = .ok (.getfield 72, 3) := by decide +kernel
theorem dX8_mover_106 : decode cX8_mover 106 = .ok (.getfield 235, 3) := by decide +kernel
theorem dX8_mover_109 : decode cX8_mover 109 = .ok (.iload_n 1, 1) := by decide +kernel
theorem dX8_mover_110 : decode cX8_mover 110 = .ok (.iaload, 1) := by decide +kernel
theorem dX8_mover_111 : decode cX8_mover 111 = .ok (.ireturn, 1) := by decide +kernel
theorem dX8_mover_112 : decode cX8_mover 112 = .ok (.aload_n 0, 1) := by decide +kernel
theorem dX8_mover_113 : decode cX8_mover 113 = .ok (.getfield 72, 3) := by decide +kernel
theorem dX8_mover_116 : decode cX8_mover 116 = .ok (.getfield 238, 3) := by decide +kernel
theorem dX8_mover_119 : decode cX8_mover 119 = .ok (.iload_n 1, 1) := by decide +kernel
theorem dX8_mover_120 : decode cX8_mover 120 = .ok (.iaload, 1) := by decide +kernel
theorem dX8_mover_121 : decode cX8_mover 121 = .ok (.ireturn, 1) := by decide +kernel
theorem dX8_blinks_0 : decode cX8_blinks 0 = .ok (.aload_n 0, 1) := by decide +kernel
theorem dX8_blinks_1 : decode cX8_blinks 1 = .ok (.iconst 0, 1) := by decide +kernel
theorem dX8_blinks_2 : decode cX8_blinks 2 = .ok (.invokevirtual 169, 3) := by decide +kernel
theorem dX8_blinks_5 : decode cX8_blinks 5 = .ok (.aload_n 0, 1) := by decide +kernel
theorem dX8_blinks_6 : decode cX8_blinks 6 = .ok (.iconst 1, 1) := by decide +kernel
theorem dX8_blinks_7 : decode cX8_blinks 7 = .ok (.invokevirtual 169, 3) := by decide +kernel
theorem dX8_blinks_10 : decode cX8_blinks 10 = .ok (.iconst 0, 1) := by decide +kernel
theorem dX8_blinks_11 : decode cX8_blinks 11 = .ok (.istore_n 1, 1) := by decide +kernel
theorem dX8_blinks_12 : decode cX8_blinks 12 = .ok (.iconst 0, 1) := by decide +kernel
theorem dX8_blinks_13 : decode cX8_blinks 13 = .ok (.istore_n 2, 1) := by decide +kernel
theorem dX8_blinks_14 : decode cX8_blinks 14 = .ok (.iload_n 2, 1) := by decide +kernel
theorem dX8_blinks_15 : decode cX8_blinks 15 = .ok (.aload_n 0, 1) := by decide +kernel
theorem dX8_blinks_16 : decode cX8_blinks 16 = .ok (.getfield 14, 3) := by decide +kernel
theorem dX8_blinks_19 : decode cX8_blinks 19 = .ok (.getfield 215, 3) := by decide +kernel
theorem dX8_blinks_22 : decode cX8_blinks 22 = .ok (.if_icmp .ge 23, 3) := by decide +kernel
theorem dX8_blinks_25 : decode cX8_blinks 25 = .ok (.aload_n 0, 1) := by decide +kernel
theorem dX8_blinks_26 : decode cX8_blinks 26 = .ok (.iload_n 2, 1) := by decide +kernel
theorem dX8_blinks_27 : decode cX8_blinks 27 = .ok (.invokevirtual 241, 3) := by decide +kernel
theorem dX8_blinks_30 : decode cX8_blinks 30 = .ok (.ifCond .eq 9, 3) := by decide +kernel
theorem dX8_blinks_33 : decode cX8_blinks 33 = .ok (.iload_n 1, 1) := by decide +kernel
theorem dX8_blinks_34 : decode cX8_blinks 34 = .ok (.iconst 1, 1) := by decide +kernel
theorem dX8_blinks_35 : decode cX8_blinks 35 = .ok (.iload_n 2, 1) := by decide +kernel
theorem dX8_blinks_36 : decode cX8_blinks 36 = .ok (.ishl, 1) := by decide +kernel
theorem dX8_blinks_37 : decode cX8_blinks 37 = .ok (.ior, 1) := by decide +kernel
theorem dX8_blinks_38 : decode cX8_blinks 38 = .ok (.istore_n 1, 1) := by decide +kernel
theorem dX8_blinks_39 : decode cX8_blinks 39 = .ok (.iinc 2 1, 3) := by decide +kernel
theorem dX8_blinks_42 : decode cX8_blinks 42 = .ok (.goto (-28), 3) := by decide +kernel
theorem dX8_blinks_45 : decode cX8_blinks 45 = .ok (.iload_n 1, 1) := by decide +kernel
theorem dX8_blinks_46 : decode cX8_blinks 46 = .ok (.ireturn, 1) := by decide +kernel
theorem dX8_keep_0 : decode cX8_keep 0 = .ok (.iload_n 1, 1) := by decide +kernel
theorem dX8_keep_1 : decode cX8_keep 1 = .ok (.invokestatic 88, 3) := by decide +kernel
theorem dX8_keep_4 : decode cX8_keep 4 = .ok (.ifCond .eq 12, 3) := by decide +kernel
theorem dX8_keep_7 : decode cX8_keep 7 = .ok (.iload_n 2, 1) := by decide +kernel
theorem dX8_keep_8 : decode cX8_keep 8 = .ok (.iconst 0, 1) := by decide +kernel
theorem dX8_keep_9 : decode cX8_keep 9 = .ok (.iconst 1, 1) := by decide +kernel
theorem dX8_keep_10 : decode cX8_keep 10 = .ok (.invokestatic 76, 3) := by decide +kernel
theorem dX8_keep_13 : decode cX8_keep 13 = .ok (.ifCond .ne 5, 3) := by decide +kernel
theorem dX8_keep_16 : decode cX8_keep 16 = .ok (.iconst (-1), 1) := by decide +kernel
theorem dX8_keep_17 : decode cX8_keep 17 = .ok (.ireturn, 1) := by decide +kernel
theorem dX8_keep_18 : decode cX8_keep 18 = .ok (.aload_n 0, 1) := by decide +kernel
theorem dX8_keep_19 : decode cX8_keep 19 = .ok (.getfield 22, 3) := by decide +kernel
theorem dX8_keep_22 : decode cX8_keep 22 = .ok (.iload_n 2, 1) := by decide +kernel
theorem dX8_keep_23 : decode cX8_keep 23 = .ok (.aaload, 1) := by decide +kernel
theorem dX8_keep_24 : decode cX8_keep 24 = .ok (.aload_n 0, 1) := by decide +kernel
theorem dX8_keep_25 : decode cX8_keep 25 = .ok (.getfield 18, 3) := by decide +kernel
theorem dX8_keep_28 : decode cX8_keep 28 = .ok (.iload_n 1, 1) := by decide +kernel
theorem dX8_keep_29 : decode cX8_keep 29 = .ok (.aaload, 1) := by decide +kernel
theorem dX8_keep_30 : decode cX8_keep 30 = .ok (.invokevirtual 244, 3) := by decide +kernel
theorem dX8_keep_33 : decode cX8_keep 33 = .ok (.aload_n 0, 1) := by decide +kernel
theorem dX8_keep_34 : decode cX8_keep 34 = .ok (.getfield 25, 3) := by decide +kernel
theorem dX8_keep_37 : decode cX8_keep 37 = .ok (.iload_n 2, 1) := by decide +kernel
theorem dX8_keep_38 : decode cX8_keep 38 = .ok (.iconst 1, 1) := by decide +kernel
theorem dX8_keep_39 : decode cX8_keep 39 = .ok (.bastore, 1) := by decide +kernel
theorem dX8_keep_40 : decode cX8_keep 40 = .ok (.aload_n 0, 1) := by decide +kernel
theorem dX8_keep_41 : decode cX8_keep 41 = .ok (.getfield 22, 3) := by decide +kernel
theorem dX8_keep_44 : decode cX8_keep 44 = .ok (.iload_n 2, 1) := by decide +kernel
theorem dX8_keep_45 : decode cX8_keep 45 = .ok (.aaload, 1) := by decide +kernel
theorem dX8_keep_46 : decode cX8_keep 46 = .ok (.getfield 215, 3) := by decide +kernel
theorem dX8_keep_49 : decode cX8_keep 49 = .ok (.ireturn, 1) := by decide +kernel
theorem dX8_restore_0 : decode cX8_restore 0 = .ok (.iload_n 1, 1) := by decide +kernel
theorem dX8_restore_1 : decode cX8_restore 1 = .ok (.invokestatic 88, 3) := by decide +kernel
theorem dX8_restore_4 : decode cX8_restore 4 = .ok (.ifCond .eq 12, 3) := by decide +kernel
theorem dX8_restore_7 : decode cX8_restore 7 = .ok (.iload_n 2, 1) := by decide +kernel
theorem dX8_restore_8 : decode cX8_restore 8 = .ok (.iconst 0, 1) := by decide +kernel
theorem dX8_restore_9 : decode cX8_restore 9 = .ok (.iconst 1, 1) := by decide +kernel
theorem dX8_restore_10 : decode cX8_restore 10 = .ok (.invokestatic 76, 3) := by decide +kernel
theorem dX8_restore_13 : decode cX8_restore 13 = .ok (.ifCond .ne 5, 3) := by decide +kernel
theorem dX8_restore_16 : decode cX8_restore 16 = .ok (.iconst (-1), 1) := by decide +kernel
theorem dX8_restore_17 : decode cX8_restore 17 = .ok (.ireturn, 1) := by decide +kernel
theorem dX8_restore_18 : decode cX8_restore 18 = .ok (.aload_n 0, 1) := by decide +kernel
theorem dX8_restore_19 : decode cX8_restore 19 = .ok (.getfield 25, 3) := by decide +kernel
theorem dX8_restore_22 : decode cX8_restore 22 = .ok (.iload_n 2, 1) := by decide +kernel
theorem dX8_restore_23 : decode cX8_restore 23 = .ok (.baload, 1) := by decide +kernel
theorem dX8_restore_24 : decode cX8_restore 24 = .ok (.ifCond .ne 6, 3) := by decide +kernel
theorem dX8_restore_27 : decode cX8_restore 27 = .ok (.bipush (-3), 2) := by decide +kernel
theorem dX8_restore_29 : decode cX8_restore 29 = .ok (.ireturn, 1) := by decide +kernel
theorem dX8_restore_30 : decode cX8_restore 30 = .ok (.aload_n 0, 1) := by decide +kernel
theorem dX8_restore_31 : decode cX8_restore 31 = .ok (.getfield 18, 3) := by decide +kernel
theorem dX8_restore_34 : decode cX8_restore 34 = .ok (.iload_n 1, 1) := by decide +kernel
theorem dX8_restore_35 : decode cX8_restore 35 = .ok (.aaload, 1) := by decide +kernel
theorem dX8_restore_36 : decode cX8_restore 36 = .ok (.aload_n 0, 1) := by decide +kernel
theorem dX8_restore_37 : decode cX8_restore 37 = .ok (.getfield 22, 3) := by decide +kernel
theorem dX8_restore_40 : decode cX8_restore 40 = .ok (.iload_n 2, 1) := by decide +kernel
theorem dX8_restore_41 : decode cX8_restore 41 = .ok (.aaload, 1) := by decide +kernel
theorem dX8_restore_42 : decode cX8_restore 42 = .ok (.invokevirtual 244, 3) := by decide +kernel
theorem dX8_restore_45 : decode cX8_restore 45 = .ok (.aload_n 0, 1) := by decide +kernel
theorem dX8_restore_46 : decode cX8_restore 46 = .ok (.getfield 18, 3) := by decide +kernel
theorem dX8_restore_49 : decode cX8_restore 49 = .ok (.iload_n 1, 1) := by decide +kernel
theorem dX8_restore_50 : decode cX8_restore 50 = .ok (.aaload, 1) := by decide +kernel
theorem dX8_restore_51 : decode cX8_restore 51 = .ok (.getfield 215, 3) := by decide +kernel
theorem dX8_restore_54 : decode cX8_restore 54 = .ok (.ireturn, 1) := by decide +kernel
theorem dX8_tray_0 : decode cX8_tray 0 = .ok (.iload_n 1, 1) := by decide +kernel
theorem dX8_tray_1 : decode cX8_tray 1 = .ok (.iconst 0, 1) := by decide +kernel
theorem dX8_tray_2 : decode cX8_tray 2 = .ok (.iconst 2, 1) := by decide +kernel
theorem dX8_tray_3 : decode cX8_tray 3 = .ok (.invokestatic 76, 3) := by decide +kernel
theorem dX8_tray_6 : decode cX8_tray 6 = .ok (.ifCond .ne 5, 3) := by decide +kernel
theorem dX8_tray_9 : decode cX8_tray 9 = .ok (.iconst (-1), 1) := by decide +kernel
theorem dX8_tray_10 : decode cX8_tray 10 = .ok (.ireturn, 1) := by decide +kernel
theorem dX8_tray_11 : decode cX8_tray 11 = .ok (.iload_n 2, 1) := by decide +kernel
theorem dX8_tray_12 : decode cX8_tray 12 = .ok (.iconst 0, 1) := by decide +kernel
theorem dX8_tray_13 : decode cX8_tray 13 = .ok (.iconst 2, 1) := by decide +kernel
theorem dX8_tray_14 : decode cX8_tray 14 = .ok (.invokestatic 76, 3) := by decide +kernel
theorem dX8_tray_17 : decode cX8_tray 17 = .ok (.ifCond .eq 9, 3) := by decide +kernel
theorem dX8_tray_20 : decode cX8_tray 20 = .ok (.iload_n 3, 1) := by decide +kernel
theorem dX8_tray_21 : decode cX8_tray 21 = .ok (.bipush 8, 2) := by decide +kernel
theorem dX8_tray_23 : decode cX8_tray 23 = .ok (.if_icmp .le 6, 3) := by decide +kernel
theorem dX8_tray_26 : decode cX8_tray 26 = .ok (.bipush (-2), 2) := by decide +kernel
theorem dX8_tray_28 : decode cX8_tray 28 = .ok (.ireturn, 1) := by decide +kernel
theorem dX8_tray_29 : decode cX8_tray 29 = .ok (.iload_n 3, 1) := by decide +kernel
theorem dX8_tray_30 : decode cX8_tray 30 = .ok (.ifCond .ge 6, 3) := by decide +kernel
theorem dX8_tray_33 : decode cX8_tray 33 = .ok (.bipush (-14), 2) := by decide +kernel
theorem dX8_tray_35 : decode cX8_tray 35 = .ok (.ireturn, 1) := by decide +kernel
theorem dX8_tray_36 : decode cX8_tray 36 = .ok (.aload_n 0, 1) := by decide +kernel
theorem dX8_tray_37 : decode cX8_tray 37 = .ok (.getfield 32, 3) := by decide +kernel
theorem dX8_tray_40 : decode cX8_tray 40 = .ok (.iload_n 1, 1) := by decide +kernel
theorem dX8_tray_41 : decode cX8_tray 41 = .ok (.aaload, 1) := by decide +kernel
theorem dX8_tray_42 : decode cX8_tray 42 = .ok (.iload_n 2, 1) := by decide +kernel
theorem dX8_tray_43 : decode cX8_tray 43 = .ok (.iload_n 3, 1) := by decide +kernel
theorem dX8_tray_44 : decode cX8_tray 44 = .ok (.invokevirtual 248, 3) := by decide +kernel
theorem dX8_tray_47 : decode cX8_tray 47 = .ok (.iload_n 3, 1) := by decide +kernel
theorem dX8_tray_48 : decode cX8_tray 48 = .ok (.ireturn, 1) := by decide +kernel
theorem dX8_lay_0 : decode cX8_lay 0 = .ok (.iload_n 1, 1) := by decide +kernel
theorem dX8_lay_1 : decode cX8_lay 1 = .ok (.iconst 0, 1) := by decide +kernel
theorem dX8_lay_2 : decode cX8_lay 2 = .ok (.iconst 2, 1) := by decide +kernel
theorem dX8_lay_3 : decode cX8_lay 3 = .ok (.invokestatic 76, 3) := by decide +kernel
theorem dX8_lay_6 : decode cX8_lay 6 = .ok (.ifCond .ne 5, 3) := by decide +kernel
theorem dX8_lay_9 : decode cX8_lay 9 = .ok (.iconst (-1), 1) := by decide +kernel
theorem dX8_lay_10 : decode cX8_lay 10 = .ok (.ireturn, 1) := by decide +kernel
theorem dX8_lay_11 : decode cX8_lay 11 = .ok (.iload_n 3, 1) := by decide +kernel
theorem dX8_lay_12 : decode cX8_lay 12 = .ok (.iconst 0, 1) := by decide +kernel
theorem dX8_lay_13 : decode cX8_lay 13 = .ok (.iconst 2, 1) := by decide +kernel
theorem dX8_lay_14 : decode cX8_lay 14 = .ok (.invokestatic 76, 3) := by decide +kernel
theorem dX8_lay_17 : decode cX8_lay 17 = .ok (.ifCond .ne 6, 3) := by decide +kernel
theorem dX8_lay_20 : decode cX8_lay 20 = .ok (.bipush (-2), 2) := by decide +kernel
theorem dX8_lay_22 : decode cX8_lay 22 = .ok (.ireturn, 1) := by decide +kernel
theorem dX8_lay_23 : decode cX8_lay 23 = .ok (.iload_n 3, 1) := by decide +kernel
theorem dX8_lay_24 : decode cX8_lay 24 = .ok (.ifCond .ne 10, 3) := by decide +kernel
theorem dX8_lay_27 : decode cX8_lay 27 = .ok (.aload_n 0, 1) := by decide +kernel
theorem dX8_lay_28 : decode cX8_lay 28 = .ok (.getfield 14, 3) := by decide +kernel
theorem dX8_lay_31 : decode cX8_lay 31 = .ok (.goto 11, 3) := by decide +kernel
theorem dX8_lay_34 : decode cX8_lay 34 = .ok (.aload_n 0, 1) := by decide +kernel
theorem dX8_lay_35 : decode cX8_lay 35 = .ok (.getfield 18, 3) := by decide +kernel
theorem dX8_lay_38 : decode cX8_lay 38 = .ok (.iload_n 3, 1) := by decide +kernel
theorem dX8_lay_39 : decode cX8_lay 39 = .ok (.iconst 1, 1) := by decide +kernel
theorem dX8_lay_40 : decode cX8_lay 40 = .ok (.isub, 1) := by decide +kernel
theorem dX8_lay_41 : decode cX8_lay 41 = .ok (.aaload, 1) := by decide +kernel
theorem dX8_lay_42 : decode cX8_lay 42 = .ok (.astore 5, 2) := by decide +kernel
theorem dX8_lay_44 : decode cX8_lay 44 = .ok (.aload 5, 2) := by decide +kernel
theorem dX8_lay_46 : decode cX8_lay 46 = .ok (.iload 4, 2) := by decide +kernel
theorem dX8_lay_48 : decode cX8_lay 48 = .ok (.invokevirtual 92, 3) := by decide +kernel
theorem dX8_lay_51 : decode cX8_lay 51 = .ok (.ifCond .ne 5, 3) := by decide +kernel
theorem dX8_lay_54 : decode cX8_lay 54 = .ok (.iconst (-1), 1) := by decide +kernel
theorem dX8_lay_55 : decode cX8_lay 55 = .ok (.ireturn, 1) := by decide +kernel
theorem dX8_lay_56 : decode cX8_lay 56 = .ok (.aload_n 0, 1) := by decide +kernel
theorem dX8_lay_57 : decode cX8_lay 57 = .ok (.getfield 32, 3) := by decide +kernel
theorem dX8_lay_60 : decode cX8_lay 60 = .ok (.iload_n 1, 1) := by decide +kernel
theorem dX8_lay_61 : decode cX8_lay 61 = .ok (.aaload, 1) := by decide +kernel
theorem dX8_lay_62 : decode cX8_lay 62 = .ok (.iload_n 2, 1) := by decide +kernel
theorem dX8_lay_63 : decode cX8_lay 63 = .ok (.invokevirtual 252, 3) := by decide +kernel
theorem dX8_lay_66 : decode cX8_lay 66 = .ok (.istore 6, 2) := by decide +kernel
theorem dX8_lay_68 : decode cX8_lay 68 = .ok (.iload 6, 2) := by decide +kernel
theorem dX8_lay_70 : decode cX8_lay 70 = .ok (.ifCond .eq 6, 3) := by decide +kernel
theorem dX8_lay_73 : decode cX8_lay 73 = .ok (.iload 6, 2) := by decide +kernel
theorem dX8_lay_75 : decode cX8_lay 75 = .ok (.ireturn, 1) := by decide +kernel
theorem dX8_lay_76 : decode cX8_lay 76 = .ok (.aload_n 0, 1) := by decide +kernel
theorem dX8_lay_77 : decode cX8_lay 77 = .ok (.getfield 32, 3) := by decide +kernel
theorem dX8_lay_80 : decode cX8_lay 80 = .ok (.iload_n 1, 1) := by decide +kernel
theorem dX8_lay_81 : decode cX8_lay 81 = .ok (.aaload, 1) := by decide +kernel
theorem dX8_lay_82 : decode cX8_lay 82 = .ok (.iload_n 3, 1) := by decide +kernel
theorem dX8_lay_83 : decode cX8_lay 83 = .ok (.invokevirtual 256, 3) := by decide +kernel
theorem dX8_lay_86 : decode cX8_lay 86 = .ok (.ifCond .ne 6, 3) := by decide +kernel
theorem dX8_lay_89 : decode cX8_lay 89 = .ok (.bipush (-15), 2) := by decide +kernel
theorem dX8_lay_91 : decode cX8_lay 91 = .ok (.ireturn, 1) := by decide +kernel
theorem dX8_lay_92 : decode cX8_lay 92 = .ok (.aload_n 0, 1) := by decide +kernel
theorem dX8_lay_93 : decode cX8_lay 93 = .ok (.getfield 32, 3) := by decide +kernel
theorem dX8_lay_96 : decode cX8_lay 96 = .ok (.iload_n 1, 1) := by decide +kernel
theorem dX8_lay_97 : decode cX8_lay 97 = .ok (.aaload, 1) := by decide +kernel
theorem dX8_lay_98 : decode cX8_lay 98 = .ok (.getfield 259, 3) := by decide +kernel
theorem dX8_lay_101 : decode cX8_lay 101 = .ok (.iload_n 2, 1) := by decide +kernel
theorem dX8_lay_102 : decode cX8_lay 102 = .ok (.bipush 10, 2) := by decide +kernel
theorem dX8_lay_104 : decode cX8_lay 104 = .ok (.iload_n 3, 1) := by decide +kernel
theorem dX8_lay_105 : decode cX8_lay 105 = .ok (.imul, 1) := by decide +kernel
theorem dX8_lay_106 : decode cX8_lay 106 = .ok (.iload 4, 2) := by decide +kernel
theorem dX8_lay_108 : decode cX8_lay 108 = .ok (.iadd, 1) := by decide +kernel
theorem dX8_lay_109 : decode cX8_lay 109 = .ok (.iastore, 1) := by decide +kernel
theorem dX8_lay_110 : decode cX8_lay 110 = .ok (.iconst 1, 1) := by decide +kernel
theorem dX8_lay_111 : decode cX8_lay 111 = .ok (.ireturn, 1) := by decide +kernel
theorem dX8_seen_0 : decode cX8_seen 0 = .ok (.iload_n 1, 1) := by decide +kernel
theorem dX8_seen_1 : decode cX8_seen 1 = .ok (.iconst 0, 1) := by decide +kernel
theorem dX8_seen_2 : decode cX8_seen 2 = .ok (.iconst 2, 1) := by decide +kernel
theorem dX8_seen_3 : decode cX8_seen 3 = .ok (.invokestatic 76, 3) := by decide +kernel
theorem dX8_seen_6 : decode cX8_seen 6 = .ok (.ifCond .ne 5, 3) := by decide +kernel
theorem dX8_seen_9 : decode cX8_seen 9 = .ok (.iconst (-1), 1) := by decide +kernel
theorem dX8_seen_10 : decode cX8_seen 10 = .ok (.ireturn, 1) := by decide +kernel
theorem dX8_seen_11 : decode cX8_seen 11 = .ok (.aload_n 0, 1) := by decide +kernel
theorem dX8_seen_12 : decode cX8_seen 12 = .ok (.getfield 32, 3) := by decide +kernel
theorem dX8_seen_15 : decode cX8_seen 15 = .ok (.iload_n 1, 1) := by decide +kernel
theorem dX8_seen_16 : decode cX8_seen 16 = .ok (.aaload, 1) := by decide +kernel
theorem dX8_seen_17 : decode cX8_seen 17 = .ok (.iload_n 2, 1) := by decide +kernel
theorem dX8_seen_18 : decode cX8_seen 18 = .ok (.invokevirtual 252, 3) := by decide +kernel
theorem dX8_seen_21 : decode cX8_seen 21 = .ok (.istore_n 3, 1) := by decide +kernel
theorem dX8_seen_22 : decode cX8_seen 22 = .ok (.iload_n 3, 1) := by decide +kernel
theorem dX8_seen_23 : decode cX8_seen 23 = .ok (.ifCond .eq 7, 3) := by decide +kernel
theorem dX8_seen_26 : decode cX8_seen 26 = .ok (.iload_n 3, 1) := by decide +kernel
theorem dX8_seen_27 : decode cX8_seen 27 = .ok (.goto 14, 3) := by decide +kernel
theorem dX8_seen_30 : decode cX8_seen 30 = .ok (.aload_n 0, 1) := by decide +kernel
theorem dX8_seen_31 : decode cX8_seen 31 = .ok (.getfield 32, 3) := by decide +kernel
theorem dX8_seen_34 : decode cX8_seen 34 = .ok (.iload_n 1, 1) := by decide +kernel
theorem dX8_seen_35 : decode cX8_seen 35 = .ok (.aaload, 1) := by decide +kernel
theorem dX8_seen_36 : decode cX8_seen 36 = .ok (.getfield 259, 3) := by decide +kernel
theorem dX8_seen_39 : decode cX8_seen 39 = .ok (.iload_n 2, 1) := by decide +kernel
theorem dX8_seen_40 : decode cX8_seen 40 = .ok (.iaload, 1) := by decide +kernel
theorem dX8_seen_41 : decode cX8_seen 41 = .ok (.ireturn, 1) := by decide +kernel
theorem dX8_many_0 : decode cX8_many 0 = .ok (.iload_n 1, 1) := by decide +kernel
theorem dX8_many_1 : decode cX8_many 1 = .ok (.tableswitch 119 0 8 #[51, 59, 59, 71, 71, 90, 90, 109, 114], 51) := by decide +kernel
theorem dX8_many_52 : decode cX8_many 52 = .ok (.aload_n 0, 1) := by decide +kernel
theorem dX8_many_53 : decode cX8_many 53 = .ok (.getfield 14, 3) := by decide +kernel
theorem dX8_many_56 : decode cX8_many 56 = .ok (.getfield 215, 3) := by decide +kernel
theorem dX8_many_59 : decode cX8_many 59 = .ok (.ireturn, 1) := by decide +kernel
theorem dX8_many_60 : decode cX8_many 60 = .ok (.aload_n 0, 1) := by decide +kernel
theorem dX8_many_61 : decode cX8_many 61 = .ok (.getfield 18, 3) := by decide +kernel
theorem dX8_many_64 : decode cX8_many 64 = .ok (.iload_n 1, 1) := by decide +kernel
theorem dX8_many_65 : decode cX8_many 65 = .ok (.iconst 1, 1) := by decide +kernel
theorem dX8_many_66 : decode cX8_many 66 = .ok (.isub, 1) := by decide +kernel
theorem dX8_many_67 : decode cX8_many 67 = .ok (.aaload, 1) := by decide +kernel
theorem dX8_many_68 : decode cX8_many 68 = .ok (.getfield 215, 3) := by decide +kernel
theorem dX8_many_71 : decode cX8_many 71 = .ok (.ireturn, 1) := by decide +kernel
theorem dX8_many_72 : decode cX8_many 72 = .ok (.aload_n 0, 1) := by decide +kernel
theorem dX8_many_73 : decode cX8_many 73 = .ok (.iload_n 1, 1) := by decide +kernel
theorem dX8_many_74 : decode cX8_many 74 = .ok (.iconst 3, 1) := by decide +kernel
theorem dX8_many_75 : decode cX8_many 75 = .ok (.isub, 1) := by decide +kernel
theorem dX8_many_76 : decode cX8_many 76 = .ok (.invokevirtual 173, 3) := by decide +kernel
theorem dX8_many_79 : decode cX8_many 79 = .ok (.aload_n 0, 1) := by decide +kernel
theorem dX8_many_80 : decode cX8_many 80 = .ok (.getfield 58, 3) := by decide +kernel
theorem dX8_many_83 : decode cX8_many 83 = .ok (.iload_n 1, 1) := by decide +kernel
theorem dX8_many_84 : decode cX8_many 84 = .ok (.iconst 3, 1) := by decide +kernel
theorem dX8_many_85 : decode cX8_many 85 = .ok (.isub, 1) := by decide +kernel
theorem dX8_many_86 : decode cX8_many 86 = .ok (.aaload, 1) := by decide +kernel
theorem dX8_many_87 : decode cX8_many 87 = .ok (.getfield 262, 3) := by decide +kernel
theorem dX8_many_90 : decode cX8_many 90 = .ok (.ireturn, 1) := by decide +kernel
theorem dX8_many_91 : decode cX8_many 91 = .ok (.aload_n 0, 1) := by decide +kernel
theorem dX8_many_92 : decode cX8_many 92 = .ok (.iload_n 1, 1) := by decide +kernel
theorem dX8_many_93 : decode cX8_many 93 = .ok (.iconst 5, 1) := by decide +kernel
theorem dX8_many_94 : decode cX8_many 94 = .ok (.isub, 1) := by decide +kernel
theorem dX8_many_95 : decode cX8_many 95 = .ok (.invokevirtual 169, 3) := by decide +kernel
theorem dX8_many_98 : decode cX8_many 98 = .ok (.aload_n 0, 1) := by decide +kernel
theorem dX8_many_99 : decode cX8_many 99 = .ok (.getfield 58, 3) := by decide +kernel
theorem dX8_many_102 : decode cX8_many 102 = .ok (.iload_n 1, 1) := by decide +kernel
theorem dX8_many_103 : decode cX8_many 103 = .ok (.iconst 5, 1) := by decide +kernel
theorem dX8_many_104 : decode cX8_many 104 = .ok (.isub, 1) := by decide +kernel
theorem dX8_many_105 : decode cX8_many 105 = .ok (.aaload, 1) := by decide +kernel
theorem dX8_many_106 : decode cX8_many 106 = .ok (.getfield 262, 3) := by decide +kernel
theorem dX8_many_109 : decode cX8_many 109 = .ok (.ireturn, 1) := by decide +kernel
theorem dX8_many_110 : decode cX8_many 110 = .ok (.aload_n 0, 1) := by decide +kernel
theorem dX8_many_111 : decode cX8_many 111 = .ok (.invokevirtual 263, 3) := by decide +kernel
theorem dX8_many_114 : decode cX8_many 114 = .ok (.ireturn, 1) := by decide +kernel
theorem dX8_many_115 : decode cX8_many 115 = .ok (.aload_n 0, 1) := by decide +kernel
theorem dX8_many_116 : decode cX8_many 116 = .ok (.invokevirtual 266, 3) := by decide +kernel
theorem dX8_many_119 : decode cX8_many 119 = .ok (.ireturn, 1) := by decide +kernel
theorem dX8_many_120 : decode cX8_many 120 = .ok (.bipush (-2), 2) := by decide +kernel
theorem dX8_many_122 : decode cX8_many 122 = .ok (.ireturn, 1) := by decide +kernel
theorem dX8_isWithin_0 : decode cX8_isWithin 0 = .ok (.iload_n 0, 1) := by decide +kernel
theorem dX8_isWithin_1 : decode cX8_isWithin 1 = .ok (.iload_n 1, 1) := by decide +kernel
theorem dX8_isWithin_2 : decode cX8_isWithin 2 = .ok (.if_icmp .lt 12, 3) := by decide +kernel
theorem dX8_isWithin_5 : decode cX8_isWithin 5 = .ok (.iload_n 0, 1) := by decide +kernel
theorem dX8_isWithin_6 : decode cX8_isWithin 6 = .ok (.iload_n 2, 1) := by decide +kernel
theorem dX8_isWithin_7 : decode cX8_isWithin 7 = .ok (.if_icmp .gt 7, 3) := by decide +kernel
theorem dX8_isWithin_10 : decode cX8_isWithin 10 = .ok (.iconst 1, 1) := by decide +kernel
theorem dX8_isWithin_11 : decode cX8_isWithin 11 = .ok (.goto 4, 3) := by decide +kernel
theorem dX8_isWithin_14 : decode cX8_isWithin 14 = .ok (.iconst 0, 1) := by decide +kernel
theorem dX8_isWithin_15 : decode cX8_isWithin 15 = .ok (.ireturn, 1) := by decide +kernel
theorem dX8_isPlate_0 : decode cX8_isPlate 0 = .ok (.iload_n 0, 1) := by decide +kernel
theorem dX8_isPlate_1 : decode cX8_isPlate 1 = .ok (.ifCond .lt 12, 3) := by decide +kernel
theorem dX8_isPlate_4 : decode cX8_isPlate 4 = .ok (.iload_n 0, 1) := by decide +kernel
theorem dX8_isPlate_5 : decode cX8_isPlate 5 = .ok (.iconst 2, 1) := by decide +kernel
theorem dX8_isPlate_6 : decode cX8_isPlate 6 = .ok (.if_icmp .ge 7, 3) := by decide +kernel
theorem dX8_isPlate_9 : decode cX8_isPlate 9 = .ok (.iconst 1, 1) := by decide +kernel
theorem dX8_isPlate_10 : decode cX8_isPlate 10 = .ok (.goto 4, 3) := by decide +kernel
theorem dX8_isPlate_13 : decode cX8_isPlate 13 = .ok (.iconst 0, 1) := by decide +kernel
theorem dX8_isPlate_14 : decode cX8_isPlate 14 = .ok (.ireturn, 1) := by decide +kernel
theorem dX8_isSpot_0 : decode cX8_isSpot 0 = .ok (.iload_n 1, 1) := by decide +kernel
theorem dX8_isSpot_1 : decode cX8_isSpot 1 = .ok (.invokestatic 88, 3) := by decide +kernel
theorem dX8_isSpot_4 : decode cX8_isSpot 4 = .ok (.ifCond .eq 20, 3) := by decide +kernel
theorem dX8_isSpot_7 : decode cX8_isSpot 7 = .ok (.aload_n 0, 1) := by decide +kernel
theorem dX8_isSpot_8 : decode cX8_isSpot 8 = .ok (.getfield 18, 3) := by decide +kernel
theorem dX8_isSpot_11 : decode cX8_isSpot 11 = .ok (.iload_n 1, 1) := by decide +kernel
theorem dX8_isSpot_12 : decode cX8_isSpot 12 = .ok (.aaload, 1) := by decide +kernel
theorem dX8_isSpot_13 : decode cX8_isSpot 13 = .ok (.iload_n 2, 1) := by decide +kernel
theorem dX8_isSpot_14 : decode cX8_isSpot 14 = .ok (.invokevirtual 92, 3) := by decide +kernel
theorem dX8_isSpot_17 : decode cX8_isSpot 17 = .ok (.ifCond .eq 7, 3) := by decide +kernel
theorem dX8_isSpot_20 : decode cX8_isSpot 20 = .ok (.iconst 1, 1) := by decide +kernel
theorem dX8_isSpot_21 : decode cX8_isSpot 21 = .ok (.goto 4, 3) := by decide +kernel
theorem dX8_isSpot_24 : decode cX8_isSpot 24 = .ok (.iconst 0, 1) := by decide +kernel
theorem dX8_isSpot_25 : decode cX8_isSpot 25 = .ok (.ireturn, 1) := by decide +kernel
theorem dX8_cutWord_0 : decode cX8_cutWord 0 = .ok (.iload_n 0, 1) := by decide +kernel
theorem dX8_cutWord_1 : decode cX8_cutWord 1 = .ok (.bipush 23, 2) := by decide +kernel
theorem dX8_cutWord_3 : decode cX8_cutWord 3 = .ok (.iushr, 1) := by decide +kernel
theorem dX8_cutWord_4 : decode cX8_cutWord 4 = .ok (.sipush 255, 3) := by decide +kernel
theorem dX8_cutWord_7 : decode cX8_cutWord 7 = .ok (.iand, 1) := by decide +kernel
theorem dX8_cutWord_8 : decode cX8_cutWord 8 = .ok (.istore_n 2, 1) := by decide +kernel
theorem dX8_cutWord_9 : decode cX8_cutWord 9 = .ok (.iload_n 0, 1) := by decide +kernel
theorem dX8_cutWord_10 : decode cX8_cutWord 10 = .ok (.ldc_w 269, 3) := by decide +kernel
theorem dX8_cutWord_13 : decode cX8_cutWord 13 = .ok (.iand, 1) := by decide +kernel
theorem dX8_cutWord_14 : decode cX8_cutWord 14 = .ok (.istore_n 3, 1) := by decide +kernel
theorem dX8_cutWord_15 : decode cX8_cutWord 15 = .ok (.iload_n 2, 1) := by decide +kernel
theorem dX8_cutWord_16 : decode cX8_cutWord 16 = .ok (.sipush 255, 3) := by decide +kernel
theorem dX8_cutWord_19 : decode cX8_cutWord 19 = .ok (.if_icmp .ne 9, 3) := by decide +kernel
theorem dX8_cutWord_22 : decode cX8_cutWord 22 = .ok (.iload_n 3, 1) := by decide +kernel
theorem dX8_cutWord_23 : decode cX8_cutWord 23 = .ok (.ifCond .eq 5, 3) := by decide +kernel
theorem dX8_cutWord_26 : decode cX8_cutWord 26 = .ok (.iconst 0, 1) := by decide +kernel
theorem dX8_cutWord_27 : decode cX8_cutWord 27 = .ok (.ireturn, 1) := by decide +kernel
theorem dX8_cutWord_28 : decode cX8_cutWord 28 = .ok (.iload_n 2, 1) := by decide +kernel
theorem dX8_cutWord_29 : decode cX8_cutWord 29 = .ok (.ifCond .ne 5, 3) := by decide +kernel
theorem dX8_cutWord_32 : decode cX8_cutWord 32 = .ok (.iconst 0, 1) := by decide +kernel
theorem dX8_cutWord_33 : decode cX8_cutWord 33 = .ok (.ireturn, 1) := by decide +kernel
theorem dX8_cutWord_34 : decode cX8_cutWord 34 = .ok (.iload_n 3, 1) := by decide +kernel
theorem dX8_cutWord_35 : decode cX8_cutWord 35 = .ok (.ldc_w 270, 3) := by decide +kernel
theorem dX8_cutWord_38 : decode cX8_cutWord 38 = .ok (.ior, 1) := by decide +kernel
theorem dX8_cutWord_39 : decode cX8_cutWord 39 = .ok (.istore 4, 2) := by decide +kernel
theorem dX8_cutWord_41 : decode cX8_cutWord 41 = .ok (.iload_n 2, 1) := by decide +kernel
theorem dX8_cutWord_42 : decode cX8_cutWord 42 = .ok (.bipush 127, 2) := by decide +kernel
theorem dX8_cutWord_44 : decode cX8_cutWord 44 = .ok (.isub, 1) := by decide +kernel
theorem dX8_cutWord_45 : decode cX8_cutWord 45 = .ok (.bipush 23, 2) := by decide +kernel
theorem dX8_cutWord_47 : decode cX8_cutWord 47 = .ok (.isub, 1) := by decide +kernel
theorem dX8_cutWord_48 : decode cX8_cutWord 48 = .ok (.iload_n 1, 1) := by decide +kernel
theorem dX8_cutWord_49 : decode cX8_cutWord 49 = .ok (.iadd, 1) := by decide +kernel
theorem dX8_cutWord_50 : decode cX8_cutWord 50 = .ok (.istore 5, 2) := by decide +kernel
theorem dX8_cutWord_52 : decode cX8_cutWord 52 = .ok (.iload 5, 2) := by decide +kernel
theorem dX8_cutWord_54 : decode cX8_cutWord 54 = .ok (.bipush 7, 2) := by decide +kernel
theorem dX8_cutWord_56 : decode cX8_cutWord 56 = .ok (.if_icmp .le 16, 3) := by decide +kernel
theorem dX8_cutWord_59 : decode cX8_cutWord 59 = .ok (.iload_n 0, 1) := by decide +kernel
theorem dX8_cutWord_60 : decode cX8_cutWord 60 = .ok (.ifCond .ge 8, 3) := by decide +kernel
theorem dX8_cutWord_63 : decode cX8_cutWord 63 = .ok (.ldc 131, 2) := by decide +kernel
theorem dX8_cutWord_65 : decode cX8_cutWord 65 = .ok (.goto 6, 3) := by decide +kernel
theorem dX8_cutWord_68 : decode cX8_cutWord 68 = .ok (.ldc_w 271, 3) := by decide +kernel
theorem dX8_cutWord_71 : decode cX8_cutWord 71 = .ok (.ireturn, 1) := by decide +kernel
theorem dX8_cutWord_72 : decode cX8_cutWord 72 = .ok (.iload 5, 2) := by decide +kernel
theorem dX8_cutWord_74 : decode cX8_cutWord 74 = .ok (.bipush (-23), 2) := by decide +kernel
theorem dX8_cutWord_76 : decode cX8_cutWord 76 = .ok (.if_icmp .ge 5, 3) := by decide +kernel
theorem dX8_cutWord_79 : decode cX8_cutWord 79 = .ok (.iconst 0, 1) := by decide +kernel
theorem dX8_cutWord_80 : decode cX8_cutWord 80 = .ok (.ireturn, 1) := by decide +kernel
theorem dX8_cutWord_81 : decode cX8_cutWord 81 = .ok (.iload 5, 2) := by decide +kernel
theorem dX8_cutWord_83 : decode cX8_cutWord 83 = .ok (.ifCond .lt 11, 3) := by decide +kernel
theorem dX8_cutWord_86 : decode cX8_cutWord 86 = .ok (.iload 4, 2) := by decide +kernel
theorem dX8_cutWord_88 : decode cX8_cutWord 88 = .ok (.iload 5, 2) := by decide +kernel
theorem dX8_cutWord_90 : decode cX8_cutWord 90 = .ok (.ishl, 1) := by decide +kernel
theorem dX8_cutWord_91 : decode cX8_cutWord 91 = .ok (.goto 9, 3) := by decide +kernel
theorem dX8_cutWord_94 : decode cX8_cutWord 94 = .ok (.iload 4, 2) := by decide +kernel
theorem dX8_cutWord_96 : decode cX8_cutWord 96 = .ok (.iload 5, 2) := by decide +kernel
theorem dX8_cutWord_98 : decode cX8_cutWord 98 = .ok (.ineg, 1) := by decide +kernel
theorem dX8_cutWord_99 : decode cX8_cutWord 99 = .ok (.ishr, 1) := by decide +kernel
theorem dX8_cutWord_100 : decode cX8_cutWord 100 = .ok (.istore 6, 2) := by decide +kernel
theorem dX8_cutWord_102 : decode cX8_cutWord 102 = .ok (.iload_n 0, 1) := by decide +kernel
theorem dX8_cutWord_103 : decode cX8_cutWord 103 = .ok (.ifCond .ge 9, 3) := by decide +kernel
theorem dX8_cutWord_106 : decode cX8_cutWord 106 = .ok (.iload 6, 2) := by decide +kernel
theorem dX8_cutWord_108 : decode cX8_cutWord 108 = .ok (.ineg, 1) := by decide +kernel
theorem dX8_cutWord_109 : decode cX8_cutWord 109 = .ok (.goto 5, 3) := by decide +kernel
theorem dX8_cutWord_112 : decode cX8_cutWord 112 = .ok (.iload 6, 2) := by decide +kernel
theorem dX8_cutWord_114 : decode cX8_cutWord 114 = .ok (.ireturn, 1) := by decide +kernel
theorem dX8_highestBit_0 : decode cX8_highestBit 0 = .ok (.iconst 0, 1) := by decide +kernel
theorem dX8_highestBit_1 : decode cX8_highestBit 1 = .ok (.istore_n 2, 1) := by decide +kernel
theorem dX8_highestBit_2 : decode cX8_highestBit 2 = .ok (.iconst 1, 1) := by decide +kernel
theorem dX8_highestBit_3 : decode cX8_highestBit 3 = .ok (.istore_n 3, 1) := by decide +kernel
theorem dX8_highestBit_4 : decode cX8_highestBit 4 = .ok (.iload_n 3, 1) := by decide +kernel
theorem dX8_highestBit_5 : decode cX8_highestBit 5 = .ok (.bipush 32, 2) := by decide +kernel
theorem dX8_highestBit_7 : decode cX8_highestBit 7 = .ok (.if_icmp .ge 19, 3) := by decide +kernel
theorem dX8_highestBit_10 : decode cX8_highestBit 10 = .ok (.lload_n 0, 1) := by decide +kernel
theorem dX8_highestBit_11 : decode cX8_highestBit 11 = .ok (.iload_n 3, 1) := by decide +kernel
theorem dX8_highestBit_12 : decode cX8_highestBit 12 = .ok (.lshr, 1) := by decide +kernel
theorem dX8_highestBit_13 : decode cX8_highestBit 13 = .ok (.lconst 0, 1) := by decide +kernel
theorem dX8_highestBit_14 : decode cX8_highestBit 14 = .ok (.lcmp, 1) := by decide +kernel
theorem dX8_highestBit_15 : decode cX8_highestBit 15 = .ok (.ifCond .eq 5, 3) := by decide +kernel
theorem dX8_highestBit_18 : decode cX8_highestBit 18 = .ok (.iload_n 3, 1) := by decide +kernel
theorem dX8_highestBit_19 : decode cX8_highestBit 19 = .ok (.istore_n 2, 1) := by decide +kernel
theorem dX8_highestBit_20 : decode cX8_highestBit 20 = .ok (.iinc 3 1, 3) := by decide +kernel
theorem dX8_highestBit_23 : decode cX8_highestBit 23 = .ok (.goto (-19), 3) := by decide +kernel
theorem dX8_highestBit_26 : decode cX8_highestBit 26 = .ok (.iload_n 2, 1) := by decide +kernel
theorem dX8_highestBit_27 : decode cX8_highestBit 27 = .ok (.ireturn, 1) := by decide +kernel
theorem dX8_nearestUpper_0 : decode cX8_nearestUpper 0 = .ok (.lload_n 0, 1) := by decide +kernel
theorem dX8_nearestUpper_1 : decode cX8_nearestUpper 1 = .ok (.iload_n 2, 1) := by decide +kernel
theorem dX8_nearestUpper_2 : decode cX8_nearestUpper 2 = .ok (.lshr, 1) := by decide +kernel
theorem dX8_nearestUpper_3 : decode cX8_nearestUpper 3 = .ok (.lstore_n 3, 1) := by decide +kernel
theorem dX8_nearestUpper_4 : decode cX8_nearestUpper 4 = .ok (.lload_n 0, 1) := by decide +kernel
theorem dX8_nearestUpper_5 : decode cX8_nearestUpper 5 = .ok (.lload_n 3, 1) := by decide +kernel
theorem dX8_nearestUpper_6 : decode cX8_nearestUpper 6 = .ok (.iload_n 2, 1) := by decide +kernel
theorem dX8_nearestUpper_7 : decode cX8_nearestUpper 7 = .ok (.lshl, 1) := by decide +kernel
theorem dX8_nearestUpper_8 : decode cX8_nearestUpper 8 = .ok (.lsub, 1) := by decide +kernel
theorem dX8_nearestUpper_9 : decode cX8_nearestUpper 9 = .ok (.lstore 5, 2) := by decide +kernel
theorem dX8_nearestUpper_11 : decode cX8_nearestUpper 11 = .ok (.lconst 1, 1) := by decide +kernel
theorem dX8_nearestUpper_12 : decode cX8_nearestUpper 12 = .ok (.iload_n 2, 1) := by decide +kernel
theorem dX8_nearestUpper_13 : decode cX8_nearestUpper 13 = .ok (.iconst 1, 1) := by decide +kernel
theorem dX8_nearestUpper_14 : decode cX8_nearestUpper 14 = .ok (.isub, 1) := by decide +kernel
theorem dX8_nearestUpper_15 : decode cX8_nearestUpper 15 = .ok (.lshl, 1) := by decide +kernel
theorem dX8_nearestUpper_16 : decode cX8_nearestUpper 16 = .ok (.lstore 7, 2) := by decide +kernel
theorem dX8_nearestUpper_18 : decode cX8_nearestUpper 18 = .ok (.lload 5, 2) := by decide +kernel
theorem dX8_nearestUpper_20 : decode cX8_nearestUpper 20 = .ok (.lload 7, 2) := by decide +kernel
theorem dX8_nearestUpper_22 : decode cX8_nearestUpper 22 = .ok (.lcmp, 1) := by decide +kernel
theorem dX8_nearestUpper_23 : decode cX8_nearestUpper 23 = .ok (.ifCond .gt 19, 3) := by decide +kernel
theorem dX8_nearestUpper_26 : decode cX8_nearestUpper 26 = .ok (.lload 5, 2) := by decide +kernel
theorem dX8_nearestUpper_28 : decode cX8_nearestUpper 28 = .ok (.lload 7, 2) := by decide +kernel
theorem dX8_nearestUpper_30 : decode cX8_nearestUpper 30 = .ok (.lcmp, 1) := by decide +kernel
theorem dX8_nearestUpper_31 : decode cX8_nearestUpper 31 = .ok (.ifCond .ne 15, 3) := by decide +kernel
theorem dX8_nearestUpper_34 : decode cX8_nearestUpper 34 = .ok (.lload_n 3, 1) := by decide +kernel
theorem dX8_nearestUpper_35 : decode cX8_nearestUpper 35 = .ok (.lconst 1, 1) := by decide +kernel
theorem dX8_nearestUpper_36 : decode cX8_nearestUpper 36 = .ok (.land, 1) := by decide +kernel
theorem dX8_nearestUpper_37 : decode cX8_nearestUpper 37 = .ok (.lconst 1, 1) := by decide +kernel
theorem dX8_nearestUpper_38 : decode cX8_nearestUpper 38 = .ok (.lcmp, 1) := by decide +kernel
theorem dX8_nearestUpper_39 : decode cX8_nearestUpper 39 = .ok (.ifCond .ne 7, 3) := by decide +kernel
theorem dX8_nearestUpper_42 : decode cX8_nearestUpper 42 = .ok (.iconst 1, 1) := by decide +kernel
theorem dX8_nearestUpper_43 : decode cX8_nearestUpper 43 = .ok (.goto 4, 3) := by decide +kernel
theorem dX8_nearestUpper_46 : decode cX8_nearestUpper 46 = .ok (.iconst 0, 1) := by decide +kernel
theorem dX8_nearestUpper_47 : decode cX8_nearestUpper 47 = .ok (.istore 9, 2) := by decide +kernel
theorem dX8_nearestUpper_49 : decode cX8_nearestUpper 49 = .ok (.iload 9, 2) := by decide +kernel
theorem dX8_nearestUpper_51 : decode cX8_nearestUpper 51 = .ok (.ifCond .eq 9, 3) := by decide +kernel
theorem dX8_nearestUpper_54 : decode cX8_nearestUpper 54 = .ok (.lload_n 3, 1) := by decide +kernel
theorem dX8_nearestUpper_55 : decode cX8_nearestUpper 55 = .ok (.lconst 1, 1) := by decide +kernel
theorem dX8_nearestUpper_56 : decode cX8_nearestUpper 56 = .ok (.ladd, 1) := by decide +kernel
theorem dX8_nearestUpper_57 : decode cX8_nearestUpper 57 = .ok (.goto 4, 3) := by decide +kernel
theorem dX8_nearestUpper_60 : decode cX8_nearestUpper 60 = .ok (.lload_n 3, 1) := by decide +kernel
theorem dX8_nearestUpper_61 : decode cX8_nearestUpper 61 = .ok (.lreturn, 1) := by decide +kernel
theorem dX8_pairUp_0 : decode cX8_pairUp 0 = .ok (.aload_n 0, 1) := by decide +kernel
theorem dX8_pairUp_1 : decode cX8_pairUp 1 = .ok (.getfield 51, 3) := by decide +kernel
theorem dX8_pairUp_4 : decode cX8_pairUp 4 = .ok (.aload_n 0, 1) := by decide +kernel
theorem dX8_pairUp_5 : decode cX8_pairUp 5 = .ok (.getfield 14, 3) := by decide +kernel
theorem dX8_pairUp_8 : decode cX8_pairUp 8 = .ok (.aload_n 0, 1) := by decide +kernel
theorem dX8_pairUp_9 : decode cX8_pairUp 9 = .ok (.getfield 18, 3) := by decide +kernel
theorem dX8_pairUp_12 : decode cX8_pairUp 12 = .ok (.iload_n 1, 1) := by decide +kernel
theorem dX8_pairUp_13 : decode cX8_pairUp 13 = .ok (.aaload, 1) := by decide +kernel
theorem dX8_pairUp_14 : decode cX8_pairUp 14 = .ok (.aload_n 0, 1) := by decide +kernel
theorem dX8_pairUp_15 : decode cX8_pairUp 15 = .ok (.getfield 37, 3) := by decide +kernel
theorem dX8_pairUp_18 : decode cX8_pairUp 18 = .ok (.iconst 0, 1) := by decide +kernel
theorem dX8_pairUp_19 : decode cX8_pairUp 19 = .ok (.iaload, 1) := by decide +kernel
theorem dX8_pairUp_20 : decode cX8_pairUp 20 = .ok (.invokevirtual 159, 3) := by decide +kernel
theorem dX8_pairUp_23 : decode cX8_pairUp 23 = .ok (.aload_n 0, 1) := by decide +kernel
theorem dX8_pairUp_24 : decode cX8_pairUp 24 = .ok (.getfield 58, 3) := by decide +kernel
theorem dX8_pairUp_27 : decode cX8_pairUp 27 = .ok (.iload_n 1, 1) := by decide +kernel
theorem dX8_pairUp_28 : decode cX8_pairUp 28 = .ok (.aaload, 1) := by decide +kernel
theorem dX8_pairUp_29 : decode cX8_pairUp 29 = .ok (.aload_n 0, 1) := by decide +kernel
theorem dX8_pairUp_30 : decode cX8_pairUp 30 = .ok (.getfield 51, 3) := by decide +kernel
theorem dX8_pairUp_33 : decode cX8_pairUp 33 = .ok (.aload_n 0, 1) := by decide +kernel
theorem dX8_pairUp_34 : decode cX8_pairUp 34 = .ok (.getfield 14, 3) := by decide +kernel
theorem dX8_pairUp_37 : decode cX8_pairUp 37 = .ok (.getfield 215, 3) := by decide +kernel
theorem dX8_pairUp_40 : decode cX8_pairUp 40 = .ok (.aload_n 0, 1) := by decide +kernel
theorem dX8_pairUp_41 : decode cX8_pairUp 41 = .ok (.getfield 18, 3) := by decide +kernel
theorem dX8_pairUp_44 : decode cX8_pairUp 44 = .ok (.iload_n 1, 1) := by decide +kernel
theorem dX8_pairUp_45 : decode cX8_pairUp 45 = .ok (.aaload, 1) := by decide +kernel
theorem dX8_pairUp_46 : decode cX8_pairUp 46 = .ok (.getfield 215, 3) := by decide +kernel
theorem dX8_pairUp_49 : decode cX8_pairUp 49 = .ok (.invokevirtual 272, 3) := by decide +kernel
theorem dX8_pairUp_52 : decode cX8_pairUp 52 = .ok (.return_, 1) := by decide +kernel
theorem dX8_clean_0 : decode cX8_clean 0 = .ok (.aload_n 0, 1) := by decide +kernel
theorem dX8_clean_1 : decode cX8_clean 1 = .ok (.iload_n 1, 1) := by decide +kernel
theorem dX8_clean_2 : decode cX8_clean 2 = .ok (.invokevirtual 173, 3) := by decide +kernel
theorem dX8_clean_5 : decode cX8_clean 5 = .ok (.iconst 0, 1) := by decide +kernel
theorem dX8_clean_6 : decode cX8_clean 6 = .ok (.istore_n 2, 1) := by decide +kernel
theorem dX8_clean_7 : decode cX8_clean 7 = .ok (.iload_n 2, 1) := by decide +kernel
theorem dX8_clean_8 : decode cX8_clean 8 = .ok (.bipush 8, 2) := by decide +kernel
theorem dX8_clean_10 : decode cX8_clean 10 = .ok (.if_icmp .ge 58, 3) := by decide +kernel
theorem dX8_clean_13 : decode cX8_clean 13 = .ok (.aload_n 0, 1) := by decide +kernel
theorem dX8_clean_14 : decode cX8_clean 14 = .ok (.getfield 58, 3) := by decide +kernel
theorem dX8_clean_17 : decode cX8_clean 17 = .ok (.iload_n 1, 1) := by decide +kernel
theorem dX8_clean_18 : decode cX8_clean 18 = .ok (.aaload, 1) := by decide +kernel
theorem dX8_clean_19 : decode cX8_clean 19 = .ok (.getfield 262, 3) := by decide +kernel
theorem dX8_clean_22 : decode cX8_clean 22 = .ok (.iconst 2, 1) := by decide +kernel
theorem dX8_clean_23 : decode cX8_clean 23 = .ok (.if_icmp .le 45, 3) := by decide +kernel
theorem dX8_clean_26 : decode cX8_clean 26 = .ok (.aload_n 0, 1) := by decide +kernel
theorem dX8_clean_27 : decode cX8_clean 27 = .ok (.iload_n 1, 1) := by decide +kernel
theorem dX8_clean_28 : decode cX8_clean 28 = .ok (.invokevirtual 181, 3) := by decide +kernel
theorem dX8_clean_31 : decode cX8_clean 31 = .ok (.ifCond .ne 6, 3) := by decide +kernel
theorem dX8_clean_34 : decode cX8_clean 34 = .ok (.goto 34, 3) := by decide +kernel
theorem dX8_clean_37 : decode cX8_clean 37 = .ok (.aload_n 0, 1) := by decide +kernel
theorem dX8_clean_38 : decode cX8_clean 38 = .ok (.iload_n 1, 1) := by decide +kernel
theorem dX8_clean_39 : decode cX8_clean 39 = .ok (.invokevirtual 276, 3) := by decide +kernel
theorem dX8_clean_42 : decode cX8_clean 42 = .ok (.istore_n 3, 1) := by decide +kernel
theorem dX8_clean_43 : decode cX8_clean 43 = .ok (.iload_n 3, 1) := by decide +kernel
theorem dX8_clean_44 : decode cX8_clean 44 = .ok (.bipush (-9), 2) := by decide +kernel
theorem dX8_clean_46 : decode cX8_clean 46 = .ok (.if_icmp .ne 6, 3) := by decide +kernel
theorem dX8_clean_49 : decode cX8_clean 49 = .ok (.goto 19, 3) := by decide +kernel
theorem dX8_clean_52 : decode cX8_clean 52 = .ok (.aload_n 0, 1) := by decide +kernel
theorem dX8_clean_53 : decode cX8_clean 53 = .ok (.getfield 58, 3) := by decide +kernel
theorem dX8_clean_56 : decode cX8_clean 56 = .ok (.iload_n 1, 1) := by decide +kernel
theorem dX8_clean_57 : decode cX8_clean 57 = .ok (.aaload, 1) := by decide +kernel
theorem dX8_clean_58 : decode cX8_clean 58 = .ok (.iload_n 3, 1) := by decide +kernel
theorem dX8_clean_59 : decode cX8_clean 59 = .ok (.invokevirtual 279, 3) := by decide +kernel
theorem dX8_clean_62 : decode cX8_clean 62 = .ok (.iinc 2 1, 3) := by decide +kernel
theorem dX8_clean_65 : decode cX8_clean 65 = .ok (.goto (-58), 3) := by decide +kernel
theorem dX8_clean_68 : decode cX8_clean 68 = .ok (.return_, 1) := by decide +kernel
theorem dX8_fitPairs_0 : decode cX8_fitPairs 0 = .ok (.aload_n 0, 1) := by decide +kernel
theorem dX8_fitPairs_1 : decode cX8_fitPairs 1 = .ok (.getfield 65, 3) := by decide +kernel
theorem dX8_fitPairs_4 : decode cX8_fitPairs 4 = .ok (.invokevirtual 282, 3) := by decide +kernel
theorem dX8_fitPairs_7 : decode cX8_fitPairs 7 = .ok (.iconst 0, 1) := by decide +kernel
theorem dX8_fitPairs_8 : decode cX8_fitPairs 8 = .ok (.istore_n 2, 1) := by decide +kernel
theorem dX8_fitPairs_9 : decode cX8_fitPairs 9 = .ok (.iload_n 2, 1) := by decide +kernel
theorem dX8_fitPairs_10 : decode cX8_fitPairs 10 = .ok (.aload_n 0, 1) := by decide +kernel
theorem dX8_fitPairs_11 : decode cX8_fitPairs 11 = .ok (.getfield 14, 3) := by decide +kernel
theorem dX8_fitPairs_14 : decode cX8_fitPairs 14 = .ok (.getfield 215, 3) := by decide +kernel
theorem dX8_fitPairs_17 : decode cX8_fitPairs 17 = .ok (.if_icmp .ge 84, 3) := by decide +kernel
theorem dX8_fitPairs_20 : decode cX8_fitPairs 20 = .ok (.aload_n 0, 1) := by decide +kernel
theorem dX8_fitPairs_21 : decode cX8_fitPairs 21 = .ok (.getfield 58, 3) := by decide +kernel
theorem dX8_fitPairs_24 : decode cX8_fitPairs 24 = .ok (.iload_n 1, 1) := by decide +kernel
theorem dX8_fitPairs_25 : decode cX8_fitPairs 25 = .ok (.aaload, 1) := by decide +kernel
theorem dX8_fitPairs_26 : decode cX8_fitPairs 26 = .ok (.iload_n 2, 1) := by decide +kernel
theorem dX8_fitPairs_27 : decode cX8_fitPairs 27 = .ok (.invokevirtual 208, 3) := by decide +kernel
theorem dX8_fitPairs_30 : decode cX8_fitPairs 30 = .ok (.ifCond .ne 6, 3) := by decide +kernel
theorem dX8_fitPairs_33 : decode cX8_fitPairs 33 = .ok (.goto 62, 3) := by decide +kernel
theorem dX8_fitPairs_36 : decode cX8_fitPairs 36 = .ok (.aload_n 0, 1) := by decide +kernel
theorem dX8_fitPairs_37 : decode cX8_fitPairs 37 = .ok (.getfield 58, 3) := by decide +kernel
theorem dX8_fitPairs_40 : decode cX8_fitPairs 40 = .ok (.iload_n 1, 1) := by decide +kernel
theorem dX8_fitPairs_41 : decode cX8_fitPairs 41 = .ok (.aaload, 1) := by decide +kernel
theorem dX8_fitPairs_42 : decode cX8_fitPairs 42 = .ok (.getfield 176, 3) := by decide +kernel
theorem dX8_fitPairs_45 : decode cX8_fitPairs 45 = .ok (.iload_n 2, 1) := by decide +kernel
theorem dX8_fitPairs_46 : decode cX8_fitPairs 46 = .ok (.iaload, 1) := by decide +kernel
theorem dX8_fitPairs_47 : decode cX8_fitPairs 47 = .ok (.istore_n 3, 1) := by decide +kernel
theorem dX8_fitPairs_48 : decode cX8_fitPairs 48 = .ok (.aload_n 0, 1) := by decide +kernel
theorem dX8_fitPairs_49 : decode cX8_fitPairs 49 = .ok (.getfield 65, 3) := by decide +kernel
theorem dX8_fitPairs_52 : decode cX8_fitPairs 52 = .ok (.aload_n 0, 1) := by decide +kernel
theorem dX8_fitPairs_53 : decode cX8_fitPairs 53 = .ok (.getfield 14, 3) := by decide +kernel
theorem dX8_fitPairs_56 : decode cX8_fitPairs 56 = .ok (.getfield 198, 3) := by decide +kernel
theorem dX8_fitPairs_59 : decode cX8_fitPairs 59 = .ok (.iload_n 2, 1) := by decide +kernel
theorem dX8_fitPairs_60 : decode cX8_fitPairs 60 = .ok (.iaload, 1) := by decide +kernel
theorem dX8_fitPairs_61 : decode cX8_fitPairs 61 = .ok (.aload_n 0, 1) := by decide +kernel
theorem dX8_fitPairs_62 : decode cX8_fitPairs 62 = .ok (.getfield 14, 3) := by decide +kernel
theorem dX8_fitPairs_65 : decode cX8_fitPairs 65 = .ok (.getfield 201, 3) := by decide +kernel
theorem dX8_fitPairs_68 : decode cX8_fitPairs 68 = .ok (.iload_n 2, 1) := by decide +kernel
theorem dX8_fitPairs_69 : decode cX8_fitPairs 69 = .ok (.iaload, 1) := by decide +kernel
theorem dX8_fitPairs_70 : decode cX8_fitPairs 70 = .ok (.aload_n 0, 1) := by decide +kernel
theorem dX8_fitPairs_71 : decode cX8_fitPairs 71 = .ok (.getfield 18, 3) := by decide +kernel
theorem dX8_fitPairs_74 : decode cX8_fitPairs 74 = .ok (.iload_n 1, 1) := by decide +kernel
theorem dX8_fitPairs_75 : decode cX8_fitPairs 75 = .ok (.aaload, 1) := by decide +kernel
theorem dX8_fitPairs_76 : decode cX8_fitPairs 76 = .ok (.getfield 198, 3) := by decide +kernel
theorem dX8_fitPairs_79 : decode cX8_fitPairs 79 = .ok (.iload_n 3, 1) := by decide +kernel
theorem dX8_fitPairs_80 : decode cX8_fitPairs 80 = .ok (.iaload, 1) := by decide +kernel
theorem dX8_fitPairs_81 : decode cX8_fitPairs 81 = .ok (.aload_n 0, 1) := by decide +kernel
theorem dX8_fitPairs_82 : decode cX8_fitPairs 82 = .ok (.getfield 18, 3) := by decide +kernel
theorem dX8_fitPairs_85 : decode cX8_fitPairs 85 = .ok (.iload_n 1, 1) := by decide +kernel
theorem dX8_fitPairs_86 : decode cX8_fitPairs 86 = .ok (.aaload, 1) := by decide +kernel
theorem dX8_fitPairs_87 : decode cX8_fitPairs 87 = .ok (.getfield 201, 3) := by decide +kernel
theorem dX8_fitPairs_90 : decode cX8_fitPairs 90 = .ok (.iload_n 3, 1) := by decide +kernel
theorem dX8_fitPairs_91 : decode cX8_fitPairs 91 = .ok (.iaload, 1) := by decide +kernel
theorem dX8_fitPairs_92 : decode cX8_fitPairs 92 = .ok (.invokevirtual 285, 3) := by decide +kernel
theorem dX8_fitPairs_95 : decode cX8_fitPairs 95 = .ok (.iinc 2 1, 3) := by decide +kernel
theorem dX8_fitPairs_98 : decode cX8_fitPairs 98 = .ok (.goto (-89), 3) := by decide +kernel
theorem dX8_fitPairs_101 : decode cX8_fitPairs 101 = .ok (.aload_n 0, 1) := by decide +kernel
theorem dX8_fitPairs_102 : decode cX8_fitPairs 102 = .ok (.getfield 65, 3) := by decide +kernel
theorem dX8_fitPairs_105 : decode cX8_fitPairs 105 = .ok (.invokevirtual 289, 3) := by decide +kernel
theorem dX8_fitPairs_108 : decode cX8_fitPairs 108 = .ok (.ireturn, 1) := by decide +kernel
theorem dX8_missOf_0 : decode cX8_missOf 0 = .ok (.aload_n 0, 1) := by decide +kernel
theorem dX8_missOf_1 : decode cX8_missOf 1 = .ok (.getfield 58, 3) := by decide +kernel
theorem dX8_missOf_4 : decode cX8_missOf 4 = .ok (.iload_n 1, 1) := by decide +kernel
theorem dX8_missOf_5 : decode cX8_missOf 5 = .ok (.aaload, 1) := by decide +kernel
theorem dX8_missOf_6 : decode cX8_missOf 6 = .ok (.getfield 176, 3) := by decide +kernel
theorem dX8_missOf_9 : decode cX8_missOf 9 = .ok (.iload_n 2, 1) := by decide +kernel
theorem dX8_missOf_10 : decode cX8_missOf 10 = .ok (.iaload, 1) := by decide +kernel
theorem dX8_missOf_11 : decode cX8_missOf 11 = .ok (.istore_n 3, 1) := by decide +kernel
theorem dX8_missOf_12 : decode cX8_missOf 12 = .ok (.aload_n 0, 1) := by decide +kernel
theorem dX8_missOf_13 : decode cX8_missOf 13 = .ok (.getfield 65, 3) := by decide +kernel
theorem dX8_missOf_16 : decode cX8_missOf 16 = .ok (.aload_n 0, 1) := by decide +kernel
theorem dX8_missOf_17 : decode cX8_missOf 17 = .ok (.getfield 14, 3) := by decide +kernel
theorem dX8_missOf_20 : decode cX8_missOf 20 = .ok (.getfield 198, 3) := by decide +kernel
theorem dX8_missOf_23 : decode cX8_missOf 23 = .ok (.iload_n 2, 1) := by decide +kernel
theorem dX8_missOf_24 : decode cX8_missOf 24 = .ok (.iaload, 1) := by decide +kernel
theorem dX8_missOf_25 : decode cX8_missOf 25 = .ok (.aload_n 0, 1) := by decide +kernel
theorem dX8_missOf_26 : decode cX8_missOf 26 = .ok (.getfield 14, 3) := by decide +kernel
theorem dX8_missOf_29 : decode cX8_missOf 29 = .ok (.getfield 201, 3) := by decide +kernel
theorem dX8_missOf_32 : decode cX8_missOf 32 = .ok (.iload_n 2, 1) := by decide +kernel
theorem dX8_missOf_33 : decode cX8_missOf 33 = .ok (.iaload, 1) := by decide +kernel
theorem dX8_missOf_34 : decode cX8_missOf 34 = .ok (.iconst 0, 1) := by decide +kernel
theorem dX8_missOf_35 : decode cX8_missOf 35 = .ok (.invokevirtual 204, 3) := by decide +kernel
theorem dX8_missOf_38 : decode cX8_missOf 38 = .ok (.aload_n 0, 1) := by decide +kernel
theorem dX8_missOf_39 : decode cX8_missOf 39 = .ok (.getfield 18, 3) := by decide +kernel
theorem dX8_missOf_42 : decode cX8_missOf 42 = .ok (.iload_n 1, 1) := by decide +kernel
theorem dX8_missOf_43 : decode cX8_missOf 43 = .ok (.aaload, 1) := by decide +kernel
theorem dX8_missOf_44 : decode cX8_missOf 44 = .ok (.getfield 198, 3) := by decide +kernel
theorem dX8_missOf_47 : decode cX8_missOf 47 = .ok (.iload_n 3, 1) := by decide +kernel
theorem dX8_missOf_48 : decode cX8_missOf 48 = .ok (.iaload, 1) := by decide +kernel
theorem dX8_missOf_49 : decode cX8_missOf 49 = .ok (.i2l, 1) := by decide +kernel
theorem dX8_missOf_50 : decode cX8_missOf 50 = .ok (.lsub, 1) := by decide +kernel
theorem dX8_missOf_51 : decode cX8_missOf 51 = .ok (.lstore 4, 2) := by decide +kernel
theorem dX8_missOf_53 : decode cX8_missOf 53 = .ok (.aload_n 0, 1) := by decide +kernel
theorem dX8_missOf_54 : decode cX8_missOf 54 = .ok (.getfield 65, 3) := by decide +kernel
theorem dX8_missOf_57 : decode cX8_missOf 57 = .ok (.aload_n 0, 1) := by decide +kernel
theorem dX8_missOf_58 : decode cX8_missOf 58 = .ok (.getfield 14, 3) := by decide +kernel
theorem dX8_missOf_61 : decode cX8_missOf 61 = .ok (.getfield 198, 3) := by decide +kernel
theorem dX8_missOf_64 : decode cX8_missOf 64 = .ok (.iload_n 2, 1) := by decide +kernel
theorem dX8_missOf_65 : decode cX8_missOf 65 = .ok (.iaload, 1) := by decide +kernel
theorem dX8_missOf_66 : decode cX8_missOf 66 = .ok (.aload_n 0, 1) := by decide +kernel
theorem dX8_missOf_67 : decode cX8_missOf 67 = .ok (.getfield 14, 3) := by decide +kernel
theorem dX8_missOf_70 : decode cX8_missOf 70 = .ok (.getfield 201, 3) := by decide +kernel
theorem dX8_missOf_73 : decode cX8_missOf 73 = .ok (.iload_n 2, 1) := by decide +kernel
theorem dX8_missOf_74 : decode cX8_missOf 74 = .ok (.iaload, 1) := by decide +kernel
theorem dX8_missOf_75 : decode cX8_missOf 75 = .ok (.iconst 1, 1) := by decide +kernel
theorem dX8_missOf_76 : decode cX8_missOf 76 = .ok (.invokevirtual 204, 3) := by decide +kernel
theorem dX8_missOf_79 : decode cX8_missOf 79 = .ok (.aload_n 0, 1) := by decide +kernel
theorem dX8_missOf_80 : decode cX8_missOf 80 = .ok (.getfield 18, 3) := by decide +kernel
theorem dX8_missOf_83 : decode cX8_missOf 83 = .ok (.iload_n 1, 1) := by decide +kernel
theorem dX8_missOf_84 : decode cX8_missOf 84 = .ok (.aaload, 1) := by decide +kernel
theorem dX8_missOf_85 : decode cX8_missOf 85 = .ok (.getfield 201, 3) := by decide +kernel
theorem dX8_missOf_88 : decode cX8_missOf 88 = .ok (.iload_n 3, 1) := by decide +kernel
theorem dX8_missOf_89 : decode cX8_missOf 89 = .ok (.iaload, 1) := by decide +kernel
theorem dX8_missOf_90 : decode cX8_missOf 90 = .ok (.i2l, 1) := by decide +kernel
theorem dX8_missOf_91 : decode cX8_missOf 91 = .ok (.lsub, 1) := by decide +kernel
theorem dX8_missOf_92 : decode cX8_missOf 92 = .ok (.lstore 6, 2) := by decide +kernel
theorem dX8_missOf_94 : decode cX8_missOf 94 = .ok (.lload 4, 2) := by decide +kernel
theorem dX8_missOf_96 : decode cX8_missOf 96 = .ok (.lload 4, 2) := by decide +kernel
theorem dX8_missOf_98 : decode cX8_missOf 98 = .ok (.lmul, 1) := by decide +kernel
theorem dX8_missOf_99 : decode cX8_missOf 99 = .ok (.lload 6, 2) := by decide +kernel
theorem dX8_missOf_101 : decode cX8_missOf 101 = .ok (.lload 6, 2) := by decide +kernel
theorem dX8_missOf_103 : decode cX8_missOf 103 = .ok (.lmul, 1) := by decide +kernel
theorem dX8_missOf_104 : decode cX8_missOf 104 = .ok (.ladd, 1) := by decide +kernel
theorem dX8_missOf_105 : decode cX8_missOf 105 = .ok (.lreturn, 1) := by decide +kernel
theorem dX8_starToDrop_0 : decode cX8_starToDrop 0 = .ok (.bipush (-9), 2) := by decide +kernel
theorem dX8_starToDrop_2 : decode cX8_starToDrop 2 = .ok (.istore_n 2, 1) := by decide +kernel
theorem dX8_starToDrop_3 : decode cX8_starToDrop 3 = .ok (.aload_n 0, 1) := by decide +kernel
theorem dX8_starToDrop_4 : decode cX8_starToDrop 4 = .ok (.getfield 37, 3) := by decide +kernel
theorem dX8_starToDrop_7 : decode cX8_starToDrop 7 = .ok (.iconst 1, 1) := by decide +kernel
theorem dX8_starToDrop_8 : decode cX8_starToDrop 8 = .ok (.iaload, 1) := by decide +kernel
theorem dX8_starToDrop_9 : decode cX8_starToDrop 9 = .ok (.i2l, 1) := by decide +kernel
theorem dX8_starToDrop_10 : decode cX8_starToDrop 10 = .ok (.lstore_n 3, 1) := by decide +kernel
theorem dX8_starToDrop_11 : decode cX8_starToDrop 11 = .ok (.iconst 0, 1) := by decide +kernel
theorem dX8_starToDrop_12 : decode cX8_starToDrop 12 = .ok (.istore 5, 2) := by decide +kernel
theorem dX8_starToDrop_14 : decode cX8_starToDrop 14 = .ok (.iload 5, 2) := by decide +kernel
theorem dX8_starToDrop_16 : decode cX8_starToDrop 16 = .ok (.aload_n 0, 1) := by decide +kernel
theorem dX8_starToDrop_17 : decode cX8_starToDrop 17 = .ok (.getfield 14, 3) := by decide +kernel
theorem dX8_starToDrop_20 : decode cX8_starToDrop 20 = .ok (.getfield 215, 3) := by decide +kernel
theorem dX8_starToDrop_23 : decode cX8_starToDrop 23 = .ok (.if_icmp .ge 48, 3) := by decide +kernel
theorem dX8_starToDrop_26 : decode cX8_starToDrop 26 = .ok (.aload_n 0, 1) := by decide +kernel
theorem dX8_starToDrop_27 : decode cX8_starToDrop 27 = .ok (.getfield 58, 3) := by decide +kernel
theorem dX8_starToDrop_30 : decode cX8_starToDrop 30 = .ok (.iload_n 1, 1) := by decide +kernel
theorem dX8_starToDrop_31 : decode cX8_starToDrop 31 = .ok (.aaload, 1) := by decide +kernel
theorem dX8_starToDrop_32 : decode cX8_starToDrop 32 = .ok (.iload 5, 2) := by decide +kernel
theorem dX8_starToDrop_34 : decode cX8_starToDrop 34 = .ok (.invokevirtual 208, 3) := by decide +kernel
theorem dX8_starToDrop_37 : decode cX8_starToDrop 37 = .ok (.ifCond .ne 6, 3) := by decide +kernel
theorem dX8_starToDrop_40 : decode cX8_starToDrop 40 = .ok (.goto 25, 3) := by decide +kernel
theorem dX8_starToDrop_43 : decode cX8_starToDrop 43 = .ok (.aload_n 0, 1) := by decide +kernel
theorem dX8_starToDrop_44 : decode cX8_starToDrop 44 = .ok (.iload_n 1, 1) := by decide +kernel
theorem dX8_starToDrop_45 : decode cX8_starToDrop 45 = .ok (.iload 5, 2) := by decide +kernel
theorem dX8_starToDrop_47 : decode cX8_starToDrop 47 = .ok (.invokevirtual 211, 3) := by decide +kernel
theorem dX8_starToDrop_50 : decode cX8_starToDrop 50 = .ok (.lstore 6, 2) := by decide +kernel
theorem dX8_starToDrop_52 : decode cX8_starToDrop 52 = .ok (.lload 6, 2) := by decide +kernel
theorem dX8_starToDrop_54 : decode cX8_starToDrop 54 = .ok (.lload_n 3, 1) := by decide +kernel
theorem dX8_starToDrop_55 : decode cX8_starToDrop 55 = .ok (.lcmp, 1) := by decide +kernel
theorem dX8_starToDrop_56 : decode cX8_starToDrop 56 = .ok (.ifCond .le 9, 3) := by decide +kernel
theorem dX8_starToDrop_59 : decode cX8_starToDrop 59 = .ok (.lload 6, 2) := by decide +kernel
theorem dX8_starToDrop_61 : decode cX8_starToDrop 61 = .ok (.lstore_n 3, 1) := by decide +kernel
theorem dX8_starToDrop_62 : decode cX8_starToDrop 62 = .ok (.iload 5, 2) := by decide +kernel
theorem dX8_starToDrop_64 : decode cX8_starToDrop 64 = .ok (.istore_n 2, 1) := by decide +kernel
theorem dX8_starToDrop_65 : decode cX8_starToDrop 65 = .ok (.iinc 5 1, 3) := by decide +kernel
theorem dX8_starToDrop_68 : decode cX8_starToDrop 68 = .ok (.goto (-54), 3) := by decide +kernel
theorem dX8_starToDrop_71 : decode cX8_starToDrop 71 = .ok (.iload_n 2, 1) := by decide +kernel
theorem dX8_starToDrop_72 : decode cX8_starToDrop 72 = .ok (.ireturn, 1) := by decide +kernel
theorem dX8_commonDivisor_0 : decode cX8_commonDivisor 0 = .ok (.lload_n 0, 1) := by decide +kernel
theorem dX8_commonDivisor_1 : decode cX8_commonDivisor 1 = .ok (.lstore 4, 2) := by decide +kernel
theorem dX8_commonDivisor_3 : decode cX8_commonDivisor 3 = .ok (.lload_n 2, 1) := by decide +kernel
theorem dX8_commonDivisor_4 : decode cX8_commonDivisor 4 = .ok (.lstore 6, 2) := by decide +kernel
theorem dX8_commonDivisor_6 : decode cX8_commonDivisor 6 = .ok (.iconst 0, 1) := by decide +kernel
theorem dX8_commonDivisor_7 : decode cX8_commonDivisor 7 = .ok (.istore 8, 2) := by decide +kernel
theorem dX8_commonDivisor_9 : decode cX8_commonDivisor 9 = .ok (.iload 8, 2) := by decide +kernel
theorem dX8_commonDivisor_11 : decode cX8_commonDivisor 11 = .ok (.bipush 100, 2) := by decide +kernel
theorem dX8_commonDivisor_13 : decode cX8_commonDivisor 13 = .ok (.if_icmp .ge 31, 3) := by decide +kernel
theorem dX8_commonDivisor_16 : decode cX8_commonDivisor 16 = .ok (.lload 6, 2) := by decide +kernel
theorem dX8_commonDivisor_18 : decode cX8_commonDivisor 18 = .ok (.lconst 0, 1) := by decide +kernel
theorem dX8_commonDivisor_19 : decode cX8_commonDivisor 19 = .ok (.lcmp, 1) := by decide +kernel
theorem dX8_commonDivisor_20 : decode cX8_commonDivisor 20 = .ok (.ifCond .eq 24, 3) := by decide +kernel
theorem dX8_commonDivisor_23 : decode cX8_commonDivisor 23 = .ok (.lload 4, 2) := by decide +kernel
theorem dX8_commonDivisor_25 : decode cX8_commonDivisor 25 = .ok (.lload 6, 2) := by decide +kernel
theorem dX8_commonDivisor_27 : decode cX8_commonDivisor 27 = .ok (.lrem, 1) := by decide +kernel
theorem dX8_commonDivisor_28 : decode cX8_commonDivisor 28 = .ok (.lstore 9, 2) := by decide +kernel
theorem dX8_commonDivisor_30 : decode cX8_commonDivisor 30 = .ok (.lload 6, 2) := by decide +kernel
theorem dX8_commonDivisor_32 : decode cX8_commonDivisor 32 = .ok (.lstore 4, 2) := by decide +kernel
theorem dX8_commonDivisor_34 : decode cX8_commonDivisor 34 = .ok (.lload 9, 2) := by decide +kernel
theorem dX8_commonDivisor_36 : decode cX8_commonDivisor 36 = .ok (.lstore 6, 2) := by decide +kernel
theorem dX8_commonDivisor_38 : decode cX8_commonDivisor 38 = .ok (.iinc 8 1, 3) := by decide +kernel
theorem dX8_commonDivisor_41 : decode cX8_commonDivisor 41 = .ok (.goto (-32), 3) := by decide +kernel
theorem dX8_commonDivisor_44 : decode cX8_commonDivisor 44 = .ok (.lload 4, 2) := by decide +kernel
theorem dX8_commonDivisor_46 : decode cX8_commonDivisor 46 = .ok (.lreturn, 1) := by decide +kernel
theorem dX8_wrongWith_0 : decode cX8_wrongWith 0 = .ok (.iconst 0, 1) := by decide +kernel
theorem dX8_wrongWith_1 : decode cX8_wrongWith 1 = .ok (.istore_n 3, 1) := by decide +kernel
theorem dX8_wrongWith_2 : decode cX8_wrongWith 2 = .ok (.iconst 0, 1) := by decide +kernel
theorem dX8_wrongWith_3 : decode cX8_wrongWith 3 = .ok (.istore 4, 2) := by decide +kernel
theorem dX8_wrongWith_5 : decode cX8_wrongWith 5 = .ok (.iload 4, 2) := by decide +kernel
theorem dX8_wrongWith_7 : decode cX8_wrongWith 7 = .ok (.aload_n 0, 1) := by decide +kernel
theorem dX8_wrongWith_8 : decode cX8_wrongWith 8 = .ok (.getfield 14, 3) := by decide +kernel
theorem dX8_wrongWith_11 : decode cX8_wrongWith 11 = .ok (.getfield 215, 3) := by decide +kernel
theorem dX8_wrongWith_14 : decode cX8_wrongWith 14 = .ok (.if_icmp .ge 34, 3) := by decide +kernel
theorem dX8_wrongWith_17 : decode cX8_wrongWith 17 = .ok (.aload_n 0, 1) := by decide +kernel
theorem dX8_wrongWith_18 : decode cX8_wrongWith 18 = .ok (.iload_n 1, 1) := by decide +kernel
theorem dX8_wrongWith_19 : decode cX8_wrongWith 19 = .ok (.iload_n 2, 1) := by decide +kernel
theorem dX8_wrongWith_20 : decode cX8_wrongWith 20 = .ok (.iload 4, 2) := by decide +kernel
theorem dX8_wrongWith_22 : decode cX8_wrongWith 22 = .ok (.invokevirtual 292, 3) := by decide +kernel
theorem dX8_wrongWith_25 : decode cX8_wrongWith 25 = .ok (.ifCond .ne 14, 3) := by decide +kernel
theorem dX8_wrongWith_28 : decode cX8_wrongWith 28 = .ok (.aload_n 0, 1) := by decide +kernel
theorem dX8_wrongWith_29 : decode cX8_wrongWith 29 = .ok (.iload_n 1, 1) := by decide +kernel
theorem dX8_wrongWith_30 : decode cX8_wrongWith 30 = .ok (.iload 4, 2) := by decide +kernel
theorem dX8_wrongWith_32 : decode cX8_wrongWith 32 = .ok (.iload_n 2, 1) := by decide +kernel
theorem dX8_wrongWith_33 : decode cX8_wrongWith 33 = .ok (.invokevirtual 292, 3) := by decide +kernel
theorem dX8_wrongWith_36 : decode cX8_wrongWith 36 = .ok (.ifCond .eq 6, 3) := by decide +kernel
theorem dX8_wrongWith_39 : decode cX8_wrongWith 39 = .ok (.iinc 3 1, 3) := by decide +kernel
theorem dX8_wrongWith_42 : decode cX8_wrongWith 42 = .ok (.iinc 4 1, 3) := by decide +kernel
theorem dX8_wrongWith_45 : decode cX8_wrongWith 45 = .ok (.goto (-40), 3) := by decide +kernel
theorem dX8_wrongWith_48 : decode cX8_wrongWith 48 = .ok (.iload_n 3, 1) := by decide +kernel
theorem dX8_wrongWith_49 : decode cX8_wrongWith 49 = .ok (.ireturn, 1) := by decide +kernel
theorem dX8_isRankedWrong_0 : decode cX8_isRankedWrong 0 = .ok (.aload_n 0, 1) := by decide +kernel
theorem dX8_isRankedWrong_1 : decode cX8_isRankedWrong 1 = .ok (.getfield 58, 3) := by decide +kernel
theorem dX8_isRankedWrong_4 : decode cX8_isRankedWrong 4 = .ok (.iload_n 1, 1) := by decide +kernel
theorem dX8_isRankedWrong_5 : decode cX8_isRankedWrong 5 = .ok (.aaload, 1) := by decide +kernel
theorem dX8_isRankedWrong_6 : decode cX8_isRankedWrong 6 = .ok (.iload_n 2, 1) := by decide +kernel
theorem dX8_isRankedWrong_7 : decode cX8_isRankedWrong 7 = .ok (.invokevirtual 208, 3) := by decide +kernel
theorem dX8_isRankedWrong_10 : decode cX8_isRankedWrong 10 = .ok (.ifCond .eq 16, 3) := by decide +kernel
theorem dX8_isRankedWrong_13 : decode cX8_isRankedWrong 13 = .ok (.aload_n 0, 1) := by decide +kernel
theorem dX8_isRankedWrong_14 : decode cX8_isRankedWrong 14 = .ok (.getfield 58, 3) := by decide +kernel
theorem dX8_isRankedWrong_17 : decode cX8_isRankedWrong 17 = .ok (.iload_n 1, 1) := by decide +kernel
theorem dX8_isRankedWrong_18 : decode cX8_isRankedWrong 18 = .ok (.aaload, 1) := by decide +kernel
theorem dX8_isRankedWrong_19 : decode cX8_isRankedWrong 19 = .ok (.iload_n 3, 1) := by decide +kernel
theorem dX8_isRankedWrong_20 : decode cX8_isRankedWrong 20 = .ok (.invokevirtual 208, 3) := by decide +kernel
theorem dX8_isRankedWrong_23 : decode cX8_isRankedWrong 23 = .ok (.ifCond .ne 5, 3) := by decide +kernel
theorem dX8_isRankedWrong_26 : decode cX8_isRankedWrong 26 = .ok (.iconst 0, 1) := by decide +kernel
theorem dX8_isRankedWrong_27 : decode cX8_isRankedWrong 27 = .ok (.ireturn, 1) := by decide +kernel
theorem dX8_isRankedWrong_28 : decode cX8_isRankedWrong 28 = .ok (.aload_n 0, 1) := by decide +kernel
theorem dX8_isRankedWrong_29 : decode cX8_isRankedWrong 29 = .ok (.getfield 14, 3) := by decide +kernel
theorem dX8_isRankedWrong_32 : decode cX8_isRankedWrong 32 = .ok (.getfield 95, 3) := by decide +kernel
theorem dX8_isRankedWrong_35 : decode cX8_isRankedWrong 35 = .ok (.iload_n 2, 1) := by decide +kernel
theorem dX8_isRankedWrong_36 : decode cX8_isRankedWrong 36 = .ok (.iaload, 1) := by decide +kernel
theorem dX8_isRankedWrong_37 : decode cX8_isRankedWrong 37 = .ok (.aload_n 0, 1) := by decide +kernel
theorem dX8_isRankedWrong_38 : decode cX8_isRankedWrong 38 = .ok (.getfield 14, 3) := by decide +kernel
theorem dX8_isRankedWrong_41 : decode cX8_isRankedWrong 41 = .ok (.getfield 95, 3) := by decide +kernel
theorem dX8_isRankedWrong_44 : decode cX8_isRankedWrong 44 = .ok (.iload_n 3, 1) := by decide +kernel
theorem dX8_isRankedWrong_45 : decode cX8_isRankedWrong 45 = .ok (.iaload, 1) := by decide +kernel
theorem dX8_isRankedWrong_46 : decode cX8_isRankedWrong 46 = .ok (.if_icmp .lt 5, 3) := by decide +kernel
theorem dX8_isRankedWrong_49 : decode cX8_isRankedWrong 49 = .ok (.iconst 0, 1) := by decide +kernel
theorem dX8_isRankedWrong_50 : decode cX8_isRankedWrong 50 = .ok (.ireturn, 1) := by decide +kernel
theorem dX8_isRankedWrong_51 : decode cX8_isRankedWrong 51 = .ok (.aload_n 0, 1) := by decide +kernel
theorem dX8_isRankedWrong_52 : decode cX8_isRankedWrong 52 = .ok (.iload_n 1, 1) := by decide +kernel
theorem dX8_isRankedWrong_53 : decode cX8_isRankedWrong 53 = .ok (.iload_n 2, 1) := by decide +kernel
theorem dX8_isRankedWrong_54 : decode cX8_isRankedWrong 54 = .ok (.invokevirtual 295, 3) := by decide +kernel
theorem dX8_isRankedWrong_57 : decode cX8_isRankedWrong 57 = .ok (.aload_n 0, 1) := by decide +kernel
theorem dX8_isRankedWrong_58 : decode cX8_isRankedWrong 58 = .ok (.iload_n 1, 1) := by decide +kernel
theorem dX8_isRankedWrong_59 : decode cX8_isRankedWrong 59 = .ok (.iload_n 3, 1) := by decide +kernel
theorem dX8_isRankedWrong_60 : decode cX8_isRankedWrong 60 = .ok (.invokevirtual 295, 3) := by decide +kernel
theorem dX8_isRankedWrong_63 : decode cX8_isRankedWrong 63 = .ok (.if_icmp .ge 7, 3) := by decide +kernel
theorem dX8_isRankedWrong_66 : decode cX8_isRankedWrong 66 = .ok (.iconst 1, 1) := by decide +kernel
theorem dX8_isRankedWrong_67 : decode cX8_isRankedWrong 67 = .ok (.goto 4, 3) := by decide +kernel
theorem dX8_isRankedWrong_70 : decode cX8_isRankedWrong 70 = .ok (.iconst 0, 1) := by decide +kernel
theorem dX8_isRankedWrong_71 : decode cX8_isRankedWrong 71 = .ok (.ireturn, 1) := by decide +kernel
theorem dX8_lightOf_0 : decode cX8_lightOf 0 = .ok (.aload_n 0, 1) := by decide +kernel
theorem dX8_lightOf_1 : decode cX8_lightOf 1 = .ok (.getfield 18, 3) := by decide +kernel
theorem dX8_lightOf_4 : decode cX8_lightOf 4 = .ok (.iload_n 1, 1) := by decide +kernel
theorem dX8_lightOf_5 : decode cX8_lightOf 5 = .ok (.aaload, 1) := by decide +kernel
theorem dX8_lightOf_6 : decode cX8_lightOf 6 = .ok (.getfield 95, 3) := by decide +kernel
theorem dX8_lightOf_9 : decode cX8_lightOf 9 = .ok (.aload_n 0, 1) := by decide +kernel
theorem dX8_lightOf_10 : decode cX8_lightOf 10 = .ok (.getfield 58, 3) := by decide +kernel
theorem dX8_lightOf_13 : decode cX8_lightOf 13 = .ok (.iload_n 1, 1) := by decide +kernel
theorem dX8_lightOf_14 : decode cX8_lightOf 14 = .ok (.aaload, 1) := by decide +kernel
theorem dX8_lightOf_15 : decode cX8_lightOf 15 = .ok (.getfield 176, 3) := by decide +kernel
theorem dX8_lightOf_18 : decode cX8_lightOf 18 = .ok (.iload_n 2, 1) := by decide +kernel
theorem dX8_lightOf_19 : decode cX8_lightOf 19 = .ok (.iaload, 1) := by decide +kernel
theorem dX8_lightOf_20 : decode cX8_lightOf 20 = .ok (.iaload, 1) := by decide +kernel
theorem dX8_lightOf_21 : decode cX8_lightOf 21 = .ok (.ireturn, 1) := by decide +kernel
theorem dX8_isInBoth_0 : decode cX8_isInBoth 0 = .ok (.aload_n 0, 1) := by decide +kernel
theorem dX8_isInBoth_1 : decode cX8_isInBoth 1 = .ok (.getfield 58, 3) := by decide +kernel
theorem dX8_isInBoth_4 : decode cX8_isInBoth 4 = .ok (.iconst 0, 1) := by decide +kernel
theorem dX8_isInBoth_5 : decode cX8_isInBoth 5 = .ok (.aaload, 1) := by decide +kernel
theorem dX8_isInBoth_6 : decode cX8_isInBoth 6 = .ok (.iload_n 1, 1) := by decide +kernel
theorem dX8_isInBoth_7 : decode cX8_isInBoth 7 = .ok (.invokevirtual 208, 3) := by decide +kernel
theorem dX8_isInBoth_10 : decode cX8_isInBoth 10 = .ok (.ifCond .eq 20, 3) := by decide +kernel
theorem dX8_isInBoth_13 : decode cX8_isInBoth 13 = .ok (.aload_n 0, 1) := by decide +kernel
theorem dX8_isInBoth_14 : decode cX8_isInBoth 14 = .ok (.getfield 58, 3) := by decide +kernel
theorem dX8_isInBoth_17 : decode cX8_isInBoth 17 = .ok (.iconst 1, 1) := by decide +kernel
theorem dX8_isInBoth_18 : decode cX8_isInBoth 18 = .ok (.aaload, 1) := by decide +kernel
theorem dX8_isInBoth_19 : decode cX8_isInBoth 19 = .ok (.iload_n 1, 1) := by decide +kernel
theorem dX8_isInBoth_20 : decode cX8_isInBoth 20 = .ok (.invokevirtual 208, 3) := by decide +kernel
theorem dX8_isInBoth_23 : decode cX8_isInBoth 23 = .ok (.ifCond .eq 7, 3) := by decide +kernel
theorem dX8_isInBoth_26 : decode cX8_isInBoth 26 = .ok (.iconst 1, 1) := by decide +kernel
theorem dX8_isInBoth_27 : decode cX8_isInBoth 27 = .ok (.goto 4, 3) := by decide +kernel
theorem dX8_isInBoth_30 : decode cX8_isInBoth 30 = .ok (.iconst 0, 1) := by decide +kernel
theorem dX8_isInBoth_31 : decode cX8_isInBoth 31 = .ok (.ireturn, 1) := by decide +kernel
theorem dX8_isBlinking_0 : decode cX8_isBlinking 0 = .ok (.aload_n 0, 1) := by decide +kernel
theorem dX8_isBlinking_1 : decode cX8_isBlinking 1 = .ok (.iload_n 1, 1) := by decide +kernel
theorem dX8_isBlinking_2 : decode cX8_isBlinking 2 = .ok (.invokevirtual 221, 3) := by decide +kernel
theorem dX8_isBlinking_5 : decode cX8_isBlinking 5 = .ok (.ifCond .ne 35, 3) := by decide +kernel
theorem dX8_isBlinking_8 : decode cX8_isBlinking 8 = .ok (.aload_n 0, 1) := by decide +kernel
theorem dX8_isBlinking_9 : decode cX8_isBlinking 9 = .ok (.getfield 58, 3) := by decide +kernel
theorem dX8_isBlinking_12 : decode cX8_isBlinking 12 = .ok (.iconst 0, 1) := by decide +kernel
theorem dX8_isBlinking_13 : decode cX8_isBlinking 13 = .ok (.aaload, 1) := by decide +kernel
theorem dX8_isBlinking_14 : decode cX8_isBlinking 14 = .ok (.iload_n 1, 1) := by decide +kernel
theorem dX8_isBlinking_15 : decode cX8_isBlinking 15 = .ok (.invokevirtual 208, 3) := by decide +kernel
theorem dX8_isBlinking_18 : decode cX8_isBlinking 18 = .ok (.ifCond .ne 16, 3) := by decide +kernel
theorem dX8_isBlinking_21 : decode cX8_isBlinking 21 = .ok (.aload_n 0, 1) := by decide +kernel
theorem dX8_isBlinking_22 : decode cX8_isBlinking 22 = .ok (.getfield 58, 3) := by decide +kernel
theorem dX8_isBlinking_25 : decode cX8_isBlinking 25 = .ok (.iconst 1, 1) := by decide +kernel
theorem dX8_isBlinking_26 : decode cX8_isBlinking 26 = .ok (.aaload, 1) := by decide +kernel
theorem dX8_isBlinking_27 : decode cX8_isBlinking 27 = .ok (.iload_n 1, 1) := by decide +kernel
theorem dX8_isBlinking_28 : decode cX8_isBlinking 28 = .ok (.invokevirtual 208, 3) := by decide +kernel
theorem dX8_isBlinking_31 : decode cX8_isBlinking 31 = .ok (.ifCond .eq 7, 3) := by decide +kernel
theorem dX8_isBlinking_34 : decode cX8_isBlinking 34 = .ok (.iconst 1, 1) := by decide +kernel
theorem dX8_isBlinking_35 : decode cX8_isBlinking 35 = .ok (.goto 4, 3) := by decide +kernel
theorem dX8_isBlinking_38 : decode cX8_isBlinking 38 = .ok (.iconst 0, 1) := by decide +kernel
theorem dX8_isBlinking_39 : decode cX8_isBlinking 39 = .ok (.ireturn, 1) := by decide +kernel
theorem dX8_isBlinking_40 : decode cX8_isBlinking 40 = .ok (.aload_n 0, 1) := by decide +kernel
theorem dX8_isBlinking_41 : decode cX8_isBlinking 41 = .ok (.iconst 0, 1) := by decide +kernel
theorem dX8_isBlinking_42 : decode cX8_isBlinking 42 = .ok (.iload_n 1, 1) := by decide +kernel
theorem dX8_isBlinking_43 : decode cX8_isBlinking 43 = .ok (.invokevirtual 295, 3) := by decide +kernel
theorem dX8_isBlinking_46 : decode cX8_isBlinking 46 = .ok (.aload_n 0, 1) := by decide +kernel
theorem dX8_isBlinking_47 : decode cX8_isBlinking 47 = .ok (.iconst 1, 1) := by decide +kernel
theorem dX8_isBlinking_48 : decode cX8_isBlinking 48 = .ok (.iload_n 1, 1) := by decide +kernel
theorem dX8_isBlinking_49 : decode cX8_isBlinking 49 = .ok (.invokevirtual 295, 3) := by decide +kernel
theorem dX8_isBlinking_52 : decode cX8_isBlinking 52 = .ok (.isub, 1) := by decide +kernel
theorem dX8_isBlinking_53 : decode cX8_isBlinking 53 = .ok (.invokestatic 298, 3) := by decide +kernel
theorem dX8_isBlinking_56 : decode cX8_isBlinking 56 = .ok (.aload_n 0, 1) := by decide +kernel
theorem dX8_isBlinking_57 : decode cX8_isBlinking 57 = .ok (.getfield 37, 3) := by decide +kernel
theorem dX8_isBlinking_60 : decode cX8_isBlinking 60 = .ok (.iconst 3, 1) := by decide +kernel
theorem dX8_isBlinking_61 : decode cX8_isBlinking 61 = .ok (.iaload, 1) := by decide +kernel
theorem dX8_isBlinking_62 : decode cX8_isBlinking 62 = .ok (.if_icmp .lt 7, 3) := by decide +kernel
theorem dX8_isBlinking_65 : decode cX8_isBlinking 65 = .ok (.iconst 1, 1) := by decide +kernel
theorem dX8_isBlinking_66 : decode cX8_isBlinking 66 = .ok (.goto 4, 3) := by decide +kernel
theorem dX8_isBlinking_69 : decode cX8_isBlinking 69 = .ok (.iconst 0, 1) := by decide +kernel
theorem dX8_isBlinking_70 : decode cX8_isBlinking 70 = .ok (.ireturn, 1) := by decide +kernel
theorem dX8_fitPlates_0 : decode cX8_fitPlates 0 = .ok (.aload_n 0, 1) := by decide +kernel
theorem dX8_fitPlates_1 : decode cX8_fitPlates 1 = .ok (.getfield 65, 3) := by decide +kernel
theorem dX8_fitPlates_4 : decode cX8_fitPlates 4 = .ok (.invokevirtual 282, 3) := by decide +kernel
theorem dX8_fitPlates_7 : decode cX8_fitPlates 7 = .ok (.iconst 0, 1) := by decide +kernel
theorem dX8_fitPlates_8 : decode cX8_fitPlates 8 = .ok (.istore_n 1, 1) := by decide +kernel
theorem dX8_fitPlates_9 : decode cX8_fitPlates 9 = .ok (.iload_n 1, 1) := by decide +kernel
theorem dX8_fitPlates_10 : decode cX8_fitPlates 10 = .ok (.aload_n 0, 1) := by decide +kernel
theorem dX8_fitPlates_11 : decode cX8_fitPlates 11 = .ok (.getfield 14, 3) := by decide +kernel
theorem dX8_fitPlates_14 : decode cX8_fitPlates 14 = .ok (.getfield 215, 3) := by decide +kernel
theorem dX8_fitPlates_17 : decode cX8_fitPlates 17 = .ok (.if_icmp .ge 95, 3) := by decide +kernel
theorem dX8_fitPlates_20 : decode cX8_fitPlates 20 = .ok (.aload_n 0, 1) := by decide +kernel
theorem dX8_fitPlates_21 : decode cX8_fitPlates 21 = .ok (.iload_n 1, 1) := by decide +kernel
theorem dX8_fitPlates_22 : decode cX8_fitPlates 22 = .ok (.invokevirtual 221, 3) := by decide +kernel
theorem dX8_fitPlates_25 : decode cX8_fitPlates 25 = .ok (.ifCond .ne 6, 3) := by decide +kernel
theorem dX8_fitPlates_28 : decode cX8_fitPlates 28 = .ok (.goto 78, 3) := by decide +kernel
theorem dX8_fitPlates_31 : decode cX8_fitPlates 31 = .ok (.aload_n 0, 1) := by decide +kernel
theorem dX8_fitPlates_32 : decode cX8_fitPlates 32 = .ok (.getfield 58, 3) := by decide +kernel
theorem dX8_fitPlates_35 : decode cX8_fitPlates 35 = .ok (.iconst 0, 1) := by decide +kernel
theorem dX8_fitPlates_36 : decode cX8_fitPlates 36 = .ok (.aaload, 1) := by decide +kernel
theorem dX8_fitPlates_37 : decode cX8_fitPlates 37 = .ok (.getfield 176, 3) := by decide +kernel
theorem dX8_fitPlates_40 : decode cX8_fitPlates 40 = .ok (.iload_n 1, 1) := by decide +kernel
theorem dX8_fitPlates_41 : decode cX8_fitPlates 41 = .ok (.iaload, 1) := by decide +kernel
theorem dX8_fitPlates_42 : decode cX8_fitPlates 42 = .ok (.istore_n 2, 1) := by decide +kernel
theorem dX8_fitPlates_43 : decode cX8_fitPlates 43 = .ok (.aload_n 0, 1) := by decide +kernel
theorem dX8_fitPlates_44 : decode cX8_fitPlates 44 = .ok (.getfield 58, 3) := by decide +kernel
theorem dX8_fitPlates_47 : decode cX8_fitPlates 47 = .ok (.iconst 1, 1) := by decide +kernel
theorem dX8_fitPlates_48 : decode cX8_fitPlates 48 = .ok (.aaload, 1) := by decide +kernel
theorem dX8_fitPlates_49 : decode cX8_fitPlates 49 = .ok (.getfield 176, 3) := by decide +kernel
theorem dX8_fitPlates_52 : decode cX8_fitPlates 52 = .ok (.iload_n 1, 1) := by decide +kernel
theorem dX8_fitPlates_53 : decode cX8_fitPlates 53 = .ok (.iaload, 1) := by decide +kernel
theorem dX8_fitPlates_54 : decode cX8_fitPlates 54 = .ok (.istore_n 3, 1) := by decide +kernel
theorem dX8_fitPlates_55 : decode cX8_fitPlates 55 = .ok (.aload_n 0, 1) := by decide +kernel
theorem dX8_fitPlates_56 : decode cX8_fitPlates 56 = .ok (.getfield 65, 3) := by decide +kernel
theorem dX8_fitPlates_59 : decode cX8_fitPlates 59 = .ok (.aload_n 0, 1) := by decide +kernel
theorem dX8_fitPlates_60 : decode cX8_fitPlates 60 = .ok (.getfield 18, 3) := by decide +kernel
theorem dX8_fitPlates_63 : decode cX8_fitPlates 63 = .ok (.iconst 0, 1) := by decide +kernel
theorem dX8_fitPlates_64 : decode cX8_fitPlates 64 = .ok (.aaload, 1) := by decide +kernel
theorem dX8_fitPlates_65 : decode cX8_fitPlates 65 = .ok (.getfield 198, 3) := by decide +kernel
theorem dX8_fitPlates_68 : decode cX8_fitPlates 68 = .ok (.iload_n 2, 1) := by decide +kernel
theorem dX8_fitPlates_69 : decode cX8_fitPlates 69 = .ok (.iaload, 1) := by decide +kernel
theorem dX8_fitPlates_70 : decode cX8_fitPlates 70 = .ok (.aload_n 0, 1) := by decide +kernel
theorem dX8_fitPlates_71 : decode cX8_fitPlates 71 = .ok (.getfield 18, 3) := by decide +kernel
theorem dX8_fitPlates_74 : decode cX8_fitPlates 74 = .ok (.iconst 0, 1) := by decide +kernel
theorem dX8_fitPlates_75 : decode cX8_fitPlates 75 = .ok (.aaload, 1) := by decide +kernel
theorem dX8_fitPlates_76 : decode cX8_fitPlates 76 = .ok (.getfield 201, 3) := by decide +kernel
theorem dX8_fitPlates_79 : decode cX8_fitPlates 79 = .ok (.iload_n 2, 1) := by decide +kernel
theorem dX8_fitPlates_80 : decode cX8_fitPlates 80 = .ok (.iaload, 1) := by decide +kernel
theorem dX8_fitPlates_81 : decode cX8_fitPlates 81 = .ok (.aload_n 0, 1) := by decide +kernel
theorem dX8_fitPlates_82 : decode cX8_fitPlates 82 = .ok (.getfield 18, 3) := by decide +kernel
theorem dX8_fitPlates_85 : decode cX8_fitPlates 85 = .ok (.iconst 1, 1) := by decide +kernel
theorem dX8_fitPlates_86 : decode cX8_fitPlates 86 = .ok (.aaload, 1) := by decide +kernel
theorem dX8_fitPlates_87 : decode cX8_fitPlates 87 = .ok (.getfield 198, 3) := by decide +kernel
theorem dX8_fitPlates_90 : decode cX8_fitPlates 90 = .ok (.iload_n 3, 1) := by decide +kernel
theorem dX8_fitPlates_91 : decode cX8_fitPlates 91 = .ok (.iaload, 1) := by decide +kernel
theorem dX8_fitPlates_92 : decode cX8_fitPlates 92 = .ok (.aload_n 0, 1) := by decide +kernel
theorem dX8_fitPlates_93 : decode cX8_fitPlates 93 = .ok (.getfield 18, 3) := by decide +kernel
theorem dX8_fitPlates_96 : decode cX8_fitPlates 96 = .ok (.iconst 1, 1) := by decide +kernel
theorem dX8_fitPlates_97 : decode cX8_fitPlates 97 = .ok (.aaload, 1) := by decide +kernel
theorem dX8_fitPlates_98 : decode cX8_fitPlates 98 = .ok (.getfield 201, 3) := by decide +kernel
theorem dX8_fitPlates_101 : decode cX8_fitPlates 101 = .ok (.iload_n 3, 1) := by decide +kernel
theorem dX8_fitPlates_102 : decode cX8_fitPlates 102 = .ok (.iaload, 1) := by decide +kernel
theorem dX8_fitPlates_103 : decode cX8_fitPlates 103 = .ok (.invokevirtual 285, 3) := by decide +kernel
theorem dX8_fitPlates_106 : decode cX8_fitPlates 106 = .ok (.iinc 1 1, 3) := by decide +kernel
theorem dX8_fitPlates_109 : decode cX8_fitPlates 109 = .ok (.goto (-100), 3) := by decide +kernel
theorem dX8_fitPlates_112 : decode cX8_fitPlates 112 = .ok (.aload_n 0, 1) := by decide +kernel
theorem dX8_fitPlates_113 : decode cX8_fitPlates 113 = .ok (.getfield 65, 3) := by decide +kernel
theorem dX8_fitPlates_116 : decode cX8_fitPlates 116 = .ok (.invokevirtual 289, 3) := by decide +kernel
theorem dX8_fitPlates_119 : decode cX8_fitPlates 119 = .ok (.ireturn, 1) := by decide +kernel
theorem dX8_findMovers_0 : decode cX8_findMovers 0 = .ok (.aload_n 0, 1) := by decide +kernel
theorem dX8_findMovers_1 : decode cX8_findMovers 1 = .ok (.getfield 72, 3) := by decide +kernel
theorem dX8_findMovers_4 : decode cX8_findMovers 4 = .ok (.iconst 0, 1) := by decide +kernel
theorem dX8_findMovers_5 : decode cX8_findMovers 5 = .ok (.putfield 231, 3) := by decide +kernel
theorem dX8_findMovers_8 : decode cX8_findMovers 8 = .ok (.aload_n 0, 1) := by decide +kernel
theorem dX8_findMovers_9 : decode cX8_findMovers 9 = .ok (.invokevirtual 224, 3) := by decide +kernel
theorem dX8_findMovers_12 : decode cX8_findMovers 12 = .ok (.ifCond .ne 4, 3) := by decide +kernel
theorem dX8_findMovers_15 : decode cX8_findMovers 15 = .ok (.return_, 1) := by decide +kernel
theorem dX8_findMovers_16 : decode cX8_findMovers 16 = .ok (.aload_n 0, 1) := by decide +kernel
theorem dX8_findMovers_17 : decode cX8_findMovers 17 = .ok (.getfield 72, 3) := by decide +kernel
theorem dX8_findMovers_20 : decode cX8_findMovers 20 = .ok (.aload_n 0, 1) := by decide +kernel
theorem dX8_findMovers_21 : decode cX8_findMovers 21 = .ok (.getfield 18, 3) := by decide +kernel
theorem dX8_findMovers_24 : decode cX8_findMovers 24 = .ok (.iconst 0, 1) := by decide +kernel
theorem dX8_findMovers_25 : decode cX8_findMovers 25 = .ok (.aaload, 1) := by decide +kernel
theorem dX8_findMovers_26 : decode cX8_findMovers 26 = .ok (.aload_n 0, 1) := by decide +kernel
theorem dX8_findMovers_27 : decode cX8_findMovers 27 = .ok (.getfield 65, 3) := by decide +kernel
theorem dX8_findMovers_30 : decode cX8_findMovers 30 = .ok (.aload_n 0, 1) := by decide +kernel
theorem dX8_findMovers_31 : decode cX8_findMovers 31 = .ok (.getfield 58, 3) := by decide +kernel
theorem dX8_findMovers_34 : decode cX8_findMovers 34 = .ok (.iconst 0, 1) := by decide +kernel
theorem dX8_findMovers_35 : decode cX8_findMovers 35 = .ok (.aaload, 1) := by decide +kernel
theorem dX8_findMovers_36 : decode cX8_findMovers 36 = .ok (.aload_n 0, 1) := by decide +kernel
theorem dX8_findMovers_37 : decode cX8_findMovers 37 = .ok (.getfield 58, 3) := by decide +kernel
theorem dX8_findMovers_40 : decode cX8_findMovers 40 = .ok (.iconst 1, 1) := by decide +kernel
theorem dX8_findMovers_41 : decode cX8_findMovers 41 = .ok (.aaload, 1) := by decide +kernel
theorem dX8_findMovers_42 : decode cX8_findMovers 42 = .ok (.invokevirtual 300, 3) := by decide +kernel
theorem dX8_findMovers_45 : decode cX8_findMovers 45 = .ok (.iconst 0, 1) := by decide +kernel
theorem dX8_findMovers_46 : decode cX8_findMovers 46 = .ok (.istore_n 1, 1) := by decide +kernel
theorem dX8_findMovers_47 : decode cX8_findMovers 47 = .ok (.iload_n 1, 1) := by decide +kernel
theorem dX8_findMovers_48 : decode cX8_findMovers 48 = .ok (.bipush 8, 2) := by decide +kernel
theorem dX8_findMovers_50 : decode cX8_findMovers 50 = .ok (.if_icmp .ge 43, 3) := by decide +kernel
theorem dX8_findMovers_53 : decode cX8_findMovers 53 = .ok (.aload_n 0, 1) := by decide +kernel
theorem dX8_findMovers_54 : decode cX8_findMovers 54 = .ok (.getfield 72, 3) := by decide +kernel
theorem dX8_findMovers_57 : decode cX8_findMovers 57 = .ok (.aload_n 0, 1) := by decide +kernel
theorem dX8_findMovers_58 : decode cX8_findMovers 58 = .ok (.getfield 18, 3) := by decide +kernel
theorem dX8_findMovers_61 : decode cX8_findMovers 61 = .ok (.iconst 0, 1) := by decide +kernel
theorem dX8_findMovers_62 : decode cX8_findMovers 62 = .ok (.aaload, 1) := by decide +kernel
theorem dX8_findMovers_63 : decode cX8_findMovers 63 = .ok (.getfield 215, 3) := by decide +kernel
theorem dX8_findMovers_66 : decode cX8_findMovers 66 = .ok (.aload_n 0, 1) := by decide +kernel
theorem dX8_findMovers_67 : decode cX8_findMovers 67 = .ok (.getfield 18, 3) := by decide +kernel
theorem dX8_findMovers_70 : decode cX8_findMovers 70 = .ok (.iconst 1, 1) := by decide +kernel
theorem dX8_findMovers_71 : decode cX8_findMovers 71 = .ok (.aaload, 1) := by decide +kernel
theorem dX8_findMovers_72 : decode cX8_findMovers 72 = .ok (.aload_n 0, 1) := by decide +kernel
theorem dX8_findMovers_73 : decode cX8_findMovers 73 = .ok (.getfield 37, 3) := by decide +kernel
theorem dX8_findMovers_76 : decode cX8_findMovers 76 = .ok (.iconst 2, 1) := by decide +kernel
theorem dX8_findMovers_77 : decode cX8_findMovers 77 = .ok (.iaload, 1) := by decide +kernel
theorem dX8_findMovers_78 : decode cX8_findMovers 78 = .ok (.invokevirtual 303, 3) := by decide +kernel
theorem dX8_findMovers_81 : decode cX8_findMovers 81 = .ok (.ifCond .ne 6, 3) := by decide +kernel
theorem dX8_findMovers_84 : decode cX8_findMovers 84 = .ok (.goto 9, 3) := by decide +kernel
theorem dX8_findMovers_87 : decode cX8_findMovers 87 = .ok (.iinc 1 1, 3) := by decide +kernel
theorem dX8_findMovers_90 : decode cX8_findMovers 90 = .ok (.goto (-43), 3) := by decide +kernel
theorem dX8_findMovers_93 : decode cX8_findMovers 93 = .ok (.return_, 1) := by decide +kernel
theorem dX8_traysThere_0 : decode cX8_traysThere 0 = .ok (.iconst 0, 1) := by decide +kernel
theorem dX8_traysThere_1 : decode cX8_traysThere 1 = .ok (.istore_n 1, 1) := by decide +kernel
theorem dX8_traysThere_2 : decode cX8_traysThere 2 = .ok (.iconst 0, 1) := by decide +kernel
theorem dX8_traysThere_3 : decode cX8_traysThere 3 = .ok (.istore_n 2, 1) := by decide +kernel
theorem dX8_traysThere_4 : decode cX8_traysThere 4 = .ok (.iload_n 2, 1) := by decide +kernel
theorem dX8_traysThere_5 : decode cX8_traysThere 5 = .ok (.iconst 3, 1) := by decide +kernel
theorem dX8_traysThere_6 : decode cX8_traysThere 6 = .ok (.if_icmp .ge 24, 3) := by decide +kernel
theorem dX8_traysThere_9 : decode cX8_traysThere 9 = .ok (.aload_n 0, 1) := by decide +kernel
theorem dX8_traysThere_10 : decode cX8_traysThere 10 = .ok (.getfield 32, 3) := by decide +kernel
theorem dX8_traysThere_13 : decode cX8_traysThere 13 = .ok (.iload_n 2, 1) := by decide +kernel
theorem dX8_traysThere_14 : decode cX8_traysThere 14 = .ok (.aaload, 1) := by decide +kernel
theorem dX8_traysThere_15 : decode cX8_traysThere 15 = .ok (.getfield 307, 3) := by decide +kernel
theorem dX8_traysThere_18 : decode cX8_traysThere 18 = .ok (.ifCond .eq 6, 3) := by decide +kernel
theorem dX8_traysThere_21 : decode cX8_traysThere 21 = .ok (.iinc 1 1, 3) := by decide +kernel
theorem dX8_traysThere_24 : decode cX8_traysThere 24 = .ok (.iinc 2 1, 3) := by decide +kernel
theorem dX8_traysThere_27 : decode cX8_traysThere 27 = .ok (.goto (-23), 3) := by decide +kernel
theorem dX8_traysThere_30 : decode cX8_traysThere 30 = .ok (.iload_n 1, 1) := by decide +kernel
theorem dX8_traysThere_31 : decode cX8_traysThere 31 = .ok (.ireturn, 1) := by decide +kernel
theorem dX8_copiesKept_0 : decode cX8_copiesKept 0 = .ok (.iconst 0, 1) := by decide +kernel
theorem dX8_copiesKept_1 : decode cX8_copiesKept 1 = .ok (.istore_n 1, 1) := by decide +kernel
theorem dX8_copiesKept_2 : decode cX8_copiesKept 2 = .ok (.iconst 0, 1) := by decide +kernel
theorem dX8_copiesKept_3 : decode cX8_copiesKept 3 = .ok (.istore_n 2, 1) := by decide +kernel
theorem dX8_copiesKept_4 : decode cX8_copiesKept 4 = .ok (.iload_n 2, 1) := by decide +kernel
theorem dX8_copiesKept_5 : decode cX8_copiesKept 5 = .ok (.iconst 2, 1) := by decide +kernel
theorem dX8_copiesKept_6 : decode cX8_copiesKept 6 = .ok (.if_icmp .ge 21, 3) := by decide +kernel
theorem dX8_copiesKept_9 : decode cX8_copiesKept 9 = .ok (.aload_n 0, 1) := by decide +kernel
theorem dX8_copiesKept_10 : decode cX8_copiesKept 10 = .ok (.getfield 25, 3) := by decide +kernel
theorem dX8_copiesKept_13 : decode cX8_copiesKept 13 = .ok (.iload_n 2, 1) := by decide +kernel
theorem dX8_copiesKept_14 : decode cX8_copiesKept 14 = .ok (.baload, 1) := by decide +kernel
theorem dX8_copiesKept_15 : decode cX8_copiesKept 15 = .ok (.ifCond .eq 6, 3) := by decide +kernel
theorem dX8_copiesKept_18 : decode cX8_copiesKept 18 = .ok (.iinc 1 1, 3) := by decide +kernel
theorem dX8_copiesKept_21 : decode cX8_copiesKept 21 = .ok (.iinc 2 1, 3) := by decide +kernel
theorem dX8_copiesKept_24 : decode cX8_copiesKept 24 = .ok (.goto (-20), 3) := by decide +kernel
theorem dX8_copiesKept_27 : decode cX8_copiesKept 27 = .ok (.iload_n 1, 1) := by decide +kernel
theorem dX8_copiesKept_28 : decode cX8_copiesKept 28 = .ok (.ireturn, 1) := by decide +kernel
