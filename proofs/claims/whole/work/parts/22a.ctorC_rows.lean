theorem dX4_init_0 : decode cX4_init 0 = .ok (.aload_n 0, 1) := by decide +kernel
theorem dX4_init_1 : decode cX4_init 1 = .ok (.invokespecial 1, 3) := by decide +kernel
theorem dX4_init_4 : decode cX4_init 4 = .ok (.aload_n 0, 1) := by decide +kernel
theorem dX4_init_5 : decode cX4_init 5 = .ok (.iconst 3, 1) := by decide +kernel
theorem dX4_init_6 : decode cX4_init 6 = .ok (.newarray .int, 2) := by decide +kernel
theorem dX4_init_8 : decode cX4_init 8 = .ok (.dup, 1) := by decide +kernel
theorem dX4_init_9 : decode cX4_init 9 = .ok (.iconst 0, 1) := by decide +kernel
theorem dX4_init_10 : decode cX4_init 10 = .ok (.iconst 5, 1) := by decide +kernel
theorem dX4_init_11 : decode cX4_init 11 = .ok (.iastore, 1) := by decide +kernel
theorem dX4_init_12 : decode cX4_init 12 = .ok (.dup, 1) := by decide +kernel
theorem dX4_init_13 : decode cX4_init 13 = .ok (.iconst 1, 1) := by decide +kernel
theorem dX4_init_14 : decode cX4_init 14 = .ok (.bipush 7, 2) := by decide +kernel
theorem dX4_init_16 : decode cX4_init 16 = .ok (.iastore, 1) := by decide +kernel
theorem dX4_init_17 : decode cX4_init 17 = .ok (.dup, 1) := by decide +kernel
theorem dX4_init_18 : decode cX4_init 18 = .ok (.iconst 2, 1) := by decide +kernel
theorem dX4_init_19 : decode cX4_init 19 = .ok (.bipush 26, 2) := by decide +kernel
theorem dX4_init_21 : decode cX4_init 21 = .ok (.iastore, 1) := by decide +kernel
theorem dX4_init_22 : decode cX4_init 22 = .ok (.putfield 7, 3) := by decide +kernel
theorem dX4_init_25 : decode cX4_init 25 = .ok (.aload_n 0, 1) := by decide +kernel
theorem dX4_init_26 : decode cX4_init 26 = .ok (.bipush 12, 2) := by decide +kernel
theorem dX4_init_28 : decode cX4_init 28 = .ok (.newarray .long, 2) := by decide +kernel
theorem dX4_init_30 : decode cX4_init 30 = .ok (.dup, 1) := by decide +kernel
theorem dX4_init_31 : decode cX4_init 31 = .ok (.iconst 0, 1) := by decide +kernel
theorem dX4_init_32 : decode cX4_init 32 = .ok (.ldc2_w 13, 3) := by decide +kernel
theorem dX4_init_35 : decode cX4_init 35 = .ok (.lastore, 1) := by decide +kernel
theorem dX4_init_36 : decode cX4_init 36 = .ok (.dup, 1) := by decide +kernel
theorem dX4_init_37 : decode cX4_init 37 = .ok (.iconst 1, 1) := by decide +kernel
theorem dX4_init_38 : decode cX4_init 38 = .ok (.ldc2_w 15, 3) := by decide +kernel
theorem dX4_init_41 : decode cX4_init 41 = .ok (.lastore, 1) := by decide +kernel
theorem dX4_init_42 : decode cX4_init 42 = .ok (.dup, 1) := by decide +kernel
theorem dX4_init_43 : decode cX4_init 43 = .ok (.iconst 2, 1) := by decide +kernel
theorem dX4_init_44 : decode cX4_init 44 = .ok (.ldc2_w 17, 3) := by decide +kernel
theorem dX4_init_47 : decode cX4_init 47 = .ok (.lastore, 1) := by decide +kernel
theorem dX4_init_48 : decode cX4_init 48 = .ok (.dup, 1) := by decide +kernel
theorem dX4_init_49 : decode cX4_init 49 = .ok (.iconst 3, 1) := by decide +kernel
theorem dX4_init_50 : decode cX4_init 50 = .ok (.ldc2_w 19, 3) := by decide +kernel
theorem dX4_init_53 : decode cX4_init 53 = .ok (.lastore, 1) := by decide +kernel
theorem dX4_init_54 : decode cX4_init 54 = .ok (.dup, 1) := by decide +kernel
theorem dX4_init_55 : decode cX4_init 55 = .ok (.iconst 4, 1) := by decide +kernel
theorem dX4_init_56 : decode cX4_init 56 = .ok (.ldc2_w 21, 3) := by decide +kernel
theorem dX4_init_59 : decode cX4_init 59 = .ok (.lastore, 1) := by decide +kernel
theorem dX4_init_60 : decode cX4_init 60 = .ok (.dup, 1) := by decide +kernel
theorem dX4_init_61 : decode cX4_init 61 = .ok (.iconst 5, 1) := by decide +kernel
theorem dX4_init_62 : decode cX4_init 62 = .ok (.ldc2_w 23, 3) := by decide +kernel
theorem dX4_init_65 : decode cX4_init 65 = .ok (.lastore, 1) := by decide +kernel
theorem dX4_init_66 : decode cX4_init 66 = .ok (.dup, 1) := by decide +kernel
theorem dX4_init_67 : decode cX4_init 67 = .ok (.bipush 6, 2) := by decide +kernel
theorem dX4_init_69 : decode cX4_init 69 = .ok (.ldc2_w 25, 3) := by decide +kernel
theorem dX4_init_72 : decode cX4_init 72 = .ok (.lastore, 1) := by decide +kernel
theorem dX4_init_73 : decode cX4_init 73 = .ok (.dup, 1) := by decide +kernel
theorem dX4_init_74 : decode cX4_init 74 = .ok (.bipush 7, 2) := by decide +kernel
theorem dX4_init_76 : decode cX4_init 76 = .ok (.ldc2_w 27, 3) := by decide +kernel
theorem dX4_init_79 : decode cX4_init 79 = .ok (.lastore, 1) := by decide +kernel
theorem dX4_init_80 : decode cX4_init 80 = .ok (.dup, 1) := by decide +kernel
theorem dX4_init_81 : decode cX4_init 81 = .ok (.bipush 8, 2) := by decide +kernel
theorem dX4_init_83 : decode cX4_init 83 = .ok (.ldc2_w 29, 3) := by decide +kernel
theorem dX4_init_86 : decode cX4_init 86 = .ok (.lastore, 1) := by decide +kernel
theorem dX4_init_87 : decode cX4_init 87 = .ok (.dup, 1) := by decide +kernel
theorem dX4_init_88 : decode cX4_init 88 = .ok (.bipush 9, 2) := by decide +kernel
theorem dX4_init_90 : decode cX4_init 90 = .ok (.ldc2_w 31, 3) := by decide +kernel
theorem dX4_init_93 : decode cX4_init 93 = .ok (.lastore, 1) := by decide +kernel
theorem dX4_init_94 : decode cX4_init 94 = .ok (.dup, 1) := by decide +kernel
theorem dX4_init_95 : decode cX4_init 95 = .ok (.bipush 10, 2) := by decide +kernel
theorem dX4_init_97 : decode cX4_init 97 = .ok (.ldc2_w 33, 3) := by decide +kernel
theorem dX4_init_100 : decode cX4_init 100 = .ok (.lastore, 1) := by decide +kernel
theorem dX4_init_101 : decode cX4_init 101 = .ok (.dup, 1) := by decide +kernel
theorem dX4_init_102 : decode cX4_init 102 = .ok (.bipush 11, 2) := by decide +kernel
theorem dX4_init_104 : decode cX4_init 104 = .ok (.ldc2_w 35, 3) := by decide +kernel
theorem dX4_init_107 : decode cX4_init 107 = .ok (.lastore, 1) := by decide +kernel
theorem dX4_init_108 : decode cX4_init 108 = .ok (.putfield 37, 3) := by decide +kernel
theorem dX4_init_111 : decode cX4_init 111 = .ok (.aload_n 0, 1) := by decide +kernel
theorem dX4_init_112 : decode cX4_init 112 = .ok (.bipush 78, 2) := by decide +kernel
theorem dX4_init_114 : decode cX4_init 114 = .ok (.newarray .int, 2) := by decide +kernel
theorem dX4_init_116 : decode cX4_init 116 = .ok (.putfield 41, 3) := by decide +kernel
theorem dX4_init_119 : decode cX4_init 119 = .ok (.aload_n 0, 1) := by decide +kernel
theorem dX4_init_120 : decode cX4_init 120 = .ok (.bipush 78, 2) := by decide +kernel
theorem dX4_init_122 : decode cX4_init 122 = .ok (.newarray .int, 2) := by decide +kernel
theorem dX4_init_124 : decode cX4_init 124 = .ok (.putfield 44, 3) := by decide +kernel
theorem dX4_init_127 : decode cX4_init 127 = .ok (.aload_n 0, 1) := by decide +kernel
theorem dX4_init_128 : decode cX4_init 128 = .ok (.iconst 3, 1) := by decide +kernel
theorem dX4_init_129 : decode cX4_init 129 = .ok (.newarray .int, 2) := by decide +kernel
theorem dX4_init_131 : decode cX4_init 131 = .ok (.putfield 47, 3) := by decide +kernel
theorem dX4_init_134 : decode cX4_init 134 = .ok (.aload_n 0, 1) := by decide +kernel
theorem dX4_init_135 : decode cX4_init 135 = .ok (.iconst 3, 1) := by decide +kernel
theorem dX4_init_136 : decode cX4_init 136 = .ok (.newarray .boolean, 2) := by decide +kernel
theorem dX4_init_138 : decode cX4_init 138 = .ok (.putfield 50, 3) := by decide +kernel
theorem dX4_init_141 : decode cX4_init 141 = .ok (.aload_n 0, 1) := by decide +kernel
theorem dX4_init_142 : decode cX4_init 142 = .ok (.bipush 10, 2) := by decide +kernel
theorem dX4_init_144 : decode cX4_init 144 = .ok (.newarray .int, 2) := by decide +kernel
theorem dX4_init_146 : decode cX4_init 146 = .ok (.putfield 54, 3) := by decide +kernel
theorem dX4_init_149 : decode cX4_init 149 = .ok (.aload_n 0, 1) := by decide +kernel
theorem dX4_init_150 : decode cX4_init 150 = .ok (.bipush 10, 2) := by decide +kernel
theorem dX4_init_152 : decode cX4_init 152 = .ok (.newarray .int, 2) := by decide +kernel
theorem dX4_init_154 : decode cX4_init 154 = .ok (.putfield 57, 3) := by decide +kernel
theorem dX4_init_157 : decode cX4_init 157 = .ok (.aload_n 0, 1) := by decide +kernel
theorem dX4_init_158 : decode cX4_init 158 = .ok (.iconst 2, 1) := by decide +kernel
theorem dX4_init_159 : decode cX4_init 159 = .ok (.newarray .int, 2) := by decide +kernel
theorem dX4_init_161 : decode cX4_init 161 = .ok (.putfield 60, 3) := by decide +kernel
theorem dX4_init_164 : decode cX4_init 164 = .ok (.aload_n 0, 1) := by decide +kernel
theorem dX4_init_165 : decode cX4_init 165 = .ok (.sipush 240, 3) := by decide +kernel
theorem dX4_init_168 : decode cX4_init 168 = .ok (.newarray .int, 2) := by decide +kernel
theorem dX4_init_170 : decode cX4_init 170 = .ok (.putfield 63, 3) := by decide +kernel
theorem dX4_init_173 : decode cX4_init 173 = .ok (.aload_n 0, 1) := by decide +kernel
theorem dX4_init_174 : decode cX4_init 174 = .ok (.bipush (-4), 2) := by decide +kernel
theorem dX4_init_176 : decode cX4_init 176 = .ok (.putfield 66, 3) := by decide +kernel
theorem dX4_init_179 : decode cX4_init 179 = .ok (.aload_n 0, 1) := by decide +kernel
theorem dX4_init_180 : decode cX4_init 180 = .ok (.iconst 4, 1) := by decide +kernel
theorem dX4_init_181 : decode cX4_init 181 = .ok (.newarray .int, 2) := by decide +kernel
theorem dX4_init_183 : decode cX4_init 183 = .ok (.putfield 70, 3) := by decide +kernel
theorem dX4_init_186 : decode cX4_init 186 = .ok (.aload_n 0, 1) := by decide +kernel
theorem dX4_init_187 : decode cX4_init 187 = .ok (.bipush 30, 2) := by decide +kernel
theorem dX4_init_189 : decode cX4_init 189 = .ok (.newarray .int, 2) := by decide +kernel
theorem dX4_init_191 : decode cX4_init 191 = .ok (.putfield 73, 3) := by decide +kernel
theorem dX4_init_194 : decode cX4_init 194 = .ok (.aload_n 0, 1) := by decide +kernel
theorem dX4_init_195 : decode cX4_init 195 = .ok (.iconst 4, 1) := by decide +kernel
theorem dX4_init_196 : decode cX4_init 196 = .ok (.newarray .int, 2) := by decide +kernel
theorem dX4_init_198 : decode cX4_init 198 = .ok (.putfield 76, 3) := by decide +kernel
theorem dX4_init_201 : decode cX4_init 201 = .ok (.iconst 0, 1) := by decide +kernel
theorem dX4_init_202 : decode cX4_init 202 = .ok (.istore_n 1, 1) := by decide +kernel
theorem dX4_init_203 : decode cX4_init 203 = .ok (.iload_n 1, 1) := by decide +kernel
theorem dX4_init_204 : decode cX4_init 204 = .ok (.iconst 3, 1) := by decide +kernel
theorem dX4_init_205 : decode cX4_init 205 = .ok (.if_icmp .ge 47, 3) := by decide +kernel
theorem dX4_init_208 : decode cX4_init 208 = .ok (.iconst 0, 1) := by decide +kernel
theorem dX4_init_209 : decode cX4_init 209 = .ok (.istore_n 2, 1) := by decide +kernel
theorem dX4_init_210 : decode cX4_init 210 = .ok (.iload_n 2, 1) := by decide +kernel
theorem dX4_init_211 : decode cX4_init 211 = .ok (.bipush 26, 2) := by decide +kernel
theorem dX4_init_213 : decode cX4_init 213 = .ok (.if_icmp .ge 33, 3) := by decide +kernel
theorem dX4_init_216 : decode cX4_init 216 = .ok (.aload_n 0, 1) := by decide +kernel
theorem dX4_init_217 : decode cX4_init 217 = .ok (.getfield 41, 3) := by decide +kernel
theorem dX4_init_220 : decode cX4_init 220 = .ok (.bipush 26, 2) := by decide +kernel
theorem dX4_init_222 : decode cX4_init 222 = .ok (.iload_n 1, 1) := by decide +kernel
theorem dX4_init_223 : decode cX4_init 223 = .ok (.imul, 1) := by decide +kernel
theorem dX4_init_224 : decode cX4_init 224 = .ok (.iload_n 2, 1) := by decide +kernel
theorem dX4_init_225 : decode cX4_init 225 = .ok (.iadd, 1) := by decide +kernel
theorem dX4_init_226 : decode cX4_init 226 = .ok (.iload_n 2, 1) := by decide +kernel
theorem dX4_init_227 : decode cX4_init 227 = .ok (.iastore, 1) := by decide +kernel
theorem dX4_init_228 : decode cX4_init 228 = .ok (.aload_n 0, 1) := by decide +kernel
theorem dX4_init_229 : decode cX4_init 229 = .ok (.getfield 44, 3) := by decide +kernel
theorem dX4_init_232 : decode cX4_init 232 = .ok (.bipush 26, 2) := by decide +kernel
theorem dX4_init_234 : decode cX4_init 234 = .ok (.iload_n 1, 1) := by decide +kernel
theorem dX4_init_235 : decode cX4_init 235 = .ok (.imul, 1) := by decide +kernel
theorem dX4_init_236 : decode cX4_init 236 = .ok (.iload_n 2, 1) := by decide +kernel
theorem dX4_init_237 : decode cX4_init 237 = .ok (.iadd, 1) := by decide +kernel
theorem dX4_init_238 : decode cX4_init 238 = .ok (.iload_n 2, 1) := by decide +kernel
theorem dX4_init_239 : decode cX4_init 239 = .ok (.iastore, 1) := by decide +kernel
theorem dX4_init_240 : decode cX4_init 240 = .ok (.iinc 2 1, 3) := by decide +kernel
theorem dX4_init_243 : decode cX4_init 243 = .ok (.goto (-33), 3) := by decide +kernel
theorem dX4_init_246 : decode cX4_init 246 = .ok (.iinc 1 1, 3) := by decide +kernel
theorem dX4_init_249 : decode cX4_init 249 = .ok (.goto (-46), 3) := by decide +kernel
theorem dX4_init_252 : decode cX4_init 252 = .ok (.return_, 1) := by decide +kernel
