theorem dN_grain_17 : decode bN_grain 17 = .ok (.ifCond .lt 20, 3) := by decide +kernel
theorem dN_grain_20 : decode bN_grain 20 = .ok (.dload_n 3, 1) := by decide +kernel
theorem dN_grain_21 : decode bN_grain 21 = .ok (.dconst 1, 1) := by decide +kernel
theorem dN_grain_22 : decode bN_grain 22 = .ok (.dcmp .l, 1) := by decide +kernel
theorem dN_grain_23 : decode bN_grain 23 = .ok (.ifCond .gt 14, 3) := by decide +kernel
theorem dN_grain_26 : decode bN_grain 26 = .ok (.iload 5, 2) := by decide +kernel
theorem dN_grain_28 : decode bN_grain 28 = .ok (.ifCond .lt 9, 3) := by decide +kernel
theorem dN_grain_31 : decode bN_grain 31 = .ok (.iload 5, 2) := by decide +kernel
theorem dN_grain_33 : decode bN_grain 33 = .ok (.iconst 2, 1) := by decide +kernel
theorem dN_grain_34 : decode bN_grain 34 = .ok (.if_icmp .le 5, 3) := by decide +kernel
theorem dN_grain_37 : decode bN_grain 37 = .ok (.iconst 0, 1) := by decide +kernel
theorem dN_grain_38 : decode bN_grain 38 = .ok (.ireturn, 1) := by decide +kernel
theorem dN_grain_39 : decode bN_grain 39 = .ok (.aload_n 0, 1) := by decide +kernel
theorem dN_grain_40 : decode bN_grain 40 = .ok (.getfield 9, 3) := by decide +kernel
theorem dN_grain_43 : decode bN_grain 43 = .ok (.iconst 1, 1) := by decide +kernel
theorem dN_grain_44 : decode bN_grain 44 = .ok (.aload_n 0, 1) := by decide +kernel
theorem dN_grain_45 : decode bN_grain 45 = .ok (.getfield 9, 3) := by decide +kernel
theorem dN_grain_48 : decode bN_grain 48 = .ok (.iconst 1, 1) := by decide +kernel
theorem dN_grain_49 : decode bN_grain 49 = .ok (.daload, 1) := by decide +kernel
theorem dN_grain_50 : decode bN_grain 50 = .ok (.dload_n 1, 1) := by decide +kernel
theorem dN_grain_51 : decode bN_grain 51 = .ok (.dload_n 3, 1) := by decide +kernel
theorem dN_grain_52 : decode bN_grain 52 = .ok (.dmul, 1) := by decide +kernel
theorem dN_grain_53 : decode bN_grain 53 = .ok (.dadd, 1) := by decide +kernel
theorem dN_grain_54 : decode bN_grain 54 = .ok (.dastore, 1) := by decide +kernel
theorem dN_grain_55 : decode bN_grain 55 = .ok (.aload_n 0, 1) := by decide +kernel
theorem dN_grain_56 : decode bN_grain 56 = .ok (.aload_n 0, 1) := by decide +kernel
theorem dN_grain_57 : decode bN_grain 57 = .ok (.getfield 32, 3) := by decide +kernel
theorem dN_grain_60 : decode bN_grain 60 = .ok (.dload_n 1, 1) := by decide +kernel
theorem dN_grain_61 : decode bN_grain 61 = .ok (.dload_n 3, 1) := by decide +kernel
theorem dN_grain_62 : decode bN_grain 62 = .ok (.dmul, 1) := by decide +kernel
theorem dN_grain_63 : decode bN_grain 63 = .ok (.dadd, 1) := by decide +kernel
theorem dN_grain_64 : decode bN_grain 64 = .ok (.putfield 32, 3) := by decide +kernel
theorem dN_grain_67 : decode bN_grain 67 = .ok (.aload_n 0, 1) := by decide +kernel
theorem dN_grain_68 : decode bN_grain 68 = .ok (.getfield 9, 3) := by decide +kernel
theorem dN_grain_71 : decode bN_grain 71 = .ok (.bipush 8, 2) := by decide +kernel
theorem dN_grain_73 : decode bN_grain 73 = .ok (.aload_n 0, 1) := by decide +kernel
theorem dN_grain_74 : decode bN_grain 74 = .ok (.getfield 9, 3) := by decide +kernel
theorem dN_grain_77 : decode bN_grain 77 = .ok (.bipush 8, 2) := by decide +kernel
theorem dN_grain_79 : decode bN_grain 79 = .ok (.daload, 1) := by decide +kernel
theorem dN_grain_80 : decode bN_grain 80 = .ok (.dload_n 1, 1) := by decide +kernel
theorem dN_grain_81 : decode bN_grain 81 = .ok (.iload 5, 2) := by decide +kernel
theorem dN_grain_83 : decode bN_grain 83 = .ok (.ifCond .ne 9, 3) := by decide +kernel
theorem dN_grain_86 : decode bN_grain 86 = .ok (.ldc2_w 36, 3) := by decide +kernel
theorem dN_grain_89 : decode bN_grain 89 = .ok (.goto 18, 3) := by decide +kernel
theorem dN_grain_92 : decode bN_grain 92 = .ok (.iload 5, 2) := by decide +kernel
theorem dN_grain_94 : decode bN_grain 94 = .ok (.iconst 1, 1) := by decide +kernel
theorem dN_grain_95 : decode bN_grain 95 = .ok (.if_icmp .ne 9, 3) := by decide +kernel
theorem dN_grain_98 : decode bN_grain 98 = .ok (.ldc2_w 38, 3) := by decide +kernel
theorem dN_grain_101 : decode bN_grain 101 = .ok (.goto 6, 3) := by decide +kernel
theorem dN_grain_104 : decode bN_grain 104 = .ok (.ldc2_w 40, 3) := by decide +kernel
theorem dN_grain_107 : decode bN_grain 107 = .ok (.dmul, 1) := by decide +kernel
theorem dN_grain_108 : decode bN_grain 108 = .ok (.dadd, 1) := by decide +kernel
theorem dN_grain_109 : decode bN_grain 109 = .ok (.dastore, 1) := by decide +kernel
theorem dN_grain_110 : decode bN_grain 110 = .ok (.iload 5, 2) := by decide +kernel
theorem dN_grain_112 : decode bN_grain 112 = .ok (.ifCond .ne 84, 3) := by decide +kernel
theorem dN_grain_115 : decode bN_grain 115 = .ok (.aload_n 0, 1) := by decide +kernel
theorem dN_grain_116 : decode bN_grain 116 = .ok (.getfield 9, 3) := by decide +kernel
theorem dN_grain_119 : decode bN_grain 119 = .ok (.bipush 9, 2) := by decide +kernel
theorem dN_grain_121 : decode bN_grain 121 = .ok (.aload_n 0, 1) := by decide +kernel
theorem dN_grain_122 : decode bN_grain 122 = .ok (.getfield 9, 3) := by decide +kernel
theorem dN_grain_125 : decode bN_grain 125 = .ok (.bipush 9, 2) := by decide +kernel
theorem dN_grain_127 : decode bN_grain 127 = .ok (.daload, 1) := by decide +kernel
theorem dN_grain_128 : decode bN_grain 128 = .ok (.dload_n 1, 1) := by decide +kernel
theorem dN_grain_129 : decode bN_grain 129 = .ok (.dconst 1, 1) := by decide +kernel
theorem dN_grain_130 : decode bN_grain 130 = .ok (.dmul, 1) := by decide +kernel
theorem dN_grain_131 : decode bN_grain 131 = .ok (.dadd, 1) := by decide +kernel
theorem dN_grain_132 : decode bN_grain 132 = .ok (.dastore, 1) := by decide +kernel
theorem dN_grain_133 : decode bN_grain 133 = .ok (.aload_n 0, 1) := by decide +kernel
theorem dN_grain_134 : decode bN_grain 134 = .ok (.getfield 9, 3) := by decide +kernel
theorem dN_grain_137 : decode bN_grain 137 = .ok (.bipush 10, 2) := by decide +kernel
theorem dN_grain_139 : decode bN_grain 139 = .ok (.aload_n 0, 1) := by decide +kernel
theorem dN_grain_140 : decode bN_grain 140 = .ok (.getfield 9, 3) := by decide +kernel
theorem dN_grain_143 : decode bN_grain 143 = .ok (.bipush 10, 2) := by decide +kernel
theorem dN_grain_145 : decode bN_grain 145 = .ok (.daload, 1) := by decide +kernel
theorem dN_grain_146 : decode bN_grain 146 = .ok (.dload_n 1, 1) := by decide +kernel
theorem dN_grain_147 : decode bN_grain 147 = .ok (.ldc2_w 42, 3) := by decide +kernel
theorem dN_grain_150 : decode bN_grain 150 = .ok (.dmul, 1) := by decide +kernel
theorem dN_grain_151 : decode bN_grain 151 = .ok (.dadd, 1) := by decide +kernel
theorem dN_grain_152 : decode bN_grain 152 = .ok (.dastore, 1) := by decide +kernel
theorem dN_grain_153 : decode bN_grain 153 = .ok (.aload_n 0, 1) := by decide +kernel
theorem dN_grain_154 : decode bN_grain 154 = .ok (.getfield 9, 3) := by decide +kernel
theorem dN_grain_157 : decode bN_grain 157 = .ok (.bipush 11, 2) := by decide +kernel
theorem dN_grain_159 : decode bN_grain 159 = .ok (.aload_n 0, 1) := by decide +kernel
theorem dN_grain_160 : decode bN_grain 160 = .ok (.getfield 9, 3) := by decide +kernel
theorem dN_grain_163 : decode bN_grain 163 = .ok (.bipush 11, 2) := by decide +kernel
theorem dN_grain_165 : decode bN_grain 165 = .ok (.daload, 1) := by decide +kernel
theorem dN_grain_166 : decode bN_grain 166 = .ok (.dload_n 1, 1) := by decide +kernel
theorem dN_grain_167 : decode bN_grain 167 = .ok (.ldc2_w 44, 3) := by decide +kernel
theorem dN_grain_170 : decode bN_grain 170 = .ok (.dmul, 1) := by decide +kernel
theorem dN_grain_171 : decode bN_grain 171 = .ok (.dadd, 1) := by decide +kernel
theorem dN_grain_172 : decode bN_grain 172 = .ok (.dastore, 1) := by decide +kernel
theorem dN_grain_173 : decode bN_grain 173 = .ok (.aload_n 0, 1) := by decide +kernel
theorem dN_grain_174 : decode bN_grain 174 = .ok (.getfield 9, 3) := by decide +kernel
theorem dN_grain_177 : decode bN_grain 177 = .ok (.bipush 12, 2) := by decide +kernel
theorem dN_grain_179 : decode bN_grain 179 = .ok (.aload_n 0, 1) := by decide +kernel
theorem dN_grain_180 : decode bN_grain 180 = .ok (.getfield 9, 3) := by decide +kernel
theorem dN_grain_183 : decode bN_grain 183 = .ok (.bipush 12, 2) := by decide +kernel
theorem dN_grain_185 : decode bN_grain 185 = .ok (.daload, 1) := by decide +kernel
theorem dN_grain_186 : decode bN_grain 186 = .ok (.dload_n 1, 1) := by decide +kernel
theorem dN_grain_187 : decode bN_grain 187 = .ok (.ldc2_w 46, 3) := by decide +kernel
theorem dN_grain_190 : decode bN_grain 190 = .ok (.dmul, 1) := by decide +kernel
theorem dN_grain_191 : decode bN_grain 191 = .ok (.dadd, 1) := by decide +kernel
theorem dN_grain_192 : decode bN_grain 192 = .ok (.dastore, 1) := by decide +kernel
theorem dN_grain_193 : decode bN_grain 193 = .ok (.goto 89, 3) := by decide +kernel
theorem dN_grain_196 : decode bN_grain 196 = .ok (.iload 5, 2) := by decide +kernel
theorem dN_grain_198 : decode bN_grain 198 = .ok (.iconst 2, 1) := by decide +kernel
theorem dN_grain_199 : decode bN_grain 199 = .ok (.if_icmp .ne 83, 3) := by decide +kernel
theorem dN_grain_202 : decode bN_grain 202 = .ok (.aload_n 0, 1) := by decide +kernel
theorem dN_grain_203 : decode bN_grain 203 = .ok (.getfield 9, 3) := by decide +kernel
theorem dN_grain_206 : decode bN_grain 206 = .ok (.bipush 9, 2) := by decide +kernel
theorem dN_grain_208 : decode bN_grain 208 = .ok (.aload_n 0, 1) := by decide +kernel
theorem dN_grain_209 : decode bN_grain 209 = .ok (.getfield 9, 3) := by decide +kernel
theorem dN_grain_212 : decode bN_grain 212 = .ok (.bipush 9, 2) := by decide +kernel
theorem dN_grain_214 : decode bN_grain 214 = .ok (.daload, 1) := by decide +kernel
theorem dN_grain_215 : decode bN_grain 215 = .ok (.dload_n 1, 1) := by decide +kernel
theorem dN_grain_216 : decode bN_grain 216 = .ok (.ldc2_w 46, 3) := by decide +kernel
theorem dN_grain_219 : decode bN_grain 219 = .ok (.dmul, 1) := by decide +kernel
theorem dN_grain_220 : decode bN_grain 220 = .ok (.dadd, 1) := by decide +kernel
theorem dN_grain_221 : decode bN_grain 221 = .ok (.dastore, 1) := by decide +kernel
theorem dN_grain_222 : decode bN_grain 222 = .ok (.aload_n 0, 1) := by decide +kernel
theorem dN_grain_223 : decode bN_grain 223 = .ok (.getfield 9, 3) := by decide +kernel
theorem dN_grain_226 : decode bN_grain 226 = .ok (.bipush 10, 2) := by decide +kernel
theorem dN_grain_228 : decode bN_grain 228 = .ok (.aload_n 0, 1) := by decide +kernel
theorem dN_grain_229 : decode bN_grain 229 = .ok (.getfield 9, 3) := by decide +kernel
theorem dN_grain_232 : decode bN_grain 232 = .ok (.bipush 10, 2) := by decide +kernel
theorem dN_grain_234 : decode bN_grain 234 = .ok (.daload, 1) := by decide +kernel
theorem dN_grain_235 : decode bN_grain 235 = .ok (.dload_n 1, 1) := by decide +kernel
theorem dN_grain_236 : decode bN_grain 236 = .ok (.ldc2_w 48, 3) := by decide +kernel
theorem dN_grain_239 : decode bN_grain 239 = .ok (.dmul, 1) := by decide +kernel
theorem dN_grain_240 : decode bN_grain 240 = .ok (.dadd, 1) := by decide +kernel
theorem dN_grain_241 : decode bN_grain 241 = .ok (.dastore, 1) := by decide +kernel
theorem dN_grain_242 : decode bN_grain 242 = .ok (.aload_n 0, 1) := by decide +kernel
theorem dN_grain_243 : decode bN_grain 243 = .ok (.getfield 9, 3) := by decide +kernel
theorem dN_grain_246 : decode bN_grain 246 = .ok (.bipush 11, 2) := by decide +kernel
theorem dN_grain_248 : decode bN_grain 248 = .ok (.aload_n 0, 1) := by decide +kernel
theorem dN_grain_249 : decode bN_grain 249 = .ok (.getfield 9, 3) := by decide +kernel
theorem dN_grain_252 : decode bN_grain 252 = .ok (.bipush 11, 2) := by decide +kernel
theorem dN_grain_254 : decode bN_grain 254 = .ok (.daload, 1) := by decide +kernel
theorem dN_grain_255 : decode bN_grain 255 = .ok (.dload_n 1, 1) := by decide +kernel
theorem dN_grain_256 : decode bN_grain 256 = .ok (.ldc2_w 36, 3) := by decide +kernel
theorem dN_grain_259 : decode bN_grain 259 = .ok (.dmul, 1) := by decide +kernel
theorem dN_grain_260 : decode bN_grain 260 = .ok (.dadd, 1) := by decide +kernel
theorem dN_grain_261 : decode bN_grain 261 = .ok (.dastore, 1) := by decide +kernel
theorem dN_grain_262 : decode bN_grain 262 = .ok (.aload_n 0, 1) := by decide +kernel
theorem dN_grain_263 : decode bN_grain 263 = .ok (.getfield 9, 3) := by decide +kernel
theorem dN_grain_266 : decode bN_grain 266 = .ok (.bipush 12, 2) := by decide +kernel
theorem dN_grain_268 : decode bN_grain 268 = .ok (.aload_n 0, 1) := by decide +kernel
theorem dN_grain_269 : decode bN_grain 269 = .ok (.getfield 9, 3) := by decide +kernel
theorem dN_grain_272 : decode bN_grain 272 = .ok (.bipush 12, 2) := by decide +kernel
theorem dN_grain_274 : decode bN_grain 274 = .ok (.daload, 1) := by decide +kernel
theorem dN_grain_275 : decode bN_grain 275 = .ok (.dload_n 1, 1) := by decide +kernel
theorem dN_grain_276 : decode bN_grain 276 = .ok (.ldc2_w 44, 3) := by decide +kernel
theorem dN_grain_279 : decode bN_grain 279 = .ok (.dmul, 1) := by decide +kernel
theorem dN_grain_280 : decode bN_grain 280 = .ok (.dadd, 1) := by decide +kernel
theorem dN_grain_281 : decode bN_grain 281 = .ok (.dastore, 1) := by decide +kernel
theorem dN_grain_282 : decode bN_grain 282 = .ok (.aload_n 0, 1) := by decide +kernel
theorem dN_grain_283 : decode bN_grain 283 = .ok (.iconst 1, 1) := by decide +kernel
theorem dN_grain_284 : decode bN_grain 284 = .ok (.putfield 50, 3) := by decide +kernel
theorem dN_grain_287 : decode bN_grain 287 = .ok (.iconst 1, 1) := by decide +kernel
theorem dN_grain_288 : decode bN_grain 288 = .ok (.ireturn, 1) := by decide +kernel
theorem dN_liquor_0 : decode bN_liquor 0 = .ok (.dload_n 1, 1) := by decide +kernel
theorem dN_liquor_1 : decode bN_liquor 1 = .ok (.dconst 0, 1) := by decide +kernel
theorem dN_liquor_2 : decode bN_liquor 2 = .ok (.dcmp .l, 1) := by decide +kernel
theorem dN_liquor_3 : decode bN_liquor 3 = .ok (.ifCond .le 43, 3) := by decide +kernel
theorem dN_liquor_6 : decode bN_liquor 6 = .ok (.dload_n 1, 1) := by decide +kernel
theorem dN_liquor_7 : decode bN_liquor 7 = .ok (.ldc2_w 54, 3) := by decide +kernel
theorem dN_liquor_10 : decode bN_liquor 10 = .ok (.dcmp .l, 1) := by decide +kernel
theorem dN_liquor_11 : decode bN_liquor 11 = .ok (.ifCond .gt 35, 3) := by decide +kernel
theorem dN_liquor_14 : decode bN_liquor 14 = .ok (.dload_n 3, 1) := by decide +kernel
theorem dN_liquor_15 : decode bN_liquor 15 = .ok (.dconst 0, 1) := by decide +kernel
theorem dN_liquor_16 : decode bN_liquor 16 = .ok (.dcmp .l, 1) := by decide +kernel
theorem dN_liquor_17 : decode bN_liquor 17 = .ok (.ifCond .lt 29, 3) := by decide +kernel
theorem dN_liquor_20 : decode bN_liquor 20 = .ok (.dload_n 3, 1) := by decide +kernel
theorem dN_liquor_21 : decode bN_liquor 21 = .ok (.ldc2_w 56, 3) := by decide +kernel
theorem dN_liquor_24 : decode bN_liquor 24 = .ok (.dcmp .l, 1) := by decide +kernel
theorem dN_liquor_25 : decode bN_liquor 25 = .ok (.ifCond .gt 21, 3) := by decide +kernel
theorem dN_liquor_28 : decode bN_liquor 28 = .ok (.dload 5, 2) := by decide +kernel
theorem dN_liquor_30 : decode bN_liquor 30 = .ok (.ldc2_w 58, 3) := by decide +kernel
theorem dN_liquor_33 : decode bN_liquor 33 = .ok (.dcmp .l, 1) := by decide +kernel
theorem dN_liquor_34 : decode bN_liquor 34 = .ok (.ifCond .lt 12, 3) := by decide +kernel
theorem dN_liquor_37 : decode bN_liquor 37 = .ok (.dload 5, 2) := by decide +kernel
theorem dN_liquor_39 : decode bN_liquor 39 = .ok (.ldc2_w 60, 3) := by decide +kernel
theorem dN_liquor_42 : decode bN_liquor 42 = .ok (.dcmp .l, 1) := by decide +kernel
theorem dN_liquor_43 : decode bN_liquor 43 = .ok (.ifCond .le 5, 3) := by decide +kernel
theorem dN_liquor_46 : decode bN_liquor 46 = .ok (.iconst 0, 1) := by decide +kernel
theorem dN_liquor_47 : decode bN_liquor 47 = .ok (.ireturn, 1) := by decide +kernel
theorem dN_liquor_48 : decode bN_liquor 48 = .ok (.aload_n 0, 1) := by decide +kernel
theorem dN_liquor_49 : decode bN_liquor 49 = .ok (.aload_n 0, 1) := by decide +kernel
theorem dN_liquor_50 : decode bN_liquor 50 = .ok (.getfield 62, 3) := by decide +kernel
theorem dN_liquor_53 : decode bN_liquor 53 = .ok (.aload_n 0, 1) := by decide +kernel
theorem dN_liquor_54 : decode bN_liquor 54 = .ok (.getfield 9, 3) := by decide +kernel
theorem dN_liquor_57 : decode bN_liquor 57 = .ok (.iconst 0, 1) := by decide +kernel
theorem dN_liquor_58 : decode bN_liquor 58 = .ok (.daload, 1) := by decide +kernel
theorem dN_liquor_59 : decode bN_liquor 59 = .ok (.dmul, 1) := by decide +kernel
theorem dN_liquor_60 : decode bN_liquor 60 = .ok (.dload_n 3, 1) := by decide +kernel
theorem dN_liquor_61 : decode bN_liquor 61 = .ok (.dload_n 1, 1) := by decide +kernel
theorem dN_liquor_62 : decode bN_liquor 62 = .ok (.dmul, 1) := by decide +kernel
theorem dN_liquor_63 : decode bN_liquor 63 = .ok (.dadd, 1) := by decide +kernel
theorem dN_liquor_64 : decode bN_liquor 64 = .ok (.aload_n 0, 1) := by decide +kernel
theorem dN_liquor_65 : decode bN_liquor 65 = .ok (.getfield 9, 3) := by decide +kernel
theorem dN_liquor_68 : decode bN_liquor 68 = .ok (.iconst 0, 1) := by decide +kernel
theorem dN_liquor_69 : decode bN_liquor 69 = .ok (.daload, 1) := by decide +kernel
theorem dN_liquor_70 : decode bN_liquor 70 = .ok (.dload_n 1, 1) := by decide +kernel
theorem dN_liquor_71 : decode bN_liquor 71 = .ok (.dadd, 1) := by decide +kernel
theorem dN_liquor_72 : decode bN_liquor 72 = .ok (.ddiv, 1) := by decide +kernel
theorem dN_liquor_73 : decode bN_liquor 73 = .ok (.putfield 62, 3) := by decide +kernel
theorem dN_liquor_76 : decode bN_liquor 76 = .ok (.aload_n 0, 1) := by decide +kernel
theorem dN_liquor_77 : decode bN_liquor 77 = .ok (.aload_n 0, 1) := by decide +kernel
theorem dN_liquor_78 : decode bN_liquor 78 = .ok (.getfield 65, 3) := by decide +kernel
theorem dN_liquor_81 : decode bN_liquor 81 = .ok (.aload_n 0, 1) := by decide +kernel
theorem dN_liquor_82 : decode bN_liquor 82 = .ok (.getfield 9, 3) := by decide +kernel
theorem dN_liquor_85 : decode bN_liquor 85 = .ok (.iconst 0, 1) := by decide +kernel
theorem dN_liquor_86 : decode bN_liquor 86 = .ok (.daload, 1) := by decide +kernel
theorem dN_liquor_87 : decode bN_liquor 87 = .ok (.dmul, 1) := by decide +kernel
theorem dN_liquor_88 : decode bN_liquor 88 = .ok (.dload 5, 2) := by decide +kernel
theorem dN_liquor_90 : decode bN_liquor 90 = .ok (.dload_n 1, 1) := by decide +kernel
theorem dN_liquor_91 : decode bN_liquor 91 = .ok (.dmul, 1) := by decide +kernel
theorem dN_liquor_92 : decode bN_liquor 92 = .ok (.dadd, 1) := by decide +kernel
theorem dN_liquor_93 : decode bN_liquor 93 = .ok (.aload_n 0, 1) := by decide +kernel
theorem dN_liquor_94 : decode bN_liquor 94 = .ok (.getfield 9, 3) := by decide +kernel
theorem dN_liquor_97 : decode bN_liquor 97 = .ok (.iconst 0, 1) := by decide +kernel
theorem dN_liquor_98 : decode bN_liquor 98 = .ok (.daload, 1) := by decide +kernel
theorem dN_liquor_99 : decode bN_liquor 99 = .ok (.dload_n 1, 1) := by decide +kernel
theorem dN_liquor_100 : decode bN_liquor 100 = .ok (.dadd, 1) := by decide +kernel
theorem dN_liquor_101 : decode bN_liquor 101 = .ok (.ddiv, 1) := by decide +kernel
theorem dN_liquor_102 : decode bN_liquor 102 = .ok (.putfield 65, 3) := by decide +kernel
theorem dN_liquor_105 : decode bN_liquor 105 = .ok (.aload_n 0, 1) := by decide +kernel
theorem dN_liquor_106 : decode bN_liquor 106 = .ok (.getfield 9, 3) := by decide +kernel
theorem dN_liquor_109 : decode bN_liquor 109 = .ok (.iconst 0, 1) := by decide +kernel
theorem dN_liquor_110 : decode bN_liquor 110 = .ok (.aload_n 0, 1) := by decide +kernel
theorem dN_liquor_111 : decode bN_liquor 111 = .ok (.getfield 9, 3) := by decide +kernel
theorem dN_liquor_114 : decode bN_liquor 114 = .ok (.iconst 0, 1) := by decide +kernel
theorem dN_liquor_115 : decode bN_liquor 115 = .ok (.daload, 1) := by decide +kernel
theorem dN_liquor_116 : decode bN_liquor 116 = .ok (.dload_n 1, 1) := by decide +kernel
theorem dN_liquor_117 : decode bN_liquor 117 = .ok (.dadd, 1) := by decide +kernel
theorem dN_liquor_118 : decode bN_liquor 118 = .ok (.dastore, 1) := by decide +kernel
theorem dN_liquor_119 : decode bN_liquor 119 = .ok (.aload_n 0, 1) := by decide +kernel
theorem dN_liquor_120 : decode bN_liquor 120 = .ok (.iconst 1, 1) := by decide +kernel
theorem dN_liquor_121 : decode bN_liquor 121 = .ok (.putfield 68, 3) := by decide +kernel
theorem dN_liquor_124 : decode bN_liquor 124 = .ok (.iconst 1, 1) := by decide +kernel
theorem dN_liquor_125 : decode bN_liquor 125 = .ok (.ireturn, 1) := by decide +kernel
theorem dN_enzyme_0 : decode bN_enzyme 0 = .ok (.iload_n 1, 1) := by decide +kernel
theorem dN_enzyme_1 : decode bN_enzyme 1 = .ok (.ifCond .lt 22, 3) := by decide +kernel
theorem dN_enzyme_4 : decode bN_enzyme 4 = .ok (.iload_n 1, 1) := by decide +kernel
theorem dN_enzyme_5 : decode bN_enzyme 5 = .ok (.iconst 3, 1) := by decide +kernel
theorem dN_enzyme_6 : decode bN_enzyme 6 = .ok (.if_icmp .gt 17, 3) := by decide +kernel
theorem dN_enzyme_9 : decode bN_enzyme 9 = .ok (.dload_n 2, 1) := by decide +kernel
theorem dN_enzyme_10 : decode bN_enzyme 10 = .ok (.dconst 0, 1) := by decide +kernel
theorem dN_enzyme_11 : decode bN_enzyme 11 = .ok (.dcmp .l, 1) := by decide +kernel
theorem dN_enzyme_12 : decode bN_enzyme 12 = .ok (.ifCond .le 11, 3) := by decide +kernel
theorem dN_enzyme_15 : decode bN_enzyme 15 = .ok (.dload_n 2, 1) := by decide +kernel
theorem dN_enzyme_16 : decode bN_enzyme 16 = .ok (.ldc2_w 30, 3) := by decide +kernel
theorem dN_enzyme_19 : decode bN_enzyme 19 = .ok (.dcmp .l, 1) := by decide +kernel
theorem dN_enzyme_20 : decode bN_enzyme 20 = .ok (.ifCond .le 5, 3) := by decide +kernel
theorem dN_enzyme_23 : decode bN_enzyme 23 = .ok (.iconst 0, 1) := by decide +kernel
theorem dN_enzyme_24 : decode bN_enzyme 24 = .ok (.ireturn, 1) := by decide +kernel
theorem dN_enzyme_25 : decode bN_enzyme 25 = .ok (.aload_n 0, 1) := by decide +kernel
theorem dN_enzyme_26 : decode bN_enzyme 26 = .ok (.getfield 9, 3) := by decide +kernel
theorem dN_enzyme_29 : decode bN_enzyme 29 = .ok (.bipush 9, 2) := by decide +kernel
theorem dN_enzyme_31 : decode bN_enzyme 31 = .ok (.iload_n 1, 1) := by decide +kernel
theorem dN_enzyme_32 : decode bN_enzyme 32 = .ok (.iadd, 1) := by decide +kernel
theorem dN_enzyme_33 : decode bN_enzyme 33 = .ok (.aload_n 0, 1) := by decide +kernel
theorem dN_enzyme_34 : decode bN_enzyme 34 = .ok (.getfield 9, 3) := by decide +kernel
theorem dN_enzyme_37 : decode bN_enzyme 37 = .ok (.bipush 9, 2) := by decide +kernel
theorem dN_enzyme_39 : decode bN_enzyme 39 = .ok (.iload_n 1, 1) := by decide +kernel
theorem dN_enzyme_40 : decode bN_enzyme 40 = .ok (.iadd, 1) := by decide +kernel
theorem dN_enzyme_41 : decode bN_enzyme 41 = .ok (.daload, 1) := by decide +kernel
theorem dN_enzyme_42 : decode bN_enzyme 42 = .ok (.dload_n 2, 1) := by decide +kernel
theorem dN_enzyme_43 : decode bN_enzyme 43 = .ok (.dadd, 1) := by decide +kernel
theorem dN_enzyme_44 : decode bN_enzyme 44 = .ok (.dastore, 1) := by decide +kernel
theorem dN_enzyme_45 : decode bN_enzyme 45 = .ok (.iconst 1, 1) := by decide +kernel
theorem dN_enzyme_46 : decode bN_enzyme 46 = .ok (.ireturn, 1) := by decide +kernel
theorem dN_step_0 : decode bN_step 0 = .ok (.iload_n 1, 1) := by decide +kernel
theorem dN_step_1 : decode bN_step 1 = .ok (.aload_n 0, 1) := by decide +kernel
theorem dN_step_2 : decode bN_step 2 = .ok (.getfield 71, 3) := by decide +kernel
theorem dN_step_5 : decode bN_step 5 = .ok (.if_icmp .le 29, 3) := by decide +kernel
theorem dN_step_8 : decode bN_step 8 = .ok (.aload_n 0, 1) := by decide +kernel
theorem dN_step_9 : decode bN_step 9 = .ok (.getfield 75, 3) := by decide +kernel
theorem dN_step_12 : decode bN_step 12 = .ok (.ifCond .eq 18, 3) := by decide +kernel
theorem dN_step_15 : decode bN_step 15 = .ok (.iload_n 1, 1) := by decide +kernel
theorem dN_step_16 : decode bN_step 16 = .ok (.aload_n 0, 1) := by decide +kernel
theorem dN_step_17 : decode bN_step 17 = .ok (.getfield 13, 3) := by decide +kernel
theorem dN_step_20 : decode bN_step 20 = .ok (.aload_n 0, 1) := by decide +kernel
theorem dN_step_21 : decode bN_step 21 = .ok (.getfield 75, 3) := by decide +kernel
theorem dN_step_24 : decode bN_step 24 = .ok (.iconst 1, 1) := by decide +kernel
theorem dN_step_25 : decode bN_step 25 = .ok (.isub, 1) := by decide +kernel
theorem dN_step_26 : decode bN_step 26 = .ok (.iaload, 1) := by decide +kernel
theorem dN_step_27 : decode bN_step 27 = .ok (.if_icmp .le 7, 3) := by decide +kernel
theorem dN_step_30 : decode bN_step 30 = .ok (.iconst 1, 1) := by decide +kernel
theorem dN_step_31 : decode bN_step 31 = .ok (.goto 4, 3) := by decide +kernel
theorem dN_step_34 : decode bN_step 34 = .ok (.iconst 0, 1) := by decide +kernel
theorem dN_step_35 : decode bN_step 35 = .ok (.istore 4, 2) := by decide +kernel
theorem dN_step_37 : decode bN_step 37 = .ok (.iload 4, 2) := by decide +kernel
theorem dN_step_39 : decode bN_step 39 = .ok (.ifCond .eq 32, 3) := by decide +kernel
theorem dN_step_42 : decode bN_step 42 = .ok (.iload_n 1, 1) := by decide +kernel
theorem dN_step_43 : decode bN_step 43 = .ok (.ldc 78, 2) := by decide +kernel
theorem dN_step_45 : decode bN_step 45 = .ok (.if_icmp .gt 26, 3) := by decide +kernel
theorem dN_step_48 : decode bN_step 48 = .ok (.dload_n 2, 1) := by decide +kernel
theorem dN_step_49 : decode bN_step 49 = .ok (.dconst 0, 1) := by decide +kernel
theorem dN_step_50 : decode bN_step 50 = .ok (.dcmp .l, 1) := by decide +kernel
theorem dN_step_51 : decode bN_step 51 = .ok (.ifCond .lt 20, 3) := by decide +kernel
theorem dN_step_54 : decode bN_step 54 = .ok (.dload_n 2, 1) := by decide +kernel
theorem dN_step_55 : decode bN_step 55 = .ok (.ldc2_w 56, 3) := by decide +kernel
theorem dN_step_58 : decode bN_step 58 = .ok (.dcmp .l, 1) := by decide +kernel
theorem dN_step_59 : decode bN_step 59 = .ok (.ifCond .gt 12, 3) := by decide +kernel
theorem dN_step_62 : decode bN_step 62 = .ok (.aload_n 0, 1) := by decide +kernel
theorem dN_step_63 : decode bN_step 63 = .ok (.getfield 75, 3) := by decide +kernel
theorem dN_step_66 : decode bN_step 66 = .ok (.bipush 32, 2) := by decide +kernel
theorem dN_step_68 : decode bN_step 68 = .ok (.if_icmp .ne 5, 3) := by decide +kernel
theorem dN_step_71 : decode bN_step 71 = .ok (.iconst 0, 1) := by decide +kernel
theorem dN_step_72 : decode bN_step 72 = .ok (.ireturn, 1) := by decide +kernel
theorem dN_step_73 : decode bN_step 73 = .ok (.aload_n 0, 1) := by decide +kernel
theorem dN_step_74 : decode bN_step 74 = .ok (.getfield 13, 3) := by decide +kernel
theorem dN_step_77 : decode bN_step 77 = .ok (.aload_n 0, 1) := by decide +kernel
theorem dN_step_78 : decode bN_step 78 = .ok (.getfield 75, 3) := by decide +kernel
theorem dN_step_81 : decode bN_step 81 = .ok (.iload_n 1, 1) := by decide +kernel
theorem dN_step_82 : decode bN_step 82 = .ok (.iastore, 1) := by decide +kernel
theorem dN_step_83 : decode bN_step 83 = .ok (.aload_n 0, 1) := by decide +kernel
theorem dN_step_84 : decode bN_step 84 = .ok (.getfield 17, 3) := by decide +kernel
theorem dN_step_87 : decode bN_step 87 = .ok (.aload_n 0, 1) := by decide +kernel
theorem dN_step_88 : decode bN_step 88 = .ok (.getfield 75, 3) := by decide +kernel
theorem dN_step_91 : decode bN_step 91 = .ok (.dload_n 2, 1) := by decide +kernel
theorem dN_step_92 : decode bN_step 92 = .ok (.dastore, 1) := by decide +kernel
theorem dN_step_93 : decode bN_step 93 = .ok (.aload_n 0, 1) := by decide +kernel
theorem dN_step_94 : decode bN_step 94 = .ok (.dup, 1) := by decide +kernel
theorem dN_step_95 : decode bN_step 95 = .ok (.getfield 75, 3) := by decide +kernel
theorem dN_step_98 : decode bN_step 98 = .ok (.iconst 1, 1) := by decide +kernel
theorem dN_step_99 : decode bN_step 99 = .ok (.iadd, 1) := by decide +kernel
theorem dN_step_100 : decode bN_step 100 = .ok (.putfield 75, 3) := by decide +kernel
theorem dN_step_103 : decode bN_step 103 = .ok (.iconst 1, 1) := by decide +kernel
theorem dN_step_104 : decode bN_step 104 = .ok (.ireturn, 1) := by decide +kernel
theorem dN_row_0 : decode bN_row 0 = .ok (.iload_n 1, 1) := by decide +kernel
theorem dN_row_1 : decode bN_row 1 = .ok (.iconst 4, 1) := by decide +kernel
theorem dN_row_2 : decode bN_row 2 = .ok (.if_icmp .ge 9, 3) := by decide +kernel
theorem dN_row_5 : decode bN_row 5 = .ok (.ldc2_w 60, 3) := by decide +kernel
theorem dN_row_8 : decode bN_row 8 = .ok (.goto 6, 3) := by decide +kernel
theorem dN_row_11 : decode bN_row 11 = .ok (.ldc2_w 79, 3) := by decide +kernel
theorem dN_row_14 : decode bN_row 14 = .ok (.dstore_n 2, 1) := by decide +kernel
theorem dN_row_15 : decode bN_row 15 = .ok (.aload_n 0, 1) := by decide +kernel
theorem dN_row_16 : decode bN_row 16 = .ok (.getfield 62, 3) := by decide +kernel
theorem dN_row_19 : decode bN_row 19 = .ok (.dconst 0, 1) := by decide +kernel
theorem dN_row_20 : decode bN_row 20 = .ok (.dcmp .g, 1) := by decide +kernel
theorem dN_row_21 : decode bN_row 21 = .ok (.ifCond .ge 15, 3) := by decide +kernel
theorem dN_row_24 : decode bN_row 24 = .ok (.getstatic 81, 3) := by decide +kernel
theorem dN_row_27 : decode bN_row 27 = .ok (.bipush 9, 2) := by decide +kernel
theorem dN_row_29 : decode bN_row 29 = .ok (.iload_n 1, 1) := by decide +kernel
theorem dN_row_30 : decode bN_row 30 = .ok (.imul, 1) := by decide +kernel
theorem dN_row_31 : decode bN_row 31 = .ok (.iaload, 1) := by decide +kernel
theorem dN_row_32 : decode bN_row 32 = .ok (.i2d, 1) := by decide +kernel
theorem dN_row_33 : decode bN_row 33 = .ok (.dload_n 2, 1) := by decide +kernel
theorem dN_row_34 : decode bN_row 34 = .ok (.ddiv, 1) := by decide +kernel
theorem dN_row_35 : decode bN_row 35 = .ok (.dreturn, 1) := by decide +kernel
theorem dN_row_36 : decode bN_row 36 = .ok (.aload_n 0, 1) := by decide +kernel
theorem dN_row_37 : decode bN_row 37 = .ok (.getfield 62, 3) := by decide +kernel
theorem dN_row_40 : decode bN_row 40 = .ok (.ldc2_w 84, 3) := by decide +kernel
theorem dN_row_43 : decode bN_row 43 = .ok (.dcmp .l, 1) := by decide +kernel
theorem dN_row_44 : decode bN_row 44 = .ok (.ifCond .lt 18, 3) := by decide +kernel
theorem dN_row_47 : decode bN_row 47 = .ok (.getstatic 81, 3) := by decide +kernel
theorem dN_row_50 : decode bN_row 50 = .ok (.bipush 9, 2) := by decide +kernel
theorem dN_row_52 : decode bN_row 52 = .ok (.iload_n 1, 1) := by decide +kernel
theorem dN_row_53 : decode bN_row 53 = .ok (.imul, 1) := by decide +kernel
theorem dN_row_54 : decode bN_row 54 = .ok (.bipush 8, 2) := by decide +kernel
theorem dN_row_56 : decode bN_row 56 = .ok (.iadd, 1) := by decide +kernel
theorem dN_row_57 : decode bN_row 57 = .ok (.iaload, 1) := by decide +kernel
theorem dN_row_58 : decode bN_row 58 = .ok (.i2d, 1) := by decide +kernel
theorem dN_row_59 : decode bN_row 59 = .ok (.dload_n 2, 1) := by decide +kernel
theorem dN_row_60 : decode bN_row 60 = .ok (.ddiv, 1) := by decide +kernel
theorem dN_row_61 : decode bN_row 61 = .ok (.dreturn, 1) := by decide +kernel
theorem dN_row_62 : decode bN_row 62 = .ok (.iconst 0, 1) := by decide +kernel
theorem dN_row_63 : decode bN_row 63 = .ok (.istore 4, 2) := by decide +kernel
theorem dN_row_65 : decode bN_row 65 = .ok (.aload_n 0, 1) := by decide +kernel
theorem dN_row_66 : decode bN_row 66 = .ok (.getfield 62, 3) := by decide +kernel
theorem dN_row_69 : decode bN_row 69 = .ok (.getstatic 86, 3) := by decide +kernel
theorem dN_row_72 : decode bN_row 72 = .ok (.iload 4, 2) := by decide +kernel
theorem dN_row_74 : decode bN_row 74 = .ok (.iconst 1, 1) := by decide +kernel
theorem dN_row_75 : decode bN_row 75 = .ok (.iadd, 1) := by decide +kernel
theorem dN_row_76 : decode bN_row 76 = .ok (.iaload, 1) := by decide +kernel
theorem dN_row_77 : decode bN_row 77 = .ok (.i2d, 1) := by decide +kernel
theorem dN_row_78 : decode bN_row 78 = .ok (.dcmp .l, 1) := by decide +kernel
theorem dN_row_79 : decode bN_row 79 = .ok (.ifCond .lt 9, 3) := by decide +kernel
theorem dN_row_82 : decode bN_row 82 = .ok (.iinc 4 1, 3) := by decide +kernel
theorem dN_row_85 : decode bN_row 85 = .ok (.goto (-20), 3) := by decide +kernel
theorem dN_row_88 : decode bN_row 88 = .ok (.getstatic 81, 3) := by decide +kernel
theorem dN_row_91 : decode bN_row 91 = .ok (.bipush 9, 2) := by decide +kernel
theorem dN_row_93 : decode bN_row 93 = .ok (.iload_n 1, 1) := by decide +kernel
theorem dN_row_94 : decode bN_row 94 = .ok (.imul, 1) := by decide +kernel
theorem dN_row_95 : decode bN_row 95 = .ok (.iload 4, 2) := by decide +kernel
theorem dN_row_97 : decode bN_row 97 = .ok (.iadd, 1) := by decide +kernel
theorem dN_row_98 : decode bN_row 98 = .ok (.iaload, 1) := by decide +kernel
theorem dN_row_99 : decode bN_row 99 = .ok (.i2d, 1) := by decide +kernel
theorem dN_row_100 : decode bN_row 100 = .ok (.dload_n 2, 1) := by decide +kernel
theorem dN_row_101 : decode bN_row 101 = .ok (.ddiv, 1) := by decide +kernel
theorem dN_row_102 : decode bN_row 102 = .ok (.dstore 5, 2) := by decide +kernel
theorem dN_row_104 : decode bN_row 104 = .ok (.getstatic 81, 3) := by decide +kernel
theorem dN_row_107 : decode bN_row 107 = .ok (.bipush 9, 2) := by decide +kernel
theorem dN_row_109 : decode bN_row 109 = .ok (.iload_n 1, 1) := by decide +kernel
theorem dN_row_110 : decode bN_row 110 = .ok (.imul, 1) := by decide +kernel
theorem dN_row_111 : decode bN_row 111 = .ok (.iload 4, 2) := by decide +kernel
theorem dN_row_113 : decode bN_row 113 = .ok (.iadd, 1) := by decide +kernel
theorem dN_row_114 : decode bN_row 114 = .ok (.iconst 1, 1) := by decide +kernel
theorem dN_row_115 : decode bN_row 115 = .ok (.iadd, 1) := by decide +kernel
theorem dN_row_116 : decode bN_row 116 = .ok (.iaload, 1) := by decide +kernel
theorem dN_row_117 : decode bN_row 117 = .ok (.i2d, 1) := by decide +kernel
theorem dN_row_118 : decode bN_row 118 = .ok (.dload_n 2, 1) := by decide +kernel
theorem dN_row_119 : decode bN_row 119 = .ok (.ddiv, 1) := by decide +kernel
theorem dN_row_120 : decode bN_row 120 = .ok (.dstore 7, 2) := by decide +kernel
theorem dN_row_122 : decode bN_row 122 = .ok (.dload 5, 2) := by decide +kernel
theorem dN_row_124 : decode bN_row 124 = .ok (.dload 7, 2) := by decide +kernel
theorem dN_row_126 : decode bN_row 126 = .ok (.dload 5, 2) := by decide +kernel
theorem dN_row_128 : decode bN_row 128 = .ok (.dsub, 1) := by decide +kernel
theorem dN_row_129 : decode bN_row 129 = .ok (.aload_n 0, 1) := by decide +kernel
theorem dN_row_130 : decode bN_row 130 = .ok (.getfield 62, 3) := by decide +kernel
theorem dN_row_133 : decode bN_row 133 = .ok (.getstatic 86, 3) := by decide +kernel
theorem dN_row_136 : decode bN_row 136 = .ok (.iload 4, 2) := by decide +kernel
theorem dN_row_138 : decode bN_row 138 = .ok (.iaload, 1) := by decide +kernel
theorem dN_row_139 : decode bN_row 139 = .ok (.i2d, 1) := by decide +kernel
theorem dN_row_140 : decode bN_row 140 = .ok (.dsub, 1) := by decide +kernel
theorem dN_row_141 : decode bN_row 141 = .ok (.dmul, 1) := by decide +kernel
theorem dN_row_142 : decode bN_row 142 = .ok (.getstatic 86, 3) := by decide +kernel
theorem dN_row_145 : decode bN_row 145 = .ok (.iload 4, 2) := by decide +kernel
theorem dN_row_147 : decode bN_row 147 = .ok (.iconst 1, 1) := by decide +kernel
theorem dN_row_148 : decode bN_row 148 = .ok (.iadd, 1) := by decide +kernel
theorem dN_row_149 : decode bN_row 149 = .ok (.iaload, 1) := by decide +kernel
theorem dN_row_150 : decode bN_row 150 = .ok (.getstatic 86, 3) := by decide +kernel
theorem dN_row_153 : decode bN_row 153 = .ok (.iload 4, 2) := by decide +kernel
theorem dN_row_155 : decode bN_row 155 = .ok (.iaload, 1) := by decide +kernel
theorem dN_row_156 : decode bN_row 156 = .ok (.isub, 1) := by decide +kernel
theorem dN_row_157 : decode bN_row 157 = .ok (.i2d, 1) := by decide +kernel
theorem dN_row_158 : decode bN_row 158 = .ok (.ddiv, 1) := by decide +kernel
theorem dN_row_159 : decode bN_row 159 = .ok (.dadd, 1) := by decide +kernel
theorem dN_row_160 : decode bN_row 160 = .ok (.dreturn, 1) := by decide +kernel
theorem dN_second_0 : decode bN_second 0 = .ok (.iconst 0, 1) := by decide +kernel
theorem dN_second_1 : decode bN_second 1 = .ok (.istore_n 1, 1) := by decide +kernel
theorem dN_second_2 : decode bN_second 2 = .ok (.iload_n 1, 1) := by decide +kernel
theorem dN_second_3 : decode bN_second 3 = .ok (.aload_n 0, 1) := by decide +kernel
theorem dN_second_4 : decode bN_second 4 = .ok (.getfield 75, 3) := by decide +kernel
theorem dN_second_7 : decode bN_second 7 = .ok (.if_icmp .ge 22, 3) := by decide +kernel
theorem dN_second_10 : decode bN_second 10 = .ok (.aload_n 0, 1) := by decide +kernel
theorem dN_second_11 : decode bN_second 11 = .ok (.getfield 13, 3) := by decide +kernel
theorem dN_second_14 : decode bN_second 14 = .ok (.iload_n 1, 1) := by decide +kernel
theorem dN_second_15 : decode bN_second 15 = .ok (.iaload, 1) := by decide +kernel
theorem dN_second_16 : decode bN_second 16 = .ok (.aload_n 0, 1) := by decide +kernel
theorem dN_second_17 : decode bN_second 17 = .ok (.getfield 71, 3) := by decide +kernel
theorem dN_second_20 : decode bN_second 20 = .ok (.if_icmp .gt 9, 3) := by decide +kernel
theorem dN_second_23 : decode bN_second 23 = .ok (.iinc 1 1, 3) := by decide +kernel
theorem dN_second_26 : decode bN_second 26 = .ok (.goto (-24), 3) := by decide +kernel
theorem dN_second_29 : decode bN_second 29 = .ok (.iload_n 1, 1) := by decide +kernel
theorem dN_second_30 : decode bN_second 30 = .ok (.aload_n 0, 1) := by decide +kernel
theorem dN_second_31 : decode bN_second 31 = .ok (.getfield 75, 3) := by decide +kernel
theorem dN_second_34 : decode bN_second 34 = .ok (.if_icmp .ge 36, 3) := by decide +kernel
