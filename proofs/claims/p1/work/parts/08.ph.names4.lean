theorem dX13_init_50 : decode cX13_init 50 = .ok (.aload_n 0, 1) := by decide +kernel
theorem dX13_init_51 : decode cX13_init 51 = .ok (.getfield 10, 3) := by decide +kernel
theorem dX13_init_54 : decode cX13_init 54 = .ok (.aload_n 0, 1) := by decide +kernel
theorem dX13_init_55 : decode cX13_init 55 = .ok (.getfield 21, 3) := by decide +kernel
theorem dX13_init_58 : decode cX13_init 58 = .ok (.aload_n 0, 1) := by decide +kernel
theorem dX13_init_59 : decode cX13_init 59 = .ok (.getfield 28, 3) := by decide +kernel
theorem dX13_init_62 : decode cX13_init 62 = .ok (.invokespecial 34, 3) := by decide +kernel
theorem dX13_init_65 : decode cX13_init 65 = .ok (.putfield 37, 3) := by decide +kernel
theorem dX13_init_68 : decode cX13_init 68 = .ok (.aload_n 0, 1) := by decide +kernel
theorem dX13_init_69 : decode cX13_init 69 = .ok (.new 41, 3) := by decide +kernel
theorem dX13_init_72 : decode cX13_init 72 = .ok (.dup, 1) := by decide +kernel
theorem dX13_init_73 : decode cX13_init 73 = .ok (.aload_n 0, 1) := by decide +kernel
theorem dX13_init_74 : decode cX13_init 74 = .ok (.getfield 10, 3) := by decide +kernel
theorem dX13_init_77 : decode cX13_init 77 = .ok (.aload_n 0, 1) := by decide +kernel
theorem dX13_init_78 : decode cX13_init 78 = .ok (.getfield 28, 3) := by decide +kernel
theorem dX13_init_81 : decode cX13_init 81 = .ok (.invokespecial 43, 3) := by decide +kernel
theorem dX13_init_84 : decode cX13_init 84 = .ok (.putfield 46, 3) := by decide +kernel
theorem dX13_init_87 : decode cX13_init 87 = .ok (.aload_n 0, 1) := by decide +kernel
theorem dX13_init_88 : decode cX13_init 88 = .ok (.new 50, 3) := by decide +kernel
theorem dX13_init_91 : decode cX13_init 91 = .ok (.dup, 1) := by decide +kernel
theorem dX13_init_92 : decode cX13_init 92 = .ok (.aload_n 0, 1) := by decide +kernel
theorem dX13_init_93 : decode cX13_init 93 = .ok (.getfield 10, 3) := by decide +kernel
theorem dX13_init_96 : decode cX13_init 96 = .ok (.aload_n 0, 1) := by decide +kernel
theorem dX13_init_97 : decode cX13_init 97 = .ok (.getfield 28, 3) := by decide +kernel
theorem dX13_init_100 : decode cX13_init 100 = .ok (.aload_n 0, 1) := by decide +kernel
theorem dX13_init_101 : decode cX13_init 101 = .ok (.getfield 46, 3) := by decide +kernel
theorem dX13_init_104 : decode cX13_init 104 = .ok (.invokespecial 52, 3) := by decide +kernel
theorem dX13_init_107 : decode cX13_init 107 = .ok (.putfield 55, 3) := by decide +kernel
theorem dX13_init_110 : decode cX13_init 110 = .ok (.aload_n 0, 1) := by decide +kernel
theorem dX13_init_111 : decode cX13_init 111 = .ok (.new 59, 3) := by decide +kernel
theorem dX13_init_114 : decode cX13_init 114 = .ok (.dup, 1) := by decide +kernel
theorem dX13_init_115 : decode cX13_init 115 = .ok (.aload_n 0, 1) := by decide +kernel
theorem dX13_init_116 : decode cX13_init 116 = .ok (.getfield 10, 3) := by decide +kernel
theorem dX13_init_119 : decode cX13_init 119 = .ok (.aload_n 0, 1) := by decide +kernel
theorem dX13_init_120 : decode cX13_init 120 = .ok (.getfield 28, 3) := by decide +kernel
theorem dX13_init_123 : decode cX13_init 123 = .ok (.invokespecial 61, 3) := by decide +kernel
theorem dX13_init_126 : decode cX13_init 126 = .ok (.putfield 62, 3) := by decide +kernel
theorem dX13_init_129 : decode cX13_init 129 = .ok (.aload_n 0, 1) := by decide +kernel
theorem dX13_init_130 : decode cX13_init 130 = .ok (.sipush 6000, 3) := by decide +kernel
theorem dX13_init_133 : decode cX13_init 133 = .ok (.newarray .int, 2) := by decide +kernel
theorem dX13_init_135 : decode cX13_init 135 = .ok (.putfield 66, 3) := by decide +kernel
theorem dX13_init_138 : decode cX13_init 138 = .ok (.aload_n 0, 1) := by decide +kernel
theorem dX13_init_139 : decode cX13_init 139 = .ok (.iconst 0, 1) := by decide +kernel
theorem dX13_init_140 : decode cX13_init 140 = .ok (.putfield 70, 3) := by decide +kernel
theorem dX13_init_143 : decode cX13_init 143 = .ok (.aload_n 0, 1) := by decide +kernel
theorem dX13_init_144 : decode cX13_init 144 = .ok (.iconst 0, 1) := by decide +kernel
theorem dX13_init_145 : decode cX13_init 145 = .ok (.putfield 74, 3) := by decide +kernel
theorem dX13_init_148 : decode cX13_init 148 = .ok (.aload_n 0, 1) := by decide +kernel
theorem dX13_init_149 : decode cX13_init 149 = .ok (.iconst 4, 1) := by decide +kernel
theorem dX13_init_150 : decode cX13_init 150 = .ok (.anewarray 77, 3) := by decide +kernel
theorem dX13_init_153 : decode cX13_init 153 = .ok (.putfield 79, 3) := by decide +kernel
theorem dX13_init_156 : decode cX13_init 156 = .ok (.aload_n 0, 1) := by decide +kernel
theorem dX13_init_157 : decode cX13_init 157 = .ok (.iconst 0, 1) := by decide +kernel
theorem dX13_init_158 : decode cX13_init 158 = .ok (.putfield 83, 3) := by decide +kernel
theorem dX13_init_161 : decode cX13_init 161 = .ok (.aload_n 0, 1) := by decide +kernel
theorem dX13_init_162 : decode cX13_init 162 = .ok (.aconst_null, 1) := by decide +kernel
theorem dX13_init_163 : decode cX13_init 163 = .ok (.putfield 86, 3) := by decide +kernel
theorem dX13_init_166 : decode cX13_init 166 = .ok (.aload_n 0, 1) := by decide +kernel
theorem dX13_init_167 : decode cX13_init 167 = .ok (.iconst 4, 1) := by decide +kernel
theorem dX13_init_168 : decode cX13_init 168 = .ok (.anewarray 90, 3) := by decide +kernel
theorem dX13_init_171 : decode cX13_init 171 = .ok (.putfield 92, 3) := by decide +kernel
theorem dX13_init_174 : decode cX13_init 174 = .ok (.aload_n 0, 1) := by decide +kernel
theorem dX13_init_175 : decode cX13_init 175 = .ok (.iconst 3, 1) := by decide +kernel
theorem dX13_init_176 : decode cX13_init 176 = .ok (.newarray .int, 2) := by decide +kernel
theorem dX13_init_178 : decode cX13_init 178 = .ok (.dup, 1) := by decide +kernel
theorem dX13_init_179 : decode cX13_init 179 = .ok (.iconst 0, 1) := by decide +kernel
theorem dX13_init_180 : decode cX13_init 180 = .ok (.iconst 0, 1) := by decide +kernel
theorem dX13_init_181 : decode cX13_init 181 = .ok (.iastore, 1) := by decide +kernel
theorem dX13_init_182 : decode cX13_init 182 = .ok (.dup, 1) := by decide +kernel
theorem dX13_init_183 : decode cX13_init 183 = .ok (.iconst 1, 1) := by decide +kernel
theorem dX13_init_184 : decode cX13_init 184 = .ok (.iconst (-1), 1) := by decide +kernel
theorem dX13_init_185 : decode cX13_init 185 = .ok (.iastore, 1) := by decide +kernel
theorem dX13_init_186 : decode cX13_init 186 = .ok (.dup, 1) := by decide +kernel
theorem dX13_init_187 : decode cX13_init 187 = .ok (.iconst 2, 1) := by decide +kernel
theorem dX13_init_188 : decode cX13_init 188 = .ok (.iconst (-1), 1) := by decide +kernel
theorem dX13_init_189 : decode cX13_init 189 = .ok (.iastore, 1) := by decide +kernel
theorem dX13_init_190 : decode cX13_init 190 = .ok (.putfield 96, 3) := by decide +kernel
theorem dX13_init_193 : decode cX13_init 193 = .ok (.aload_n 0, 1) := by decide +kernel
theorem dX13_init_194 : decode cX13_init 194 = .ok (.iconst 0, 1) := by decide +kernel
theorem dX13_init_195 : decode cX13_init 195 = .ok (.putfield 99, 3) := by decide +kernel
theorem dX13_init_198 : decode cX13_init 198 = .ok (.aload_n 0, 1) := by decide +kernel
theorem dX13_init_199 : decode cX13_init 199 = .ok (.iconst 0, 1) := by decide +kernel
theorem dX13_init_200 : decode cX13_init 200 = .ok (.putfield 102, 3) := by decide +kernel
theorem dX13_init_203 : decode cX13_init 203 = .ok (.aload_n 0, 1) := by decide +kernel
theorem dX13_init_204 : decode cX13_init 204 = .ok (.iconst 0, 1) := by decide +kernel
theorem dX13_init_205 : decode cX13_init 205 = .ok (.putfield 105, 3) := by decide +kernel
theorem dX13_init_208 : decode cX13_init 208 = .ok (.aload_n 0, 1) := by decide +kernel
theorem dX13_init_209 : decode cX13_init 209 = .ok (.sipush 12500, 3) := by decide +kernel
theorem dX13_init_212 : decode cX13_init 212 = .ok (.newarray .long, 2) := by decide +kernel
theorem dX13_init_214 : decode cX13_init 214 = .ok (.putfield 108, 3) := by decide +kernel
theorem dX13_init_217 : decode cX13_init 217 = .ok (.aload_n 0, 1) := by decide +kernel
theorem dX13_init_218 : decode cX13_init 218 = .ok (.iconst 0, 1) := by decide +kernel
theorem dX13_init_219 : decode cX13_init 219 = .ok (.putfield 112, 3) := by decide +kernel
theorem dX13_init_222 : decode cX13_init 222 = .ok (.new 115, 3) := by decide +kernel
theorem dX13_init_225 : decode cX13_init 225 = .ok (.dup, 1) := by decide +kernel
theorem dX13_init_226 : decode cX13_init 226 = .ok (.aload_n 0, 1) := by decide +kernel
theorem dX13_init_227 : decode cX13_init 227 = .ok (.getfield 10, 3) := by decide +kernel
theorem dX13_init_230 : decode cX13_init 230 = .ok (.aload_n 0, 1) := by decide +kernel
theorem dX13_init_231 : decode cX13_init 231 = .ok (.getfield 21, 3) := by decide +kernel
theorem dX13_init_234 : decode cX13_init 234 = .ok (.aload_n 0, 1) := by decide +kernel
theorem dX13_init_235 : decode cX13_init 235 = .ok (.getfield 28, 3) := by decide +kernel
theorem dX13_init_238 : decode cX13_init 238 = .ok (.invokespecial 117, 3) := by decide +kernel
theorem dX13_init_241 : decode cX13_init 241 = .ok (.astore_n 1, 1) := by decide +kernel
theorem dX13_init_242 : decode cX13_init 242 = .ok (.aload_n 0, 1) := by decide +kernel
theorem dX13_init_243 : decode cX13_init 243 = .ok (.new 118, 3) := by decide +kernel
theorem dX13_init_246 : decode cX13_init 246 = .ok (.dup, 1) := by decide +kernel
theorem dX13_init_247 : decode cX13_init 247 = .ok (.aload_n 0, 1) := by decide +kernel
theorem dX13_init_248 : decode cX13_init 248 = .ok (.getfield 10, 3) := by decide +kernel
theorem dX13_init_251 : decode cX13_init 251 = .ok (.aload_n 0, 1) := by decide +kernel
theorem dX13_init_252 : decode cX13_init 252 = .ok (.getfield 62, 3) := by decide +kernel
theorem dX13_init_255 : decode cX13_init 255 = .ok (.new 120, 3) := by decide +kernel
theorem dX13_init_258 : decode cX13_init 258 = .ok (.dup, 1) := by decide +kernel
theorem dX13_init_259 : decode cX13_init 259 = .ok (.aload_n 0, 1) := by decide +kernel
theorem dX13_init_260 : decode cX13_init 260 = .ok (.getfield 10, 3) := by decide +kernel
theorem dX13_init_263 : decode cX13_init 263 = .ok (.aload_n 0, 1) := by decide +kernel
theorem dX13_init_264 : decode cX13_init 264 = .ok (.getfield 21, 3) := by decide +kernel
theorem dX13_init_267 : decode cX13_init 267 = .ok (.aload_n 0, 1) := by decide +kernel
theorem dX13_init_268 : decode cX13_init 268 = .ok (.getfield 28, 3) := by decide +kernel
theorem dX13_init_271 : decode cX13_init 271 = .ok (.aload_n 1, 1) := by decide +kernel
theorem dX13_init_272 : decode cX13_init 272 = .ok (.invokespecial 122, 3) := by decide +kernel
theorem dX13_init_275 : decode cX13_init 275 = .ok (.invokespecial 125, 3) := by decide +kernel
theorem dX13_init_278 : decode cX13_init 278 = .ok (.putfield 128, 3) := by decide +kernel
theorem dX13_init_281 : decode cX13_init 281 = .ok (.aload_n 0, 1) := by decide +kernel
theorem dX13_init_282 : decode cX13_init 282 = .ok (.aload_n 0, 1) := by decide +kernel
theorem dX13_init_283 : decode cX13_init 283 = .ok (.getfield 10, 3) := by decide +kernel
theorem dX13_init_286 : decode cX13_init 286 = .ok (.iconst 0, 1) := by decide +kernel
theorem dX13_init_287 : decode cX13_init 287 = .ok (.aload_n 0, 1) := by decide +kernel
theorem dX13_init_288 : decode cX13_init 288 = .ok (.getfield 10, 3) := by decide +kernel
theorem dX13_init_291 : decode cX13_init 291 = .ok (.bipush 6, 2) := by decide +kernel
theorem dX13_init_293 : decode cX13_init 293 = .ok (.iconst 0, 1) := by decide +kernel
theorem dX13_init_294 : decode cX13_init 294 = .ok (.iconst 1, 1) := by decide +kernel
theorem dX13_init_295 : decode cX13_init 295 = .ok (.invokevirtual 132, 3) := by decide +kernel
theorem dX13_init_298 : decode cX13_init 298 = .ok (.invokevirtual 136, 3) := by decide +kernel
theorem dX13_init_301 : decode cX13_init 301 = .ok (.putfield 140, 3) := by decide +kernel
theorem dX13_init_304 : decode cX13_init 304 = .ok (.aload_n 0, 1) := by decide +kernel
theorem dX13_init_305 : decode cX13_init 305 = .ok (.getfield 10, 3) := by decide +kernel
theorem dX13_init_308 : decode cX13_init 308 = .ok (.ldc 143, 2) := by decide +kernel
theorem dX13_init_310 : decode cX13_init 310 = .ok (.invokevirtual 144, 3) := by decide +kernel
theorem dX13_init_313 : decode cX13_init 313 = .ok (.aload_n 0, 1) := by decide +kernel
theorem dX13_init_314 : decode cX13_init 314 = .ok (.aload_n 0, 1) := by decide +kernel
theorem dX13_init_315 : decode cX13_init 315 = .ok (.invokevirtual 148, 3) := by decide +kernel
theorem dX13_init_318 : decode cX13_init 318 = .ok (.putfield 152, 3) := by decide +kernel
theorem dX13_init_321 : decode cX13_init 321 = .ok (.return_, 1) := by decide +kernel
theorem dX13_bundleOfDraft_0 : decode cX13_bundleOfDraft 0 = .ok (.aload_n 0, 1) := by decide +kernel
theorem dX13_bundleOfDraft_1 : decode cX13_bundleOfDraft 1 = .ok (.getfield 86, 3) := by decide +kernel
theorem dX13_bundleOfDraft_4 : decode cX13_bundleOfDraft 4 = .ok (.ifnull 8, 3) := by decide +kernel
theorem dX13_bundleOfDraft_12 : decode cX13_bundleOfDraft 12 = .ok (.aload_n 0, 1) := by decide +kernel
theorem dX13_bundleOfDraft_13 : decode cX13_bundleOfDraft 13 = .ok (.getfield 46, 3) := by decide +kernel
theorem dX13_bundleOfDraft_16 : decode cX13_bundleOfDraft 16 = .ok (.aload_n 0, 1) := by decide +kernel
theorem dX13_bundleOfDraft_17 : decode cX13_bundleOfDraft 17 = .ok (.getfield 79, 3) := by decide +kernel
theorem dX13_bundleOfDraft_20 : decode cX13_bundleOfDraft 20 = .ok (.aload_n 0, 1) := by decide +kernel
theorem dX13_bundleOfDraft_21 : decode cX13_bundleOfDraft 21 = .ok (.getfield 83, 3) := by decide +kernel
theorem dX13_bundleOfDraft_24 : decode cX13_bundleOfDraft 24 = .ok (.invokevirtual 172, 3) := by decide +kernel
theorem dX13_bundleOfDraft_27 : decode cX13_bundleOfDraft 27 = .ok (.astore_n 1, 1) := by decide +kernel
theorem dX13_bundleOfDraft_28 : decode cX13_bundleOfDraft 28 = .ok (.aload_n 1, 1) := by decide +kernel
theorem dX13_bundleOfDraft_29 : decode cX13_bundleOfDraft 29 = .ok (.getfield 176, 3) := by decide +kernel
theorem dX13_bundleOfDraft_32 : decode cX13_bundleOfDraft 32 = .ok (.ifCond .ne 11, 3) := by decide +kernel
theorem dX13_bundleOfDraft_35 : decode cX13_bundleOfDraft 35 = .ok (.aload_n 0, 1) := by decide +kernel
theorem dX13_bundleOfDraft_36 : decode cX13_bundleOfDraft 36 = .ok (.getfield 55, 3) := by decide +kernel
theorem dX13_bundleOfDraft_39 : decode cX13_bundleOfDraft 39 = .ok (.aload_n 1, 1) := by decide +kernel
theorem dX13_bundleOfDraft_40 : decode cX13_bundleOfDraft 40 = .ok (.invokevirtual 181, 3) := by decide +kernel
theorem dX13_bundleOfDraft_43 : decode cX13_bundleOfDraft 43 = .ok (.aload_n 1, 1) := by decide +kernel
theorem dX13_bundleOfDraft_44 : decode cX13_bundleOfDraft 44 = .ok (.getfield 176, 3) := by decide +kernel
theorem dX13_bundleOfDraft_47 : decode cX13_bundleOfDraft 47 = .ok (.ifCond .ne 10, 3) := by decide +kernel
theorem dX13_bundleOfDraft_50 : decode cX13_bundleOfDraft 50 = .ok (.aload_n 0, 1) := by decide +kernel
theorem dX13_bundleOfDraft_51 : decode cX13_bundleOfDraft 51 = .ok (.getfield 55, 3) := by decide +kernel
theorem dX13_bundleOfDraft_54 : decode cX13_bundleOfDraft 54 = .ok (.invokevirtual 185, 3) := by decide +kernel
theorem dX13_bundleOfDraft_57 : decode cX13_bundleOfDraft 57 = .ok (.aload_n 0, 1) := by decide +kernel
theorem dX13_bundleOfDraft_58 : decode cX13_bundleOfDraft 58 = .ok (.aload_n 1, 1) := by decide +kernel
theorem dX13_bundleOfDraft_59 : decode cX13_bundleOfDraft 59 = .ok (.putfield 86, 3) := by decide +kernel
theorem dX13_bundleOfDraft_62 : decode cX13_bundleOfDraft 62 = .ok (.aload_n 1, 1) := by decide +kernel
theorem dX13_bundleOfDraft_63 : decode cX13_bundleOfDraft 63 = .ok (.areturn, 1) := by decide +kernel
theorem dJ7_copyOf_59c91_0 : decode cJ7_copyOf_59c91 0 = .ok (.iload_n 1, 1) := by decide +kernel
theorem dJ7_copyOf_59c91_1 : decode cJ7_copyOf_59c91 1 = .ok (.aload_n 0, 1) := by decide +kernel
theorem dJ7_copyOf_59c91_2 : decode cJ7_copyOf_59c91 2 = .ok (.arraylength, 1) := by decide +kernel
theorem dJ7_copyOf_59c91_3 : decode cJ7_copyOf_59c91 3 = .ok (.if_icmp .ne 11, 3) := by decide +kernel
theorem dJ7_copyOf_59c91_6 : decode cJ7_copyOf_59c91 6 = .ok (.aload_n 0, 1) := by decide +kernel
theorem dJ7_copyOf_59c91_7 : decode cJ7_copyOf_59c91 7 = .ok (.invokevirtual 316, 3) := by decide +kernel
theorem dJ7_copyOf_59c91_10 : decode cJ7_copyOf_59c91 10 = .ok (.checkcast 317, 3) := by decide +kernel
theorem dJ7_copyOf_59c91_13 : decode cJ7_copyOf_59c91 13 = .ok (.areturn, 1) := by decide +kernel
theorem dJ7_copyOf_59c91_14 : decode cJ7_copyOf_59c91 14 = .ok (.iload_n 1, 1) := by decide +kernel
theorem dJ7_copyOf_59c91_15 : decode cJ7_copyOf_59c91 15 = .ok (.newarray .int, 2) := by decide +kernel
theorem dJ7_copyOf_59c91_17 : decode cJ7_copyOf_59c91 17 = .ok (.astore_n 2, 1) := by decide +kernel
theorem dJ7_copyOf_59c91_18 : decode cJ7_copyOf_59c91 18 = .ok (.aload_n 0, 1) := by decide +kernel
theorem dJ7_copyOf_59c91_19 : decode cJ7_copyOf_59c91 19 = .ok (.iconst 0, 1) := by decide +kernel
theorem dJ7_copyOf_59c91_20 : decode cJ7_copyOf_59c91 20 = .ok (.aload_n 2, 1) := by decide +kernel
theorem dJ7_copyOf_59c91_21 : decode cJ7_copyOf_59c91 21 = .ok (.iconst 0, 1) := by decide +kernel
theorem dJ7_copyOf_59c91_22 : decode cJ7_copyOf_59c91 22 = .ok (.aload_n 0, 1) := by decide +kernel
theorem dJ7_copyOf_59c91_23 : decode cJ7_copyOf_59c91 23 = .ok (.arraylength, 1) := by decide +kernel
theorem dJ7_copyOf_59c91_24 : decode cJ7_copyOf_59c91 24 = .ok (.iload_n 1, 1) := by decide +kernel
theorem dJ7_copyOf_59c91_25 : decode cJ7_copyOf_59c91 25 = .ok (.invokestatic 304, 3) := by decide +kernel
theorem dJ7_copyOf_59c91_28 : decode cJ7_copyOf_59c91 28 = .ok (.invokestatic 150, 3) := by decide +kernel
theorem dJ7_copyOf_59c91_31 : decode cJ7_copyOf_59c91 31 = .ok (.aload_n 2, 1) := by decide +kernel
theorem dJ7_copyOf_59c91_32 : decode cJ7_copyOf_59c91 32 = .ok (.areturn, 1) := by decide +kernel
