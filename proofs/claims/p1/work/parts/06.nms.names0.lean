def tyX4 : Nat → FieldType := fun k => match k with
  | 0 => .array .int
  | 1 => .array .int
  | 2 => .array .int
  | 3 => .int
  | 4 => .int
  | 5 => .int
  | 6 => .int
  | _ => .boolean
theorem nmX4 : ∀ a, a < 8 → ∀ b, b < 8 → a ≠ b → (TX4 a).2.1 ≠ (TX4 b).2.1 := by decide +kernel
theorem tyX4_ok : ∀ k, k < 8 → parseFieldDescriptor (TX4 k).2.2.1 = some (tyX4 k) := by decide +kernel
def tyX6 : Nat → FieldType := fun k => match k with
  | 0 => .object "PolicyHouse$Heap"
  | 1 => .array .int
  | 2 => .array .int
  | 3 => .array .int
  | 4 => .array .int
  | 5 => .array .int
  | 6 => .int
  | 7 => .array .int
  | 8 => .array .int
  | 9 => .array .int
  | 10 => .array .int
  | 11 => .array .int
  | 12 => .int
  | 13 => .int
  | 14 => .int
  | _ => .int
theorem nmX6 : ∀ a, a < 16 → ∀ b, b < 16 → a ≠ b → (TX6 a).2.1 ≠ (TX6 b).2.1 := by decide +kernel
theorem tyX6_ok : ∀ k, k < 16 → parseFieldDescriptor (TX6 k).2.2.1 = some (tyX6 k) := by decide +kernel
theorem dX4_keepString_0 : decode cX4_keepString 0 = .ok (.aload_n 0, 1) := by decide +kernel
theorem dX4_keepString_1 : decode cX4_keepString 1 = .ok (.getfield 25, 3) := by decide +kernel
theorem dX4_keepString_4 : decode cX4_keepString 4 = .ok (.iload_n 3, 1) := by decide +kernel
theorem dX4_keepString_5 : decode cX4_keepString 5 = .ok (.iadd, 1) := by decide +kernel
theorem dX4_keepString_6 : decode cX4_keepString 6 = .ok (.iconst 1, 1) := by decide +kernel
theorem dX4_keepString_7 : decode cX4_keepString 7 = .ok (.iadd, 1) := by decide +kernel
theorem dX4_keepString_8 : decode cX4_keepString 8 = .ok (.ldc 82, 2) := by decide +kernel
theorem dX4_keepString_10 : decode cX4_keepString 10 = .ok (.if_icmp .le 5, 3) := by decide +kernel
theorem dX4_keepString_13 : decode cX4_keepString 13 = .ok (.iconst 1, 1) := by decide +kernel
theorem dX4_keepString_14 : decode cX4_keepString 14 = .ok (.ireturn, 1) := by decide +kernel
theorem dX4_keepString_15 : decode cX4_keepString 15 = .ok (.aload_n 0, 1) := by decide +kernel
theorem dX4_keepString_16 : decode cX4_keepString 16 = .ok (.getfield 25, 3) := by decide +kernel
theorem dX4_keepString_19 : decode cX4_keepString 19 = .ok (.istore 4, 2) := by decide +kernel
theorem dX4_keepString_21 : decode cX4_keepString 21 = .ok (.aload_n 0, 1) := by decide +kernel
theorem dX4_keepString_22 : decode cX4_keepString 22 = .ok (.dup, 1) := by decide +kernel
theorem dX4_keepString_23 : decode cX4_keepString 23 = .ok (.getfield 25, 3) := by decide +kernel
theorem dX4_keepString_26 : decode cX4_keepString 26 = .ok (.iload_n 3, 1) := by decide +kernel
theorem dX4_keepString_27 : decode cX4_keepString 27 = .ok (.iconst 1, 1) := by decide +kernel
theorem dX4_keepString_28 : decode cX4_keepString 28 = .ok (.iadd, 1) := by decide +kernel
theorem dX4_keepString_29 : decode cX4_keepString 29 = .ok (.iadd, 1) := by decide +kernel
theorem dX4_keepString_30 : decode cX4_keepString 30 = .ok (.putfield 25, 3) := by decide +kernel
theorem dX4_keepString_33 : decode cX4_keepString 33 = .ok (.aload_n 0, 1) := by decide +kernel
theorem dX4_keepString_34 : decode cX4_keepString 34 = .ok (.getfield 10, 3) := by decide +kernel
theorem dX4_keepString_37 : decode cX4_keepString 37 = .ok (.iload 4, 2) := by decide +kernel
theorem dX4_keepString_39 : decode cX4_keepString 39 = .ok (.iconst 4, 1) := by decide +kernel
theorem dX4_keepString_40 : decode cX4_keepString 40 = .ok (.iload_n 3, 1) := by decide +kernel
theorem dX4_keepString_41 : decode cX4_keepString 41 = .ok (.iconst 4, 1) := by decide +kernel
theorem dX4_keepString_42 : decode cX4_keepString 42 = .ok (.ishl, 1) := by decide +kernel
theorem dX4_keepString_43 : decode cX4_keepString 43 = .ok (.ior, 1) := by decide +kernel
theorem dX4_keepString_44 : decode cX4_keepString 44 = .ok (.iastore, 1) := by decide +kernel
theorem dX4_keepString_45 : decode cX4_keepString 45 = .ok (.aload_n 1, 1) := by decide +kernel
theorem dX4_keepString_46 : decode cX4_keepString 46 = .ok (.iload_n 2, 1) := by decide +kernel
theorem dX4_keepString_47 : decode cX4_keepString 47 = .ok (.aload_n 0, 1) := by decide +kernel
theorem dX4_keepString_48 : decode cX4_keepString 48 = .ok (.getfield 10, 3) := by decide +kernel
theorem dX4_keepString_51 : decode cX4_keepString 51 = .ok (.iload 4, 2) := by decide +kernel
theorem dX4_keepString_53 : decode cX4_keepString 53 = .ok (.iconst 1, 1) := by decide +kernel
theorem dX4_keepString_54 : decode cX4_keepString 54 = .ok (.iadd, 1) := by decide +kernel
theorem dX4_keepString_55 : decode cX4_keepString 55 = .ok (.iload_n 3, 1) := by decide +kernel
theorem dX4_keepString_56 : decode cX4_keepString 56 = .ok (.invokestatic 76, 3) := by decide +kernel
theorem dX4_keepString_59 : decode cX4_keepString 59 = .ok (.iload 4, 2) := by decide +kernel
theorem dX4_keepString_61 : decode cX4_keepString 61 = .ok (.ireturn, 1) := by decide +kernel
theorem dX6_init_0 : decode cX6_init 0 = .ok (.aload_n 0, 1) := by decide +kernel
theorem dX6_init_1 : decode cX6_init 1 = .ok (.invokespecial 1, 3) := by decide +kernel
theorem dX6_init_4 : decode cX6_init 4 = .ok (.aload_n 0, 1) := by decide +kernel
theorem dX6_init_5 : decode cX6_init 5 = .ok (.sipush 16384, 3) := by decide +kernel
theorem dX6_init_8 : decode cX6_init 8 = .ok (.newarray .int, 2) := by decide +kernel
theorem dX6_init_10 : decode cX6_init 10 = .ok (.putfield 9, 3) := by decide +kernel
theorem dX6_init_13 : decode cX6_init 13 = .ok (.aload_n 0, 1) := by decide +kernel
theorem dX6_init_14 : decode cX6_init 14 = .ok (.sipush 12288, 3) := by decide +kernel
theorem dX6_init_17 : decode cX6_init 17 = .ok (.newarray .int, 2) := by decide +kernel
theorem dX6_init_19 : decode cX6_init 19 = .ok (.putfield 13, 3) := by decide +kernel
theorem dX6_init_22 : decode cX6_init 22 = .ok (.aload_n 0, 1) := by decide +kernel
theorem dX6_init_23 : decode cX6_init 23 = .ok (.sipush 12288, 3) := by decide +kernel
theorem dX6_init_26 : decode cX6_init 26 = .ok (.newarray .int, 2) := by decide +kernel
theorem dX6_init_28 : decode cX6_init 28 = .ok (.putfield 16, 3) := by decide +kernel
theorem dX6_init_31 : decode cX6_init 31 = .ok (.aload_n 0, 1) := by decide +kernel
theorem dX6_init_32 : decode cX6_init 32 = .ok (.sipush 12288, 3) := by decide +kernel
theorem dX6_init_35 : decode cX6_init 35 = .ok (.newarray .int, 2) := by decide +kernel
theorem dX6_init_37 : decode cX6_init 37 = .ok (.putfield 19, 3) := by decide +kernel
theorem dX6_init_40 : decode cX6_init 40 = .ok (.aload_n 0, 1) := by decide +kernel
theorem dX6_init_41 : decode cX6_init 41 = .ok (.sipush 12288, 3) := by decide +kernel
theorem dX6_init_44 : decode cX6_init 44 = .ok (.newarray .int, 2) := by decide +kernel
theorem dX6_init_46 : decode cX6_init 46 = .ok (.putfield 22, 3) := by decide +kernel
theorem dX6_init_49 : decode cX6_init 49 = .ok (.aload_n 0, 1) := by decide +kernel
theorem dX6_init_50 : decode cX6_init 50 = .ok (.iconst 1, 1) := by decide +kernel
theorem dX6_init_51 : decode cX6_init 51 = .ok (.putfield 25, 3) := by decide +kernel
theorem dX6_init_54 : decode cX6_init 54 = .ok (.aload_n 0, 1) := by decide +kernel
theorem dX6_init_55 : decode cX6_init 55 = .ok (.bipush 19, 2) := by decide +kernel
theorem dX6_init_57 : decode cX6_init 57 = .ok (.newarray .int, 2) := by decide +kernel
theorem dX6_init_59 : decode cX6_init 59 = .ok (.putfield 29, 3) := by decide +kernel
theorem dX6_init_62 : decode cX6_init 62 = .ok (.aload_n 0, 1) := by decide +kernel
theorem dX6_init_63 : decode cX6_init 63 = .ok (.sipush 256, 3) := by decide +kernel
theorem dX6_init_66 : decode cX6_init 66 = .ok (.newarray .int, 2) := by decide +kernel
theorem dX6_init_68 : decode cX6_init 68 = .ok (.putfield 32, 3) := by decide +kernel
theorem dX6_init_71 : decode cX6_init 71 = .ok (.aload_n 0, 1) := by decide +kernel
theorem dX6_init_72 : decode cX6_init 72 = .ok (.bipush 70, 2) := by decide +kernel
theorem dX6_init_74 : decode cX6_init 74 = .ok (.newarray .int, 2) := by decide +kernel
theorem dX6_init_76 : decode cX6_init 76 = .ok (.putfield 35, 3) := by decide +kernel
theorem dX6_init_79 : decode cX6_init 79 = .ok (.aload_n 0, 1) := by decide +kernel
theorem dX6_init_80 : decode cX6_init 80 = .ok (.bipush 70, 2) := by decide +kernel
theorem dX6_init_82 : decode cX6_init 82 = .ok (.newarray .int, 2) := by decide +kernel
theorem dX6_init_84 : decode cX6_init 84 = .ok (.putfield 38, 3) := by decide +kernel
theorem dX6_init_87 : decode cX6_init 87 = .ok (.aload_n 0, 1) := by decide +kernel
theorem dX6_init_88 : decode cX6_init 88 = .ok (.bipush 32, 2) := by decide +kernel
theorem dX6_init_90 : decode cX6_init 90 = .ok (.newarray .int, 2) := by decide +kernel
theorem dX6_init_92 : decode cX6_init 92 = .ok (.putfield 41, 3) := by decide +kernel
theorem dX6_init_95 : decode cX6_init 95 = .ok (.aload_n 0, 1) := by decide +kernel
theorem dX6_init_96 : decode cX6_init 96 = .ok (.aload_n 1, 1) := by decide +kernel
theorem dX6_init_97 : decode cX6_init 97 = .ok (.putfield 44, 3) := by decide +kernel
theorem dX6_init_100 : decode cX6_init 100 = .ok (.iconst 0, 1) := by decide +kernel
theorem dX6_init_101 : decode cX6_init 101 = .ok (.istore_n 2, 1) := by decide +kernel
theorem dX6_init_102 : decode cX6_init 102 = .ok (.iconst 0, 1) := by decide +kernel
theorem dX6_init_103 : decode cX6_init 103 = .ok (.istore_n 3, 1) := by decide +kernel
theorem dX6_init_104 : decode cX6_init 104 = .ok (.iload_n 3, 1) := by decide +kernel
theorem dX6_init_105 : decode cX6_init 105 = .ok (.bipush 19, 2) := by decide +kernel
theorem dX6_init_107 : decode cX6_init 107 = .ok (.if_icmp .ge 37, 3) := by decide +kernel
theorem dX6_init_110 : decode cX6_init 110 = .ok (.ldc 48, 2) := by decide +kernel
theorem dX6_init_112 : decode cX6_init 112 = .ok (.iload_n 2, 1) := by decide +kernel
theorem dX6_init_113 : decode cX6_init 113 = .ok (.invokestatic 50, 3) := by decide +kernel
theorem dX6_init_116 : decode cX6_init 116 = .ok (.istore 4, 2) := by decide +kernel
theorem dX6_init_118 : decode cX6_init 118 = .ok (.aload_n 0, 1) := by decide +kernel
theorem dX6_init_119 : decode cX6_init 119 = .ok (.getfield 29, 3) := by decide +kernel
theorem dX6_init_122 : decode cX6_init 122 = .ok (.iload_n 3, 1) := by decide +kernel
theorem dX6_init_123 : decode cX6_init 123 = .ok (.aload_n 0, 1) := by decide +kernel
theorem dX6_init_124 : decode cX6_init 124 = .ok (.ldc 48, 2) := by decide +kernel
theorem dX6_init_126 : decode cX6_init 126 = .ok (.iload_n 2, 1) := by decide +kernel
theorem dX6_init_127 : decode cX6_init 127 = .ok (.iload 4, 2) := by decide +kernel
theorem dX6_init_129 : decode cX6_init 129 = .ok (.invokevirtual 54, 3) := by decide +kernel
theorem dX6_init_132 : decode cX6_init 132 = .ok (.iastore, 1) := by decide +kernel
theorem dX6_init_133 : decode cX6_init 133 = .ok (.iload 4, 2) := by decide +kernel
theorem dX6_init_135 : decode cX6_init 135 = .ok (.iconst 1, 1) := by decide +kernel
theorem dX6_init_136 : decode cX6_init 136 = .ok (.iadd, 1) := by decide +kernel
theorem dX6_init_137 : decode cX6_init 137 = .ok (.istore_n 2, 1) := by decide +kernel
theorem dX6_init_138 : decode cX6_init 138 = .ok (.iinc 3 1, 3) := by decide +kernel
theorem dX6_init_141 : decode cX6_init 141 = .ok (.goto (-37), 3) := by decide +kernel
theorem dX6_init_144 : decode cX6_init 144 = .ok (.aload_n 0, 1) := by decide +kernel
theorem dX6_init_145 : decode cX6_init 145 = .ok (.aload_n 0, 1) := by decide +kernel
theorem dX6_init_146 : decode cX6_init 146 = .ok (.getfield 29, 3) := by decide +kernel
theorem dX6_init_149 : decode cX6_init 149 = .ok (.bipush 15, 2) := by decide +kernel
theorem dX6_init_151 : decode cX6_init 151 = .ok (.iaload, 1) := by decide +kernel
theorem dX6_init_152 : decode cX6_init 152 = .ok (.putfield 58, 3) := by decide +kernel
theorem dX6_init_155 : decode cX6_init 155 = .ok (.aload_n 0, 1) := by decide +kernel
theorem dX6_init_156 : decode cX6_init 156 = .ok (.aload_n 0, 1) := by decide +kernel
theorem dX6_init_157 : decode cX6_init 157 = .ok (.getfield 29, 3) := by decide +kernel
theorem dX6_init_160 : decode cX6_init 160 = .ok (.bipush 16, 2) := by decide +kernel
theorem dX6_init_162 : decode cX6_init 162 = .ok (.iaload, 1) := by decide +kernel
theorem dX6_init_163 : decode cX6_init 163 = .ok (.putfield 61, 3) := by decide +kernel
theorem dX6_init_166 : decode cX6_init 166 = .ok (.aload_n 0, 1) := by decide +kernel
theorem dX6_init_167 : decode cX6_init 167 = .ok (.aload_n 0, 1) := by decide +kernel
theorem dX6_init_168 : decode cX6_init 168 = .ok (.getfield 29, 3) := by decide +kernel
theorem dX6_init_171 : decode cX6_init 171 = .ok (.bipush 17, 2) := by decide +kernel
theorem dX6_init_173 : decode cX6_init 173 = .ok (.iaload, 1) := by decide +kernel
theorem dX6_init_174 : decode cX6_init 174 = .ok (.putfield 64, 3) := by decide +kernel
theorem dX6_init_177 : decode cX6_init 177 = .ok (.aload_n 0, 1) := by decide +kernel
theorem dX6_init_178 : decode cX6_init 178 = .ok (.aload_n 0, 1) := by decide +kernel
theorem dX6_init_179 : decode cX6_init 179 = .ok (.getfield 29, 3) := by decide +kernel
theorem dX6_init_182 : decode cX6_init 182 = .ok (.bipush 18, 2) := by decide +kernel
theorem dX6_init_184 : decode cX6_init 184 = .ok (.iaload, 1) := by decide +kernel
theorem dX6_init_185 : decode cX6_init 185 = .ok (.putfield 67, 3) := by decide +kernel
theorem dX6_init_188 : decode cX6_init 188 = .ok (.iconst 0, 1) := by decide +kernel
theorem dX6_init_189 : decode cX6_init 189 = .ok (.istore_n 2, 1) := by decide +kernel
theorem dX6_init_190 : decode cX6_init 190 = .ok (.iconst 0, 1) := by decide +kernel
theorem dX6_init_191 : decode cX6_init 191 = .ok (.istore_n 3, 1) := by decide +kernel
theorem dX6_init_192 : decode cX6_init 192 = .ok (.iload_n 3, 1) := by decide +kernel
theorem dX6_init_193 : decode cX6_init 193 = .ok (.bipush 70, 2) := by decide +kernel
theorem dX6_init_195 : decode cX6_init 195 = .ok (.if_icmp .ge 83, 3) := by decide +kernel
theorem dX6_init_198 : decode cX6_init 198 = .ok (.ldc 70, 2) := by decide +kernel
theorem dX6_init_200 : decode cX6_init 200 = .ok (.iload_n 2, 1) := by decide +kernel
theorem dX6_init_201 : decode cX6_init 201 = .ok (.invokestatic 50, 3) := by decide +kernel
theorem dX6_init_204 : decode cX6_init 204 = .ok (.istore 4, 2) := by decide +kernel
theorem dX6_init_206 : decode cX6_init 206 = .ok (.aload_n 0, 1) := by decide +kernel
theorem dX6_init_207 : decode cX6_init 207 = .ok (.ldc 70, 2) := by decide +kernel
theorem dX6_init_209 : decode cX6_init 209 = .ok (.iload_n 2, 1) := by decide +kernel
theorem dX6_init_210 : decode cX6_init 210 = .ok (.iload 4, 2) := by decide +kernel
theorem dX6_init_212 : decode cX6_init 212 = .ok (.invokevirtual 72, 3) := by decide +kernel
theorem dX6_init_215 : decode cX6_init 215 = .ok (.istore 5, 2) := by decide +kernel
theorem dX6_init_217 : decode cX6_init 217 = .ok (.iload 5, 2) := by decide +kernel
theorem dX6_init_219 : decode cX6_init 219 = .ok (.aload_n 0, 1) := by decide +kernel
theorem dX6_init_220 : decode cX6_init 220 = .ok (.getfield 32, 3) := by decide +kernel
theorem dX6_init_223 : decode cX6_init 223 = .ok (.arraylength, 1) := by decide +kernel
theorem dX6_init_224 : decode cX6_init 224 = .ok (.if_icmp .ge 13, 3) := by decide +kernel
theorem dX6_init_227 : decode cX6_init 227 = .ok (.aload_n 0, 1) := by decide +kernel
theorem dX6_init_228 : decode cX6_init 228 = .ok (.getfield 32, 3) := by decide +kernel
theorem dX6_init_231 : decode cX6_init 231 = .ok (.iload 5, 2) := by decide +kernel
theorem dX6_init_233 : decode cX6_init 233 = .ok (.iload_n 3, 1) := by decide +kernel
theorem dX6_init_234 : decode cX6_init 234 = .ok (.iconst 1, 1) := by decide +kernel
theorem dX6_init_235 : decode cX6_init 235 = .ok (.iadd, 1) := by decide +kernel
theorem dX6_init_236 : decode cX6_init 236 = .ok (.iastore, 1) := by decide +kernel
theorem dX6_init_237 : decode cX6_init 237 = .ok (.iload 4, 2) := by decide +kernel
theorem dX6_init_239 : decode cX6_init 239 = .ok (.iconst 1, 1) := by decide +kernel
theorem dX6_init_240 : decode cX6_init 240 = .ok (.iadd, 1) := by decide +kernel
theorem dX6_init_241 : decode cX6_init 241 = .ok (.istore_n 2, 1) := by decide +kernel
theorem dX6_init_242 : decode cX6_init 242 = .ok (.ldc 70, 2) := by decide +kernel
theorem dX6_init_244 : decode cX6_init 244 = .ok (.iload_n 2, 1) := by decide +kernel
theorem dX6_init_245 : decode cX6_init 245 = .ok (.invokestatic 50, 3) := by decide +kernel
theorem dX6_init_248 : decode cX6_init 248 = .ok (.istore 4, 2) := by decide +kernel
theorem dX6_init_250 : decode cX6_init 250 = .ok (.aload_n 0, 1) := by decide +kernel
theorem dX6_init_251 : decode cX6_init 251 = .ok (.getfield 35, 3) := by decide +kernel
theorem dX6_init_254 : decode cX6_init 254 = .ok (.iload_n 3, 1) := by decide +kernel
theorem dX6_init_255 : decode cX6_init 255 = .ok (.iload_n 2, 1) := by decide +kernel
theorem dX6_init_256 : decode cX6_init 256 = .ok (.iastore, 1) := by decide +kernel
theorem dX6_init_257 : decode cX6_init 257 = .ok (.aload_n 0, 1) := by decide +kernel
theorem dX6_init_258 : decode cX6_init 258 = .ok (.getfield 38, 3) := by decide +kernel
theorem dX6_init_261 : decode cX6_init 261 = .ok (.iload_n 3, 1) := by decide +kernel
theorem dX6_init_262 : decode cX6_init 262 = .ok (.iload 4, 2) := by decide +kernel
theorem dX6_init_264 : decode cX6_init 264 = .ok (.iload_n 2, 1) := by decide +kernel
theorem dX6_init_265 : decode cX6_init 265 = .ok (.isub, 1) := by decide +kernel
theorem dX6_init_266 : decode cX6_init 266 = .ok (.iastore, 1) := by decide +kernel
theorem dX6_init_267 : decode cX6_init 267 = .ok (.iload 4, 2) := by decide +kernel
theorem dX6_init_269 : decode cX6_init 269 = .ok (.iconst 1, 1) := by decide +kernel
theorem dX6_init_270 : decode cX6_init 270 = .ok (.iadd, 1) := by decide +kernel
theorem dX6_init_271 : decode cX6_init 271 = .ok (.istore_n 2, 1) := by decide +kernel
theorem dX6_init_272 : decode cX6_init 272 = .ok (.iinc 3 1, 3) := by decide +kernel
theorem dX6_init_275 : decode cX6_init 275 = .ok (.goto (-83), 3) := by decide +kernel
theorem dX6_init_278 : decode cX6_init 278 = .ok (.return_, 1) := by decide +kernel
theorem dX6_stopOf_0 : decode cX6_stopOf 0 = .ok (.iload_n 1, 1) := by decide +kernel
theorem dX6_stopOf_1 : decode cX6_stopOf 1 = .ok (.istore_n 2, 1) := by decide +kernel
theorem dX6_stopOf_2 : decode cX6_stopOf 2 = .ok (.iload_n 2, 1) := by decide +kernel
theorem dX6_stopOf_3 : decode cX6_stopOf 3 = .ok (.aload_n 0, 1) := by decide +kernel
theorem dX6_stopOf_4 : decode cX6_stopOf 4 = .ok (.invokevirtual 75, 3) := by decide +kernel
theorem dX6_stopOf_7 : decode cX6_stopOf 7 = .ok (.if_icmp .ge 19, 3) := by decide +kernel
theorem dX6_stopOf_10 : decode cX6_stopOf 10 = .ok (.aload_n 0, 1) := by decide +kernel
theorem dX6_stopOf_11 : decode cX6_stopOf 11 = .ok (.iload_n 2, 1) := by decide +kernel
theorem dX6_stopOf_12 : decode cX6_stopOf 12 = .ok (.invokevirtual 81, 3) := by decide +kernel
theorem dX6_stopOf_15 : decode cX6_stopOf 15 = .ok (.bipush 32, 2) := by decide +kernel
theorem dX6_stopOf_17 : decode cX6_stopOf 17 = .ok (.if_icmp .eq 9, 3) := by decide +kernel
theorem dX6_stopOf_20 : decode cX6_stopOf 20 = .ok (.iinc 2 1, 3) := by decide +kernel
theorem dX6_stopOf_23 : decode cX6_stopOf 23 = .ok (.goto (-21), 3) := by decide +kernel
theorem dX6_stopOf_26 : decode cX6_stopOf 26 = .ok (.iload_n 2, 1) := by decide +kernel
theorem dX6_stopOf_27 : decode cX6_stopOf 27 = .ok (.ireturn, 1) := by decide +kernel
theorem dX6_symOf_0 : decode cX6_symOf 0 = .ok (.iload_n 3, 1) := by decide +kernel
theorem dX6_symOf_1 : decode cX6_symOf 1 = .ok (.iload_n 2, 1) := by decide +kernel
theorem dX6_symOf_2 : decode cX6_symOf 2 = .ok (.isub, 1) := by decide +kernel
theorem dX6_symOf_3 : decode cX6_symOf 3 = .ok (.aload_n 0, 1) := by decide +kernel
theorem dX6_symOf_4 : decode cX6_symOf 4 = .ok (.getfield 41, 3) := by decide +kernel
theorem dX6_symOf_7 : decode cX6_symOf 7 = .ok (.arraylength, 1) := by decide +kernel
theorem dX6_symOf_8 : decode cX6_symOf 8 = .ok (.invokestatic 85, 3) := by decide +kernel
theorem dX6_symOf_11 : decode cX6_symOf 11 = .ok (.istore 4, 2) := by decide +kernel
theorem dX6_symOf_13 : decode cX6_symOf 13 = .ok (.iconst 0, 1) := by decide +kernel
theorem dX6_symOf_14 : decode cX6_symOf 14 = .ok (.istore 5, 2) := by decide +kernel
theorem dX6_symOf_16 : decode cX6_symOf 16 = .ok (.iload 5, 2) := by decide +kernel
theorem dX6_symOf_18 : decode cX6_symOf 18 = .ok (.iload 4, 2) := by decide +kernel
theorem dX6_symOf_20 : decode cX6_symOf 20 = .ok (.if_icmp .ge 24, 3) := by decide +kernel
theorem dX6_symOf_23 : decode cX6_symOf 23 = .ok (.aload_n 0, 1) := by decide +kernel
theorem dX6_symOf_24 : decode cX6_symOf 24 = .ok (.getfield 41, 3) := by decide +kernel
theorem dX6_symOf_27 : decode cX6_symOf 27 = .ok (.iload 5, 2) := by decide +kernel
theorem dX6_symOf_29 : decode cX6_symOf 29 = .ok (.aload_n 1, 1) := by decide +kernel
theorem dX6_symOf_30 : decode cX6_symOf 30 = .ok (.iload_n 2, 1) := by decide +kernel
theorem dX6_symOf_31 : decode cX6_symOf 31 = .ok (.iload 5, 2) := by decide +kernel
theorem dX6_symOf_33 : decode cX6_symOf 33 = .ok (.iadd, 1) := by decide +kernel
theorem dX6_symOf_34 : decode cX6_symOf 34 = .ok (.invokevirtual 81, 3) := by decide +kernel
theorem dX6_symOf_37 : decode cX6_symOf 37 = .ok (.iastore, 1) := by decide +kernel
theorem dX6_symOf_38 : decode cX6_symOf 38 = .ok (.iinc 5 1, 3) := by decide +kernel
theorem dX6_symOf_41 : decode cX6_symOf 41 = .ok (.goto (-25), 3) := by decide +kernel
theorem dX6_symOf_44 : decode cX6_symOf 44 = .ok (.aload_n 0, 1) := by decide +kernel
theorem dX6_symOf_45 : decode cX6_symOf 45 = .ok (.aload_n 0, 1) := by decide +kernel
theorem dX6_symOf_46 : decode cX6_symOf 46 = .ok (.getfield 41, 3) := by decide +kernel
theorem dX6_symOf_49 : decode cX6_symOf 49 = .ok (.iconst 0, 1) := by decide +kernel
theorem dX6_symOf_50 : decode cX6_symOf 50 = .ok (.iload 4, 2) := by decide +kernel
theorem dX6_symOf_52 : decode cX6_symOf 52 = .ok (.invokevirtual 91, 3) := by decide +kernel
theorem dX6_symOf_55 : decode cX6_symOf 55 = .ok (.ireturn, 1) := by decide +kernel
theorem dX6_nodeOf_0 : decode cX6_nodeOf 0 = .ok (.iconst 0, 1) := by decide +kernel
theorem dX6_nodeOf_1 : decode cX6_nodeOf 1 = .ok (.istore 4, 2) := by decide +kernel
theorem dX6_nodeOf_3 : decode cX6_nodeOf 3 = .ok (.iload_n 2, 1) := by decide +kernel
