theorem dX16_readModule_141 : decode cX16_readModule 141 = .ok (.isub, 1) := by decide +kernel
theorem dX16_readModule_142 : decode cX16_readModule 142 = .ok (.ireturn, 1) := by decide +kernel
theorem dX16_gatherRules_0 : decode cX16_gatherRules 0 = .ok (.aload_n 0, 1) := by decide +kernel
theorem dX16_gatherRules_1 : decode cX16_gatherRules 1 = .ok (.iconst 0, 1) := by decide +kernel
theorem dX16_gatherRules_2 : decode cX16_gatherRules 2 = .ok (.putfield 623, 3) := by decide +kernel
theorem dX16_gatherRules_5 : decode cX16_gatherRules 5 = .ok (.iconst 0, 1) := by decide +kernel
theorem dX16_gatherRules_6 : decode cX16_gatherRules 6 = .ok (.istore_n 1, 1) := by decide +kernel
theorem dX16_gatherRules_7 : decode cX16_gatherRules 7 = .ok (.iload_n 1, 1) := by decide +kernel
theorem dX16_gatherRules_8 : decode cX16_gatherRules 8 = .ok (.aload_n 0, 1) := by decide +kernel
theorem dX16_gatherRules_9 : decode cX16_gatherRules 9 = .ok (.getfield 519, 3) := by decide +kernel
theorem dX16_gatherRules_12 : decode cX16_gatherRules 12 = .ok (.if_icmp .ge 40, 3) := by decide +kernel
theorem dX16_gatherRules_52 : decode cX16_gatherRules 52 = .ok (.iconst 0, 1) := by decide +kernel
theorem dX16_gatherRules_53 : decode cX16_gatherRules 53 = .ok (.istore_n 1, 1) := by decide +kernel
theorem dX16_gatherRules_54 : decode cX16_gatherRules 54 = .ok (.iload_n 1, 1) := by decide +kernel
theorem dX16_gatherRules_55 : decode cX16_gatherRules 55 = .ok (.aload_n 0, 1) := by decide +kernel
theorem dX16_gatherRules_56 : decode cX16_gatherRules 56 = .ok (.getfield 525, 3) := by decide +kernel
theorem dX16_gatherRules_59 : decode cX16_gatherRules 59 = .ok (.if_icmp .ge 210, 3) := by decide +kernel
theorem dX16_gatherRules_269 : decode cX16_gatherRules 269 = .ok (.iconst 0, 1) := by decide +kernel
theorem dX16_gatherRules_270 : decode cX16_gatherRules 270 = .ok (.istore_n 1, 1) := by decide +kernel
theorem dX16_gatherRules_271 : decode cX16_gatherRules 271 = .ok (.iload_n 1, 1) := by decide +kernel
theorem dX16_gatherRules_272 : decode cX16_gatherRules 272 = .ok (.aload_n 0, 1) := by decide +kernel
theorem dX16_gatherRules_273 : decode cX16_gatherRules 273 = .ok (.getfield 623, 3) := by decide +kernel
theorem dX16_gatherRules_276 : decode cX16_gatherRules 276 = .ok (.if_icmp .ge 26, 3) := by decide +kernel
theorem dX16_gatherRules_302 : decode cX16_gatherRules 302 = .ok (.return_, 1) := by decide +kernel
theorem dX16_isFaulty_0 : decode cX16_isFaulty 0 = .ok (.aload_n 0, 1) := by decide +kernel
theorem dX16_isFaulty_1 : decode cX16_isFaulty 1 = .ok (.getfield 663, 3) := by decide +kernel
theorem dX16_isFaulty_4 : decode cX16_isFaulty 4 = .ok (.ifCond .eq 7, 3) := by decide +kernel
theorem dX16_isFaulty_11 : decode cX16_isFaulty 11 = .ok (.iconst 0, 1) := by decide +kernel
theorem dX16_isFaulty_12 : decode cX16_isFaulty 12 = .ok (.ireturn, 1) := by decide +kernel
theorem dX16_findClash_0 : decode cX16_findClash 0 = .ok (.iconst 0, 1) := by decide +kernel
theorem dX16_findClash_1 : decode cX16_findClash 1 = .ok (.istore_n 1, 1) := by decide +kernel
theorem dX16_findClash_2 : decode cX16_findClash 2 = .ok (.iload_n 1, 1) := by decide +kernel
theorem dX16_findClash_3 : decode cX16_findClash 3 = .ok (.aload_n 0, 1) := by decide +kernel
theorem dX16_findClash_4 : decode cX16_findClash 4 = .ok (.getfield 519, 3) := by decide +kernel
theorem dX16_findClash_7 : decode cX16_findClash 7 = .ok (.if_icmp .ge 101, 3) := by decide +kernel
theorem dX16_findClash_108 : decode cX16_findClash 108 = .ok (.return_, 1) := by decide +kernel
theorem dX16_findReads_0 : decode cX16_findReads 0 = .ok (.iconst 0, 1) := by decide +kernel
theorem dX16_findReads_1 : decode cX16_findReads 1 = .ok (.istore_n 1, 1) := by decide +kernel
theorem dX16_findReads_2 : decode cX16_findReads 2 = .ok (.iload_n 1, 1) := by decide +kernel
theorem dX16_findReads_3 : decode cX16_findReads 3 = .ok (.aload_n 0, 1) := by decide +kernel
theorem dX16_findReads_4 : decode cX16_findReads 4 = .ok (.getfield 623, 3) := by decide +kernel
theorem dX16_findReads_7 : decode cX16_findReads 7 = .ok (.if_icmp .ge 129, 3) := by decide +kernel
theorem dX16_findReads_136 : decode cX16_findReads 136 = .ok (.iconst 0, 1) := by decide +kernel
theorem dX16_findReads_137 : decode cX16_findReads 137 = .ok (.istore_n 1, 1) := by decide +kernel
theorem dX16_findReads_138 : decode cX16_findReads 138 = .ok (.iload_n 1, 1) := by decide +kernel
theorem dX16_findReads_139 : decode cX16_findReads 139 = .ok (.bipush 7, 2) := by decide +kernel
theorem dX16_findReads_141 : decode cX16_findReads 141 = .ok (.aload_n 0, 1) := by decide +kernel
theorem dX16_findReads_142 : decode cX16_findReads 142 = .ok (.getfield 623, 3) := by decide +kernel
theorem dX16_findReads_145 : decode cX16_findReads 145 = .ok (.imul, 1) := by decide +kernel
theorem dX16_findReads_146 : decode cX16_findReads 146 = .ok (.if_icmp .ge 21, 3) := by decide +kernel
theorem dX16_findReads_167 : decode cX16_findReads 167 = .ok (.iconst 0, 1) := by decide +kernel
theorem dX16_findReads_168 : decode cX16_findReads 168 = .ok (.istore_n 1, 1) := by decide +kernel
theorem dX16_findReads_169 : decode cX16_findReads 169 = .ok (.iload_n 1, 1) := by decide +kernel
theorem dX16_findReads_170 : decode cX16_findReads 170 = .ok (.aload_n 0, 1) := by decide +kernel
theorem dX16_findReads_171 : decode cX16_findReads 171 = .ok (.getfield 623, 3) := by decide +kernel
theorem dX16_findReads_174 : decode cX16_findReads 174 = .ok (.if_icmp .ge 79, 3) := by decide +kernel
theorem dX16_findReads_253 : decode cX16_findReads 253 = .ok (.return_, 1) := by decide +kernel
theorem dX16_checkReads_0 : decode cX16_checkReads 0 = .ok (.iconst 0, 1) := by decide +kernel
theorem dX16_checkReads_1 : decode cX16_checkReads 1 = .ok (.istore_n 1, 1) := by decide +kernel
theorem dX16_checkReads_2 : decode cX16_checkReads 2 = .ok (.iload_n 1, 1) := by decide +kernel
theorem dX16_checkReads_3 : decode cX16_checkReads 3 = .ok (.aload_n 0, 1) := by decide +kernel
theorem dX16_checkReads_4 : decode cX16_checkReads 4 = .ok (.getfield 623, 3) := by decide +kernel
theorem dX16_checkReads_7 : decode cX16_checkReads 7 = .ok (.if_icmp .ge 49, 3) := by decide +kernel
theorem dX16_checkReads_56 : decode cX16_checkReads 56 = .ok (.aload_n 0, 1) := by decide +kernel
theorem dX16_checkReads_57 : decode cX16_checkReads 57 = .ok (.invokevirtual 666, 3) := by decide +kernel
theorem dX16_checkReads_60 : decode cX16_checkReads 60 = .ok (.ifCond .eq 4, 3) := by decide +kernel
theorem dX16_checkReads_64 : decode cX16_checkReads 64 = .ok (.iconst 0, 1) := by decide +kernel
theorem dX16_checkReads_65 : decode cX16_checkReads 65 = .ok (.istore_n 1, 1) := by decide +kernel
theorem dX16_checkReads_66 : decode cX16_checkReads 66 = .ok (.iload_n 1, 1) := by decide +kernel
theorem dX16_checkReads_67 : decode cX16_checkReads 67 = .ok (.aload_n 0, 1) := by decide +kernel
theorem dX16_checkReads_68 : decode cX16_checkReads 68 = .ok (.getfield 623, 3) := by decide +kernel
theorem dX16_checkReads_71 : decode cX16_checkReads 71 = .ok (.if_icmp .ge 16, 3) := by decide +kernel
theorem dX16_checkReads_87 : decode cX16_checkReads 87 = .ok (.iconst 0, 1) := by decide +kernel
theorem dX16_checkReads_88 : decode cX16_checkReads 88 = .ok (.istore_n 1, 1) := by decide +kernel
theorem dX16_checkReads_89 : decode cX16_checkReads 89 = .ok (.iload_n 1, 1) := by decide +kernel
theorem dX16_checkReads_90 : decode cX16_checkReads 90 = .ok (.bipush 14, 2) := by decide +kernel
theorem dX16_checkReads_92 : decode cX16_checkReads 92 = .ok (.if_icmp .ge 82, 3) := by decide +kernel
theorem dX16_checkReads_95 : decode cX16_checkReads 95 = .ok (.iconst 0, 1) := by decide +kernel
theorem dX16_checkReads_96 : decode cX16_checkReads 96 = .ok (.istore_n 2, 1) := by decide +kernel
theorem dX16_checkReads_97 : decode cX16_checkReads 97 = .ok (.iload_n 2, 1) := by decide +kernel
theorem dX16_checkReads_98 : decode cX16_checkReads 98 = .ok (.aload_n 0, 1) := by decide +kernel
theorem dX16_checkReads_99 : decode cX16_checkReads 99 = .ok (.getfield 623, 3) := by decide +kernel
theorem dX16_checkReads_102 : decode cX16_checkReads 102 = .ok (.if_icmp .ge 66, 3) := by decide +kernel
theorem dX16_checkReads_168 : decode cX16_checkReads 168 = .ok (.iinc 1 1, 3) := by decide +kernel
theorem dX16_checkReads_171 : decode cX16_checkReads 171 = .ok (.goto (-82), 3) := by decide +kernel
theorem dX16_checkReads_174 : decode cX16_checkReads 174 = .ok (.iconst 0, 1) := by decide +kernel
theorem dX16_checkReads_175 : decode cX16_checkReads 175 = .ok (.istore_n 1, 1) := by decide +kernel
theorem dX16_checkReads_176 : decode cX16_checkReads 176 = .ok (.iload_n 1, 1) := by decide +kernel
theorem dX16_checkReads_177 : decode cX16_checkReads 177 = .ok (.aload_n 0, 1) := by decide +kernel
theorem dX16_checkReads_178 : decode cX16_checkReads 178 = .ok (.getfield 623, 3) := by decide +kernel
theorem dX16_checkReads_181 : decode cX16_checkReads 181 = .ok (.if_icmp .ge 48, 3) := by decide +kernel
theorem dX16_checkReads_229 : decode cX16_checkReads 229 = .ok (.return_, 1) := by decide +kernel
theorem dX16_loadBundle_0 : decode cX16_loadBundle 0 = .ok (.aload_n 0, 1) := by decide +kernel
theorem dX16_loadBundle_1 : decode cX16_loadBundle 1 = .ok (.getfield 2067, 3) := by decide +kernel
theorem dX16_loadBundle_4 : decode cX16_loadBundle 4 = .ok (.aload_n 0, 1) := by decide +kernel
theorem dX16_loadBundle_5 : decode cX16_loadBundle 5 = .ok (.getfield 2070, 3) := by decide +kernel
theorem dX16_loadBundle_8 : decode cX16_loadBundle 8 = .ok (.iload_n 1, 1) := by decide +kernel
theorem dX16_loadBundle_9 : decode cX16_loadBundle 9 = .ok (.iaload, 1) := by decide +kernel
theorem dX16_loadBundle_10 : decode cX16_loadBundle 10 = .ok (.if_icmp .ne 34, 3) := by decide +kernel
theorem dX16_loadBundle_44 : decode cX16_loadBundle 44 = .ok (.aload_n 0, 1) := by decide +kernel
theorem dX16_loadBundle_45 : decode cX16_loadBundle 45 = .ok (.invokevirtual 2073, 3) := by decide +kernel
theorem dX16_loadBundle_48 : decode cX16_loadBundle 48 = .ok (.iconst 0, 1) := by decide +kernel
theorem dX16_loadBundle_49 : decode cX16_loadBundle 49 = .ok (.istore_n 2, 1) := by decide +kernel
theorem dX16_loadBundle_50 : decode cX16_loadBundle 50 = .ok (.iload_n 2, 1) := by decide +kernel
theorem dX16_loadBundle_51 : decode cX16_loadBundle 51 = .ok (.aload_n 0, 1) := by decide +kernel
theorem dX16_loadBundle_52 : decode cX16_loadBundle 52 = .ok (.getfield 2076, 3) := by decide +kernel
theorem dX16_loadBundle_55 : decode cX16_loadBundle 55 = .ok (.iload_n 1, 1) := by decide +kernel
theorem dX16_loadBundle_56 : decode cX16_loadBundle 56 = .ok (.iaload, 1) := by decide +kernel
theorem dX16_loadBundle_57 : decode cX16_loadBundle 57 = .ok (.if_icmp .ge 84, 3) := by decide +kernel
theorem dX16_loadBundle_141 : decode cX16_loadBundle 141 = .ok (.aload_n 0, 1) := by decide +kernel
theorem dX16_loadBundle_142 : decode cX16_loadBundle 142 = .ok (.iconst 0, 1) := by decide +kernel
theorem dX16_loadBundle_143 : decode cX16_loadBundle 143 = .ok (.putfield 663, 3) := by decide +kernel
theorem dX16_loadBundle_146 : decode cX16_loadBundle 146 = .ok (.aload_n 0, 1) := by decide +kernel
theorem dX16_loadBundle_147 : decode cX16_loadBundle 147 = .ok (.invokevirtual 2092, 3) := by decide +kernel
theorem dX16_loadBundle_150 : decode cX16_loadBundle 150 = .ok (.aload_n 0, 1) := by decide +kernel
theorem dX16_loadBundle_151 : decode cX16_loadBundle 151 = .ok (.aload_n 0, 1) := by decide +kernel
theorem dX16_loadBundle_152 : decode cX16_loadBundle 152 = .ok (.getfield 663, 3) := by decide +kernel
theorem dX16_loadBundle_155 : decode cX16_loadBundle 155 = .ok (.putfield 2095, 3) := by decide +kernel
theorem dX16_loadBundle_158 : decode cX16_loadBundle 158 = .ok (.aload_n 0, 1) := by decide +kernel
theorem dX16_loadBundle_159 : decode cX16_loadBundle 159 = .ok (.aload_n 0, 1) := by decide +kernel
theorem dX16_loadBundle_160 : decode cX16_loadBundle 160 = .ok (.getfield 669, 3) := by decide +kernel
theorem dX16_loadBundle_163 : decode cX16_loadBundle 163 = .ok (.putfield 2098, 3) := by decide +kernel
theorem dX16_loadBundle_166 : decode cX16_loadBundle 166 = .ok (.aload_n 0, 1) := by decide +kernel
theorem dX16_loadBundle_167 : decode cX16_loadBundle 167 = .ok (.aload_n 0, 1) := by decide +kernel
theorem dX16_loadBundle_168 : decode cX16_loadBundle 168 = .ok (.getfield 672, 3) := by decide +kernel
theorem dX16_loadBundle_171 : decode cX16_loadBundle 171 = .ok (.putfield 2101, 3) := by decide +kernel
theorem dX16_loadBundle_174 : decode cX16_loadBundle 174 = .ok (.aload_n 0, 1) := by decide +kernel
theorem dX16_loadBundle_175 : decode cX16_loadBundle 175 = .ok (.aload_n 0, 1) := by decide +kernel
theorem dX16_loadBundle_176 : decode cX16_loadBundle 176 = .ok (.getfield 2070, 3) := by decide +kernel
theorem dX16_loadBundle_179 : decode cX16_loadBundle 179 = .ok (.iload_n 1, 1) := by decide +kernel
theorem dX16_loadBundle_180 : decode cX16_loadBundle 180 = .ok (.iaload, 1) := by decide +kernel
theorem dX16_loadBundle_181 : decode cX16_loadBundle 181 = .ok (.putfield 2067, 3) := by decide +kernel
theorem dX16_loadBundle_184 : decode cX16_loadBundle 184 = .ok (.aload_n 0, 1) := by decide +kernel
theorem dX16_loadBundle_185 : decode cX16_loadBundle 185 = .ok (.aload_n 0, 1) := by decide +kernel
theorem dX16_loadBundle_186 : decode cX16_loadBundle 186 = .ok (.getfield 338, 3) := by decide +kernel
theorem dX16_loadBundle_189 : decode cX16_loadBundle 189 = .ok (.putfield 2104, 3) := by decide +kernel
theorem dX16_loadBundle_192 : decode cX16_loadBundle 192 = .ok (.aload_n 0, 1) := by decide +kernel
theorem dX16_loadBundle_193 : decode cX16_loadBundle 193 = .ok (.aload_n 0, 1) := by decide +kernel
theorem dX16_loadBundle_194 : decode cX16_loadBundle 194 = .ok (.getfield 359, 3) := by decide +kernel
theorem dX16_loadBundle_197 : decode cX16_loadBundle 197 = .ok (.putfield 2107, 3) := by decide +kernel
theorem dX16_loadBundle_200 : decode cX16_loadBundle 200 = .ok (.aload_n 0, 1) := by decide +kernel
theorem dX16_loadBundle_201 : decode cX16_loadBundle 201 = .ok (.aload_n 0, 1) := by decide +kernel
theorem dX16_loadBundle_202 : decode cX16_loadBundle 202 = .ok (.getfield 458, 3) := by decide +kernel
theorem dX16_loadBundle_205 : decode cX16_loadBundle 205 = .ok (.putfield 2110, 3) := by decide +kernel
theorem dX16_loadBundle_208 : decode cX16_loadBundle 208 = .ok (.aload_n 0, 1) := by decide +kernel
theorem dX16_loadBundle_209 : decode cX16_loadBundle 209 = .ok (.aload_n 0, 1) := by decide +kernel
theorem dX16_loadBundle_210 : decode cX16_loadBundle 210 = .ok (.getfield 913, 3) := by decide +kernel
theorem dX16_loadBundle_213 : decode cX16_loadBundle 213 = .ok (.putfield 2113, 3) := by decide +kernel
theorem dX16_loadBundle_216 : decode cX16_loadBundle 216 = .ok (.aload_n 0, 1) := by decide +kernel
theorem dX16_loadBundle_217 : decode cX16_loadBundle 217 = .ok (.aload_n 0, 1) := by decide +kernel
theorem dX16_loadBundle_218 : decode cX16_loadBundle 218 = .ok (.getfield 2104, 3) := by decide +kernel
theorem dX16_loadBundle_221 : decode cX16_loadBundle 221 = .ok (.putfield 338, 3) := by decide +kernel
theorem dX16_loadBundle_224 : decode cX16_loadBundle 224 = .ok (.aload_n 0, 1) := by decide +kernel
theorem dX16_loadBundle_225 : decode cX16_loadBundle 225 = .ok (.aload_n 0, 1) := by decide +kernel
theorem dX16_loadBundle_226 : decode cX16_loadBundle 226 = .ok (.getfield 2107, 3) := by decide +kernel
theorem dX16_loadBundle_229 : decode cX16_loadBundle 229 = .ok (.putfield 359, 3) := by decide +kernel
theorem dX16_loadBundle_232 : decode cX16_loadBundle 232 = .ok (.aload_n 0, 1) := by decide +kernel
theorem dX16_loadBundle_233 : decode cX16_loadBundle 233 = .ok (.aload_n 0, 1) := by decide +kernel
theorem dX16_loadBundle_234 : decode cX16_loadBundle 234 = .ok (.getfield 2110, 3) := by decide +kernel
theorem dX16_loadBundle_237 : decode cX16_loadBundle 237 = .ok (.putfield 458, 3) := by decide +kernel
theorem dX16_loadBundle_240 : decode cX16_loadBundle 240 = .ok (.aload_n 0, 1) := by decide +kernel
theorem dX16_loadBundle_241 : decode cX16_loadBundle 241 = .ok (.aload_n 0, 1) := by decide +kernel
theorem dX16_loadBundle_242 : decode cX16_loadBundle 242 = .ok (.getfield 2113, 3) := by decide +kernel
theorem dX16_loadBundle_245 : decode cX16_loadBundle 245 = .ok (.putfield 913, 3) := by decide +kernel
theorem dX16_loadBundle_248 : decode cX16_loadBundle 248 = .ok (.aload_n 0, 1) := by decide +kernel
theorem dX16_loadBundle_249 : decode cX16_loadBundle 249 = .ok (.aload_n 0, 1) := by decide +kernel
theorem dX16_loadBundle_250 : decode cX16_loadBundle 250 = .ok (.getfield 2095, 3) := by decide +kernel
theorem dX16_loadBundle_253 : decode cX16_loadBundle 253 = .ok (.putfield 663, 3) := by decide +kernel
theorem dX16_loadBundle_256 : decode cX16_loadBundle 256 = .ok (.aload_n 0, 1) := by decide +kernel
theorem dX16_loadBundle_257 : decode cX16_loadBundle 257 = .ok (.aload_n 0, 1) := by decide +kernel
theorem dX16_loadBundle_258 : decode cX16_loadBundle 258 = .ok (.getfield 2098, 3) := by decide +kernel
theorem dX16_loadBundle_261 : decode cX16_loadBundle 261 = .ok (.putfield 669, 3) := by decide +kernel
theorem dX16_loadBundle_264 : decode cX16_loadBundle 264 = .ok (.aload_n 0, 1) := by decide +kernel
theorem dX16_loadBundle_265 : decode cX16_loadBundle 265 = .ok (.aload_n 0, 1) := by decide +kernel
theorem dX16_loadBundle_266 : decode cX16_loadBundle 266 = .ok (.getfield 2101, 3) := by decide +kernel
theorem dX16_loadBundle_269 : decode cX16_loadBundle 269 = .ok (.putfield 672, 3) := by decide +kernel
theorem dX16_loadBundle_272 : decode cX16_loadBundle 272 = .ok (.return_, 1) := by decide +kernel
theorem dX16_checkBundle_0 : decode cX16_checkBundle 0 = .ok (.aload_n 0, 1) := by decide +kernel
theorem dX16_checkBundle_1 : decode cX16_checkBundle 1 = .ok (.iconst 0, 1) := by decide +kernel
theorem dX16_checkBundle_2 : decode cX16_checkBundle 2 = .ok (.putfield 913, 3) := by decide +kernel
theorem dX16_checkBundle_5 : decode cX16_checkBundle 5 = .ok (.aload_n 0, 1) := by decide +kernel
theorem dX16_checkBundle_6 : decode cX16_checkBundle 6 = .ok (.invokevirtual 2116, 3) := by decide +kernel
theorem dX16_checkBundle_9 : decode cX16_checkBundle 9 = .ok (.aload_n 0, 1) := by decide +kernel
theorem dX16_checkBundle_10 : decode cX16_checkBundle 10 = .ok (.invokevirtual 2119, 3) := by decide +kernel
theorem dX16_checkBundle_13 : decode cX16_checkBundle 13 = .ok (.iconst 0, 1) := by decide +kernel
theorem dX16_checkBundle_14 : decode cX16_checkBundle 14 = .ok (.istore_n 1, 1) := by decide +kernel
theorem dX16_checkBundle_15 : decode cX16_checkBundle 15 = .ok (.iload_n 1, 1) := by decide +kernel
theorem dX16_checkBundle_16 : decode cX16_checkBundle 16 = .ok (.aload_n 0, 1) := by decide +kernel
theorem dX16_checkBundle_17 : decode cX16_checkBundle 17 = .ok (.getfield 525, 3) := by decide +kernel
theorem dX16_checkBundle_20 : decode cX16_checkBundle 20 = .ok (.if_icmp .ge 21, 3) := by decide +kernel
theorem dX16_checkBundle_41 : decode cX16_checkBundle 41 = .ok (.aload_n 0, 1) := by decide +kernel
theorem dX16_checkBundle_42 : decode cX16_checkBundle 42 = .ok (.invokevirtual 666, 3) := by decide +kernel
theorem dX16_checkBundle_45 : decode cX16_checkBundle 45 = .ok (.ifCond .eq 4, 3) := by decide +kernel
theorem dX16_checkBundle_49 : decode cX16_checkBundle 49 = .ok (.aload_n 0, 1) := by decide +kernel
theorem dX16_checkBundle_50 : decode cX16_checkBundle 50 = .ok (.invokevirtual 2125, 3) := by decide +kernel
theorem dX16_checkBundle_53 : decode cX16_checkBundle 53 = .ok (.aload_n 0, 1) := by decide +kernel
theorem dX16_checkBundle_54 : decode cX16_checkBundle 54 = .ok (.invokevirtual 2128, 3) := by decide +kernel
theorem dX16_checkBundle_57 : decode cX16_checkBundle 57 = .ok (.aload_n 0, 1) := by decide +kernel
theorem dX16_checkBundle_58 : decode cX16_checkBundle 58 = .ok (.invokevirtual 666, 3) := by decide +kernel
theorem dX16_checkBundle_61 : decode cX16_checkBundle 61 = .ok (.ifCond .eq 4, 3) := by decide +kernel
theorem dX16_checkBundle_65 : decode cX16_checkBundle 65 = .ok (.iconst 0, 1) := by decide +kernel
theorem dX16_checkBundle_66 : decode cX16_checkBundle 66 = .ok (.istore_n 1, 1) := by decide +kernel
theorem dX16_checkBundle_67 : decode cX16_checkBundle 67 = .ok (.iload_n 1, 1) := by decide +kernel
theorem dX16_checkBundle_68 : decode cX16_checkBundle 68 = .ok (.aload_n 0, 1) := by decide +kernel
theorem dX16_checkBundle_69 : decode cX16_checkBundle 69 = .ok (.getfield 623, 3) := by decide +kernel
theorem dX16_checkBundle_72 : decode cX16_checkBundle 72 = .ok (.if_icmp .ge 21, 3) := by decide +kernel
theorem dX16_checkBundle_93 : decode cX16_checkBundle 93 = .ok (.iconst 0, 1) := by decide +kernel
theorem dX16_checkBundle_94 : decode cX16_checkBundle 94 = .ok (.istore_n 1, 1) := by decide +kernel
theorem dX16_checkBundle_95 : decode cX16_checkBundle 95 = .ok (.iload_n 1, 1) := by decide +kernel
theorem dX16_checkBundle_96 : decode cX16_checkBundle 96 = .ok (.aload_n 0, 1) := by decide +kernel
theorem dX16_checkBundle_97 : decode cX16_checkBundle 97 = .ok (.getfield 623, 3) := by decide +kernel
theorem dX16_checkBundle_100 : decode cX16_checkBundle 100 = .ok (.if_icmp .ge 21, 3) := by decide +kernel
theorem dX16_checkBundle_121 : decode cX16_checkBundle 121 = .ok (.aload_n 0, 1) := by decide +kernel
theorem dX16_checkBundle_122 : decode cX16_checkBundle 122 = .ok (.invokevirtual 666, 3) := by decide +kernel
theorem dX16_checkBundle_125 : decode cX16_checkBundle 125 = .ok (.ifCond .ne 7, 3) := by decide +kernel
theorem dX16_checkBundle_128 : decode cX16_checkBundle 128 = .ok (.aload_n 0, 1) := by decide +kernel
theorem dX16_checkBundle_129 : decode cX16_checkBundle 129 = .ok (.invokevirtual 2137, 3) := by decide +kernel
theorem dX16_checkBundle_132 : decode cX16_checkBundle 132 = .ok (.return_, 1) := by decide +kernel
theorem dX16_findDepths_0 : decode cX16_findDepths 0 = .ok (.iconst 1, 1) := by decide +kernel
theorem dX16_findDepths_1 : decode cX16_findDepths 1 = .ok (.istore_n 1, 1) := by decide +kernel
theorem dX16_findDepths_2 : decode cX16_findDepths 2 = .ok (.iload_n 1, 1) := by decide +kernel
theorem dX16_findDepths_3 : decode cX16_findDepths 3 = .ok (.bipush 12, 2) := by decide +kernel
theorem dX16_findDepths_5 : decode cX16_findDepths 5 = .ok (.if_icmp .gt 101, 3) := by decide +kernel
theorem dX16_findDepths_8 : decode cX16_findDepths 8 = .ok (.iconst 0, 1) := by decide +kernel
theorem dX16_findDepths_9 : decode cX16_findDepths 9 = .ok (.istore_n 2, 1) := by decide +kernel
theorem dX16_findDepths_10 : decode cX16_findDepths 10 = .ok (.iload_n 2, 1) := by decide +kernel
theorem dX16_findDepths_11 : decode cX16_findDepths 11 = .ok (.aload_n 0, 1) := by decide +kernel
theorem dX16_findDepths_12 : decode cX16_findDepths 12 = .ok (.getfield 623, 3) := by decide +kernel
theorem dX16_findDepths_15 : decode cX16_findDepths 15 = .ok (.if_icmp .ge 85, 3) := by decide +kernel
theorem dX16_findDepths_100 : decode cX16_findDepths 100 = .ok (.iinc 1 1, 3) := by decide +kernel
theorem dX16_findDepths_103 : decode cX16_findDepths 103 = .ok (.goto (-101), 3) := by decide +kernel
theorem dX16_findDepths_106 : decode cX16_findDepths 106 = .ok (.return_, 1) := by decide +kernel
theorem dX16_readQuery_0 : decode cX16_readQuery 0 = .ok (.aload_n 0, 1) := by decide +kernel
theorem dX16_readQuery_1 : decode cX16_readQuery 1 = .ok (.aload_n 1, 1) := by decide +kernel
theorem dX16_readQuery_2 : decode cX16_readQuery 2 = .ok (.iload_n 2, 1) := by decide +kernel
theorem dX16_readQuery_3 : decode cX16_readQuery 3 = .ok (.invokevirtual 540, 3) := by decide +kernel
theorem dX16_readQuery_6 : decode cX16_readQuery 6 = .ok (.aload_n 0, 1) := by decide +kernel
theorem dX16_readQuery_7 : decode cX16_readQuery 7 = .ok (.sipush 400, 3) := by decide +kernel
theorem dX16_readQuery_10 : decode cX16_readQuery 10 = .ok (.putfield 470, 3) := by decide +kernel
theorem dX16_readQuery_13 : decode cX16_readQuery 13 = .ok (.aload_n 0, 1) := by decide +kernel
theorem dX16_readQuery_14 : decode cX16_readQuery 14 = .ok (.iconst 0, 1) := by decide +kernel
theorem dX16_readQuery_15 : decode cX16_readQuery 15 = .ok (.putfield 376, 3) := by decide +kernel
theorem dX16_readQuery_18 : decode cX16_readQuery 18 = .ok (.aload_n 0, 1) := by decide +kernel
theorem dX16_readQuery_19 : decode cX16_readQuery 19 = .ok (.aload_n 0, 1) := by decide +kernel
theorem dX16_readQuery_20 : decode cX16_readQuery 20 = .ok (.iconst 0, 1) := by decide +kernel
theorem dX16_readQuery_21 : decode cX16_readQuery 21 = .ok (.iconst 0, 1) := by decide +kernel
theorem dX16_readQuery_22 : decode cX16_readQuery 22 = .ok (.invokevirtual 444, 3) := by decide +kernel
theorem dX16_readQuery_25 : decode cX16_readQuery 25 = .ok (.putfield 1274, 3) := by decide +kernel
theorem dX16_readQuery_28 : decode cX16_readQuery 28 = .ok (.aload_n 0, 1) := by decide +kernel
theorem dX16_readQuery_29 : decode cX16_readQuery 29 = .ok (.invokevirtual 282, 3) := by decide +kernel
