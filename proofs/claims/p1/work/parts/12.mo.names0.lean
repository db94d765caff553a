def tyX15 : Nat → FieldType := fun k => match k with
  | 0 => .array .long
  | 1 => .array .int
  | 2 => .array .byte
  | 3 => .int
  | 4 => .int
  | 5 => .int
  | 6 => .array .int
  | _ => .array .int
theorem nmX15 : ∀ a, a < 8 → ∀ b, b < 8 → a ≠ b → (TX15 a).2.1 ≠ (TX15 b).2.1 := by decide +kernel
theorem tyX15_ok : ∀ k, k < 8 → parseFieldDescriptor (TX15 k).2.2.1 = some (tyX15 k) := by decide +kernel
def tyX16 : Nat → FieldType := fun k => match k with
  | 0 => .array .byte
  | 1 => .int
  | 2 => .int
  | 3 => .long
  | 4 => .object "PolicyHouseModel$Values"
  | 5 => .array .byte
  | 6 => .int
  | 7 => .int
  | 8 => .array .int
  | 9 => .int
  | 10 => .array .byte
  | 11 => .array .byte
  | 12 => .array .byte
  | 13 => .int
  | 14 => .int
  | 15 => .int
  | 16 => .array .byte
  | 17 => .array .int
  | 18 => .array .int
  | 19 => .array .int
  | 20 => .int
  | 21 => .array .byte
  | 22 => .int
  | 23 => .int
  | 24 => .int
  | 25 => .int
  | 26 => .int
  | 27 => .int
  | 28 => .int
  | 29 => .boolean
  | 30 => .boolean
  | 31 => .array .int
  | 32 => .array .int
  | 33 => .array .int
  | 34 => .array .int
  | 35 => .array .int
  | 36 => .array .int
  | 37 => .int
  | 38 => .array .int
  | 39 => .array .int
  | 40 => .array .long
  | 41 => .array .byte
  | 42 => .int
  | 43 => .array .int
  | 44 => .array .int
  | 45 => .array .int
  | 46 => .array .int
  | 47 => .array .int
  | 48 => .int
  | 49 => .int
  | 50 => .int
  | 51 => .boolean
  | 52 => .int
  | 53 => .int
  | 54 => .int
  | 55 => .int
  | 56 => .int
  | 57 => .array .int
  | 58 => .array .int
  | 59 => .array .int
  | 60 => .array .int
  | 61 => .array .int
  | 62 => .array .int
  | 63 => .int
  | 64 => .array .int
  | 65 => .array .int
  | 66 => .array .int
  | 67 => .array .int
  | 68 => .array .int
  | 69 => .array .int
  | 70 => .array .int
  | 71 => .array .int
  | 72 => .int
  | 73 => .array .int
  | 74 => .array .int
  | 75 => .array .int
  | 76 => .array .int
  | 77 => .array .int
  | 78 => .int
  | 79 => .array .int
  | 80 => .array .int
  | 81 => .array .int
  | 82 => .array .int
  | 83 => .int
  | 84 => .int
  | 85 => .int
  | 86 => .array .int
  | 87 => .array .int
  | 88 => .array .int
  | 89 => .array .int
  | 90 => .array .int
  | 91 => .array .int
  | 92 => .array .int
  | 93 => .int
  | 94 => .int
  | 95 => .int
  | 96 => .array .int
  | 97 => .array .long
  | 98 => .array .long
  | 99 => .array .long
  | 100 => .array .long
  | 101 => .array .int
  | 102 => .array .int
  | 103 => .array .int
  | 104 => .boolean
  | 105 => .array .boolean
  | 106 => .array .int
  | 107 => .array .int
  | 108 => .int
  | 109 => .int
  | 110 => .array .boolean
  | 111 => .array .int
  | 112 => .object "PolicyHouseModel$Values"
  | 113 => .array .int
  | 114 => .array .int
  | 115 => .int
  | 116 => .int
  | 117 => .int
  | 118 => .int
  | 119 => .int
  | 120 => .int
  | 121 => .boolean
  | 122 => .boolean
  | 123 => .boolean
  | 124 => .boolean
  | 125 => .array .int
  | 126 => .array .int
  | 127 => .array .int
  | 128 => .array .int
  | 129 => .array .int
  | 130 => .int
  | 131 => .array .int
  | 132 => .array .int
  | 133 => .array .int
  | 134 => .array .boolean
  | 135 => .array .int
  | 136 => .array .boolean
  | 137 => .array .int
  | 138 => .array .int
  | 139 => .array .int
  | 140 => .array .int
  | 141 => .array .long
  | 142 => .int
  | 143 => .int
  | 144 => .int
  | 145 => .array .int
  | 146 => .array .int
  | 147 => .array .int
  | 148 => .array .int
  | 149 => .array .int
  | 150 => .array .int
  | 151 => .array .boolean
  | 152 => .int
  | 153 => .int
  | 154 => .array .int
  | 155 => .array .int
  | 156 => .array .int
  | 157 => .array .int
  | 158 => .int
  | 159 => .array .int
  | 160 => .boolean
  | 161 => .array .int
  | 162 => .array .int
  | 163 => .int
  | 164 => .array .long
  | 165 => .int
  | 166 => .object "PolicyHouseModel$Values"
  | 167 => .object "PolicyHouseModel$Values"
  | 168 => .object "PolicyHouseModel$Values"
  | 169 => .int
  | 170 => .array .byte
  | 171 => .array .int
  | 172 => .int
  | 173 => .array .int
  | 174 => .array .int
  | 175 => .array .int
  | 176 => .array .int
  | 177 => .array .int
  | 178 => .array .int
  | 179 => .array .int
  | 180 => .int
  | 181 => .int
  | 182 => .array .long
  | 183 => .int
  | 184 => .array .int
  | 185 => .array .int
  | 186 => .array .int
  | 187 => .array .int
  | 188 => .array .int
  | 189 => .int
  | 190 => .int
  | 191 => .int
  | 192 => .int
  | 193 => .boolean
  | 194 => .int
  | 195 => .int
  | 196 => .int
  | 197 => .int
  | 198 => .int
  | 199 => .int
  | 200 => .boolean
  | 201 => .int
  | 202 => .array .int
  | 203 => .int
  | 204 => .int
  | 205 => .array .int
  | 206 => .array .long
  | 207 => .array .byte
  | 208 => .array .byte
  | 209 => .array .int
  | 210 => .array .int
  | 211 => .array .int
  | 212 => .array .int
  | 213 => .array .boolean
  | 214 => .int
  | 215 => .int
  | 216 => .int
  | 217 => .int
  | 218 => .int
  | 219 => .int
  | 220 => .int
  | 221 => .int
  | 222 => .int
  | 223 => .int
  | 224 => .int
  | 225 => .int
  | 226 => .int
  | 227 => .int
  | 228 => .array .byte
  | 229 => .int
  | 230 => .object "PolicyHouseModel$Values"
  | 231 => .object "PolicyHouseModel$Values"
  | 232 => .array (.object "PolicyHouseModel$Values")
  | 233 => .array .int
  | 234 => .array .int
  | 235 => .int
  | 236 => .int
  | 237 => .int
  | 238 => .int
  | 239 => .int
  | 240 => .int
  | 241 => .int
  | _ => .boolean
theorem nmX16 : ∀ a, a < 243 → ∀ b, b < 243 → a ≠ b → (TX16 a).2.1 ≠ (TX16 b).2.1 := by decide +kernel
theorem tyX16_ok : ∀ k, k < 243 → parseFieldDescriptor (TX16 k).2.2.1 = some (tyX16 k) := by decide +kernel
theorem dX15_init_0 : decode cX15_init 0 = .ok (.aload_n 0, 1) := by decide +kernel
theorem dX15_init_1 : decode cX15_init 1 = .ok (.invokespecial 3, 3) := by decide +kernel
theorem dX15_init_4 : decode cX15_init 4 = .ok (.aload_n 0, 1) := by decide +kernel
theorem dX15_init_5 : decode cX15_init 5 = .ok (.iload_n 1, 1) := by decide +kernel
theorem dX15_init_6 : decode cX15_init 6 = .ok (.newarray .long, 2) := by decide +kernel
theorem dX15_init_8 : decode cX15_init 8 = .ok (.putfield 9, 3) := by decide +kernel
theorem dX15_init_11 : decode cX15_init 11 = .ok (.aload_n 0, 1) := by decide +kernel
theorem dX15_init_12 : decode cX15_init 12 = .ok (.iload_n 2, 1) := by decide +kernel
theorem dX15_init_13 : decode cX15_init 13 = .ok (.newarray .int, 2) := by decide +kernel
theorem dX15_init_15 : decode cX15_init 15 = .ok (.putfield 15, 3) := by decide +kernel
theorem dX15_init_18 : decode cX15_init 18 = .ok (.aload_n 0, 1) := by decide +kernel
theorem dX15_init_19 : decode cX15_init 19 = .ok (.iload_n 3, 1) := by decide +kernel
theorem dX15_init_20 : decode cX15_init 20 = .ok (.newarray .byte, 2) := by decide +kernel
theorem dX15_init_22 : decode cX15_init 22 = .ok (.putfield 19, 3) := by decide +kernel
theorem dX15_init_25 : decode cX15_init 25 = .ok (.aload_n 0, 1) := by decide +kernel
theorem dX15_init_26 : decode cX15_init 26 = .ok (.iload 4, 2) := by decide +kernel
theorem dX15_init_28 : decode cX15_init 28 = .ok (.ifCond .ne 7, 3) := by decide +kernel
theorem dX15_init_31 : decode cX15_init 31 = .ok (.iconst 0, 1) := by decide +kernel
theorem dX15_init_32 : decode cX15_init 32 = .ok (.goto 6, 3) := by decide +kernel
theorem dX15_init_35 : decode cX15_init 35 = .ok (.sipush 8000, 3) := by decide +kernel
theorem dX15_init_38 : decode cX15_init 38 = .ok (.newarray .int, 2) := by decide +kernel
theorem dX15_init_40 : decode cX15_init 40 = .ok (.putfield 23, 3) := by decide +kernel
theorem dX15_init_43 : decode cX15_init 43 = .ok (.aload_n 0, 1) := by decide +kernel
theorem dX15_init_44 : decode cX15_init 44 = .ok (.iload 4, 2) := by decide +kernel
theorem dX15_init_46 : decode cX15_init 46 = .ok (.newarray .int, 2) := by decide +kernel
theorem dX15_init_48 : decode cX15_init 48 = .ok (.putfield 26, 3) := by decide +kernel
theorem dX15_init_51 : decode cX15_init 51 = .ok (.aload_n 0, 1) := by decide +kernel
theorem dX15_init_52 : decode cX15_init 52 = .ok (.invokevirtual 29, 3) := by decide +kernel
theorem dX15_init_55 : decode cX15_init 55 = .ok (.return_, 1) := by decide +kernel
theorem dX15_clear_0 : decode cX15_clear 0 = .ok (.aload_n 0, 1) := by decide +kernel
theorem dX15_clear_1 : decode cX15_clear 1 = .ok (.iconst 0, 1) := by decide +kernel
theorem dX15_clear_2 : decode cX15_clear 2 = .ok (.putfield 32, 3) := by decide +kernel
theorem dX15_clear_5 : decode cX15_clear 5 = .ok (.aload_n 0, 1) := by decide +kernel
theorem dX15_clear_6 : decode cX15_clear 6 = .ok (.iconst 0, 1) := by decide +kernel
theorem dX15_clear_7 : decode cX15_clear 7 = .ok (.putfield 36, 3) := by decide +kernel
theorem dX15_clear_10 : decode cX15_clear 10 = .ok (.aload_n 0, 1) := by decide +kernel
theorem dX15_clear_11 : decode cX15_clear 11 = .ok (.iconst 0, 1) := by decide +kernel
theorem dX15_clear_12 : decode cX15_clear 12 = .ok (.putfield 39, 3) := by decide +kernel
theorem dX15_clear_15 : decode cX15_clear 15 = .ok (.iconst 0, 1) := by decide +kernel
theorem dX15_clear_16 : decode cX15_clear 16 = .ok (.istore_n 1, 1) := by decide +kernel
theorem dX15_clear_17 : decode cX15_clear 17 = .ok (.iload_n 1, 1) := by decide +kernel
theorem dX15_clear_18 : decode cX15_clear 18 = .ok (.iconst 2, 1) := by decide +kernel
theorem dX15_clear_19 : decode cX15_clear 19 = .ok (.if_icmp .gt 19, 3) := by decide +kernel
theorem dX15_clear_22 : decode cX15_clear 22 = .ok (.aload_n 0, 1) := by decide +kernel
theorem dX15_clear_23 : decode cX15_clear 23 = .ok (.iload_n 1, 1) := by decide +kernel
theorem dX15_clear_24 : decode cX15_clear 24 = .ok (.iconst 0, 1) := by decide +kernel
theorem dX15_clear_25 : decode cX15_clear 25 = .ok (.iconst 0, 1) := by decide +kernel
theorem dX15_clear_26 : decode cX15_clear 26 = .ok (.iconst 1, 1) := by decide +kernel
theorem dX15_clear_27 : decode cX15_clear 27 = .ok (.iconst 1, 1) := by decide +kernel
theorem dX15_clear_28 : decode cX15_clear 28 = .ok (.invokevirtual 42, 3) := by decide +kernel
theorem dX15_clear_31 : decode cX15_clear 31 = .ok (.pop, 1) := by decide +kernel
theorem dX15_clear_32 : decode cX15_clear 32 = .ok (.iinc 1 1, 3) := by decide +kernel
theorem dX15_clear_35 : decode cX15_clear 35 = .ok (.goto (-18), 3) := by decide +kernel
theorem dX15_clear_38 : decode cX15_clear 38 = .ok (.return_, 1) := by decide +kernel
theorem dX15_node_0 : decode cX15_node 0 = .ok (.aload_n 0, 1) := by decide +kernel
theorem dX15_node_1 : decode cX15_node 1 = .ok (.getfield 32, 3) := by decide +kernel
theorem dX15_node_4 : decode cX15_node 4 = .ok (.aload_n 0, 1) := by decide +kernel
theorem dX15_node_5 : decode cX15_node 5 = .ok (.getfield 9, 3) := by decide +kernel
theorem dX15_node_8 : decode cX15_node 8 = .ok (.arraylength, 1) := by decide +kernel
theorem dX15_node_9 : decode cX15_node 9 = .ok (.if_icmp .ne 7, 3) := by decide +kernel
theorem dX15_node_16 : decode cX15_node 16 = .ok (.aload_n 0, 1) := by decide +kernel
theorem dX15_node_17 : decode cX15_node 17 = .ok (.getfield 9, 3) := by decide +kernel
theorem dX15_node_20 : decode cX15_node 20 = .ok (.aload_n 0, 1) := by decide +kernel
theorem dX15_node_21 : decode cX15_node 21 = .ok (.getfield 32, 3) := by decide +kernel
theorem dX15_node_24 : decode cX15_node 24 = .ok (.iload_n 1, 1) := by decide +kernel
theorem dX15_node_25 : decode cX15_node 25 = .ok (.i2l, 1) := by decide +kernel
theorem dX15_node_26 : decode cX15_node 26 = .ok (.iload_n 3, 1) := by decide +kernel
theorem dX15_node_27 : decode cX15_node 27 = .ok (.i2l, 1) := by decide +kernel
theorem dX15_node_28 : decode cX15_node 28 = .ok (.iconst 3, 1) := by decide +kernel
theorem dX15_node_29 : decode cX15_node 29 = .ok (.lshl, 1) := by decide +kernel
theorem dX15_node_30 : decode cX15_node 30 = .ok (.lor, 1) := by decide +kernel
theorem dX15_node_31 : decode cX15_node 31 = .ok (.iload_n 2, 1) := by decide +kernel
theorem dX15_node_32 : decode cX15_node 32 = .ok (.i2l, 1) := by decide +kernel
theorem dX15_node_33 : decode cX15_node 33 = .ok (.bipush 21, 2) := by decide +kernel
theorem dX15_node_35 : decode cX15_node 35 = .ok (.lshl, 1) := by decide +kernel
theorem dX15_node_36 : decode cX15_node 36 = .ok (.lor, 1) := by decide +kernel
theorem dX15_node_37 : decode cX15_node 37 = .ok (.iload 4, 2) := by decide +kernel
theorem dX15_node_39 : decode cX15_node 39 = .ok (.i2l, 1) := by decide +kernel
theorem dX15_node_40 : decode cX15_node 40 = .ok (.bipush 39, 2) := by decide +kernel
theorem dX15_node_42 : decode cX15_node 42 = .ok (.lshl, 1) := by decide +kernel
theorem dX15_node_43 : decode cX15_node 43 = .ok (.lor, 1) := by decide +kernel
theorem dX15_node_44 : decode cX15_node 44 = .ok (.bipush 31, 2) := by decide +kernel
theorem dX15_node_46 : decode cX15_node 46 = .ok (.iload 5, 2) := by decide +kernel
theorem dX15_node_48 : decode cX15_node 48 = .ok (.invokestatic 49, 3) := by decide +kernel
theorem dX15_node_51 : decode cX15_node 51 = .ok (.i2l, 1) := by decide +kernel
theorem dX15_node_52 : decode cX15_node 52 = .ok (.bipush 59, 2) := by decide +kernel
theorem dX15_node_54 : decode cX15_node 54 = .ok (.lshl, 1) := by decide +kernel
theorem dX15_node_55 : decode cX15_node 55 = .ok (.lor, 1) := by decide +kernel
theorem dX15_node_56 : decode cX15_node 56 = .ok (.lastore, 1) := by decide +kernel
theorem dX15_node_57 : decode cX15_node 57 = .ok (.aload_n 0, 1) := by decide +kernel
theorem dX15_node_58 : decode cX15_node 58 = .ok (.dup, 1) := by decide +kernel
theorem dX15_node_59 : decode cX15_node 59 = .ok (.getfield 32, 3) := by decide +kernel
theorem dX15_node_62 : decode cX15_node 62 = .ok (.iconst 1, 1) := by decide +kernel
theorem dX15_node_63 : decode cX15_node 63 = .ok (.iadd, 1) := by decide +kernel
theorem dX15_node_64 : decode cX15_node 64 = .ok (.putfield 32, 3) := by decide +kernel
theorem dX15_node_67 : decode cX15_node 67 = .ok (.aload_n 0, 1) := by decide +kernel
theorem dX15_node_68 : decode cX15_node 68 = .ok (.getfield 32, 3) := by decide +kernel
theorem dX15_node_71 : decode cX15_node 71 = .ok (.iconst 1, 1) := by decide +kernel
theorem dX15_node_72 : decode cX15_node 72 = .ok (.isub, 1) := by decide +kernel
theorem dX15_node_73 : decode cX15_node 73 = .ok (.ireturn, 1) := by decide +kernel
theorem dX15_parted_0 : decode cX15_parted 0 = .ok (.iconst 1, 1) := by decide +kernel
theorem dX15_parted_1 : decode cX15_parted 1 = .ok (.istore 6, 2) := by decide +kernel
theorem dX15_parted_3 : decode cX15_parted 3 = .ok (.iconst 0, 1) := by decide +kernel
theorem dX15_parted_4 : decode cX15_parted 4 = .ok (.istore 7, 2) := by decide +kernel
theorem dX15_parted_6 : decode cX15_parted 6 = .ok (.aload_n 0, 1) := by decide +kernel
theorem dX15_parted_7 : decode cX15_parted 7 = .ok (.getfield 36, 3) := by decide +kernel
theorem dX15_parted_10 : decode cX15_parted 10 = .ok (.istore 8, 2) := by decide +kernel
theorem dX15_parted_12 : decode cX15_parted 12 = .ok (.aload_n 0, 1) := by decide +kernel
theorem dX15_parted_13 : decode cX15_parted 13 = .ok (.getfield 36, 3) := by decide +kernel
theorem dX15_parted_16 : decode cX15_parted 16 = .ok (.iload 4, 2) := by decide +kernel
theorem dX15_parted_18 : decode cX15_parted 18 = .ok (.iadd, 1) := by decide +kernel
theorem dX15_parted_19 : decode cX15_parted 19 = .ok (.aload_n 0, 1) := by decide +kernel
theorem dX15_parted_20 : decode cX15_parted 20 = .ok (.getfield 15, 3) := by decide +kernel
theorem dX15_parted_23 : decode cX15_parted 23 = .ok (.arraylength, 1) := by decide +kernel
theorem dX15_parted_24 : decode cX15_parted 24 = .ok (.if_icmp .le 9, 3) := by decide +kernel
theorem dX15_parted_33 : decode cX15_parted 33 = .ok (.iconst 0, 1) := by decide +kernel
theorem dX15_parted_34 : decode cX15_parted 34 = .ok (.istore 9, 2) := by decide +kernel
theorem dX15_parted_36 : decode cX15_parted 36 = .ok (.iload 9, 2) := by decide +kernel
theorem dX15_parted_38 : decode cX15_parted 38 = .ok (.iload 4, 2) := by decide +kernel
theorem dX15_parted_40 : decode cX15_parted 40 = .ok (.if_icmp .ge 68, 3) := by decide +kernel
theorem dX15_parted_108 : decode cX15_parted 108 = .ok (.aload_n 0, 1) := by decide +kernel
theorem dX15_parted_109 : decode cX15_parted 109 = .ok (.iload_n 1, 1) := by decide +kernel
theorem dX15_parted_110 : decode cX15_parted 110 = .ok (.iload 8, 2) := by decide +kernel
theorem dX15_parted_112 : decode cX15_parted 112 = .ok (.iload 5, 2) := by decide +kernel
theorem dX15_parted_114 : decode cX15_parted 114 = .ok (.iload 6, 2) := by decide +kernel
theorem dX15_parted_116 : decode cX15_parted 116 = .ok (.iload 7, 2) := by decide +kernel
theorem dX15_parted_118 : decode cX15_parted 118 = .ok (.iconst 1, 1) := by decide +kernel
theorem dX15_parted_119 : decode cX15_parted 119 = .ok (.iadd, 1) := by decide +kernel
theorem dX15_parted_120 : decode cX15_parted 120 = .ok (.invokevirtual 42, 3) := by decide +kernel
theorem dX15_parted_123 : decode cX15_parted 123 = .ok (.ireturn, 1) := by decide +kernel
theorem dX15_sort_0 : decode cX15_sort 0 = .ok (.iconst 1, 1) := by decide +kernel
theorem dX15_sort_1 : decode cX15_sort 1 = .ok (.istore 5, 2) := by decide +kernel
theorem dX15_sort_3 : decode cX15_sort 3 = .ok (.iload 5, 2) := by decide +kernel
theorem dX15_sort_5 : decode cX15_sort 5 = .ok (.iload_n 3, 1) := by decide +kernel
theorem dX15_sort_6 : decode cX15_sort 6 = .ok (.if_icmp .ge 94, 3) := by decide +kernel
theorem dX15_sort_100 : decode cX15_sort 100 = .ok (.return_, 1) := by decide +kernel
theorem dX15_object_0 : decode cX15_object 0 = .ok (.aload_n 0, 1) := by decide +kernel
theorem dX15_object_1 : decode cX15_object 1 = .ok (.aload_n 1, 1) := by decide +kernel
theorem dX15_object_2 : decode cX15_object 2 = .ok (.iload_n 2, 1) := by decide +kernel
theorem dX15_object_3 : decode cX15_object 3 = .ok (.iload_n 3, 1) := by decide +kernel
theorem dX15_object_4 : decode cX15_object 4 = .ok (.iconst 2, 1) := by decide +kernel
theorem dX15_object_5 : decode cX15_object 5 = .ok (.invokevirtual 145, 3) := by decide +kernel
theorem dX15_object_8 : decode cX15_object 8 = .ok (.iconst 0, 1) := by decide +kernel
theorem dX15_object_9 : decode cX15_object 9 = .ok (.istore 4, 2) := by decide +kernel
theorem dX15_object_11 : decode cX15_object 11 = .ok (.iconst 0, 1) := by decide +kernel
theorem dX15_object_12 : decode cX15_object 12 = .ok (.istore 5, 2) := by decide +kernel
theorem dX15_object_14 : decode cX15_object 14 = .ok (.iload 5, 2) := by decide +kernel
theorem dX15_object_16 : decode cX15_object 16 = .ok (.iload_n 3, 1) := by decide +kernel
theorem dX15_object_17 : decode cX15_object 17 = .ok (.if_icmp .ge 93, 3) := by decide +kernel
theorem dX15_object_110 : decode cX15_object 110 = .ok (.aload_n 0, 1) := by decide +kernel
theorem dX15_object_111 : decode cX15_object 111 = .ok (.bipush 6, 2) := by decide +kernel
theorem dX15_object_113 : decode cX15_object 113 = .ok (.aload_n 1, 1) := by decide +kernel
theorem dX15_object_114 : decode cX15_object 114 = .ok (.iload_n 2, 1) := by decide +kernel
theorem dX15_object_115 : decode cX15_object 115 = .ok (.iconst 2, 1) := by decide +kernel
theorem dX15_object_116 : decode cX15_object 116 = .ok (.iload 4, 2) := by decide +kernel
theorem dX15_object_118 : decode cX15_object 118 = .ok (.imul, 1) := by decide +kernel
theorem dX15_object_119 : decode cX15_object 119 = .ok (.iload 4, 2) := by decide +kernel
theorem dX15_object_121 : decode cX15_object 121 = .ok (.invokevirtual 122, 3) := by decide +kernel
theorem dX15_object_124 : decode cX15_object 124 = .ok (.ireturn, 1) := by decide +kernel
theorem dX16_init_0 : decode cX16_init 0 = .ok (.aload_n 0, 1) := by decide +kernel
theorem dX16_init_1 : decode cX16_init 1 = .ok (.invokespecial 2179, 3) := by decide +kernel
theorem dX16_init_4 : decode cX16_init 4 = .ok (.aload_n 0, 1) := by decide +kernel
theorem dX16_init_5 : decode cX16_init 5 = .ok (.sipush 17000, 3) := by decide +kernel
theorem dX16_init_8 : decode cX16_init 8 = .ok (.newarray .byte, 2) := by decide +kernel
theorem dX16_init_10 : decode cX16_init 10 = .ok (.putfield 53, 3) := by decide +kernel
theorem dX16_init_13 : decode cX16_init 13 = .ok (.aload_n 0, 1) := by decide +kernel
theorem dX16_init_14 : decode cX16_init 14 = .ok (.ldc_w 2182, 3) := by decide +kernel
theorem dX16_init_17 : decode cX16_init 17 = .ok (.newarray .int, 2) := by decide +kernel
theorem dX16_init_19 : decode cX16_init 19 = .ok (.putfield 73, 3) := by decide +kernel
theorem dX16_init_22 : decode cX16_init 22 = .ok (.aload_n 0, 1) := by decide +kernel
theorem dX16_init_23 : decode cX16_init 23 = .ok (.ldc_w 2183, 3) := by decide +kernel
theorem dX16_init_26 : decode cX16_init 26 = .ok (.newarray .byte, 2) := by decide +kernel
theorem dX16_init_28 : decode cX16_init 28 = .ok (.putfield 2184, 3) := by decide +kernel
theorem dX16_init_31 : decode cX16_init 31 = .ok (.aload_n 0, 1) := by decide +kernel
theorem dX16_init_32 : decode cX16_init 32 = .ok (.sipush 4100, 3) := by decide +kernel
theorem dX16_init_35 : decode cX16_init 35 = .ok (.newarray .byte, 2) := by decide +kernel
theorem dX16_init_37 : decode cX16_init 37 = .ok (.putfield 1548, 3) := by decide +kernel
theorem dX16_init_40 : decode cX16_init 40 = .ok (.aload_n 0, 1) := by decide +kernel
theorem dX16_init_41 : decode cX16_init 41 = .ok (.ldc_w 961, 3) := by decide +kernel
theorem dX16_init_44 : decode cX16_init 44 = .ok (.newarray .byte, 2) := by decide +kernel
theorem dX16_init_46 : decode cX16_init 46 = .ok (.putfield 246, 3) := by decide +kernel
theorem dX16_init_49 : decode cX16_init 49 = .ok (.aload_n 0, 1) := by decide +kernel
theorem dX16_init_50 : decode cX16_init 50 = .ok (.sipush 13001, 3) := by decide +kernel
theorem dX16_init_53 : decode cX16_init 53 = .ok (.newarray .int, 2) := by decide +kernel
theorem dX16_init_55 : decode cX16_init 55 = .ok (.putfield 240, 3) := by decide +kernel
theorem dX16_init_58 : decode cX16_init 58 = .ok (.aload_n 0, 1) := by decide +kernel
theorem dX16_init_59 : decode cX16_init 59 = .ok (.sipush 13000, 3) := by decide +kernel
theorem dX16_init_62 : decode cX16_init 62 = .ok (.newarray .int, 2) := by decide +kernel
theorem dX16_init_64 : decode cX16_init 64 = .ok (.putfield 256, 3) := by decide +kernel
theorem dX16_init_67 : decode cX16_init 67 = .ok (.aload_n 0, 1) := by decide +kernel
theorem dX16_init_68 : decode cX16_init 68 = .ok (.sipush 4096, 3) := by decide +kernel
theorem dX16_init_71 : decode cX16_init 71 = .ok (.newarray .int, 2) := by decide +kernel
theorem dX16_init_73 : decode cX16_init 73 = .ok (.putfield 249, 3) := by decide +kernel
theorem dX16_init_76 : decode cX16_init 76 = .ok (.aload_n 0, 1) := by decide +kernel
theorem dX16_init_77 : decode cX16_init 77 = .ok (.ldc_w 2187, 3) := by decide +kernel
theorem dX16_init_80 : decode cX16_init 80 = .ok (.newarray .int, 2) := by decide +kernel
theorem dX16_init_82 : decode cX16_init 82 = .ok (.putfield 336, 3) := by decide +kernel
theorem dX16_init_85 : decode cX16_init 85 = .ok (.aload_n 0, 1) := by decide +kernel
theorem dX16_init_86 : decode cX16_init 86 = .ok (.ldc_w 2187, 3) := by decide +kernel
theorem dX16_init_89 : decode cX16_init 89 = .ok (.newarray .int, 2) := by decide +kernel
theorem dX16_init_91 : decode cX16_init 91 = .ok (.putfield 341, 3) := by decide +kernel
theorem dX16_init_94 : decode cX16_init 94 = .ok (.aload_n 0, 1) := by decide +kernel
theorem dX16_init_95 : decode cX16_init 95 = .ok (.ldc_w 2187, 3) := by decide +kernel
theorem dX16_init_98 : decode cX16_init 98 = .ok (.newarray .int, 2) := by decide +kernel
theorem dX16_init_100 : decode cX16_init 100 = .ok (.putfield 344, 3) := by decide +kernel
theorem dX16_init_103 : decode cX16_init 103 = .ok (.aload_n 0, 1) := by decide +kernel
theorem dX16_init_104 : decode cX16_init 104 = .ok (.ldc_w 2187, 3) := by decide +kernel
theorem dX16_init_107 : decode cX16_init 107 = .ok (.newarray .int, 2) := by decide +kernel
theorem dX16_init_109 : decode cX16_init 109 = .ok (.putfield 347, 3) := by decide +kernel
theorem dX16_init_112 : decode cX16_init 112 = .ok (.aload_n 0, 1) := by decide +kernel
theorem dX16_init_113 : decode cX16_init 113 = .ok (.ldc_w 2187, 3) := by decide +kernel
theorem dX16_init_116 : decode cX16_init 116 = .ok (.newarray .int, 2) := by decide +kernel
theorem dX16_init_118 : decode cX16_init 118 = .ok (.putfield 350, 3) := by decide +kernel
theorem dX16_init_121 : decode cX16_init 121 = .ok (.aload_n 0, 1) := by decide +kernel
theorem dX16_init_122 : decode cX16_init 122 = .ok (.ldc_w 2187, 3) := by decide +kernel
theorem dX16_init_125 : decode cX16_init 125 = .ok (.newarray .int, 2) := by decide +kernel
theorem dX16_init_127 : decode cX16_init 127 = .ok (.putfield 353, 3) := by decide +kernel
theorem dX16_init_130 : decode cX16_init 130 = .ok (.aload_n 0, 1) := by decide +kernel
theorem dX16_init_131 : decode cX16_init 131 = .ok (.sipush 17000, 3) := by decide +kernel
theorem dX16_init_134 : decode cX16_init 134 = .ok (.newarray .int, 2) := by decide +kernel
theorem dX16_init_136 : decode cX16_init 136 = .ok (.putfield 356, 3) := by decide +kernel
theorem dX16_init_139 : decode cX16_init 139 = .ok (.aload_n 0, 1) := by decide +kernel
theorem dX16_init_140 : decode cX16_init 140 = .ok (.sipush 17001, 3) := by decide +kernel
theorem dX16_init_143 : decode cX16_init 143 = .ok (.newarray .int, 2) := by decide +kernel
theorem dX16_init_145 : decode cX16_init 145 = .ok (.putfield 366, 3) := by decide +kernel
theorem dX16_init_148 : decode cX16_init 148 = .ok (.aload_n 0, 1) := by decide +kernel
theorem dX16_init_149 : decode cX16_init 149 = .ok (.sipush 17000, 3) := by decide +kernel
theorem dX16_init_152 : decode cX16_init 152 = .ok (.newarray .long, 2) := by decide +kernel
theorem dX16_init_154 : decode cX16_init 154 = .ok (.putfield 362, 3) := by decide +kernel
theorem dX16_init_157 : decode cX16_init 157 = .ok (.aload_n 0, 1) := by decide +kernel
theorem dX16_init_158 : decode cX16_init 158 = .ok (.sipush 31000, 3) := by decide +kernel
theorem dX16_init_161 : decode cX16_init 161 = .ok (.newarray .byte, 2) := by decide +kernel
theorem dX16_init_163 : decode cX16_init 163 = .ok (.putfield 369, 3) := by decide +kernel
theorem dX16_init_166 : decode cX16_init 166 = .ok (.aload_n 0, 1) := by decide +kernel
theorem dX16_init_167 : decode cX16_init 167 = .ok (.sipush 7700, 3) := by decide +kernel
theorem dX16_init_170 : decode cX16_init 170 = .ok (.newarray .int, 2) := by decide +kernel
theorem dX16_init_172 : decode cX16_init 172 = .ok (.putfield 461, 3) := by decide +kernel
theorem dX16_init_175 : decode cX16_init 175 = .ok (.aload_n 0, 1) := by decide +kernel
theorem dX16_init_176 : decode cX16_init 176 = .ok (.sipush 7700, 3) := by decide +kernel
theorem dX16_init_179 : decode cX16_init 179 = .ok (.newarray .int, 2) := by decide +kernel
theorem dX16_init_181 : decode cX16_init 181 = .ok (.putfield 464, 3) := by decide +kernel
theorem dX16_init_184 : decode cX16_init 184 = .ok (.aload_n 0, 1) := by decide +kernel
theorem dX16_init_185 : decode cX16_init 185 = .ok (.sipush 7700, 3) := by decide +kernel
theorem dX16_init_188 : decode cX16_init 188 = .ok (.newarray .int, 2) := by decide +kernel
