def tyX15 : Nat → FieldType := fun k => match k with
  | 0 => .array .long
  | 1 => .array .int
  | 2 => .array .byte
  | 3 => .int
  | 4 => .int
  | 5 => .int
  | 6 => .array .int
  | _ => .array .int
theorem nmX15 : ∀ a, a < 8 → ∀ b, b < 8 → a ≠ b → (TX15 a).2.1 ≠ (TX15 b).2.1 := by decide +kernel
theorem tyX15_ok : ∀ k, k < 8 → parseFieldDescriptor (TX15 k).2.2.1 = some (tyX15 k) := by decide +kernel
def tyX16 : Nat → FieldType := fun k => match k with
  | 0 => .array .byte
  | 1 => .int
  | 2 => .int
  | 3 => .long
  | 4 => .object "PolicyHouseModel$Values"
  | 5 => .array .byte
  | 6 => .int
  | 7 => .int
  | 8 => .array .int
  | 9 => .int
  | 10 => .array .byte
  | 11 => .array .byte
  | 12 => .array .byte
  | 13 => .int
  | 14 => .int
  | 15 => .int
  | 16 => .array .byte
  | 17 => .array .int
  | 18 => .array .int
  | 19 => .array .int
  | 20 => .int
  | 21 => .array .byte
  | 22 => .int
  | 23 => .int
  | 24 => .int
  | 25 => .int
  | 26 => .int
  | 27 => .int
  | 28 => .int
  | 29 => .boolean
  | 30 => .boolean
  | 31 => .array .int
  | 32 => .array .int
  | 33 => .array .int
  | 34 => .array .int
  | 35 => .array .int
  | 36 => .array .int
  | 37 => .int
  | 38 => .array .int
  | 39 => .array .int
  | 40 => .array .long
  | 41 => .array .byte
  | 42 => .int
  | 43 => .array .int
  | 44 => .array .int
  | 45 => .array .int
  | 46 => .array .int
  | 47 => .array .int
  | 48 => .int
  | 49 => .int
  | 50 => .int
  | 51 => .boolean
  | 52 => .int
  | 53 => .int
  | 54 => .int
  | 55 => .int
  | 56 => .int
  | 57 => .array .int
  | 58 => .array .int
  | 59 => .array .int
  | 60 => .array .int
  | 61 => .array .int
  | 62 => .array .int
  | 63 => .int
  | 64 => .array .int
  | 65 => .array .int
  | 66 => .array .int
  | 67 => .array .int
  | 68 => .array .int
  | 69 => .array .int
  | 70 => .array .int
  | 71 => .array .int
  | 72 => .int
  | 73 => .array .int
  | 74 => .array .int
  | 75 => .array .int
  | 76 => .array .int
  | 77 => .array .int
  | 78 => .int
  | 79 => .array .int
  | 80 => .array .int
  | 81 => .array .int
  | 82 => .array .int
  | 83 => .int
  | 84 => .int
  | 85 => .int
  | 86 => .array .int
  | 87 => .array .int
  | 88 => .array .int
  | 89 => .array .int
  | 90 => .array .int
  | 91 => .array .int
  | 92 => .array .int
  | 93 => .int
  | 94 => .int
  | 95 => .int
  | 96 => .array .int
  | 97 => .array .long
  | 98 => .array .long
  | 99 => .array .long
  | 100 => .array .long
  | 101 => .array .int
  | 102 => .array .int
  | 103 => .array .int
  | 104 => .boolean
  | 105 => .array .boolean
  | 106 => .array .int
  | 107 => .array .int
  | 108 => .int
  | 109 => .int
  | 110 => .array .boolean
  | 111 => .array .int
  | 112 => .object "PolicyHouseModel$Values"
  | 113 => .array .int
  | 114 => .array .int
  | 115 => .int
  | 116 => .int
  | 117 => .int
  | 118 => .int
  | 119 => .int
  | 120 => .int
  | 121 => .boolean
  | 122 => .boolean
  | 123 => .boolean
  | 124 => .boolean
  | 125 => .array .int
  | 126 => .array .int
  | 127 => .array .int
  | 128 => .array .int
  | 129 => .array .int
  | 130 => .int
  | 131 => .array .int
  | 132 => .array .int
  | 133 => .array .int
  | 134 => .array .boolean
  | 135 => .array .int
  | 136 => .array .boolean
  | 137 => .array .int
  | 138 => .array .int
  | 139 => .array .int
  | 140 => .array .int
  | 141 => .array .long
  | 142 => .int
  | 143 => .int
  | 144 => .int
  | 145 => .array .int
  | 146 => .array .int
  | 147 => .array .int
  | 148 => .array .int
  | 149 => .array .int
  | 150 => .array .int
  | 151 => .array .boolean
  | 152 => .int
  | 153 => .int
  | 154 => .array .int
  | 155 => .array .int
  | 156 => .array .int
  | 157 => .array .int
  | 158 => .int
  | 159 => .array .int
  | 160 => .boolean
  | 161 => .array .int
  | 162 => .array .int
  | 163 => .int
  | 164 => .array .long
  | 165 => .int
  | 166 => .object "PolicyHouseModel$Values"
  | 167 => .object "PolicyHouseModel$Values"
  | 168 => .object "PolicyHouseModel$Values"
  | 169 => .int
  | 170 => .array .byte
  | 171 => .array .int
  | 172 => .int
  | 173 => .array .int
  | 174 => .array .int
  | 175 => .array .int
  | 176 => .array .int
  | 177 => .array .int
  | 178 => .array .int
  | 179 => .array .int
  | 180 => .int
  | 181 => .int
  | 182 => .array .long
  | 183 => .int
  | 184 => .array .int
  | 185 => .array .int
  | 186 => .array .int
  | 187 => .array .int
  | 188 => .array .int
  | 189 => .int
  | 190 => .int
  | 191 => .int
  | 192 => .int
  | 193 => .boolean
  | 194 => .int
  | 195 => .int
  | 196 => .int
  | 197 => .int
  | 198 => .int
  | 199 => .int
  | 200 => .boolean
  | 201 => .int
  | 202 => .array .int
  | 203 => .int
  | 204 => .int
  | 205 => .array .int
  | 206 => .array .long
  | 207 => .array .byte
  | 208 => .array .byte
  | 209 => .array .int
  | 210 => .array .int
  | 211 => .array .int
  | 212 => .array .int
  | 213 => .array .boolean
  | 214 => .int
  | 215 => .int
  | 216 => .int
  | 217 => .int
  | 218 => .int
  | 219 => .int
  | 220 => .int
  | 221 => .int
  | 222 => .int
  | 223 => .int
  | 224 => .int
  | 225 => .int
  | 226 => .int
  | 227 => .int
  | 228 => .array .byte
  | 229 => .int
  | 230 => .object "PolicyHouseModel$Values"
  | 231 => .object "PolicyHouseModel$Values"
  | 232 => .array (.object "PolicyHouseModel$Values")
  | 233 => .array .int
  | 234 => .array .int
  | 235 => .int
  | 236 => .int
  | 237 => .int
  | 238 => .int
  | 239 => .int
  | 240 => .int
  | 241 => .int
  | _ => .boolean
theorem nmX16 : ∀ a, a < 243 → ∀ b, b < 243 → a ≠ b → (TX16 a).2.1 ≠ (TX16 b).2.1 := by decide +kernel
theorem tyX16_ok : ∀ k, k < 243 → parseFieldDescriptor (TX16 k).2.2.1 = some (tyX16 k) := by decide +kernel
theorem dX15_init_0 : decode cX15_init 0 = .ok (.aload_n 0, 1) := by decide +kernel
theorem dX15_init_1 : decode cX15_init 1 = .ok (.invokespecial 3, 3) := by decide +kernel
theorem dX15_init_4 : decode cX15_init 4 = .ok (.aload_n 0, 1) := by decide +kernel
theorem dX15_init_5 : decode cX15_init 5 = .ok (.iload_n 1, 1) := by decide +kernel
theorem dX15_init_6 : decode cX15_init 6 = .ok (.newarray .long, 2) := by decide +kernel
theorem dX15_init_8 : decode cX15_init 8 = .ok (.putfield 9, 3) := by decide +kernel
theorem dX15_init_11 : decode cX15_init 11 = .ok (.aload_n 0, 1) := by decide +kernel
theorem dX15_init_12 : decode cX15_init 12 = .ok (.iload_n 2, 1) := by decide +kernel
theorem dX15_init_13 : decode cX15_init 13 = .ok (.newarray .int, 2) := by decide +kernel
theorem dX15_init_15 : decode cX15_init 15 = .ok (.putfield 15, 3) := by decide +kernel
theorem dX15_init_18 : decode cX15_init 18 = .ok (.aload_n 0, 1) := by decide +kernel
theorem dX15_init_19 : decode cX15_init 19 = .ok (.iload_n 3, 1) := by decide +kernel
theorem dX15_init_20 : decode cX15_init 20 = .ok (.newarray .byte, 2) := by decide +kernel
theorem dX15_init_22 : decode cX15_init 22 = .ok (.putfield 19, 3) := by decide +kernel
theorem dX15_init_25 : decode cX15_init 25 = .ok (.aload_n 0, 1) := by decide +kernel
theorem dX15_init_26 : decode cX15_init 26 = .ok (.iload 4, 2) := by decide +kernel
theorem dX15_init_28 : decode cX15_init 28 = .ok (.ifCond .ne 7, 3) := by decide +kernel
theorem dX15_init_31 : decode cX15_init 31 = .ok (.iconst 0, 1) := by decide +kernel
theorem dX15_init_32 : decode cX15_init 32 = .ok (.goto 6, 3) := by decide +kernel
theorem dX15_init_35 : decode cX15_init 35 = .ok (.sipush 8000, 3) := by decide +kernel
theorem dX15_init_38 : decode cX15_init 38 = .ok (.newarray .int, 2) := by decide +kernel
theorem dX15_init_40 : decode cX15_init 40 = .ok (.putfield 23, 3) := by decide +kernel
theorem dX15_init_43 : decode cX15_init 43 = .ok (.aload_n 0, 1) := by decide +kernel
theorem dX15_init_44 : decode cX15_init 44 = .ok (.iload 4, 2) := by decide +kernel
theorem dX15_init_46 : decode cX15_init 46 = .ok (.newarray .int, 2) := by decide +kernel
theorem dX15_init_48 : decode cX15_init 48 = .ok (.putfield 26, 3) := by decide +kernel
theorem dX15_init_51 : decode cX15_init 51 = .ok (.aload_n 0, 1) := by decide +kernel
theorem dX15_init_52 : decode cX15_init 52 = .ok (.invokevirtual 29, 3) := by decide +kernel
theorem dX15_init_55 : decode cX15_init 55 = .ok (.return_, 1) := by decide +kernel
theorem dX15_clear_0 : decode cX15_clear 0 = .ok (.aload_n 0, 1) := by decide +kernel
theorem dX15_clear_1 : decode cX15_clear 1 = .ok (.iconst 0, 1) := by decide +kernel
theorem dX15_clear_2 : decode cX15_clear 2 = .ok (.putfield 32, 3) := by decide +kernel
theorem dX15_clear_5 : decode cX15_clear 5 = .ok (.aload_n 0, 1) := by decide +kernel
theorem dX15_clear_6 : decode cX15_clear 6 = .ok (.iconst 0, 1) := by decide +kernel
theorem dX15_clear_7 : decode cX15_clear 7 = .ok (.putfield 36, 3) := by decide +kernel
theorem dX15_clear_10 : decode cX15_clear 10 = .ok (.aload_n 0, 1) := by decide +kernel
theorem dX15_clear_11 : decode cX15_clear 11 = .ok (.iconst 0, 1) := by decide +kernel
theorem dX15_clear_12 : decode cX15_clear 12 = .ok (.putfield 39, 3) := by decide +kernel
theorem dX15_clear_15 : decode cX15_clear 15 = .ok (.iconst 0, 1) := by decide +kernel
theorem dX15_clear_16 : decode cX15_clear 16 = .ok (.istore_n 1, 1) := by decide +kernel
theorem dX15_clear_17 : decode cX15_clear 17 = .ok (.iload_n 1, 1) := by decide +kernel
theorem dX15_clear_18 : decode cX15_clear 18 = .ok (.iconst 2, 1) := by decide +kernel
theorem dX15_clear_19 : decode cX15_clear 19 = .ok (.if_icmp .gt 19, 3) := by decide +kernel
theorem dX15_clear_22 : decode cX15_clear 22 = .ok (.aload_n 0, 1) := by decide +kernel
theorem dX15_clear_23 : decode cX15_clear 23 = .ok (.iload_n 1, 1) := by decide +kernel
theorem dX15_clear_24 : decode cX15_clear 24 = .ok (.iconst 0, 1) := by decide +kernel
theorem dX15_clear_25 : decode cX15_clear 25 = .ok (.iconst 0, 1) := by decide +kernel
theorem dX15_clear_26 : decode cX15_clear 26 = .ok (.iconst 1, 1) := by decide +kernel
theorem dX15_clear_27 : decode cX15_clear 27 = .ok (.iconst 1, 1) := by decide +kernel
theorem dX15_clear_28 : decode cX15_clear 28 = .ok (.invokevirtual 42, 3) := by decide +kernel
theorem dX15_clear_31 : decode cX15_clear 31 = .ok (.pop, 1) := by decide +kernel
theorem dX15_clear_32 : decode cX15_clear 32 = .ok (.iinc 1 1, 3) := by decide +kernel
theorem dX15_clear_35 : decode cX15_clear 35 = .ok (.goto (-18), 3) := by decide +kernel
theorem dX15_clear_38 : decode cX15_clear 38 = .ok (.return_, 1) := by decide +kernel
theorem dX15_node_0 : decode cX15_node 0 = .ok (.aload_n 0, 1) := by decide +kernel
theorem dX15_node_1 : decode cX15_node 1 = .ok (.getfield 32, 3) := by decide +kernel
theorem dX15_node_4 : decode cX15_node 4 = .ok (.aload_n 0, 1) := by decide +kernel
theorem dX15_node_5 : decode cX15_node 5 = .ok (.getfield 9, 3) := by decide +kernel
theorem dX15_node_8 : decode cX15_node 8 = .ok (.arraylength, 1) := by decide +kernel
theorem dX15_node_9 : decode cX15_node 9 = .ok (.if_icmp .ne 7, 3) := by decide +kernel
theorem dX15_node_16 : decode cX15_node 16 = .ok (.aload_n 0, 1) := by decide +kernel
theorem dX15_node_17 : decode cX15_node 17 = .ok (.getfield 9, 3) := by decide +kernel
theorem dX15_node_20 : decode cX15_node 20 = .ok (.aload_n 0, 1) := by decide +kernel
theorem dX15_node_21 : decode cX15_node 21 = .ok (.getfield 32, 3) := by decide +kernel
theorem dX15_node_24 : decode cX15_node 24 = .ok (.iload_n 1, 1) := by decide +kernel
theorem dX15_node_25 : decode cX15_node 25 = .ok (.i2l, 1) := by decide +kernel
theorem dX15_node_26 : decode cX15_node 26 = .ok (.iload_n 3, 1) := by decide +kernel
theorem dX15_node_27 : decode cX15_node 27 = .ok (.i2l, 1) := by decide +kernel
theorem dX15_node_28 : decode cX15_node 28 = .ok (.iconst 3, 1) := by decide +kernel
theorem dX15_node_29 : decode cX15_node 29 = .ok (.lshl, 1) := by decide +kernel
theorem dX15_node_30 : decode cX15_node 30 = .ok (.lor, 1) := by decide +kernel
theorem dX15_node_31 : decode cX15_node 31 = .ok (.iload_n 2, 1) := by decide +kernel
theorem dX15_node_32 : decode cX15_node 32 = .ok (.i2l, 1) := by decide +kernel
theorem dX15_node_33 : decode cX15_node 33 = .ok (.bipush 21, 2) := by decide +kernel
theorem dX15_node_35 : decode cX15_node 35 = .ok (.lshl, 1) := by decide +kernel
theorem dX15_node_36 : decode cX15_node 36 = .ok (.lor, 1) := by decide +kernel
theorem dX15_node_37 : decode cX15_node 37 = .ok (.iload 4, 2) := by decide +kernel
theorem dX15_node_39 : decode cX15_node 39 = .ok (.i2l, 1) := by decide +kernel
theorem dX15_node_40 : decode cX15_node 40 = .ok (.bipush 39, 2) := by decide +kernel
theorem dX15_node_42 : decode cX15_node 42 = .ok (.lshl, 1) := by decide +kernel
theorem dX15_node_43 : decode cX15_node 43 = .ok (.lor, 1) := by decide +kernel
theorem dX15_node_44 : decode cX15_node 44 = .ok (.bipush 31, 2) := by decide +kernel
theorem dX15_node_46 : decode cX15_node 46 = .ok (.iload 5, 2) := by decide +kernel
theorem dX15_node_48 : decode cX15_node 48 = .ok (.invokestatic 49, 3) := by decide +kernel
theorem dX15_node_51 : decode cX15_node 51 = .ok (.i2l, 1) := by decide +kernel
theorem dX15_node_52 : decode cX15_node 52 = .ok (.bipush 59, 2) := by decide +kernel
theorem dX15_node_54 : decode cX15_node 54 = .ok (.lshl, 1) := by decide +kernel
theorem dX15_node_55 : decode cX15_node 55 = .ok (.lor, 1) := by decide +kernel
theorem dX15_node_56 : decode cX15_node 56 = .ok (.lastore, 1) := by decide +kernel
theorem dX15_node_57 : decode cX15_node 57 = .ok (.aload_n 0, 1) := by decide +kernel
theorem dX15_node_58 : decode cX15_node 58 = .ok (.dup, 1) := by decide +kernel
theorem dX15_node_59 : decode cX15_node 59 = .ok (.getfield 32, 3) := by decide +kernel
theorem dX15_node_62 : decode cX15_node 62 = .ok (.iconst 1, 1) := by decide +kernel
theorem dX15_node_63 : decode cX15_node 63 = .ok (.iadd, 1) := by decide +kernel
theorem dX15_node_64 : decode cX15_node 64 = .ok (.putfield 32, 3) := by decide +kernel
theorem dX15_node_67 : decode cX15_node 67 = .ok (.aload_n 0, 1) := by decide +kernel
theorem dX15_node_68 : decode cX15_node 68 = .ok (.getfield 32, 3) := by decide +kernel
theorem dX15_node_71 : decode cX15_node 71 = .ok (.iconst 1, 1) := by decide +kernel
theorem dX15_node_72 : decode cX15_node 72 = .ok (.isub, 1) := by decide +kernel
theorem dX15_node_73 : decode cX15_node 73 = .ok (.ireturn, 1) := by decide +kernel
theorem dX15_parted_0 : decode cX15_parted 0 = .ok (.iconst 1, 1) := by decide +kernel
theorem dX15_parted_1 : decode cX15_parted 1 = .ok (.istore 6, 2) := by decide +kernel
theorem dX15_parted_3 : decode cX15_parted 3 = .ok (.iconst 0, 1) := by decide +kernel
theorem dX15_parted_4 : decode cX15_parted 4 = .ok (.istore 7, 2) := by decide +kernel
theorem dX15_parted_6 : decode cX15_parted 6 = .ok (.aload_n 0, 1) := by decide +kernel
theorem dX15_parted_7 : decode cX15_parted 7 = .ok (.getfield 36, 3) := by decide +kernel
theorem dX15_parted_10 : decode cX15_parted 10 = .ok (.istore 8, 2) := by decide +kernel
theorem dX15_parted_12 : decode cX15_parted 12 = .ok (.aload_n 0, 1) := by decide +kernel
theorem dX15_parted_13 : decode cX15_parted 13 = .ok (.getfield 36, 3) := by decide +kernel
theorem dX15_parted_16 : decode cX15_parted 16 = .ok (.iload 4, 2) := by decide +kernel
theorem dX15_parted_18 : decode cX15_parted 18 = .ok (.iadd, 1) := by decide +kernel
theorem dX15_parted_19 : decode cX15_parted 19 = .ok (.aload_n 0, 1) := by decide +kernel
theorem dX15_parted_20 : decode cX15_parted 20 = .ok (.getfield 15, 3) := by decide +kernel
theorem dX15_parted_23 : decode cX15_parted 23 = .ok (.arraylength, 1) := by decide +kernel
theorem dX15_parted_24 : decode cX15_parted 24 = .ok (.if_icmp .le 9, 3) := by decide +kernel
theorem dX15_parted_33 : decode cX15_parted 33 = .ok (.iconst 0, 1) := by decide +kernel
theorem dX15_parted_34 : decode cX15_parted 34 = .ok (.istore 9, 2) := by decide +kernel
theorem dX15_parted_36 : decode cX15_parted 36 = .ok (.iload 9, 2) := by decide +kernel
theorem dX15_parted_38 : decode cX15_parted 38 = .ok (.iload 4, 2) := by decide +kernel
theorem dX15_parted_40 : decode cX15_parted 40 = .ok (.if_icmp .ge 68, 3) := by decide +kernel
theorem dX15_parted_108 : decode cX15_parted 108 = .ok (.aload_n 0, 1) := by decide +kernel
theorem dX15_parted_109 : decode cX15_parted 109 = .ok (.iload_n 1, 1) := by decide +kernel
theorem dX15_parted_110 : decode cX15_parted 110 = .ok (.iload 8, 2) := by decide +kernel
theorem dX15_parted_112 : decode cX15_parted 112 = .ok (.iload 5, 2) := by decide +kernel
theorem dX15_parted_114 : decode cX15_parted 114 = .ok (.iload 6, 2) := by decide +kernel
theorem dX15_parted_116 : decode cX15_parted 116 = .ok (.iload 7, 2) := by decide +kernel
theorem dX15_parted_118 : decode cX15_parted 118 = .ok (.iconst 1, 1) := by decide +kernel
theorem dX15_parted_119 : decode cX15_parted 119 = .ok (.iadd, 1) := by decide +kernel
theorem dX15_parted_120 : decode cX15_parted 120 = .ok (.invokevirtual 42, 3) := by decide +kernel
theorem dX15_parted_123 : decode cX15_parted 123 = .ok (.ireturn, 1) := by decide +kernel
theorem dX15_sort_0 : decode cX15_sort 0 = .ok (.iconst 1, 1) := by decide +kernel
theorem dX15_sort_1 : decode cX15_sort 1 = .ok (.istore 5, 2) := by decide +kernel
theorem dX15_sort_3 : decode cX15_sort 3 = .ok (.iload 5, 2) := by decide +kernel
theorem dX15_sort_5 : decode cX15_sort 5 = .ok (.iload_n 3, 1) := by decide +kernel
theorem dX15_sort_6 : decode cX15_sort 6 = .ok (.if_icmp .ge 94, 3) := by decide +kernel
theorem dX15_sort_100 : decode cX15_sort 100 = .ok (.return_, 1) := by decide +kernel
theorem dX15_object_0 : decode cX15_object 0 = .ok (.aload_n 0, 1) := by decide +kernel
theorem dX15_object_1 : decode cX15_object 1 = .ok (.aload_n 1, 1) := by decide +kernel
theorem dX15_object_2 : decode cX15_object 2 = .ok (.iload_n 2, 1) := by decide +kernel
theorem dX15_object_3 : decode cX15_object 3 = .ok (.iload_n 3, 1) := by decide +kernel
theorem dX15_object_4 : decode cX15_object 4 = .ok (.iconst 2, 1) := by decide +kernel
theorem dX15_object_5 : decode cX15_object 5 = .ok (.invokevirtual 145, 3) := by decide +kernel
theorem dX15_object_8 : decode cX15_object 8 = .ok (.iconst 0, 1) := by decide +kernel
theorem dX15_object_9 : decode cX15_object 9 = .ok (.istore 4, 2) := by decide +kernel
theorem dX15_object_11 : decode cX15_object 11 = .ok (.iconst 0, 1) := by decide +kernel
theorem dX15_object_12 : decode cX15_object 12 = .ok (.istore 5, 2) := by decide +kernel
theorem dX15_object_14 : decode cX15_object 14 = .ok (.iload 5, 2) := by decide +kernel
theorem dX15_object_16 : decode cX15_object 16 = .ok (.iload_n 3, 1) := by decide +kernel
theorem dX15_object_17 : decode cX15_object 17 = .ok (.if_icmp .ge 93, 3) := by decide +kernel
theorem dX15_object_110 : decode cX15_object 110 = .ok (.aload_n 0, 1) := by decide +kernel
theorem dX15_object_111 : decode cX15_object 111 = .ok (.bipush 6, 2) := by decide +kernel
theorem dX15_object_113 : decode cX15_object 113 = .ok (.aload_n 1, 1) := by decide +kernel
theorem dX15_object_114 : decode cX15_object 114 = .ok (.iload_n 2, 1) := by decide +kernel
theorem dX15_object_115 : decode cX15_object 115 = .ok (.iconst 2, 1) := by decide +kernel
theorem dX15_object_116 : decode cX15_object 116 = .ok (.iload 4, 2) := by decide +kernel
theorem dX15_object_118 : decode cX15_object 118 = .ok (.imul, 1) := by decide +kernel
theorem dX15_object_119 : decode cX15_object 119 = .ok (.iload 4, 2) := by decide +kernel
theorem dX15_object_121 : decode cX15_object 121 = .ok (.invokevirtual 122, 3) := by decide +kernel
theorem dX15_object_124 : decode cX15_object 124 = .ok (.ireturn, 1) := by decide +kernel
theorem dX16_init_0 : decode cX16_init 0 = .ok (.aload_n 0, 1) := by decide +kernel
theorem dX16_init_1 : decode cX16_init 1 = .ok (.invokespecial 2179, 3) := by decide +kernel
theorem dX16_init_4 : decode cX16_init 4 = .ok (.aload_n 0, 1) := by decide +kernel
theorem dX16_init_5 : decode cX16_init 5 = .ok (.sipush 17000, 3) := by decide +kernel
theorem dX16_init_8 : decode cX16_init 8 = .ok (.newarray .byte, 2) := by decide +kernel
theorem dX16_init_10 : decode cX16_init 10 = .ok (.putfield 53, 3) := by decide +kernel
theorem dX16_init_13 : decode cX16_init 13 = .ok (.aload_n 0, 1) := by decide +kernel
theorem dX16_init_14 : decode cX16_init 14 = .ok (.ldc_w 2182, 3) := by decide +kernel
theorem dX16_init_17 : decode cX16_init 17 = .ok (.newarray .int, 2) := by decide +kernel
theorem dX16_init_19 : decode cX16_init 19 = .ok (.putfield 73, 3) := by decide +kernel
theorem dX16_init_22 : decode cX16_init 22 = .ok (.aload_n 0, 1) := by decide +kernel
theorem dX16_init_23 : decode cX16_init 23 = .ok (.ldc_w 2183, 3) := by decide +kernel
theorem dX16_init_26 : decode cX16_init 26 = .ok (.newarray .byte, 2) := by decide +kernel
theorem dX16_init_28 : decode cX16_init 28 = .ok (.putfield 2184, 3) := by decide +kernel
theorem dX16_init_31 : decode cX16_init 31 = .ok (.aload_n 0, 1) := by decide +kernel
theorem dX16_init_32 : decode cX16_init 32 = .ok (.sipush 4100, 3) := by decide +kernel
theorem dX16_init_35 : decode cX16_init 35 = .ok (.newarray .byte, 2) := by decide +kernel
theorem dX16_init_37 : decode cX16_init 37 = .ok (.putfield 1548, 3) := by decide +kernel
theorem dX16_init_40 : decode cX16_init 40 = .ok (.aload_n 0, 1) := by decide +kernel
theorem dX16_init_41 : decode cX16_init 41 = .ok (.ldc_w 961, 3) := by decide +kernel
theorem dX16_init_44 : decode cX16_init 44 = .ok (.newarray .byte, 2) := by decide +kernel
theorem dX16_init_46 : decode cX16_init 46 = .ok (.putfield 246, 3) := by decide +kernel
theorem dX16_init_49 : decode cX16_init 49 = .ok (.aload_n 0, 1) := by decide +kernel
theorem dX16_init_50 : decode cX16_init 50 = .ok (.sipush 13001, 3) := by decide +kernel
theorem dX16_init_53 : decode cX16_init 53 = .ok (.newarray .int, 2) := by decide +kernel
theorem dX16_init_55 : decode cX16_init 55 = .ok (.putfield 240, 3) := by decide +kernel
theorem dX16_init_58 : decode cX16_init 58 = .ok (.aload_n 0, 1) := by decide +kernel
theorem dX16_init_59 : decode cX16_init 59 = .ok (.sipush 13000, 3) := by decide +kernel
theorem dX16_init_62 : decode cX16_init 62 = .ok (.newarray .int, 2) := by decide +kernel
theorem dX16_init_64 : decode cX16_init 64 = .ok (.putfield 256, 3) := by decide +kernel
theorem dX16_init_67 : decode cX16_init 67 = .ok (.aload_n 0, 1) := by decide +kernel
theorem dX16_init_68 : decode cX16_init 68 = .ok (.sipush 4096, 3) := by decide +kernel
theorem dX16_init_71 : decode cX16_init 71 = .ok (.newarray .int, 2) := by decide +kernel
theorem dX16_init_73 : decode cX16_init 73 = .ok (.putfield 249, 3) := by decide +kernel
theorem dX16_init_76 : decode cX16_init 76 = .ok (.aload_n 0, 1) := by decide +kernel
theorem dX16_init_77 : decode cX16_init 77 = .ok (.ldc_w 2187, 3) := by decide +kernel
theorem dX16_init_80 : decode cX16_init 80 = .ok (.newarray .int, 2) := by decide +kernel
theorem dX16_init_82 : decode cX16_init 82 = .ok (.putfield 336, 3) := by decide +kernel
theorem dX16_init_85 : decode cX16_init 85 = .ok (.aload_n 0, 1) := by decide +kernel
theorem dX16_init_86 : decode cX16_init 86 = .ok (.ldc_w 2187, 3) := by decide +kernel
theorem dX16_init_89 : decode cX16_init 89 = .ok (.newarray .int, 2) := by decide +kernel
theorem dX16_init_91 : decode cX16_init 91 = .ok (.putfield 341, 3) := by decide +kernel
theorem dX16_init_94 : decode cX16_init 94 = .ok (.aload_n 0, 1) := by decide +kernel
theorem dX16_init_95 : decode cX16_init 95 = .ok (.ldc_w 2187, 3) := by decide +kernel
theorem dX16_init_98 : decode cX16_init 98 = .ok (.newarray .int, 2) := by decide +kernel
theorem dX16_init_100 : decode cX16_init 100 = .ok (.putfield 344, 3) := by decide +kernel
theorem dX16_init_103 : decode cX16_init 103 = .ok (.aload_n 0, 1) := by decide +kernel
theorem dX16_init_104 : decode cX16_init 104 = .ok (.ldc_w 2187, 3) := by decide +kernel
theorem dX16_init_107 : decode cX16_init 107 = .ok (.newarray .int, 2) := by decide +kernel
theorem dX16_init_109 : decode cX16_init 109 = .ok (.putfield 347, 3) := by decide +kernel
theorem dX16_init_112 : decode cX16_init 112 = .ok (.aload_n 0, 1) := by decide +kernel
theorem dX16_init_113 : decode cX16_init 113 = .ok (.ldc_w 2187, 3) := by decide +kernel
theorem dX16_init_116 : decode cX16_init 116 = .ok (.newarray .int, 2) := by decide +kernel
theorem dX16_init_118 : decode cX16_init 118 = .ok (.putfield 350, 3) := by decide +kernel
theorem dX16_init_121 : decode cX16_init 121 = .ok (.aload_n 0, 1) := by decide +kernel
theorem dX16_init_122 : decode cX16_init 122 = .ok (.ldc_w 2187, 3) := by decide +kernel
theorem dX16_init_125 : decode cX16_init 125 = .ok (.newarray .int, 2) := by decide +kernel
theorem dX16_init_127 : decode cX16_init 127 = .ok (.putfield 353, 3) := by decide +kernel
theorem dX16_init_130 : decode cX16_init 130 = .ok (.aload_n 0, 1) := by decide +kernel
theorem dX16_init_131 : decode cX16_init 131 = .ok (.sipush 17000, 3) := by decide +kernel
theorem dX16_init_134 : decode cX16_init 134 = .ok (.newarray .int, 2) := by decide +kernel
theorem dX16_init_136 : decode cX16_init 136 = .ok (.putfield 356, 3) := by decide +kernel
theorem dX16_init_139 : decode cX16_init 139 = .ok (.aload_n 0, 1) := by decide +kernel
theorem dX16_init_140 : decode cX16_init 140 = .ok (.sipush 17001, 3) := by decide +kernel
theorem dX16_init_143 : decode cX16_init 143 = .ok (.newarray .int, 2) := by decide +kernel
theorem dX16_init_145 : decode cX16_init 145 = .ok (.putfield 366, 3) := by decide +kernel
theorem dX16_init_148 : decode cX16_init 148 = .ok (.aload_n 0, 1) := by decide +kernel
theorem dX16_init_149 : decode cX16_init 149 = .ok (.sipush 17000, 3) := by decide +kernel
theorem dX16_init_152 : decode cX16_init 152 = .ok (.newarray .long, 2) := by decide +kernel
theorem dX16_init_154 : decode cX16_init 154 = .ok (.putfield 362, 3) := by decide +kernel
theorem dX16_init_157 : decode cX16_init 157 = .ok (.aload_n 0, 1) := by decide +kernel
theorem dX16_init_158 : decode cX16_init 158 = .ok (.sipush 31000, 3) := by decide +kernel
theorem dX16_init_161 : decode cX16_init 161 = .ok (.newarray .byte, 2) := by decide +kernel
theorem dX16_init_163 : decode cX16_init 163 = .ok (.putfield 369, 3) := by decide +kernel
theorem dX16_init_166 : decode cX16_init 166 = .ok (.aload_n 0, 1) := by decide +kernel
theorem dX16_init_167 : decode cX16_init 167 = .ok (.sipush 7700, 3) := by decide +kernel
theorem dX16_init_170 : decode cX16_init 170 = .ok (.newarray .int, 2) := by decide +kernel
theorem dX16_init_172 : decode cX16_init 172 = .ok (.putfield 461, 3) := by decide +kernel
theorem dX16_init_175 : decode cX16_init 175 = .ok (.aload_n 0, 1) := by decide +kernel
theorem dX16_init_176 : decode cX16_init 176 = .ok (.sipush 7700, 3) := by decide +kernel
theorem dX16_init_179 : decode cX16_init 179 = .ok (.newarray .int, 2) := by decide +kernel
theorem dX16_init_181 : decode cX16_init 181 = .ok (.putfield 464, 3) := by decide +kernel
theorem dX16_init_184 : decode cX16_init 184 = .ok (.aload_n 0, 1) := by decide +kernel
theorem dX16_init_185 : decode cX16_init 185 = .ok (.sipush 7700, 3) := by decide +kernel
theorem dX16_init_188 : decode cX16_init 188 = .ok (.newarray .int, 2) := by decide +kernel
theorem dX16_init_190 : decode cX16_init 190 = .ok (.putfield 467, 3) := by decide +kernel
theorem dX16_init_193 : decode cX16_init 193 = .ok (.aload_n 0, 1) := by decide +kernel
theorem dX16_init_194 : decode cX16_init 194 = .ok (.sipush 7700, 3) := by decide +kernel
theorem dX16_init_197 : decode cX16_init 197 = .ok (.newarray .int, 2) := by decide +kernel
theorem dX16_init_199 : decode cX16_init 199 = .ok (.putfield 473, 3) := by decide +kernel
theorem dX16_init_202 : decode cX16_init 202 = .ok (.aload_n 0, 1) := by decide +kernel
theorem dX16_init_203 : decode cX16_init 203 = .ok (.sipush 7700, 3) := by decide +kernel
theorem dX16_init_206 : decode cX16_init 206 = .ok (.newarray .int, 2) := by decide +kernel
theorem dX16_init_208 : decode cX16_init 208 = .ok (.putfield 476, 3) := by decide +kernel
theorem dX16_init_211 : decode cX16_init 211 = .ok (.aload_n 0, 1) := by decide +kernel
theorem dX16_init_212 : decode cX16_init 212 = .ok (.iconst 4, 1) := by decide +kernel
theorem dX16_init_213 : decode cX16_init 213 = .ok (.newarray .int, 2) := by decide +kernel
theorem dX16_init_215 : decode cX16_init 215 = .ok (.putfield 544, 3) := by decide +kernel
theorem dX16_init_218 : decode cX16_init 218 = .ok (.aload_n 0, 1) := by decide +kernel
theorem dX16_init_219 : decode cX16_init 219 = .ok (.bipush 40, 2) := by decide +kernel
theorem dX16_init_221 : decode cX16_init 221 = .ok (.newarray .int, 2) := by decide +kernel
theorem dX16_init_223 : decode cX16_init 223 = .ok (.putfield 553, 3) := by decide +kernel
theorem dX16_init_226 : decode cX16_init 226 = .ok (.aload_n 0, 1) := by decide +kernel
theorem dX16_init_227 : decode cX16_init 227 = .ok (.bipush 40, 2) := by decide +kernel
theorem dX16_init_229 : decode cX16_init 229 = .ok (.newarray .int, 2) := by decide +kernel
theorem dX16_init_231 : decode cX16_init 231 = .ok (.putfield 556, 3) := by decide +kernel
theorem dX16_init_234 : decode cX16_init 234 = .ok (.aload_n 0, 1) := by decide +kernel
theorem dX16_init_235 : decode cX16_init 235 = .ok (.bipush 40, 2) := by decide +kernel
theorem dX16_init_237 : decode cX16_init 237 = .ok (.newarray .int, 2) := by decide +kernel
theorem dX16_init_239 : decode cX16_init 239 = .ok (.putfield 559, 3) := by decide +kernel
theorem dX16_init_242 : decode cX16_init 242 = .ok (.aload_n 0, 1) := by decide +kernel
theorem dX16_init_243 : decode cX16_init 243 = .ok (.bipush 40, 2) := by decide +kernel
theorem dX16_init_245 : decode cX16_init 245 = .ok (.newarray .int, 2) := by decide +kernel
theorem dX16_init_247 : decode cX16_init 247 = .ok (.putfield 562, 3) := by decide +kernel
theorem dX16_init_250 : decode cX16_init 250 = .ok (.aload_n 0, 1) := by decide +kernel
theorem dX16_init_251 : decode cX16_init 251 = .ok (.bipush 40, 2) := by decide +kernel
theorem dX16_init_253 : decode cX16_init 253 = .ok (.newarray .int, 2) := by decide +kernel
theorem dX16_init_255 : decode cX16_init 255 = .ok (.putfield 565, 3) := by decide +kernel
theorem dX16_init_258 : decode cX16_init 258 = .ok (.aload_n 0, 1) := by decide +kernel
theorem dX16_init_259 : decode cX16_init 259 = .ok (.sipush 401, 3) := by decide +kernel
theorem dX16_init_262 : decode cX16_init 262 = .ok (.newarray .int, 2) := by decide +kernel
theorem dX16_init_264 : decode cX16_init 264 = .ok (.putfield 568, 3) := by decide +kernel
theorem dX16_init_267 : decode cX16_init 267 = .ok (.aload_n 0, 1) := by decide +kernel
theorem dX16_init_268 : decode cX16_init 268 = .ok (.sipush 401, 3) := by decide +kernel
theorem dX16_init_271 : decode cX16_init 271 = .ok (.newarray .int, 2) := by decide +kernel
theorem dX16_init_273 : decode cX16_init 273 = .ok (.putfield 571, 3) := by decide +kernel
theorem dX16_init_276 : decode cX16_init 276 = .ok (.aload_n 0, 1) := by decide +kernel
theorem dX16_init_277 : decode cX16_init 277 = .ok (.sipush 401, 3) := by decide +kernel
theorem dX16_init_280 : decode cX16_init 280 = .ok (.newarray .int, 2) := by decide +kernel
theorem dX16_init_282 : decode cX16_init 282 = .ok (.putfield 577, 3) := by decide +kernel
theorem dX16_init_285 : decode cX16_init 285 = .ok (.aload_n 0, 1) := by decide +kernel
theorem dX16_init_286 : decode cX16_init 286 = .ok (.sipush 401, 3) := by decide +kernel
theorem dX16_init_289 : decode cX16_init 289 = .ok (.newarray .int, 2) := by decide +kernel
theorem dX16_init_291 : decode cX16_init 291 = .ok (.putfield 574, 3) := by decide +kernel
theorem dX16_init_294 : decode cX16_init 294 = .ok (.aload_n 0, 1) := by decide +kernel
theorem dX16_init_295 : decode cX16_init 295 = .ok (.sipush 401, 3) := by decide +kernel
theorem dX16_init_298 : decode cX16_init 298 = .ok (.newarray .int, 2) := by decide +kernel
theorem dX16_init_300 : decode cX16_init 300 = .ok (.putfield 580, 3) := by decide +kernel
theorem dX16_init_303 : decode cX16_init 303 = .ok (.aload_n 0, 1) := by decide +kernel
theorem dX16_init_304 : decode cX16_init 304 = .ok (.sipush 401, 3) := by decide +kernel
theorem dX16_init_307 : decode cX16_init 307 = .ok (.newarray .int, 2) := by decide +kernel
theorem dX16_init_309 : decode cX16_init 309 = .ok (.putfield 583, 3) := by decide +kernel
theorem dX16_init_312 : decode cX16_init 312 = .ok (.aload_n 0, 1) := by decide +kernel
theorem dX16_init_313 : decode cX16_init 313 = .ok (.sipush 401, 3) := by decide +kernel
theorem dX16_init_316 : decode cX16_init 316 = .ok (.newarray .int, 2) := by decide +kernel
theorem dX16_init_318 : decode cX16_init 318 = .ok (.putfield 586, 3) := by decide +kernel
theorem dX16_init_321 : decode cX16_init 321 = .ok (.aload_n 0, 1) := by decide +kernel
theorem dX16_init_322 : decode cX16_init 322 = .ok (.sipush 401, 3) := by decide +kernel
theorem dX16_init_325 : decode cX16_init 325 = .ok (.newarray .int, 2) := by decide +kernel
theorem dX16_init_327 : decode cX16_init 327 = .ok (.putfield 589, 3) := by decide +kernel
theorem dX16_init_330 : decode cX16_init 330 = .ok (.aload_n 0, 1) := by decide +kernel
theorem dX16_init_331 : decode cX16_init 331 = .ok (.sipush 401, 3) := by decide +kernel
theorem dX16_init_334 : decode cX16_init 334 = .ok (.newarray .int, 2) := by decide +kernel
theorem dX16_init_336 : decode cX16_init 336 = .ok (.putfield 654, 3) := by decide +kernel
theorem dX16_init_339 : decode cX16_init 339 = .ok (.aload_n 0, 1) := by decide +kernel
theorem dX16_init_340 : decode cX16_init 340 = .ok (.sipush 400, 3) := by decide +kernel
theorem dX16_init_343 : decode cX16_init 343 = .ok (.newarray .int, 2) := by decide +kernel
theorem dX16_init_345 : decode cX16_init 345 = .ok (.putfield 639, 3) := by decide +kernel
theorem dX16_init_348 : decode cX16_init 348 = .ok (.aload_n 0, 1) := by decide +kernel
theorem dX16_init_349 : decode cX16_init 349 = .ok (.sipush 400, 3) := by decide +kernel
theorem dX16_init_352 : decode cX16_init 352 = .ok (.newarray .int, 2) := by decide +kernel
theorem dX16_init_354 : decode cX16_init 354 = .ok (.putfield 645, 3) := by decide +kernel
theorem dX16_init_357 : decode cX16_init 357 = .ok (.aload_n 0, 1) := by decide +kernel
theorem dX16_init_358 : decode cX16_init 358 = .ok (.sipush 400, 3) := by decide +kernel
theorem dX16_init_361 : decode cX16_init 361 = .ok (.newarray .int, 2) := by decide +kernel
theorem dX16_init_363 : decode cX16_init 363 = .ok (.putfield 642, 3) := by decide +kernel
theorem dX16_init_366 : decode cX16_init 366 = .ok (.aload_n 0, 1) := by decide +kernel
theorem dX16_init_367 : decode cX16_init 367 = .ok (.sipush 400, 3) := by decide +kernel
theorem dX16_init_370 : decode cX16_init 370 = .ok (.newarray .int, 2) := by decide +kernel
theorem dX16_init_372 : decode cX16_init 372 = .ok (.putfield 657, 3) := by decide +kernel
theorem dX16_init_375 : decode cX16_init 375 = .ok (.aload_n 0, 1) := by decide +kernel
theorem dX16_init_376 : decode cX16_init 376 = .ok (.sipush 3200, 3) := by decide +kernel
theorem dX16_init_379 : decode cX16_init 379 = .ok (.newarray .int, 2) := by decide +kernel
theorem dX16_init_381 : decode cX16_init 381 = .ok (.putfield 648, 3) := by decide +kernel
theorem dX16_init_384 : decode cX16_init 384 = .ok (.aload_n 0, 1) := by decide +kernel
theorem dX16_init_385 : decode cX16_init 385 = .ok (.sipush 400, 3) := by decide +kernel
theorem dX16_init_388 : decode cX16_init 388 = .ok (.newarray .int, 2) := by decide +kernel
theorem dX16_init_390 : decode cX16_init 390 = .ok (.putfield 651, 3) := by decide +kernel
theorem dX16_init_393 : decode cX16_init 393 = .ok (.aload_n 0, 1) := by decide +kernel
theorem dX16_init_394 : decode cX16_init 394 = .ok (.bipush 32, 2) := by decide +kernel
theorem dX16_init_396 : decode cX16_init 396 = .ok (.newarray .int, 2) := by decide +kernel
theorem dX16_init_398 : decode cX16_init 398 = .ok (.putfield 629, 3) := by decide +kernel
theorem dX16_init_401 : decode cX16_init 401 = .ok (.aload_n 0, 1) := by decide +kernel
theorem dX16_init_402 : decode cX16_init 402 = .ok (.iconst 4, 1) := by decide +kernel
theorem dX16_init_403 : decode cX16_init 403 = .ok (.newarray .int, 2) := by decide +kernel
theorem dX16_init_405 : decode cX16_init 405 = .ok (.putfield 626, 3) := by decide +kernel
theorem dX16_init_408 : decode cX16_init 408 = .ok (.aload_n 0, 1) := by decide +kernel
theorem dX16_init_409 : decode cX16_init 409 = .ok (.ldc_w 2187, 3) := by decide +kernel
theorem dX16_init_412 : decode cX16_init 412 = .ok (.newarray .int, 2) := by decide +kernel
theorem dX16_init_414 : decode cX16_init 414 = .ok (.putfield 742, 3) := by decide +kernel
theorem dX16_init_417 : decode cX16_init 417 = .ok (.aload_n 0, 1) := by decide +kernel
theorem dX16_init_418 : decode cX16_init 418 = .ok (.ldc_w 2187, 3) := by decide +kernel
theorem dX16_init_421 : decode cX16_init 421 = .ok (.newarray .int, 2) := by decide +kernel
theorem dX16_init_423 : decode cX16_init 423 = .ok (.putfield 752, 3) := by decide +kernel
theorem dX16_init_426 : decode cX16_init 426 = .ok (.aload_n 0, 1) := by decide +kernel
theorem dX16_init_427 : decode cX16_init 427 = .ok (.sipush 401, 3) := by decide +kernel
theorem dX16_init_430 : decode cX16_init 430 = .ok (.newarray .int, 2) := by decide +kernel
theorem dX16_init_432 : decode cX16_init 432 = .ok (.putfield 794, 3) := by decide +kernel
theorem dX16_init_435 : decode cX16_init 435 = .ok (.aload_n 0, 1) := by decide +kernel
theorem dX16_init_436 : decode cX16_init 436 = .ok (.sipush 12030, 3) := by decide +kernel
theorem dX16_init_439 : decode cX16_init 439 = .ok (.newarray .int, 2) := by decide +kernel
theorem dX16_init_441 : decode cX16_init 441 = .ok (.putfield 799, 3) := by decide +kernel
theorem dX16_init_444 : decode cX16_init 444 = .ok (.aload_n 0, 1) := by decide +kernel
theorem dX16_init_445 : decode cX16_init 445 = .ok (.sipush 3200, 3) := by decide +kernel
theorem dX16_init_448 : decode cX16_init 448 = .ok (.newarray .int, 2) := by decide +kernel
theorem dX16_init_450 : decode cX16_init 450 = .ok (.putfield 691, 3) := by decide +kernel
theorem dX16_init_453 : decode cX16_init 453 = .ok (.aload_n 0, 1) := by decide +kernel
theorem dX16_init_454 : decode cX16_init 454 = .ok (.sipush 3200, 3) := by decide +kernel
theorem dX16_init_457 : decode cX16_init 457 = .ok (.newarray .int, 2) := by decide +kernel
theorem dX16_init_459 : decode cX16_init 459 = .ok (.putfield 697, 3) := by decide +kernel
theorem dX16_init_462 : decode cX16_init 462 = .ok (.aload_n 0, 1) := by decide +kernel
theorem dX16_init_463 : decode cX16_init 463 = .ok (.sipush 3200, 3) := by decide +kernel
theorem dX16_init_466 : decode cX16_init 466 = .ok (.newarray .int, 2) := by decide +kernel
theorem dX16_init_468 : decode cX16_init 468 = .ok (.putfield 700, 3) := by decide +kernel
theorem dX16_init_471 : decode cX16_init 471 = .ok (.aload_n 0, 1) := by decide +kernel
theorem dX16_init_472 : decode cX16_init 472 = .ok (.bipush 16, 2) := by decide +kernel
theorem dX16_init_474 : decode cX16_init 474 = .ok (.newarray .int, 2) := by decide +kernel
theorem dX16_init_476 : decode cX16_init 476 = .ok (.putfield 770, 3) := by decide +kernel
theorem dX16_init_479 : decode cX16_init 479 = .ok (.aload_n 0, 1) := by decide +kernel
theorem dX16_init_480 : decode cX16_init 480 = .ok (.sipush 2800, 3) := by decide +kernel
theorem dX16_init_483 : decode cX16_init 483 = .ok (.newarray .long, 2) := by decide +kernel
theorem dX16_init_485 : decode cX16_init 485 = .ok (.putfield 856, 3) := by decide +kernel
theorem dX16_init_488 : decode cX16_init 488 = .ok (.aload_n 0, 1) := by decide +kernel
theorem dX16_init_489 : decode cX16_init 489 = .ok (.sipush 2800, 3) := by decide +kernel
theorem dX16_init_492 : decode cX16_init 492 = .ok (.newarray .long, 2) := by decide +kernel
theorem dX16_init_494 : decode cX16_init 494 = .ok (.putfield 859, 3) := by decide +kernel
theorem dX16_init_497 : decode cX16_init 497 = .ok (.aload_n 0, 1) := by decide +kernel
theorem dX16_init_498 : decode cX16_init 498 = .ok (.sipush 2800, 3) := by decide +kernel
theorem dX16_init_501 : decode cX16_init 501 = .ok (.newarray .long, 2) := by decide +kernel
theorem dX16_init_503 : decode cX16_init 503 = .ok (.putfield 862, 3) := by decide +kernel
theorem dX16_init_506 : decode cX16_init 506 = .ok (.aload_n 0, 1) := by decide +kernel
theorem dX16_init_507 : decode cX16_init 507 = .ok (.bipush 7, 2) := by decide +kernel
theorem dX16_init_509 : decode cX16_init 509 = .ok (.newarray .long, 2) := by decide +kernel
theorem dX16_init_511 : decode cX16_init 511 = .ok (.putfield 814, 3) := by decide +kernel
theorem dX16_init_514 : decode cX16_init 514 = .ok (.aload_n 0, 1) := by decide +kernel
theorem dX16_init_515 : decode cX16_init 515 = .ok (.sipush 400, 3) := by decide +kernel
theorem dX16_init_518 : decode cX16_init 518 = .ok (.newarray .int, 2) := by decide +kernel
theorem dX16_init_520 : decode cX16_init 520 = .ok (.putfield 869, 3) := by decide +kernel
theorem dX16_init_523 : decode cX16_init 523 = .ok (.aload_n 0, 1) := by decide +kernel
theorem dX16_init_524 : decode cX16_init 524 = .ok (.sipush 400, 3) := by decide +kernel
theorem dX16_init_527 : decode cX16_init 527 = .ok (.newarray .int, 2) := by decide +kernel
theorem dX16_init_529 : decode cX16_init 529 = .ok (.putfield 2140, 3) := by decide +kernel
theorem dX16_init_532 : decode cX16_init 532 = .ok (.aload_n 0, 1) := by decide +kernel
theorem dX16_init_533 : decode cX16_init 533 = .ok (.sipush 600, 3) := by decide +kernel
theorem dX16_init_536 : decode cX16_init 536 = .ok (.newarray .int, 2) := by decide +kernel
theorem dX16_init_538 : decode cX16_init 538 = .ok (.putfield 817, 3) := by decide +kernel
theorem dX16_init_541 : decode cX16_init 541 = .ok (.aload_n 0, 1) := by decide +kernel
theorem dX16_init_542 : decode cX16_init 542 = .ok (.ldc_w 2187, 3) := by decide +kernel
theorem dX16_init_545 : decode cX16_init 545 = .ok (.newarray .boolean, 2) := by decide +kernel
theorem dX16_init_547 : decode cX16_init 547 = .ok (.putfield 906, 3) := by decide +kernel
theorem dX16_init_550 : decode cX16_init 550 = .ok (.aload_n 0, 1) := by decide +kernel
theorem dX16_init_551 : decode cX16_init 551 = .ok (.ldc_w 2187, 3) := by decide +kernel
theorem dX16_init_554 : decode cX16_init 554 = .ok (.newarray .int, 2) := by decide +kernel
theorem dX16_init_556 : decode cX16_init 556 = .ok (.putfield 925, 3) := by decide +kernel
theorem dX16_init_559 : decode cX16_init 559 = .ok (.aload_n 0, 1) := by decide +kernel
theorem dX16_init_560 : decode cX16_init 560 = .ok (.sipush 7700, 3) := by decide +kernel
theorem dX16_init_563 : decode cX16_init 563 = .ok (.newarray .int, 2) := by decide +kernel
theorem dX16_init_565 : decode cX16_init 565 = .ok (.putfield 910, 3) := by decide +kernel
theorem dX16_init_568 : decode cX16_init 568 = .ok (.aload_n 0, 1) := by decide +kernel
theorem dX16_init_569 : decode cX16_init 569 = .ok (.ldc_w 2187, 3) := by decide +kernel
theorem dX16_init_572 : decode cX16_init 572 = .ok (.newarray .boolean, 2) := by decide +kernel
theorem dX16_init_574 : decode cX16_init 574 = .ok (.putfield 916, 3) := by decide +kernel
theorem dX16_init_577 : decode cX16_init 577 = .ok (.aload_n 0, 1) := by decide +kernel
theorem dX16_init_578 : decode cX16_init 578 = .ok (.sipush 12030, 3) := by decide +kernel
theorem dX16_init_581 : decode cX16_init 581 = .ok (.newarray .int, 2) := by decide +kernel
theorem dX16_init_583 : decode cX16_init 583 = .ok (.putfield 802, 3) := by decide +kernel
theorem dX16_init_586 : decode cX16_init 586 = .ok (.aload_n 0, 1) := by decide +kernel
theorem dX16_init_587 : decode cX16_init 587 = .ok (.new 127, 3) := by decide +kernel
theorem dX16_init_590 : decode cX16_init 590 = .ok (.dup, 1) := by decide +kernel
theorem dX16_init_591 : decode cX16_init 591 = .ok (.ldc_w 1684, 3) := by decide +kernel
theorem dX16_init_594 : decode cX16_init 594 = .ok (.ldc_w 1684, 3) := by decide +kernel
theorem dX16_init_597 : decode cX16_init 597 = .ok (.ldc_w 2182, 3) := by decide +kernel
theorem dX16_init_600 : decode cX16_init 600 = .ok (.ldc_w 2188, 3) := by decide +kernel
theorem dX16_init_603 : decode cX16_init 603 = .ok (.invokespecial 2189, 3) := by decide +kernel
theorem dX16_init_606 : decode cX16_init 606 = .ok (.putfield 973, 3) := by decide +kernel
theorem dX16_init_609 : decode cX16_init 609 = .ok (.aload_n 0, 1) := by decide +kernel
theorem dX16_init_610 : decode cX16_init 610 = .ok (.sipush 17000, 3) := by decide +kernel
theorem dX16_init_613 : decode cX16_init 613 = .ok (.newarray .int, 2) := by decide +kernel
theorem dX16_init_615 : decode cX16_init 615 = .ok (.putfield 1017, 3) := by decide +kernel
theorem dX16_init_618 : decode cX16_init 618 = .ok (.aload_n 0, 1) := by decide +kernel
theorem dX16_init_619 : decode cX16_init 619 = .ok (.sipush 13000, 3) := by decide +kernel
theorem dX16_init_622 : decode cX16_init 622 = .ok (.newarray .int, 2) := by decide +kernel
theorem dX16_init_624 : decode cX16_init 624 = .ok (.putfield 1014, 3) := by decide +kernel
theorem dX16_init_627 : decode cX16_init 627 = .ok (.aload_n 0, 1) := by decide +kernel
theorem dX16_init_628 : decode cX16_init 628 = .ok (.iconst 5, 1) := by decide +kernel
theorem dX16_init_629 : decode cX16_init 629 = .ok (.newarray .int, 2) := by decide +kernel
theorem dX16_init_631 : decode cX16_init 631 = .ok (.putfield 1106, 3) := by decide +kernel
theorem dX16_init_634 : decode cX16_init 634 = .ok (.aload_n 0, 1) := by decide +kernel
theorem dX16_init_635 : decode cX16_init 635 = .ok (.sipush 401, 3) := by decide +kernel
theorem dX16_init_638 : decode cX16_init 638 = .ok (.newarray .int, 2) := by decide +kernel
theorem dX16_init_640 : decode cX16_init 640 = .ok (.putfield 1280, 3) := by decide +kernel
theorem dX16_init_643 : decode cX16_init 643 = .ok (.aload_n 0, 1) := by decide +kernel
theorem dX16_init_644 : decode cX16_init 644 = .ok (.iconst 5, 1) := by decide +kernel
theorem dX16_init_645 : decode cX16_init 645 = .ok (.newarray .int, 2) := by decide +kernel
theorem dX16_init_647 : decode cX16_init 647 = .ok (.putfield 1044, 3) := by decide +kernel
theorem dX16_init_650 : decode cX16_init 650 = .ok (.aload_n 0, 1) := by decide +kernel
theorem dX16_init_651 : decode cX16_init 651 = .ok (.bipush 120, 2) := by decide +kernel
theorem dX16_init_653 : decode cX16_init 653 = .ok (.newarray .int, 2) := by decide +kernel
theorem dX16_init_655 : decode cX16_init 655 = .ok (.putfield 1065, 3) := by decide +kernel
theorem dX16_init_658 : decode cX16_init 658 = .ok (.aload_n 0, 1) := by decide +kernel
theorem dX16_init_659 : decode cX16_init 659 = .ok (.bipush 120, 2) := by decide +kernel
theorem dX16_init_661 : decode cX16_init 661 = .ok (.newarray .int, 2) := by decide +kernel
theorem dX16_init_663 : decode cX16_init 663 = .ok (.putfield 1068, 3) := by decide +kernel
theorem dX16_init_666 : decode cX16_init 666 = .ok (.aload_n 0, 1) := by decide +kernel
theorem dX16_init_667 : decode cX16_init 667 = .ok (.sipush 2000, 3) := by decide +kernel
theorem dX16_init_670 : decode cX16_init 670 = .ok (.newarray .int, 2) := by decide +kernel
theorem dX16_init_672 : decode cX16_init 672 = .ok (.putfield 1053, 3) := by decide +kernel
theorem dX16_init_675 : decode cX16_init 675 = .ok (.aload_n 0, 1) := by decide +kernel
theorem dX16_init_676 : decode cX16_init 676 = .ok (.sipush 2000, 3) := by decide +kernel
theorem dX16_init_679 : decode cX16_init 679 = .ok (.newarray .int, 2) := by decide +kernel
theorem dX16_init_681 : decode cX16_init 681 = .ok (.putfield 1056, 3) := by decide +kernel
theorem dX16_init_684 : decode cX16_init 684 = .ok (.aload_n 0, 1) := by decide +kernel
theorem dX16_init_685 : decode cX16_init 685 = .ok (.sipush 400, 3) := by decide +kernel
theorem dX16_init_688 : decode cX16_init 688 = .ok (.newarray .int, 2) := by decide +kernel
theorem dX16_init_690 : decode cX16_init 690 = .ok (.putfield 1392, 3) := by decide +kernel
theorem dX16_init_693 : decode cX16_init 693 = .ok (.aload_n 0, 1) := by decide +kernel
theorem dX16_init_694 : decode cX16_init 694 = .ok (.sipush 400, 3) := by decide +kernel
theorem dX16_init_697 : decode cX16_init 697 = .ok (.newarray .boolean, 2) := by decide +kernel
theorem dX16_init_699 : decode cX16_init 699 = .ok (.putfield 1395, 3) := by decide +kernel
theorem dX16_init_702 : decode cX16_init 702 = .ok (.aload_n 0, 1) := by decide +kernel
theorem dX16_init_703 : decode cX16_init 703 = .ok (.sipush 400, 3) := by decide +kernel
theorem dX16_init_706 : decode cX16_init 706 = .ok (.newarray .int, 2) := by decide +kernel
theorem dX16_init_708 : decode cX16_init 708 = .ok (.putfield 1371, 3) := by decide +kernel
theorem dX16_init_711 : decode cX16_init 711 = .ok (.aload_n 0, 1) := by decide +kernel
theorem dX16_init_712 : decode cX16_init 712 = .ok (.sipush 400, 3) := by decide +kernel
theorem dX16_init_715 : decode cX16_init 715 = .ok (.newarray .boolean, 2) := by decide +kernel
theorem dX16_init_717 : decode cX16_init 717 = .ok (.putfield 1365, 3) := by decide +kernel
theorem dX16_init_720 : decode cX16_init 720 = .ok (.aload_n 0, 1) := by decide +kernel
theorem dX16_init_721 : decode cX16_init 721 = .ok (.ldc_w 2191, 3) := by decide +kernel
theorem dX16_init_724 : decode cX16_init 724 = .ok (.newarray .int, 2) := by decide +kernel
theorem dX16_init_726 : decode cX16_init 726 = .ok (.putfield 994, 3) := by decide +kernel
theorem dX16_init_729 : decode cX16_init 729 = .ok (.aload_n 0, 1) := by decide +kernel
theorem dX16_init_730 : decode cX16_init 730 = .ok (.ldc_w 2191, 3) := by decide +kernel
theorem dX16_init_733 : decode cX16_init 733 = .ok (.newarray .int, 2) := by decide +kernel
theorem dX16_init_735 : decode cX16_init 735 = .ok (.putfield 1000, 3) := by decide +kernel
theorem dX16_init_738 : decode cX16_init 738 = .ok (.aload_n 0, 1) := by decide +kernel
theorem dX16_init_739 : decode cX16_init 739 = .ok (.ldc_w 2192, 3) := by decide +kernel
theorem dX16_init_742 : decode cX16_init 742 = .ok (.newarray .int, 2) := by decide +kernel
theorem dX16_init_744 : decode cX16_init 744 = .ok (.putfield 1230, 3) := by decide +kernel
theorem dX16_init_747 : decode cX16_init 747 = .ok (.aload_n 0, 1) := by decide +kernel
theorem dX16_init_748 : decode cX16_init 748 = .ok (.ldc_w 2192, 3) := by decide +kernel
theorem dX16_init_751 : decode cX16_init 751 = .ok (.newarray .int, 2) := by decide +kernel
theorem dX16_init_753 : decode cX16_init 753 = .ok (.putfield 1233, 3) := by decide +kernel
theorem dX16_init_756 : decode cX16_init 756 = .ok (.aload_n 0, 1) := by decide +kernel
theorem dX16_init_757 : decode cX16_init 757 = .ok (.ldc_w 2193, 3) := by decide +kernel
theorem dX16_init_760 : decode cX16_init 760 = .ok (.newarray .long, 2) := by decide +kernel
theorem dX16_init_762 : decode cX16_init 762 = .ok (.putfield 1009, 3) := by decide +kernel
theorem dX16_init_765 : decode cX16_init 765 = .ok (.aload_n 0, 1) := by decide +kernel
theorem dX16_init_766 : decode cX16_init 766 = .ok (.sipush 24000, 3) := by decide +kernel
theorem dX16_init_769 : decode cX16_init 769 = .ok (.newarray .int, 2) := by decide +kernel
theorem dX16_init_771 : decode cX16_init 771 = .ok (.putfield 1190, 3) := by decide +kernel
theorem dX16_init_774 : decode cX16_init 774 = .ok (.aload_n 0, 1) := by decide +kernel
theorem dX16_init_775 : decode cX16_init 775 = .ok (.sipush 24000, 3) := by decide +kernel
theorem dX16_init_778 : decode cX16_init 778 = .ok (.newarray .int, 2) := by decide +kernel
theorem dX16_init_780 : decode cX16_init 780 = .ok (.putfield 1196, 3) := by decide +kernel
theorem dX16_init_783 : decode cX16_init 783 = .ok (.aload_n 0, 1) := by decide +kernel
theorem dX16_init_784 : decode cX16_init 784 = .ok (.sipush 24000, 3) := by decide +kernel
theorem dX16_init_787 : decode cX16_init 787 = .ok (.newarray .int, 2) := by decide +kernel
theorem dX16_init_789 : decode cX16_init 789 = .ok (.putfield 1199, 3) := by decide +kernel
theorem dX16_init_792 : decode cX16_init 792 = .ok (.aload_n 0, 1) := by decide +kernel
theorem dX16_init_793 : decode cX16_init 793 = .ok (.sipush 24000, 3) := by decide +kernel
theorem dX16_init_796 : decode cX16_init 796 = .ok (.newarray .int, 2) := by decide +kernel
theorem dX16_init_798 : decode cX16_init 798 = .ok (.putfield 1202, 3) := by decide +kernel
theorem dX16_init_801 : decode cX16_init 801 = .ok (.aload_n 0, 1) := by decide +kernel
theorem dX16_init_802 : decode cX16_init 802 = .ok (.sipush 24000, 3) := by decide +kernel
theorem dX16_init_805 : decode cX16_init 805 = .ok (.newarray .int, 2) := by decide +kernel
theorem dX16_init_807 : decode cX16_init 807 = .ok (.putfield 1227, 3) := by decide +kernel
theorem dX16_init_810 : decode cX16_init 810 = .ok (.aload_n 0, 1) := by decide +kernel
theorem dX16_init_811 : decode cX16_init 811 = .ok (.sipush 24000, 3) := by decide +kernel
theorem dX16_init_814 : decode cX16_init 814 = .ok (.newarray .int, 2) := by decide +kernel
theorem dX16_init_816 : decode cX16_init 816 = .ok (.putfield 1221, 3) := by decide +kernel
theorem dX16_init_819 : decode cX16_init 819 = .ok (.aload_n 0, 1) := by decide +kernel
theorem dX16_init_820 : decode cX16_init 820 = .ok (.sipush 24000, 3) := by decide +kernel
theorem dX16_init_823 : decode cX16_init 823 = .ok (.newarray .boolean, 2) := by decide +kernel
theorem dX16_init_825 : decode cX16_init 825 = .ok (.putfield 1224, 3) := by decide +kernel
theorem dX16_init_828 : decode cX16_init 828 = .ok (.aload_n 0, 1) := by decide +kernel
theorem dX16_init_829 : decode cX16_init 829 = .ok (.sipush 3400, 3) := by decide +kernel
theorem dX16_init_832 : decode cX16_init 832 = .ok (.newarray .int, 2) := by decide +kernel
theorem dX16_init_834 : decode cX16_init 834 = .ok (.putfield 1023, 3) := by decide +kernel
theorem dX16_init_837 : decode cX16_init 837 = .ok (.aload_n 0, 1) := by decide +kernel
theorem dX16_init_838 : decode cX16_init 838 = .ok (.sipush 3400, 3) := by decide +kernel
theorem dX16_init_841 : decode cX16_init 841 = .ok (.newarray .int, 2) := by decide +kernel
theorem dX16_init_843 : decode cX16_init 843 = .ok (.putfield 1020, 3) := by decide +kernel
theorem dX16_init_846 : decode cX16_init 846 = .ok (.aload_n 0, 1) := by decide +kernel
theorem dX16_init_847 : decode cX16_init 847 = .ok (.sipush 3400, 3) := by decide +kernel
theorem dX16_init_850 : decode cX16_init 850 = .ok (.newarray .int, 2) := by decide +kernel
theorem dX16_init_852 : decode cX16_init 852 = .ok (.putfield 1026, 3) := by decide +kernel
theorem dX16_init_855 : decode cX16_init 855 = .ok (.aload_n 0, 1) := by decide +kernel
theorem dX16_init_856 : decode cX16_init 856 = .ok (.sipush 3400, 3) := by decide +kernel
theorem dX16_init_859 : decode cX16_init 859 = .ok (.newarray .int, 2) := by decide +kernel
theorem dX16_init_861 : decode cX16_init 861 = .ok (.putfield 1032, 3) := by decide +kernel
theorem dX16_init_864 : decode cX16_init 864 = .ok (.aload_n 0, 1) := by decide +kernel
theorem dX16_init_865 : decode cX16_init 865 = .ok (.sipush 17000, 3) := by decide +kernel
theorem dX16_init_868 : decode cX16_init 868 = .ok (.newarray .int, 2) := by decide +kernel
theorem dX16_init_870 : decode cX16_init 870 = .ok (.putfield 1059, 3) := by decide +kernel
theorem dX16_init_873 : decode cX16_init 873 = .ok (.aload_n 0, 1) := by decide +kernel
theorem dX16_init_874 : decode cX16_init 874 = .ok (.ldc_w 2194, 3) := by decide +kernel
theorem dX16_init_877 : decode cX16_init 877 = .ok (.newarray .int, 2) := by decide +kernel
theorem dX16_init_879 : decode cX16_init 879 = .ok (.putfield 1347, 3) := by decide +kernel
theorem dX16_init_882 : decode cX16_init 882 = .ok (.aload_n 0, 1) := by decide +kernel
theorem dX16_init_883 : decode cX16_init 883 = .ok (.ldc_w 2194, 3) := by decide +kernel
theorem dX16_init_886 : decode cX16_init 886 = .ok (.newarray .int, 2) := by decide +kernel
theorem dX16_init_888 : decode cX16_init 888 = .ok (.putfield 1350, 3) := by decide +kernel
theorem dX16_init_891 : decode cX16_init 891 = .ok (.aload_n 0, 1) := by decide +kernel
theorem dX16_init_892 : decode cX16_init 892 = .ok (.bipush 35, 2) := by decide +kernel
theorem dX16_init_894 : decode cX16_init 894 = .ok (.newarray .long, 2) := by decide +kernel
theorem dX16_init_896 : decode cX16_init 896 = .ok (.putfield 1383, 3) := by decide +kernel
theorem dX16_init_899 : decode cX16_init 899 = .ok (.aload_n 0, 1) := by decide +kernel
theorem dX16_init_900 : decode cX16_init 900 = .ok (.new 127, 3) := by decide +kernel
theorem dX16_init_903 : decode cX16_init 903 = .ok (.dup, 1) := by decide +kernel
theorem dX16_init_904 : decode cX16_init 904 = .ok (.sipush 14000, 3) := by decide +kernel
theorem dX16_init_907 : decode cX16_init 907 = .ok (.sipush 20000, 3) := by decide +kernel
theorem dX16_init_910 : decode cX16_init 910 = .ok (.sipush 14000, 3) := by decide +kernel
theorem dX16_init_913 : decode cX16_init 913 = .ok (.sipush 20000, 3) := by decide +kernel
theorem dX16_init_916 : decode cX16_init 916 = .ok (.invokespecial 2189, 3) := by decide +kernel
theorem dX16_init_919 : decode cX16_init 919 = .ok (.putfield 1611, 3) := by decide +kernel
theorem dX16_init_922 : decode cX16_init 922 = .ok (.aload_n 0, 1) := by decide +kernel
theorem dX16_init_923 : decode cX16_init 923 = .ok (.new 127, 3) := by decide +kernel
theorem dX16_init_926 : decode cX16_init 926 = .ok (.dup, 1) := by decide +kernel
theorem dX16_init_927 : decode cX16_init 927 = .ok (.sipush 14000, 3) := by decide +kernel
theorem dX16_init_930 : decode cX16_init 930 = .ok (.sipush 20000, 3) := by decide +kernel
theorem dX16_init_933 : decode cX16_init 933 = .ok (.sipush 14000, 3) := by decide +kernel
theorem dX16_init_936 : decode cX16_init 936 = .ok (.sipush 20000, 3) := by decide +kernel
theorem dX16_init_939 : decode cX16_init 939 = .ok (.invokespecial 2189, 3) := by decide +kernel
theorem dX16_init_942 : decode cX16_init 942 = .ok (.putfield 1631, 3) := by decide +kernel
theorem dX16_init_945 : decode cX16_init 945 = .ok (.aload_n 0, 1) := by decide +kernel
theorem dX16_init_946 : decode cX16_init 946 = .ok (.new 127, 3) := by decide +kernel
theorem dX16_init_949 : decode cX16_init 949 = .ok (.dup, 1) := by decide +kernel
theorem dX16_init_950 : decode cX16_init 950 = .ok (.sipush 8000, 3) := by decide +kernel
theorem dX16_init_953 : decode cX16_init 953 = .ok (.sipush 8000, 3) := by decide +kernel
theorem dX16_init_956 : decode cX16_init 956 = .ok (.sipush 9000, 3) := by decide +kernel
theorem dX16_init_959 : decode cX16_init 959 = .ok (.sipush 20000, 3) := by decide +kernel
theorem dX16_init_962 : decode cX16_init 962 = .ok (.invokespecial 2189, 3) := by decide +kernel
theorem dX16_init_965 : decode cX16_init 965 = .ok (.putfield 2195, 3) := by decide +kernel
theorem dX16_init_968 : decode cX16_init 968 = .ok (.aload_n 0, 1) := by decide +kernel
theorem dX16_init_969 : decode cX16_init 969 = .ok (.sipush 9000, 3) := by decide +kernel
theorem dX16_init_972 : decode cX16_init 972 = .ok (.newarray .byte, 2) := by decide +kernel
theorem dX16_init_974 : decode cX16_init 974 = .ok (.putfield 1644, 3) := by decide +kernel
theorem dX16_init_977 : decode cX16_init 977 = .ok (.aload_n 0, 1) := by decide +kernel
theorem dX16_init_978 : decode cX16_init 978 = .ok (.sipush 9000, 3) := by decide +kernel
theorem dX16_init_981 : decode cX16_init 981 = .ok (.newarray .int, 2) := by decide +kernel
theorem dX16_init_983 : decode cX16_init 983 = .ok (.putfield 1638, 3) := by decide +kernel
theorem dX16_init_986 : decode cX16_init 986 = .ok (.aload_n 0, 1) := by decide +kernel
theorem dX16_init_987 : decode cX16_init 987 = .ok (.sipush 20000, 3) := by decide +kernel
theorem dX16_init_990 : decode cX16_init 990 = .ok (.newarray .int, 2) := by decide +kernel
theorem dX16_init_992 : decode cX16_init 992 = .ok (.putfield 1811, 3) := by decide +kernel
theorem dX16_init_995 : decode cX16_init 995 = .ok (.aload_n 0, 1) := by decide +kernel
theorem dX16_init_996 : decode cX16_init 996 = .ok (.sipush 20000, 3) := by decide +kernel
theorem dX16_init_999 : decode cX16_init 999 = .ok (.newarray .int, 2) := by decide +kernel
theorem dX16_init_1001 : decode cX16_init 1001 = .ok (.putfield 1814, 3) := by decide +kernel
theorem dX16_init_1004 : decode cX16_init 1004 = .ok (.aload_n 0, 1) := by decide +kernel
theorem dX16_init_1005 : decode cX16_init 1005 = .ok (.sipush 20000, 3) := by decide +kernel
theorem dX16_init_1008 : decode cX16_init 1008 = .ok (.newarray .int, 2) := by decide +kernel
theorem dX16_init_1010 : decode cX16_init 1010 = .ok (.putfield 1817, 3) := by decide +kernel
theorem dX16_init_1013 : decode cX16_init 1013 = .ok (.aload_n 0, 1) := by decide +kernel
theorem dX16_init_1014 : decode cX16_init 1014 = .ok (.sipush 20000, 3) := by decide +kernel
theorem dX16_init_1017 : decode cX16_init 1017 = .ok (.newarray .int, 2) := by decide +kernel
theorem dX16_init_1019 : decode cX16_init 1019 = .ok (.putfield 1829, 3) := by decide +kernel
theorem dX16_init_1022 : decode cX16_init 1022 = .ok (.aload_n 0, 1) := by decide +kernel
theorem dX16_init_1023 : decode cX16_init 1023 = .ok (.sipush 20000, 3) := by decide +kernel
theorem dX16_init_1026 : decode cX16_init 1026 = .ok (.newarray .int, 2) := by decide +kernel
theorem dX16_init_1028 : decode cX16_init 1028 = .ok (.putfield 1838, 3) := by decide +kernel
theorem dX16_init_1031 : decode cX16_init 1031 = .ok (.aload_n 0, 1) := by decide +kernel
theorem dX16_init_1032 : decode cX16_init 1032 = .ok (.sipush 20000, 3) := by decide +kernel
theorem dX16_init_1035 : decode cX16_init 1035 = .ok (.newarray .int, 2) := by decide +kernel
theorem dX16_init_1037 : decode cX16_init 1037 = .ok (.putfield 1841, 3) := by decide +kernel
theorem dX16_init_1040 : decode cX16_init 1040 = .ok (.aload_n 0, 1) := by decide +kernel
theorem dX16_init_1041 : decode cX16_init 1041 = .ok (.ldc_w 961, 3) := by decide +kernel
theorem dX16_init_1044 : decode cX16_init 1044 = .ok (.newarray .int, 2) := by decide +kernel
theorem dX16_init_1046 : decode cX16_init 1046 = .ok (.putfield 1826, 3) := by decide +kernel
theorem dX16_init_1049 : decode cX16_init 1049 = .ok (.aload_n 0, 1) := by decide +kernel
theorem dX16_init_1050 : decode cX16_init 1050 = .ok (.sipush 16800, 3) := by decide +kernel
theorem dX16_init_1053 : decode cX16_init 1053 = .ok (.newarray .long, 2) := by decide +kernel
theorem dX16_init_1055 : decode cX16_init 1055 = .ok (.putfield 1731, 3) := by decide +kernel
theorem dX16_init_1058 : decode cX16_init 1058 = .ok (.aload_n 0, 1) := by decide +kernel
theorem dX16_init_1059 : decode cX16_init 1059 = .ok (.sipush 9000, 3) := by decide +kernel
theorem dX16_init_1062 : decode cX16_init 1062 = .ok (.newarray .int, 2) := by decide +kernel
theorem dX16_init_1064 : decode cX16_init 1064 = .ok (.putfield 1713, 3) := by decide +kernel
theorem dX16_init_1067 : decode cX16_init 1067 = .ok (.aload_n 0, 1) := by decide +kernel
theorem dX16_init_1068 : decode cX16_init 1068 = .ok (.sipush 9000, 3) := by decide +kernel
theorem dX16_init_1071 : decode cX16_init 1071 = .ok (.newarray .int, 2) := by decide +kernel
theorem dX16_init_1073 : decode cX16_init 1073 = .ok (.putfield 1719, 3) := by decide +kernel
theorem dX16_init_1076 : decode cX16_init 1076 = .ok (.aload_n 0, 1) := by decide +kernel
theorem dX16_init_1077 : decode cX16_init 1077 = .ok (.sipush 9000, 3) := by decide +kernel
theorem dX16_init_1080 : decode cX16_init 1080 = .ok (.newarray .int, 2) := by decide +kernel
theorem dX16_init_1082 : decode cX16_init 1082 = .ok (.putfield 1722, 3) := by decide +kernel
theorem dX16_init_1085 : decode cX16_init 1085 = .ok (.aload_n 0, 1) := by decide +kernel
theorem dX16_init_1086 : decode cX16_init 1086 = .ok (.sipush 9000, 3) := by decide +kernel
theorem dX16_init_1089 : decode cX16_init 1089 = .ok (.newarray .int, 2) := by decide +kernel
theorem dX16_init_1091 : decode cX16_init 1091 = .ok (.putfield 1725, 3) := by decide +kernel
theorem dX16_init_1094 : decode cX16_init 1094 = .ok (.aload_n 0, 1) := by decide +kernel
theorem dX16_init_1095 : decode cX16_init 1095 = .ok (.sipush 9000, 3) := by decide +kernel
theorem dX16_init_1098 : decode cX16_init 1098 = .ok (.newarray .int, 2) := by decide +kernel
theorem dX16_init_1100 : decode cX16_init 1100 = .ok (.putfield 1728, 3) := by decide +kernel
theorem dX16_init_1103 : decode cX16_init 1103 = .ok (.aload_n 0, 1) := by decide +kernel
theorem dX16_init_1104 : decode cX16_init 1104 = .ok (.bipush 8, 2) := by decide +kernel
theorem dX16_init_1106 : decode cX16_init 1106 = .ok (.newarray .int, 2) := by decide +kernel
theorem dX16_init_1108 : decode cX16_init 1108 = .ok (.putfield 1907, 3) := by decide +kernel
theorem dX16_init_1111 : decode cX16_init 1111 = .ok (.aload_n 0, 1) := by decide +kernel
theorem dX16_init_1112 : decode cX16_init 1112 = .ok (.bipush 40, 2) := by decide +kernel
theorem dX16_init_1114 : decode cX16_init 1114 = .ok (.newarray .int, 2) := by decide +kernel
theorem dX16_init_1116 : decode cX16_init 1116 = .ok (.putfield 2028, 3) := by decide +kernel
theorem dX16_init_1119 : decode cX16_init 1119 = .ok (.aload_n 0, 1) := by decide +kernel
theorem dX16_init_1120 : decode cX16_init 1120 = .ok (.sipush 18000, 3) := by decide +kernel
theorem dX16_init_1123 : decode cX16_init 1123 = .ok (.newarray .long, 2) := by decide +kernel
theorem dX16_init_1125 : decode cX16_init 1125 = .ok (.putfield 2085, 3) := by decide +kernel
theorem dX16_init_1128 : decode cX16_init 1128 = .ok (.aload_n 0, 1) := by decide +kernel
theorem dX16_init_1129 : decode cX16_init 1129 = .ok (.sipush 24000, 3) := by decide +kernel
theorem dX16_init_1132 : decode cX16_init 1132 = .ok (.newarray .byte, 2) := by decide +kernel
theorem dX16_init_1134 : decode cX16_init 1134 = .ok (.putfield 2161, 3) := by decide +kernel
theorem dX16_init_1137 : decode cX16_init 1137 = .ok (.aload_n 0, 1) := by decide +kernel
theorem dX16_init_1138 : decode cX16_init 1138 = .ok (.sipush 6000, 3) := by decide +kernel
theorem dX16_init_1141 : decode cX16_init 1141 = .ok (.newarray .byte, 2) := by decide +kernel
theorem dX16_init_1143 : decode cX16_init 1143 = .ok (.putfield 2082, 3) := by decide +kernel
theorem dX16_init_1146 : decode cX16_init 1146 = .ok (.aload_n 0, 1) := by decide +kernel
theorem dX16_init_1147 : decode cX16_init 1147 = .ok (.bipush 24, 2) := by decide +kernel
theorem dX16_init_1149 : decode cX16_init 1149 = .ok (.newarray .int, 2) := by decide +kernel
theorem dX16_init_1151 : decode cX16_init 1151 = .ok (.putfield 2079, 3) := by decide +kernel
theorem dX16_init_1154 : decode cX16_init 1154 = .ok (.aload_n 0, 1) := by decide +kernel
theorem dX16_init_1155 : decode cX16_init 1155 = .ok (.bipush 6, 2) := by decide +kernel
theorem dX16_init_1157 : decode cX16_init 1157 = .ok (.newarray .int, 2) := by decide +kernel
theorem dX16_init_1159 : decode cX16_init 1159 = .ok (.putfield 2076, 3) := by decide +kernel
theorem dX16_init_1162 : decode cX16_init 1162 = .ok (.aload_n 0, 1) := by decide +kernel
theorem dX16_init_1163 : decode cX16_init 1163 = .ok (.bipush 6, 2) := by decide +kernel
theorem dX16_init_1165 : decode cX16_init 1165 = .ok (.newarray .int, 2) := by decide +kernel
theorem dX16_init_1167 : decode cX16_init 1167 = .ok (.putfield 2070, 3) := by decide +kernel
theorem dX16_init_1170 : decode cX16_init 1170 = .ok (.aload_n 0, 1) := by decide +kernel
theorem dX16_init_1171 : decode cX16_init 1171 = .ok (.iconst 4, 1) := by decide +kernel
theorem dX16_init_1172 : decode cX16_init 1172 = .ok (.newarray .int, 2) := by decide +kernel
theorem dX16_init_1174 : decode cX16_init 1174 = .ok (.putfield 2158, 3) := by decide +kernel
theorem dX16_init_1177 : decode cX16_init 1177 = .ok (.aload_n 0, 1) := by decide +kernel
theorem dX16_init_1178 : decode cX16_init 1178 = .ok (.iconst 4, 1) := by decide +kernel
theorem dX16_init_1179 : decode cX16_init 1179 = .ok (.newarray .boolean, 2) := by decide +kernel
theorem dX16_init_1181 : decode cX16_init 1181 = .ok (.putfield 2198, 3) := by decide +kernel
theorem dX16_init_1184 : decode cX16_init 1184 = .ok (.aload_n 0, 1) := by decide +kernel
theorem dX16_init_1185 : decode cX16_init 1185 = .ok (.iconst 1, 1) := by decide +kernel
theorem dX16_init_1186 : decode cX16_init 1186 = .ok (.putfield 2201, 3) := by decide +kernel
theorem dX16_init_1189 : decode cX16_init 1189 = .ok (.aload_n 0, 1) := by decide +kernel
theorem dX16_init_1190 : decode cX16_init 1190 = .ok (.iconst (-1), 1) := by decide +kernel
theorem dX16_init_1191 : decode cX16_init 1191 = .ok (.putfield 2067, 3) := by decide +kernel
theorem dX16_init_1194 : decode cX16_init 1194 = .ok (.aload_n 0, 1) := by decide +kernel
theorem dX16_init_1195 : decode cX16_init 1195 = .ok (.iconst (-1), 1) := by decide +kernel
theorem dX16_init_1196 : decode cX16_init 1196 = .ok (.putfield 2173, 3) := by decide +kernel
theorem dX16_init_1199 : decode cX16_init 1199 = .ok (.aload_n 0, 1) := by decide +kernel
theorem dX16_init_1200 : decode cX16_init 1200 = .ok (.iconst (-1), 1) := by decide +kernel
theorem dX16_init_1201 : decode cX16_init 1201 = .ok (.putfield 2176, 3) := by decide +kernel
theorem dX16_init_1204 : decode cX16_init 1204 = .ok (.aload_n 0, 1) := by decide +kernel
theorem dX16_init_1205 : decode cX16_init 1205 = .ok (.sipush 6000, 3) := by decide +kernel
theorem dX16_init_1208 : decode cX16_init 1208 = .ok (.newarray .byte, 2) := by decide +kernel
theorem dX16_init_1210 : decode cX16_init 1210 = .ok (.putfield 2204, 3) := by decide +kernel
theorem dX16_init_1213 : decode cX16_init 1213 = .ok (.aload_n 0, 1) := by decide +kernel
theorem dX16_init_1214 : decode cX16_init 1214 = .ok (.new 127, 3) := by decide +kernel
theorem dX16_init_1217 : decode cX16_init 1217 = .ok (.dup, 1) := by decide +kernel
theorem dX16_init_1218 : decode cX16_init 1218 = .ok (.sipush 4100, 3) := by decide +kernel
theorem dX16_init_1221 : decode cX16_init 1221 = .ok (.sipush 4100, 3) := by decide +kernel
theorem dX16_init_1224 : decode cX16_init 1224 = .ok (.sipush 4100, 3) := by decide +kernel
theorem dX16_init_1227 : decode cX16_init 1227 = .ok (.iconst 0, 1) := by decide +kernel
theorem dX16_init_1228 : decode cX16_init 1228 = .ok (.invokespecial 2189, 3) := by decide +kernel
theorem dX16_init_1231 : decode cX16_init 1231 = .ok (.putfield 2207, 3) := by decide +kernel
theorem dX16_init_1234 : decode cX16_init 1234 = .ok (.aload_n 0, 1) := by decide +kernel
theorem dX16_init_1235 : decode cX16_init 1235 = .ok (.new 127, 3) := by decide +kernel
theorem dX16_init_1238 : decode cX16_init 1238 = .ok (.dup, 1) := by decide +kernel
theorem dX16_init_1239 : decode cX16_init 1239 = .ok (.sipush 4100, 3) := by decide +kernel
theorem dX16_init_1242 : decode cX16_init 1242 = .ok (.sipush 4100, 3) := by decide +kernel
theorem dX16_init_1245 : decode cX16_init 1245 = .ok (.sipush 4100, 3) := by decide +kernel
theorem dX16_init_1248 : decode cX16_init 1248 = .ok (.iconst 0, 1) := by decide +kernel
theorem dX16_init_1249 : decode cX16_init 1249 = .ok (.invokespecial 2189, 3) := by decide +kernel
theorem dX16_init_1252 : decode cX16_init 1252 = .ok (.putfield 2209, 3) := by decide +kernel
theorem dX16_init_1255 : decode cX16_init 1255 = .ok (.aload_n 0, 1) := by decide +kernel
theorem dX16_init_1256 : decode cX16_init 1256 = .ok (.iconst 4, 1) := by decide +kernel
theorem dX16_init_1257 : decode cX16_init 1257 = .ok (.anewarray 127, 3) := by decide +kernel
theorem dX16_init_1260 : decode cX16_init 1260 = .ok (.dup, 1) := by decide +kernel
theorem dX16_init_1261 : decode cX16_init 1261 = .ok (.iconst 0, 1) := by decide +kernel
theorem dX16_init_1262 : decode cX16_init 1262 = .ok (.new 127, 3) := by decide +kernel
theorem dX16_init_1265 : decode cX16_init 1265 = .ok (.dup, 1) := by decide +kernel
theorem dX16_init_1266 : decode cX16_init 1266 = .ok (.sipush 4100, 3) := by decide +kernel
theorem dX16_init_1269 : decode cX16_init 1269 = .ok (.sipush 4100, 3) := by decide +kernel
theorem dX16_init_1272 : decode cX16_init 1272 = .ok (.sipush 4100, 3) := by decide +kernel
theorem dX16_init_1275 : decode cX16_init 1275 = .ok (.iconst 0, 1) := by decide +kernel
theorem dX16_init_1276 : decode cX16_init 1276 = .ok (.invokespecial 2189, 3) := by decide +kernel
theorem dX16_init_1279 : decode cX16_init 1279 = .ok (.aastore, 1) := by decide +kernel
theorem dX16_init_1280 : decode cX16_init 1280 = .ok (.dup, 1) := by decide +kernel
theorem dX16_init_1281 : decode cX16_init 1281 = .ok (.iconst 1, 1) := by decide +kernel
theorem dX16_init_1282 : decode cX16_init 1282 = .ok (.new 127, 3) := by decide +kernel
theorem dX16_init_1285 : decode cX16_init 1285 = .ok (.dup, 1) := by decide +kernel
theorem dX16_init_1286 : decode cX16_init 1286 = .ok (.sipush 4100, 3) := by decide +kernel
theorem dX16_init_1289 : decode cX16_init 1289 = .ok (.sipush 4100, 3) := by decide +kernel
theorem dX16_init_1292 : decode cX16_init 1292 = .ok (.sipush 4100, 3) := by decide +kernel
theorem dX16_init_1295 : decode cX16_init 1295 = .ok (.iconst 0, 1) := by decide +kernel
theorem dX16_init_1296 : decode cX16_init 1296 = .ok (.invokespecial 2189, 3) := by decide +kernel
theorem dX16_init_1299 : decode cX16_init 1299 = .ok (.aastore, 1) := by decide +kernel
theorem dX16_init_1300 : decode cX16_init 1300 = .ok (.dup, 1) := by decide +kernel
theorem dX16_init_1301 : decode cX16_init 1301 = .ok (.iconst 2, 1) := by decide +kernel
theorem dX16_init_1302 : decode cX16_init 1302 = .ok (.new 127, 3) := by decide +kernel
theorem dX16_init_1305 : decode cX16_init 1305 = .ok (.dup, 1) := by decide +kernel
theorem dX16_init_1306 : decode cX16_init 1306 = .ok (.sipush 4100, 3) := by decide +kernel
theorem dX16_init_1309 : decode cX16_init 1309 = .ok (.sipush 4100, 3) := by decide +kernel
theorem dX16_init_1312 : decode cX16_init 1312 = .ok (.sipush 4100, 3) := by decide +kernel
theorem dX16_init_1315 : decode cX16_init 1315 = .ok (.iconst 0, 1) := by decide +kernel
theorem dX16_init_1316 : decode cX16_init 1316 = .ok (.invokespecial 2189, 3) := by decide +kernel
theorem dX16_init_1319 : decode cX16_init 1319 = .ok (.aastore, 1) := by decide +kernel
theorem dX16_init_1320 : decode cX16_init 1320 = .ok (.dup, 1) := by decide +kernel
theorem dX16_init_1321 : decode cX16_init 1321 = .ok (.iconst 3, 1) := by decide +kernel
theorem dX16_init_1322 : decode cX16_init 1322 = .ok (.new 127, 3) := by decide +kernel
theorem dX16_init_1325 : decode cX16_init 1325 = .ok (.dup, 1) := by decide +kernel
theorem dX16_init_1326 : decode cX16_init 1326 = .ok (.sipush 4100, 3) := by decide +kernel
theorem dX16_init_1329 : decode cX16_init 1329 = .ok (.sipush 4100, 3) := by decide +kernel
theorem dX16_init_1332 : decode cX16_init 1332 = .ok (.sipush 4100, 3) := by decide +kernel
theorem dX16_init_1335 : decode cX16_init 1335 = .ok (.iconst 0, 1) := by decide +kernel
theorem dX16_init_1336 : decode cX16_init 1336 = .ok (.invokespecial 2189, 3) := by decide +kernel
theorem dX16_init_1339 : decode cX16_init 1339 = .ok (.aastore, 1) := by decide +kernel
theorem dX16_init_1340 : decode cX16_init 1340 = .ok (.putfield 2211, 3) := by decide +kernel
theorem dX16_init_1343 : decode cX16_init 1343 = .ok (.aload_n 0, 1) := by decide +kernel
theorem dX16_init_1344 : decode cX16_init 1344 = .ok (.iconst 4, 1) := by decide +kernel
theorem dX16_init_1345 : decode cX16_init 1345 = .ok (.newarray .int, 2) := by decide +kernel
theorem dX16_init_1347 : decode cX16_init 1347 = .ok (.putfield 2215, 3) := by decide +kernel
theorem dX16_init_1350 : decode cX16_init 1350 = .ok (.aload_n 0, 1) := by decide +kernel
theorem dX16_init_1351 : decode cX16_init 1351 = .ok (.ldc_w 2218, 3) := by decide +kernel
theorem dX16_init_1354 : decode cX16_init 1354 = .ok (.newarray .int, 2) := by decide +kernel
theorem dX16_init_1356 : decode cX16_init 1356 = .ok (.putfield 2219, 3) := by decide +kernel
theorem dX16_init_1359 : decode cX16_init 1359 = .ok (.aload_n 0, 1) := by decide +kernel
theorem dX16_init_1360 : decode cX16_init 1360 = .ok (.iconst (-1), 1) := by decide +kernel
theorem dX16_init_1361 : decode cX16_init 1361 = .ok (.putfield 2222, 3) := by decide +kernel
theorem dX16_init_1364 : decode cX16_init 1364 = .ok (.aload_n 0, 1) := by decide +kernel
theorem dX16_init_1365 : decode cX16_init 1365 = .ok (.aload_n 0, 1) := by decide +kernel
theorem dX16_init_1366 : decode cX16_init 1366 = .ok (.getfield 2207, 3) := by decide +kernel
theorem dX16_init_1369 : decode cX16_init 1369 = .ok (.aload_n 0, 1) := by decide +kernel
theorem dX16_init_1370 : decode cX16_init 1370 = .ok (.getfield 73, 3) := by decide +kernel
theorem dX16_init_1373 : decode cX16_init 1373 = .ok (.iconst 0, 1) := by decide +kernel
theorem dX16_init_1374 : decode cX16_init 1374 = .ok (.iconst 0, 1) := by decide +kernel
theorem dX16_init_1375 : decode cX16_init 1375 = .ok (.invokevirtual 163, 3) := by decide +kernel
theorem dX16_init_1378 : decode cX16_init 1378 = .ok (.putfield 2225, 3) := by decide +kernel
theorem dX16_init_1381 : decode cX16_init 1381 = .ok (.aload_n 0, 1) := by decide +kernel
theorem dX16_init_1382 : decode cX16_init 1382 = .ok (.getfield 2070, 3) := by decide +kernel
theorem dX16_init_1385 : decode cX16_init 1385 = .ok (.iconst 0, 1) := by decide +kernel
theorem dX16_init_1386 : decode cX16_init 1386 = .ok (.iconst 1, 1) := by decide +kernel
theorem dX16_init_1387 : decode cX16_init 1387 = .ok (.iastore, 1) := by decide +kernel
theorem dX16_init_1388 : decode cX16_init 1388 = .ok (.aload_n 0, 1) := by decide +kernel
theorem dX16_init_1389 : decode cX16_init 1389 = .ok (.getfield 2070, 3) := by decide +kernel
theorem dX16_init_1392 : decode cX16_init 1392 = .ok (.iconst 1, 1) := by decide +kernel
theorem dX16_init_1393 : decode cX16_init 1393 = .ok (.iconst 1, 1) := by decide +kernel
theorem dX16_init_1394 : decode cX16_init 1394 = .ok (.iastore, 1) := by decide +kernel
theorem dX16_init_1395 : decode cX16_init 1395 = .ok (.return_, 1) := by decide +kernel
