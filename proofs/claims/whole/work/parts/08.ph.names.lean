def tyX0 : Nat → FieldType := fun k => match k with
  | 0 => .object "PolicyHouse$Heap"
  | 1 => .object "PolicyHouse$Texts"
  | 2 => .object "PolicyHouse$Strings"
  | 3 => .array .int
  | 4 => .int
  | 5 => .array .int
  | 6 => .array .int
  | 7 => .array .int
  | _ => .int
theorem nmX0 : ∀ a, a < 9 → ∀ b, b < 9 → a ≠ b → (TX0 a).2.1 ≠ (TX0 b).2.1 := by decide +kernel
theorem tyX0_ok : ∀ k, k < 9 → parseFieldDescriptor (TX0 k).2.2.1 = some (tyX0 k) := by decide +kernel
def tyX1 : Nat → FieldType := fun k => match k with
  | 0 => .array (.object "PolicyHouse$Tree")
  | 1 => .int
  | 2 => .int
  | 3 => .int
  | 4 => .array .int
  | 5 => .array .int
  | 6 => .array .int
  | 7 => .array .int
  | 8 => .int
  | 9 => .array .int
  | 10 => .array .int
  | 11 => .array .int
  | 12 => .array .int
  | 13 => .int
  | 14 => .int
  | _ => .int
theorem nmX1 : ∀ a, a < 16 → ∀ b, b < 16 → a ≠ b → (TX1 a).2.1 ≠ (TX1 b).2.1 := by decide +kernel
theorem tyX1_ok : ∀ k, k < 16 → parseFieldDescriptor (TX1 k).2.2.1 = some (tyX1 k) := by decide +kernel
def tyX2 : Nat → FieldType := fun k => match k with
  | 0 => .object "PolicyHouse$Heap"
  | 1 => .object "PolicyHouse$Names"
  | 2 => .object "PolicyHouse$Bundle"
  | 3 => .object "PolicyHouse$Tree"
  | 4 => .int
  | 5 => .array .int
  | 6 => .array .int
  | 7 => .array .int
  | 8 => .int
  | 9 => .array .int
  | 10 => .int
  | 11 => .int
  | 12 => .int
  | 13 => .array .int
  | 14 => .array .int
  | _ => .array .int
theorem nmX2 : ∀ a, a < 16 → ∀ b, b < 16 → a ≠ b → (TX2 a).2.1 ≠ (TX2 b).2.1 := by decide +kernel
theorem tyX2_ok : ∀ k, k < 16 → parseFieldDescriptor (TX2 k).2.2.1 = some (tyX2 k) := by decide +kernel
def tyX3 : Nat → FieldType := fun k => match k with
  | 0 => .object "PolicyHouse$Heap"
  | 1 => .object "PolicyHouse$Names"
  | 2 => .object "PolicyHouse$Checker"
  | 3 => .object "PolicyHouse$Bundle"
  | 4 => .object "PolicyHouse$Tree"
  | 5 => .array .int
  | 6 => .int
  | 7 => .int
  | 8 => .int
  | 9 => .int
  | 10 => .int
  | 11 => .int
  | 12 => .int
  | 13 => .array .int
  | _ => .int
theorem nmX3 : ∀ a, a < 15 → ∀ b, b < 15 → a ≠ b → (TX3 a).2.1 ≠ (TX3 b).2.1 := by decide +kernel
theorem tyX3_ok : ∀ k, k < 15 → parseFieldDescriptor (TX3 k).2.2.1 = some (tyX3 k) := by decide +kernel
def tyX5 : Nat → FieldType := fun k => match k with
  | 0 => .object "PolicyHouse$Heap"
  | 1 => .object "PolicyHouse$Scopes"
  | 2 => .object "PolicyHouse$Builtins"
  | 3 => .array .int
  | 4 => .array .int
  | 5 => .int
  | 6 => .int
  | 7 => .int
  | 8 => .int
  | 9 => .boolean
  | 10 => .boolean
  | 11 => .boolean
  | 12 => .object "PolicyHouse$Bundle"
  | 13 => .array .int
  | 14 => .array .int
  | 15 => .int
  | 16 => .int
  | 17 => .int
  | _ => .array .int
theorem nmX5 : ∀ a, a < 19 → ∀ b, b < 19 → a ≠ b → (TX5 a).2.1 ≠ (TX5 b).2.1 := by decide +kernel
theorem tyX5_ok : ∀ k, k < 19 → parseFieldDescriptor (TX5 k).2.2.1 = some (tyX5 k) := by decide +kernel
def tyX8 : Nat → FieldType := fun k => match k with
  | 0 => .object "PolicyHouse$Heap"
  | 1 => .object "PolicyHouse$Texts"
  | 2 => .object "PolicyHouse$Names"
  | 3 => .array .int
  | 4 => .array .int
  | 5 => .array .int
  | 6 => .array .int
  | 7 => .int
  | 8 => .int
  | 9 => .int
  | 10 => .int
  | 11 => .int
  | 12 => .int
  | 13 => .int
  | _ => .object "PolicyHouse$Tree"
theorem nmX8 : ∀ a, a < 15 → ∀ b, b < 15 → a ≠ b → (TX8 a).2.1 ≠ (TX8 b).2.1 := by decide +kernel
theorem tyX8_ok : ∀ k, k < 15 → parseFieldDescriptor (TX8 k).2.2.1 = some (tyX8 k) := by decide +kernel
def tyX9 : Nat → FieldType := fun k => match k with
  | 0 => .object "PolicyHouse$Heap"
  | 1 => .object "PolicyHouse$Names"
  | 2 => .object "PolicyHouse$Bundle"
  | 3 => .int
  | 4 => .int
  | 5 => .int
  | 6 => .array .int
  | 7 => .array .int
  | 8 => .int
  | 9 => .boolean
  | 10 => .boolean
  | 11 => .boolean
  | 12 => .int
  | 13 => .int
  | 14 => .int
  | _ => .array .int
theorem nmX9 : ∀ a, a < 16 → ∀ b, b < 16 → a ≠ b → (TX9 a).2.1 ≠ (TX9 b).2.1 := by decide +kernel
theorem tyX9_ok : ∀ k, k < 16 → parseFieldDescriptor (TX9 k).2.2.1 = some (tyX9 k) := by decide +kernel
def tyX10 : Nat → FieldType := fun k => match k with
  | 0 => .object "PolicyHouse$Heap"
  | 1 => .object "PolicyHouse$Texts"
  | 2 => .object "PolicyHouse$Names"
  | 3 => .array .int
  | 4 => .int
  | 5 => .boolean
  | 6 => .array .int
  | 7 => .array .int
  | 8 => .array .int
  | 9 => .array .int
  | 10 => .array .int
  | 11 => .array .int
  | 12 => .int
  | 13 => .array .int
  | 14 => .int
  | 15 => .int
  | 16 => .int
  | 17 => .boolean
  | _ => .int
theorem nmX10 : ∀ a, a < 19 → ∀ b, b < 19 → a ≠ b → (TX10 a).2.1 ≠ (TX10 b).2.1 := by decide +kernel
theorem tyX10_ok : ∀ k, k < 19 → parseFieldDescriptor (TX10 k).2.2.1 = some (tyX10 k) := by decide +kernel
def tyX11 : Nat → FieldType := fun k => match k with
  | 0 => .object "PolicyHouse$Heap"
  | 1 => .array .int
  | 2 => .int
  | 3 => .int
  | 4 => .int
  | 5 => .int
  | 6 => .long
  | 7 => .array .int
  | 8 => .int
  | 9 => .array .int
  | 10 => .boolean
  | 11 => .array .long
  | 12 => .int
  | 13 => .int
  | _ => .boolean
theorem nmX11 : ∀ a, a < 15 → ∀ b, b < 15 → a ≠ b → (TX11 a).2.1 ≠ (TX11 b).2.1 := by decide +kernel
theorem tyX11_ok : ∀ k, k < 15 → parseFieldDescriptor (TX11 k).2.2.1 = some (tyX11 k) := by decide +kernel
def tyX13 : Nat → FieldType := fun k => match k with
  | 0 => .object "PolicyHouse$Heap"
  | 1 => .object "PolicyHouse$Texts"
  | 2 => .object "PolicyHouse$Names"
  | 3 => .object "PolicyHouse$Reader"
  | 4 => .object "PolicyHouse$Checker"
  | 5 => .object "PolicyHouse$Coder"
  | 6 => .object "PolicyHouse$Scopes"
  | 7 => .object "PolicyHouse$Machine"
  | 8 => .array .int
  | 9 => .int
  | 10 => .int
  | 11 => .array (.object "PolicyHouse$Tree")
  | 12 => .int
  | 13 => .object "PolicyHouse$Bundle"
  | 14 => .object "PolicyHouse$Bundle"
  | 15 => .array (.object "PolicyHouse$Query")
  | 16 => .array .int
  | 17 => .int
  | 18 => .int
  | 19 => .int
  | 20 => .int
  | 21 => .array .long
  | _ => .int
theorem nmX13 : ∀ a, a < 23 → ∀ b, b < 23 → a ≠ b → (TX13 a).2.1 ≠ (TX13 b).2.1 := by decide +kernel
theorem tyX13_ok : ∀ k, k < 23 → parseFieldDescriptor (TX13 k).2.2.1 = some (tyX13 k) := by decide +kernel
theorem dX0_init_0 : decode cX0_init 0 = .ok (.aload_n 0, 1) := by decide +kernel
theorem dX0_init_1 : decode cX0_init 1 = .ok (.invokespecial 1, 3) := by decide +kernel
theorem dX0_init_4 : decode cX0_init 4 = .ok (.aload_n 0, 1) := by decide +kernel
theorem dX0_init_5 : decode cX0_init 5 = .ok (.iconst 4, 1) := by decide +kernel
theorem dX0_init_6 : decode cX0_init 6 = .ok (.newarray .int, 2) := by decide +kernel
theorem dX0_init_8 : decode cX0_init 8 = .ok (.putfield 7, 3) := by decide +kernel
theorem dX0_init_11 : decode cX0_init 11 = .ok (.aload_n 0, 1) := by decide +kernel
theorem dX0_init_12 : decode cX0_init 12 = .ok (.iconst 0, 1) := by decide +kernel
theorem dX0_init_13 : decode cX0_init 13 = .ok (.putfield 13, 3) := by decide +kernel
theorem dX0_init_16 : decode cX0_init 16 = .ok (.aload_n 0, 1) := by decide +kernel
theorem dX0_init_17 : decode cX0_init 17 = .ok (.bipush 60, 2) := by decide +kernel
theorem dX0_init_19 : decode cX0_init 19 = .ok (.newarray .int, 2) := by decide +kernel
theorem dX0_init_21 : decode cX0_init 21 = .ok (.putfield 17, 3) := by decide +kernel
theorem dX0_init_24 : decode cX0_init 24 = .ok (.aload_n 0, 1) := by decide +kernel
theorem dX0_init_25 : decode cX0_init 25 = .ok (.bipush 60, 2) := by decide +kernel
theorem dX0_init_27 : decode cX0_init 27 = .ok (.newarray .int, 2) := by decide +kernel
theorem dX0_init_29 : decode cX0_init 29 = .ok (.putfield 20, 3) := by decide +kernel
theorem dX0_init_32 : decode cX0_init 32 = .ok (.aload_n 0, 1) := by decide +kernel
theorem dX0_init_33 : decode cX0_init 33 = .ok (.iconst 4, 1) := by decide +kernel
theorem dX0_init_34 : decode cX0_init 34 = .ok (.newarray .int, 2) := by decide +kernel
theorem dX0_init_36 : decode cX0_init 36 = .ok (.putfield 23, 3) := by decide +kernel
theorem dX0_init_39 : decode cX0_init 39 = .ok (.aload_n 0, 1) := by decide +kernel
theorem dX0_init_40 : decode cX0_init 40 = .ok (.iconst 0, 1) := by decide +kernel
theorem dX0_init_41 : decode cX0_init 41 = .ok (.putfield 26, 3) := by decide +kernel
theorem dX0_init_44 : decode cX0_init 44 = .ok (.aload_n 0, 1) := by decide +kernel
theorem dX0_init_45 : decode cX0_init 45 = .ok (.aload_n 1, 1) := by decide +kernel
theorem dX0_init_46 : decode cX0_init 46 = .ok (.putfield 29, 3) := by decide +kernel
theorem dX0_init_49 : decode cX0_init 49 = .ok (.aload_n 0, 1) := by decide +kernel
theorem dX0_init_50 : decode cX0_init 50 = .ok (.aload_n 2, 1) := by decide +kernel
theorem dX0_init_51 : decode cX0_init 51 = .ok (.putfield 33, 3) := by decide +kernel
theorem dX0_init_54 : decode cX0_init 54 = .ok (.aload_n 0, 1) := by decide +kernel
theorem dX0_init_55 : decode cX0_init 55 = .ok (.aload 4, 2) := by decide +kernel
theorem dX0_init_57 : decode cX0_init 57 = .ok (.putfield 37, 3) := by decide +kernel
theorem dX0_init_60 : decode cX0_init 60 = .ok (.ldc 41, 2) := by decide +kernel
theorem dX0_init_62 : decode cX0_init 62 = .ok (.astore 5, 2) := by decide +kernel
theorem dX0_init_64 : decode cX0_init 64 = .ok (.iconst 5, 1) := by decide +kernel
theorem dX0_init_65 : decode cX0_init 65 = .ok (.newarray .int, 2) := by decide +kernel
theorem dX0_init_67 : decode cX0_init 67 = .ok (.astore 6, 2) := by decide +kernel
theorem dX0_init_69 : decode cX0_init 69 = .ok (.iconst 0, 1) := by decide +kernel
theorem dX0_init_70 : decode cX0_init 70 = .ok (.istore 7, 2) := by decide +kernel
theorem dX0_init_72 : decode cX0_init 72 = .ok (.iload 7, 2) := by decide +kernel
theorem dX0_init_74 : decode cX0_init 74 = .ok (.iconst 4, 1) := by decide +kernel
theorem dX0_init_75 : decode cX0_init 75 = .ok (.if_icmp .ge 81, 3) := by decide +kernel
theorem dX0_init_78 : decode cX0_init 78 = .ok (.iconst 0, 1) := by decide +kernel
theorem dX0_init_79 : decode cX0_init 79 = .ok (.istore 8, 2) := by decide +kernel
theorem dX0_init_81 : decode cX0_init 81 = .ok (.iload 8, 2) := by decide +kernel
theorem dX0_init_83 : decode cX0_init 83 = .ok (.iconst 4, 1) := by decide +kernel
theorem dX0_init_84 : decode cX0_init 84 = .ok (.if_icmp .ge 26, 3) := by decide +kernel
theorem dX0_init_87 : decode cX0_init 87 = .ok (.aload 6, 2) := by decide +kernel
theorem dX0_init_89 : decode cX0_init 89 = .ok (.iload 8, 2) := by decide +kernel
theorem dX0_init_91 : decode cX0_init 91 = .ok (.aload 5, 2) := by decide +kernel
theorem dX0_init_93 : decode cX0_init 93 = .ok (.iconst 4, 1) := by decide +kernel
theorem dX0_init_94 : decode cX0_init 94 = .ok (.iload 7, 2) := by decide +kernel
theorem dX0_init_96 : decode cX0_init 96 = .ok (.imul, 1) := by decide +kernel
theorem dX0_init_97 : decode cX0_init 97 = .ok (.iload 8, 2) := by decide +kernel
theorem dX0_init_99 : decode cX0_init 99 = .ok (.iadd, 1) := by decide +kernel
theorem dX0_init_100 : decode cX0_init 100 = .ok (.invokevirtual 43, 3) := by decide +kernel
theorem dX0_init_103 : decode cX0_init 103 = .ok (.iastore, 1) := by decide +kernel
theorem dX0_init_104 : decode cX0_init 104 = .ok (.iinc 8 1, 3) := by decide +kernel
theorem dX0_init_107 : decode cX0_init 107 = .ok (.goto (-26), 3) := by decide +kernel
theorem dX0_init_110 : decode cX0_init 110 = .ok (.aload 6, 2) := by decide +kernel
theorem dX0_init_112 : decode cX0_init 112 = .ok (.iconst 4, 1) := by decide +kernel
theorem dX0_init_113 : decode cX0_init 113 = .ok (.bipush 101, 2) := by decide +kernel
theorem dX0_init_115 : decode cX0_init 115 = .ok (.iastore, 1) := by decide +kernel
theorem dX0_init_116 : decode cX0_init 116 = .ok (.aload_n 0, 1) := by decide +kernel
theorem dX0_init_117 : decode cX0_init 117 = .ok (.getfield 23, 3) := by decide +kernel
theorem dX0_init_120 : decode cX0_init 120 = .ok (.iload 7, 2) := by decide +kernel
theorem dX0_init_122 : decode cX0_init 122 = .ok (.aload_n 3, 1) := by decide +kernel
theorem dX0_init_123 : decode cX0_init 123 = .ok (.aload 6, 2) := by decide +kernel
theorem dX0_init_125 : decode cX0_init 125 = .ok (.iconst 0, 1) := by decide +kernel
theorem dX0_init_126 : decode cX0_init 126 = .ok (.iload 7, 2) := by decide +kernel
theorem dX0_init_128 : decode cX0_init 128 = .ok (.ifCond .ne 7, 3) := by decide +kernel
theorem dX0_init_131 : decode cX0_init 131 = .ok (.iconst 2, 1) := by decide +kernel
theorem dX0_init_132 : decode cX0_init 132 = .ok (.goto 14, 3) := by decide +kernel
theorem dX0_init_135 : decode cX0_init 135 = .ok (.iload 7, 2) := by decide +kernel
theorem dX0_init_137 : decode cX0_init 137 = .ok (.iconst 3, 1) := by decide +kernel
theorem dX0_init_138 : decode cX0_init 138 = .ok (.if_icmp .ne 7, 3) := by decide +kernel
theorem dX0_init_141 : decode cX0_init 141 = .ok (.iconst 5, 1) := by decide +kernel
theorem dX0_init_142 : decode cX0_init 142 = .ok (.goto 4, 3) := by decide +kernel
theorem dX0_init_145 : decode cX0_init 145 = .ok (.iconst 4, 1) := by decide +kernel
theorem dX0_init_146 : decode cX0_init 146 = .ok (.invokevirtual 49, 3) := by decide +kernel
theorem dX0_init_149 : decode cX0_init 149 = .ok (.iastore, 1) := by decide +kernel
theorem dX0_init_150 : decode cX0_init 150 = .ok (.iinc 7 1, 3) := by decide +kernel
theorem dX0_init_153 : decode cX0_init 153 = .ok (.goto (-81), 3) := by decide +kernel
theorem dX0_init_156 : decode cX0_init 156 = .ok (.return_, 1) := by decide +kernel
theorem dX1_init_0 : decode cX1_init 0 = .ok (.aload_n 0, 1) := by decide +kernel
theorem dX1_init_1 : decode cX1_init 1 = .ok (.invokespecial 3, 3) := by decide +kernel
theorem dX1_init_4 : decode cX1_init 4 = .ok (.aload_n 0, 1) := by decide +kernel
theorem dX1_init_5 : decode cX1_init 5 = .ok (.iconst 0, 1) := by decide +kernel
theorem dX1_init_6 : decode cX1_init 6 = .ok (.putfield 9, 3) := by decide +kernel
theorem dX1_init_9 : decode cX1_init 9 = .ok (.aload_n 0, 1) := by decide +kernel
theorem dX1_init_10 : decode cX1_init 10 = .ok (.iconst 0, 1) := by decide +kernel
theorem dX1_init_11 : decode cX1_init 11 = .ok (.putfield 15, 3) := by decide +kernel
theorem dX1_init_14 : decode cX1_init 14 = .ok (.aload_n 0, 1) := by decide +kernel
theorem dX1_init_15 : decode cX1_init 15 = .ok (.iconst 1, 1) := by decide +kernel
theorem dX1_init_16 : decode cX1_init 16 = .ok (.putfield 18, 3) := by decide +kernel
theorem dX1_init_19 : decode cX1_init 19 = .ok (.aload_n 0, 1) := by decide +kernel
theorem dX1_init_20 : decode cX1_init 20 = .ok (.aconst_null, 1) := by decide +kernel
theorem dX1_init_21 : decode cX1_init 21 = .ok (.putfield 21, 3) := by decide +kernel
theorem dX1_init_24 : decode cX1_init 24 = .ok (.aload_n 0, 1) := by decide +kernel
theorem dX1_init_25 : decode cX1_init 25 = .ok (.aconst_null, 1) := by decide +kernel
theorem dX1_init_26 : decode cX1_init 26 = .ok (.putfield 25, 3) := by decide +kernel
theorem dX1_init_29 : decode cX1_init 29 = .ok (.aload_n 0, 1) := by decide +kernel
theorem dX1_init_30 : decode cX1_init 30 = .ok (.aconst_null, 1) := by decide +kernel
theorem dX1_init_31 : decode cX1_init 31 = .ok (.putfield 28, 3) := by decide +kernel
theorem dX1_init_34 : decode cX1_init 34 = .ok (.aload_n 0, 1) := by decide +kernel
theorem dX1_init_35 : decode cX1_init 35 = .ok (.aconst_null, 1) := by decide +kernel
theorem dX1_init_36 : decode cX1_init 36 = .ok (.putfield 31, 3) := by decide +kernel
theorem dX1_init_39 : decode cX1_init 39 = .ok (.aload_n 0, 1) := by decide +kernel
theorem dX1_init_40 : decode cX1_init 40 = .ok (.iconst 0, 1) := by decide +kernel
theorem dX1_init_41 : decode cX1_init 41 = .ok (.putfield 34, 3) := by decide +kernel
theorem dX1_init_44 : decode cX1_init 44 = .ok (.aload_n 0, 1) := by decide +kernel
theorem dX1_init_45 : decode cX1_init 45 = .ok (.iconst (-1), 1) := by decide +kernel
theorem dX1_init_46 : decode cX1_init 46 = .ok (.putfield 37, 3) := by decide +kernel
theorem dX1_init_49 : decode cX1_init 49 = .ok (.aload_n 0, 1) := by decide +kernel
theorem dX1_init_50 : decode cX1_init 50 = .ok (.iconst (-1), 1) := by decide +kernel
theorem dX1_init_51 : decode cX1_init 51 = .ok (.putfield 40, 3) := by decide +kernel
theorem dX1_init_54 : decode cX1_init 54 = .ok (.aload_n 0, 1) := by decide +kernel
theorem dX1_init_55 : decode cX1_init 55 = .ok (.iload_n 2, 1) := by decide +kernel
theorem dX1_init_56 : decode cX1_init 56 = .ok (.anewarray 43, 3) := by decide +kernel
theorem dX1_init_59 : decode cX1_init 59 = .ok (.putfield 45, 3) := by decide +kernel
theorem dX1_init_62 : decode cX1_init 62 = .ok (.iconst 0, 1) := by decide +kernel
theorem dX1_init_63 : decode cX1_init 63 = .ok (.istore 4, 2) := by decide +kernel
theorem dX1_init_65 : decode cX1_init 65 = .ok (.iconst 0, 1) := by decide +kernel
theorem dX1_init_66 : decode cX1_init 66 = .ok (.istore 5, 2) := by decide +kernel
theorem dX1_init_68 : decode cX1_init 68 = .ok (.iload 5, 2) := by decide +kernel
theorem dX1_init_70 : decode cX1_init 70 = .ok (.iload_n 2, 1) := by decide +kernel
theorem dX1_init_71 : decode cX1_init 71 = .ok (.if_icmp .ge 32, 3) := by decide +kernel
theorem dX1_init_103 : decode cX1_init 103 = .ok (.aload_n 0, 1) := by decide +kernel
theorem dX1_init_104 : decode cX1_init 104 = .ok (.iload_n 2, 1) := by decide +kernel
theorem dX1_init_105 : decode cX1_init 105 = .ok (.putfield 50, 3) := by decide +kernel
theorem dX1_init_108 : decode cX1_init 108 = .ok (.aload_n 0, 1) := by decide +kernel
theorem dX1_init_109 : decode cX1_init 109 = .ok (.iload 4, 2) := by decide +kernel
theorem dX1_init_111 : decode cX1_init 111 = .ok (.bipush 10, 2) := by decide +kernel
theorem dX1_init_113 : decode cX1_init 113 = .ok (.imul, 1) := by decide +kernel
theorem dX1_init_114 : decode cX1_init 114 = .ok (.newarray .int, 2) := by decide +kernel
theorem dX1_init_116 : decode cX1_init 116 = .ok (.putfield 53, 3) := by decide +kernel
theorem dX1_init_119 : decode cX1_init 119 = .ok (.aload_n 0, 1) := by decide +kernel
theorem dX1_init_120 : decode cX1_init 120 = .ok (.iload 4, 2) := by decide +kernel
theorem dX1_init_122 : decode cX1_init 122 = .ok (.bipush 6, 2) := by decide +kernel
theorem dX1_init_124 : decode cX1_init 124 = .ok (.imul, 1) := by decide +kernel
theorem dX1_init_125 : decode cX1_init 125 = .ok (.newarray .int, 2) := by decide +kernel
theorem dX1_init_127 : decode cX1_init 127 = .ok (.putfield 56, 3) := by decide +kernel
theorem dX1_init_130 : decode cX1_init 130 = .ok (.aload_n 0, 1) := by decide +kernel
theorem dX1_init_131 : decode cX1_init 131 = .ok (.iload_n 3, 1) := by decide +kernel
theorem dX1_init_132 : decode cX1_init 132 = .ok (.newarray .int, 2) := by decide +kernel
theorem dX1_init_134 : decode cX1_init 134 = .ok (.putfield 59, 3) := by decide +kernel
theorem dX1_init_137 : decode cX1_init 137 = .ok (.aload_n 0, 1) := by decide +kernel
theorem dX1_init_138 : decode cX1_init 138 = .ok (.iload_n 3, 1) := by decide +kernel
theorem dX1_init_139 : decode cX1_init 139 = .ok (.newarray .int, 2) := by decide +kernel
theorem dX1_init_141 : decode cX1_init 141 = .ok (.putfield 62, 3) := by decide +kernel
theorem dX1_init_144 : decode cX1_init 144 = .ok (.return_, 1) := by decide +kernel
theorem dX2_init_0 : decode cX2_init 0 = .ok (.aload_n 0, 1) := by decide +kernel
theorem dX2_init_1 : decode cX2_init 1 = .ok (.invokespecial 1, 3) := by decide +kernel
theorem dX2_init_4 : decode cX2_init 4 = .ok (.aload_n 0, 1) := by decide +kernel
theorem dX2_init_5 : decode cX2_init 5 = .ok (.aconst_null, 1) := by decide +kernel
theorem dX2_init_6 : decode cX2_init 6 = .ok (.putfield 7, 3) := by decide +kernel
theorem dX2_init_9 : decode cX2_init 9 = .ok (.aload_n 0, 1) := by decide +kernel
theorem dX2_init_10 : decode cX2_init 10 = .ok (.aconst_null, 1) := by decide +kernel
theorem dX2_init_11 : decode cX2_init 11 = .ok (.putfield 13, 3) := by decide +kernel
theorem dX2_init_14 : decode cX2_init 14 = .ok (.aload_n 0, 1) := by decide +kernel
theorem dX2_init_15 : decode cX2_init 15 = .ok (.iconst 0, 1) := by decide +kernel
theorem dX2_init_16 : decode cX2_init 16 = .ok (.putfield 17, 3) := by decide +kernel
theorem dX2_init_19 : decode cX2_init 19 = .ok (.aload_n 0, 1) := by decide +kernel
theorem dX2_init_20 : decode cX2_init 20 = .ok (.sipush 6100, 3) := by decide +kernel
theorem dX2_init_23 : decode cX2_init 23 = .ok (.newarray .int, 2) := by decide +kernel
theorem dX2_init_25 : decode cX2_init 25 = .ok (.putfield 21, 3) := by decide +kernel
theorem dX2_init_28 : decode cX2_init 28 = .ok (.aload_n 0, 1) := by decide +kernel
theorem dX2_init_29 : decode cX2_init 29 = .ok (.sipush 6100, 3) := by decide +kernel
theorem dX2_init_32 : decode cX2_init 32 = .ok (.newarray .int, 2) := by decide +kernel
theorem dX2_init_34 : decode cX2_init 34 = .ok (.putfield 25, 3) := by decide +kernel
theorem dX2_init_37 : decode cX2_init 37 = .ok (.aload_n 0, 1) := by decide +kernel
theorem dX2_init_38 : decode cX2_init 38 = .ok (.sipush 6100, 3) := by decide +kernel
theorem dX2_init_41 : decode cX2_init 41 = .ok (.newarray .int, 2) := by decide +kernel
theorem dX2_init_43 : decode cX2_init 43 = .ok (.putfield 28, 3) := by decide +kernel
theorem dX2_init_46 : decode cX2_init 46 = .ok (.aload_n 0, 1) := by decide +kernel
theorem dX2_init_47 : decode cX2_init 47 = .ok (.iconst 0, 1) := by decide +kernel
theorem dX2_init_48 : decode cX2_init 48 = .ok (.putfield 31, 3) := by decide +kernel
theorem dX2_init_51 : decode cX2_init 51 = .ok (.aload_n 0, 1) := by decide +kernel
theorem dX2_init_52 : decode cX2_init 52 = .ok (.sipush 6100, 3) := by decide +kernel
theorem dX2_init_55 : decode cX2_init 55 = .ok (.newarray .int, 2) := by decide +kernel
theorem dX2_init_57 : decode cX2_init 57 = .ok (.putfield 34, 3) := by decide +kernel
theorem dX2_init_60 : decode cX2_init 60 = .ok (.aload_n 0, 1) := by decide +kernel
theorem dX2_init_61 : decode cX2_init 61 = .ok (.iconst 0, 1) := by decide +kernel
theorem dX2_init_62 : decode cX2_init 62 = .ok (.putfield 37, 3) := by decide +kernel
theorem dX2_init_65 : decode cX2_init 65 = .ok (.aload_n 0, 1) := by decide +kernel
theorem dX2_init_66 : decode cX2_init 66 = .ok (.iconst 0, 1) := by decide +kernel
theorem dX2_init_67 : decode cX2_init 67 = .ok (.putfield 40, 3) := by decide +kernel
theorem dX2_init_70 : decode cX2_init 70 = .ok (.aload_n 0, 1) := by decide +kernel
theorem dX2_init_71 : decode cX2_init 71 = .ok (.iconst 0, 1) := by decide +kernel
theorem dX2_init_72 : decode cX2_init 72 = .ok (.putfield 43, 3) := by decide +kernel
theorem dX2_init_75 : decode cX2_init 75 = .ok (.aload_n 0, 1) := by decide +kernel
theorem dX2_init_76 : decode cX2_init 76 = .ok (.bipush 16, 2) := by decide +kernel
theorem dX2_init_78 : decode cX2_init 78 = .ok (.newarray .int, 2) := by decide +kernel
theorem dX2_init_80 : decode cX2_init 80 = .ok (.putfield 46, 3) := by decide +kernel
theorem dX2_init_83 : decode cX2_init 83 = .ok (.aload_n 0, 1) := by decide +kernel
theorem dX2_init_84 : decode cX2_init 84 = .ok (.sipush 6400, 3) := by decide +kernel
theorem dX2_init_87 : decode cX2_init 87 = .ok (.newarray .int, 2) := by decide +kernel
theorem dX2_init_89 : decode cX2_init 89 = .ok (.putfield 49, 3) := by decide +kernel
theorem dX2_init_92 : decode cX2_init 92 = .ok (.aload_n 0, 1) := by decide +kernel
theorem dX2_init_93 : decode cX2_init 93 = .ok (.sipush 6400, 3) := by decide +kernel
theorem dX2_init_96 : decode cX2_init 96 = .ok (.newarray .int, 2) := by decide +kernel
theorem dX2_init_98 : decode cX2_init 98 = .ok (.putfield 52, 3) := by decide +kernel
theorem dX2_init_101 : decode cX2_init 101 = .ok (.aload_n 0, 1) := by decide +kernel
theorem dX2_init_102 : decode cX2_init 102 = .ok (.aload_n 1, 1) := by decide +kernel
theorem dX2_init_103 : decode cX2_init 103 = .ok (.putfield 55, 3) := by decide +kernel
theorem dX2_init_106 : decode cX2_init 106 = .ok (.aload_n 0, 1) := by decide +kernel
theorem dX2_init_107 : decode cX2_init 107 = .ok (.aload_n 2, 1) := by decide +kernel
theorem dX2_init_108 : decode cX2_init 108 = .ok (.putfield 59, 3) := by decide +kernel
theorem dX2_init_111 : decode cX2_init 111 = .ok (.return_, 1) := by decide +kernel
theorem dX2_bundle_0 : decode cX2_bundle 0 = .ok (.aload_n 0, 1) := by decide +kernel
theorem dX2_bundle_1 : decode cX2_bundle 1 = .ok (.new 63, 3) := by decide +kernel
theorem dX2_bundle_4 : decode cX2_bundle 4 = .ok (.dup, 1) := by decide +kernel
theorem dX2_bundle_5 : decode cX2_bundle 5 = .ok (.aload_n 1, 1) := by decide +kernel
theorem dX2_bundle_6 : decode cX2_bundle 6 = .ok (.iload_n 2, 1) := by decide +kernel
theorem dX2_bundle_7 : decode cX2_bundle 7 = .ok (.aload_n 0, 1) := by decide +kernel
theorem dX2_bundle_8 : decode cX2_bundle 8 = .ok (.getfield 59, 3) := by decide +kernel
theorem dX2_bundle_11 : decode cX2_bundle 11 = .ok (.getfield 65, 3) := by decide +kernel
theorem dX2_bundle_14 : decode cX2_bundle 14 = .ok (.invokespecial 70, 3) := by decide +kernel
theorem dX2_bundle_17 : decode cX2_bundle 17 = .ok (.putfield 7, 3) := by decide +kernel
theorem dX2_bundle_20 : decode cX2_bundle 20 = .ok (.aload_n 0, 1) := by decide +kernel
theorem dX2_bundle_21 : decode cX2_bundle 21 = .ok (.invokevirtual 73, 3) := by decide +kernel
theorem dX2_bundle_24 : decode cX2_bundle 24 = .ok (.aload_n 0, 1) := by decide +kernel
theorem dX2_bundle_25 : decode cX2_bundle 25 = .ok (.invokevirtual 76, 3) := by decide +kernel
theorem dX2_bundle_28 : decode cX2_bundle 28 = .ok (.iconst 0, 1) := by decide +kernel
theorem dX2_bundle_29 : decode cX2_bundle 29 = .ok (.istore_n 3, 1) := by decide +kernel
theorem dX2_bundle_30 : decode cX2_bundle 30 = .ok (.iload_n 3, 1) := by decide +kernel
theorem dX2_bundle_31 : decode cX2_bundle 31 = .ok (.aload_n 0, 1) := by decide +kernel
theorem dX2_bundle_32 : decode cX2_bundle 32 = .ok (.getfield 7, 3) := by decide +kernel
theorem dX2_bundle_35 : decode cX2_bundle 35 = .ok (.getfield 79, 3) := by decide +kernel
theorem dX2_bundle_38 : decode cX2_bundle 38 = .ok (.if_icmp .ge 50, 3) := by decide +kernel
theorem dX2_bundle_88 : decode cX2_bundle 88 = .ok (.aload_n 0, 1) := by decide +kernel
theorem dX2_bundle_89 : decode cX2_bundle 89 = .ok (.getfield 7, 3) := by decide +kernel
theorem dX2_bundle_92 : decode cX2_bundle 92 = .ok (.getfield 82, 3) := by decide +kernel
theorem dX2_bundle_95 : decode cX2_bundle 95 = .ok (.ifCond .ne 11, 3) := by decide +kernel
theorem dX2_bundle_98 : decode cX2_bundle 98 = .ok (.aload_n 0, 1) := by decide +kernel
theorem dX2_bundle_99 : decode cX2_bundle 99 = .ok (.invokevirtual 93, 3) := by decide +kernel
theorem dX2_bundle_102 : decode cX2_bundle 102 = .ok (.aload_n 0, 1) := by decide +kernel
theorem dX2_bundle_103 : decode cX2_bundle 103 = .ok (.invokevirtual 96, 3) := by decide +kernel
theorem dX2_bundle_106 : decode cX2_bundle 106 = .ok (.aload_n 0, 1) := by decide +kernel
theorem dX2_bundle_107 : decode cX2_bundle 107 = .ok (.getfield 7, 3) := by decide +kernel
theorem dX2_bundle_110 : decode cX2_bundle 110 = .ok (.areturn, 1) := by decide +kernel
theorem dX2_gather_0 : decode cX2_gather 0 = .ok (.iconst 0, 1) := by decide +kernel
theorem dX2_gather_1 : decode cX2_gather 1 = .ok (.istore_n 1, 1) := by decide +kernel
theorem dX2_gather_2 : decode cX2_gather 2 = .ok (.iload_n 1, 1) := by decide +kernel
theorem dX2_gather_3 : decode cX2_gather 3 = .ok (.aload_n 0, 1) := by decide +kernel
theorem dX2_gather_4 : decode cX2_gather 4 = .ok (.getfield 7, 3) := by decide +kernel
theorem dX2_gather_7 : decode cX2_gather 7 = .ok (.getfield 99, 3) := by decide +kernel
theorem dX2_gather_10 : decode cX2_gather 10 = .ok (.if_icmp .ge 56, 3) := by decide +kernel
theorem dX2_gather_66 : decode cX2_gather 66 = .ok (.iconst 0, 1) := by decide +kernel
theorem dX2_gather_67 : decode cX2_gather 67 = .ok (.istore_n 1, 1) := by decide +kernel
theorem dX2_gather_68 : decode cX2_gather 68 = .ok (.iload_n 1, 1) := by decide +kernel
theorem dX2_gather_69 : decode cX2_gather 69 = .ok (.aload_n 0, 1) := by decide +kernel
theorem dX2_gather_70 : decode cX2_gather 70 = .ok (.getfield 7, 3) := by decide +kernel
theorem dX2_gather_73 : decode cX2_gather 73 = .ok (.getfield 99, 3) := by decide +kernel
theorem dX2_gather_76 : decode cX2_gather 76 = .ok (.if_icmp .ge 49, 3) := by decide +kernel
theorem dX2_gather_125 : decode cX2_gather 125 = .ok (.aload_n 0, 1) := by decide +kernel
theorem dX2_gather_126 : decode cX2_gather 126 = .ok (.getfield 7, 3) := by decide +kernel
theorem dX2_gather_129 : decode cX2_gather 129 = .ok (.aload_n 0, 1) := by decide +kernel
theorem dX2_gather_130 : decode cX2_gather 130 = .ok (.getfield 7, 3) := by decide +kernel
theorem dX2_gather_133 : decode cX2_gather 133 = .ok (.getfield 128, 3) := by decide +kernel
theorem dX2_gather_136 : decode cX2_gather 136 = .ok (.bipush 31, 2) := by decide +kernel
theorem dX2_gather_138 : decode cX2_gather 138 = .ok (.iadd, 1) := by decide +kernel
theorem dX2_gather_139 : decode cX2_gather 139 = .ok (.bipush 32, 2) := by decide +kernel
theorem dX2_gather_141 : decode cX2_gather 141 = .ok (.idiv, 1) := by decide +kernel
theorem dX2_gather_142 : decode cX2_gather 142 = .ok (.putfield 131, 3) := by decide +kernel
theorem dX2_gather_145 : decode cX2_gather 145 = .ok (.return_, 1) := by decide +kernel
theorem dX2_findClash_0 : decode cX2_findClash 0 = .ok (.iconst 0, 1) := by decide +kernel
theorem dX2_findClash_1 : decode cX2_findClash 1 = .ok (.istore_n 1, 1) := by decide +kernel
theorem dX2_findClash_2 : decode cX2_findClash 2 = .ok (.iload_n 1, 1) := by decide +kernel
theorem dX2_findClash_3 : decode cX2_findClash 3 = .ok (.aload_n 0, 1) := by decide +kernel
theorem dX2_findClash_4 : decode cX2_findClash 4 = .ok (.getfield 7, 3) := by decide +kernel
theorem dX2_findClash_7 : decode cX2_findClash 7 = .ok (.getfield 128, 3) := by decide +kernel
theorem dX2_findClash_10 : decode cX2_findClash 10 = .ok (.if_icmp .ge 36, 3) := by decide +kernel
theorem dX2_findClash_46 : decode cX2_findClash 46 = .ok (.iconst 0, 1) := by decide +kernel
theorem dX2_findClash_47 : decode cX2_findClash 47 = .ok (.istore_n 1, 1) := by decide +kernel
theorem dX2_findClash_48 : decode cX2_findClash 48 = .ok (.iconst 0, 1) := by decide +kernel
theorem dX2_findClash_49 : decode cX2_findClash 49 = .ok (.istore_n 2, 1) := by decide +kernel
theorem dX2_findClash_50 : decode cX2_findClash 50 = .ok (.iload_n 2, 1) := by decide +kernel
theorem dX2_findClash_51 : decode cX2_findClash 51 = .ok (.aload_n 0, 1) := by decide +kernel
theorem dX2_findClash_52 : decode cX2_findClash 52 = .ok (.getfield 7, 3) := by decide +kernel
theorem dX2_findClash_55 : decode cX2_findClash 55 = .ok (.getfield 99, 3) := by decide +kernel
theorem dX2_findClash_58 : decode cX2_findClash 58 = .ok (.if_icmp .ge 166, 3) := by decide +kernel
theorem dX2_findClash_224 : decode cX2_findClash 224 = .ok (.return_, 1) := by decide +kernel
theorem dX2_findReads_0 : decode cX2_findReads 0 = .ok (.aload_n 0, 1) := by decide +kernel
theorem dX2_findReads_1 : decode cX2_findReads 1 = .ok (.getfield 7, 3) := by decide +kernel
theorem dX2_findReads_4 : decode cX2_findReads 4 = .ok (.aload_n 0, 1) := by decide +kernel
theorem dX2_findReads_5 : decode cX2_findReads 5 = .ok (.getfield 7, 3) := by decide +kernel
theorem dX2_findReads_8 : decode cX2_findReads 8 = .ok (.getfield 128, 3) := by decide +kernel
theorem dX2_findReads_11 : decode cX2_findReads 11 = .ok (.aload_n 0, 1) := by decide +kernel
theorem dX2_findReads_12 : decode cX2_findReads 12 = .ok (.getfield 7, 3) := by decide +kernel
theorem dX2_findReads_15 : decode cX2_findReads 15 = .ok (.getfield 131, 3) := by decide +kernel
theorem dX2_findReads_18 : decode cX2_findReads 18 = .ok (.imul, 1) := by decide +kernel
theorem dX2_findReads_19 : decode cX2_findReads 19 = .ok (.newarray .int, 2) := by decide +kernel
theorem dX2_findReads_21 : decode cX2_findReads 21 = .ok (.putfield 306, 3) := by decide +kernel
theorem dX2_findReads_24 : decode cX2_findReads 24 = .ok (.iconst 0, 1) := by decide +kernel
theorem dX2_findReads_25 : decode cX2_findReads 25 = .ok (.istore_n 1, 1) := by decide +kernel
theorem dX2_findReads_26 : decode cX2_findReads 26 = .ok (.iload_n 1, 1) := by decide +kernel
theorem dX2_findReads_27 : decode cX2_findReads 27 = .ok (.aload_n 0, 1) := by decide +kernel
theorem dX2_findReads_28 : decode cX2_findReads 28 = .ok (.getfield 7, 3) := by decide +kernel
theorem dX2_findReads_31 : decode cX2_findReads 31 = .ok (.getfield 128, 3) := by decide +kernel
theorem dX2_findReads_34 : decode cX2_findReads 34 = .ok (.if_icmp .ge 118, 3) := by decide +kernel
theorem dX2_findReads_152 : decode cX2_findReads 152 = .ok (.iconst 0, 1) := by decide +kernel
theorem dX2_findReads_153 : decode cX2_findReads 153 = .ok (.istore_n 1, 1) := by decide +kernel
theorem dX2_findReads_154 : decode cX2_findReads 154 = .ok (.iload_n 1, 1) := by decide +kernel
theorem dX2_findReads_155 : decode cX2_findReads 155 = .ok (.aload_n 0, 1) := by decide +kernel
theorem dX2_findReads_156 : decode cX2_findReads 156 = .ok (.getfield 7, 3) := by decide +kernel
theorem dX2_findReads_159 : decode cX2_findReads 159 = .ok (.getfield 128, 3) := by decide +kernel
theorem dX2_findReads_162 : decode cX2_findReads 162 = .ok (.if_icmp .ge 87, 3) := by decide +kernel
theorem dX2_findReads_249 : decode cX2_findReads 249 = .ok (.aload_n 0, 1) := by decide +kernel
theorem dX2_findReads_250 : decode cX2_findReads 250 = .ok (.getfield 7, 3) := by decide +kernel
theorem dX2_findReads_253 : decode cX2_findReads 253 = .ok (.getfield 128, 3) := by decide +kernel
theorem dX2_findReads_256 : decode cX2_findReads 256 = .ok (.iconst 1, 1) := by decide +kernel
theorem dX2_findReads_257 : decode cX2_findReads 257 = .ok (.isub, 1) := by decide +kernel
theorem dX2_findReads_258 : decode cX2_findReads 258 = .ok (.istore_n 1, 1) := by decide +kernel
theorem dX2_findReads_259 : decode cX2_findReads 259 = .ok (.iload_n 1, 1) := by decide +kernel
theorem dX2_findReads_260 : decode cX2_findReads 260 = .ok (.ifCond .lt 85, 3) := by decide +kernel
theorem dX2_findReads_345 : decode cX2_findReads 345 = .ok (.return_, 1) := by decide +kernel
theorem dX2_findDepth_0 : decode cX2_findDepth 0 = .ok (.aload_n 0, 1) := by decide +kernel
theorem dX2_findDepth_1 : decode cX2_findDepth 1 = .ok (.getfield 7, 3) := by decide +kernel
theorem dX2_findDepth_4 : decode cX2_findDepth 4 = .ok (.getfield 82, 3) := by decide +kernel
theorem dX2_findDepth_7 : decode cX2_findDepth 7 = .ok (.ifCond .eq 4, 3) := by decide +kernel
theorem dX2_findDepth_11 : decode cX2_findDepth 11 = .ok (.aload_n 0, 1) := by decide +kernel
theorem dX2_findDepth_12 : decode cX2_findDepth 12 = .ok (.getfield 7, 3) := by decide +kernel
theorem dX2_findDepth_15 : decode cX2_findDepth 15 = .ok (.aload_n 0, 1) := by decide +kernel
theorem dX2_findDepth_16 : decode cX2_findDepth 16 = .ok (.getfield 7, 3) := by decide +kernel
theorem dX2_findDepth_19 : decode cX2_findDepth 19 = .ok (.getfield 128, 3) := by decide +kernel
theorem dX2_findDepth_22 : decode cX2_findDepth 22 = .ok (.newarray .int, 2) := by decide +kernel
theorem dX2_findDepth_24 : decode cX2_findDepth 24 = .ok (.putfield 327, 3) := by decide +kernel
theorem dX2_findDepth_27 : decode cX2_findDepth 27 = .ok (.aload_n 0, 1) := by decide +kernel
theorem dX2_findDepth_28 : decode cX2_findDepth 28 = .ok (.getfield 7, 3) := by decide +kernel
theorem dX2_findDepth_31 : decode cX2_findDepth 31 = .ok (.getfield 128, 3) := by decide +kernel
theorem dX2_findDepth_34 : decode cX2_findDepth 34 = .ok (.newarray .int, 2) := by decide +kernel
theorem dX2_findDepth_36 : decode cX2_findDepth 36 = .ok (.astore_n 1, 1) := by decide +kernel
theorem dX2_findDepth_37 : decode cX2_findDepth 37 = .ok (.iconst 0, 1) := by decide +kernel
theorem dX2_findDepth_38 : decode cX2_findDepth 38 = .ok (.istore_n 2, 1) := by decide +kernel
theorem dX2_findDepth_39 : decode cX2_findDepth 39 = .ok (.iload_n 2, 1) := by decide +kernel
theorem dX2_findDepth_40 : decode cX2_findDepth 40 = .ok (.aload_n 0, 1) := by decide +kernel
theorem dX2_findDepth_41 : decode cX2_findDepth 41 = .ok (.getfield 7, 3) := by decide +kernel
theorem dX2_findDepth_44 : decode cX2_findDepth 44 = .ok (.getfield 128, 3) := by decide +kernel
theorem dX2_findDepth_47 : decode cX2_findDepth 47 = .ok (.if_icmp .ge 85, 3) := by decide +kernel
theorem dX2_findDepth_132 : decode cX2_findDepth 132 = .ok (.aload_n 0, 1) := by decide +kernel
theorem dX2_findDepth_133 : decode cX2_findDepth 133 = .ok (.getfield 7, 3) := by decide +kernel
theorem dX2_findDepth_136 : decode cX2_findDepth 136 = .ok (.getfield 128, 3) := by decide +kernel
theorem dX2_findDepth_139 : decode cX2_findDepth 139 = .ok (.iconst 1, 1) := by decide +kernel
theorem dX2_findDepth_140 : decode cX2_findDepth 140 = .ok (.isub, 1) := by decide +kernel
theorem dX2_findDepth_141 : decode cX2_findDepth 141 = .ok (.istore_n 2, 1) := by decide +kernel
theorem dX2_findDepth_142 : decode cX2_findDepth 142 = .ok (.iload_n 2, 1) := by decide +kernel
theorem dX2_findDepth_143 : decode cX2_findDepth 143 = .ok (.ifCond .lt 27, 3) := by decide +kernel
theorem dX2_findDepth_170 : decode cX2_findDepth 170 = .ok (.return_, 1) := by decide +kernel
theorem dX3_init_0 : decode cX3_init 0 = .ok (.aload_n 0, 1) := by decide +kernel
theorem dX3_init_1 : decode cX3_init 1 = .ok (.invokespecial 1, 3) := by decide +kernel
theorem dX3_init_4 : decode cX3_init 4 = .ok (.aload_n 0, 1) := by decide +kernel
theorem dX3_init_5 : decode cX3_init 5 = .ok (.aconst_null, 1) := by decide +kernel
theorem dX3_init_6 : decode cX3_init 6 = .ok (.putfield 7, 3) := by decide +kernel
theorem dX3_init_9 : decode cX3_init 9 = .ok (.aload_n 0, 1) := by decide +kernel
theorem dX3_init_10 : decode cX3_init 10 = .ok (.aconst_null, 1) := by decide +kernel
theorem dX3_init_11 : decode cX3_init 11 = .ok (.putfield 13, 3) := by decide +kernel
theorem dX3_init_14 : decode cX3_init 14 = .ok (.aload_n 0, 1) := by decide +kernel
theorem dX3_init_15 : decode cX3_init 15 = .ok (.ldc 17, 2) := by decide +kernel
theorem dX3_init_17 : decode cX3_init 17 = .ok (.newarray .int, 2) := by decide +kernel
theorem dX3_init_19 : decode cX3_init 19 = .ok (.putfield 18, 3) := by decide +kernel
theorem dX3_init_22 : decode cX3_init 22 = .ok (.aload_n 0, 1) := by decide +kernel
theorem dX3_init_23 : decode cX3_init 23 = .ok (.iconst 0, 1) := by decide +kernel
theorem dX3_init_24 : decode cX3_init 24 = .ok (.putfield 22, 3) := by decide +kernel
theorem dX3_init_27 : decode cX3_init 27 = .ok (.aload_n 0, 1) := by decide +kernel
theorem dX3_init_28 : decode cX3_init 28 = .ok (.iconst 0, 1) := by decide +kernel
theorem dX3_init_29 : decode cX3_init 29 = .ok (.putfield 26, 3) := by decide +kernel
theorem dX3_init_32 : decode cX3_init 32 = .ok (.aload_n 0, 1) := by decide +kernel
theorem dX3_init_33 : decode cX3_init 33 = .ok (.iconst 0, 1) := by decide +kernel
theorem dX3_init_34 : decode cX3_init 34 = .ok (.putfield 29, 3) := by decide +kernel
theorem dX3_init_37 : decode cX3_init 37 = .ok (.aload_n 0, 1) := by decide +kernel
theorem dX3_init_38 : decode cX3_init 38 = .ok (.iconst 0, 1) := by decide +kernel
theorem dX3_init_39 : decode cX3_init 39 = .ok (.putfield 32, 3) := by decide +kernel
theorem dX3_init_42 : decode cX3_init 42 = .ok (.aload_n 0, 1) := by decide +kernel
theorem dX3_init_43 : decode cX3_init 43 = .ok (.iconst 0, 1) := by decide +kernel
theorem dX3_init_44 : decode cX3_init 44 = .ok (.putfield 35, 3) := by decide +kernel
theorem dX3_init_47 : decode cX3_init 47 = .ok (.aload_n 0, 1) := by decide +kernel
theorem dX3_init_48 : decode cX3_init 48 = .ok (.iconst 0, 1) := by decide +kernel
theorem dX3_init_49 : decode cX3_init 49 = .ok (.putfield 38, 3) := by decide +kernel
theorem dX3_init_52 : decode cX3_init 52 = .ok (.aload_n 0, 1) := by decide +kernel
theorem dX3_init_53 : decode cX3_init 53 = .ok (.iconst 0, 1) := by decide +kernel
theorem dX3_init_54 : decode cX3_init 54 = .ok (.putfield 41, 3) := by decide +kernel
theorem dX3_init_57 : decode cX3_init 57 = .ok (.aload_n 0, 1) := by decide +kernel
theorem dX3_init_58 : decode cX3_init 58 = .ok (.sipush 6100, 3) := by decide +kernel
theorem dX3_init_61 : decode cX3_init 61 = .ok (.newarray .int, 2) := by decide +kernel
theorem dX3_init_63 : decode cX3_init 63 = .ok (.putfield 44, 3) := by decide +kernel
theorem dX3_init_66 : decode cX3_init 66 = .ok (.aload_n 0, 1) := by decide +kernel
theorem dX3_init_67 : decode cX3_init 67 = .ok (.iconst 0, 1) := by decide +kernel
theorem dX3_init_68 : decode cX3_init 68 = .ok (.putfield 47, 3) := by decide +kernel
theorem dX3_init_71 : decode cX3_init 71 = .ok (.aload_n 0, 1) := by decide +kernel
theorem dX3_init_72 : decode cX3_init 72 = .ok (.aload_n 1, 1) := by decide +kernel
theorem dX3_init_73 : decode cX3_init 73 = .ok (.putfield 50, 3) := by decide +kernel
theorem dX3_init_76 : decode cX3_init 76 = .ok (.aload_n 0, 1) := by decide +kernel
theorem dX3_init_77 : decode cX3_init 77 = .ok (.aload_n 2, 1) := by decide +kernel
theorem dX3_init_78 : decode cX3_init 78 = .ok (.putfield 54, 3) := by decide +kernel
theorem dX3_init_81 : decode cX3_init 81 = .ok (.aload_n 0, 1) := by decide +kernel
theorem dX3_init_82 : decode cX3_init 82 = .ok (.aload_n 3, 1) := by decide +kernel
theorem dX3_init_83 : decode cX3_init 83 = .ok (.putfield 58, 3) := by decide +kernel
theorem dX3_init_86 : decode cX3_init 86 = .ok (.return_, 1) := by decide +kernel
theorem dX3_finish_0 : decode cX3_finish 0 = .ok (.aload_n 0, 1) := by decide +kernel
theorem dX3_finish_1 : decode cX3_finish 1 = .ok (.aload_n 1, 1) := by decide +kernel
theorem dX3_finish_2 : decode cX3_finish 2 = .ok (.putfield 7, 3) := by decide +kernel
theorem dX3_finish_5 : decode cX3_finish 5 = .ok (.bipush 8, 2) := by decide +kernel
theorem dX3_finish_7 : decode cX3_finish 7 = .ok (.istore_n 2, 1) := by decide +kernel
theorem dX3_finish_8 : decode cX3_finish 8 = .ok (.iload_n 2, 1) := by decide +kernel
theorem dX3_finish_9 : decode cX3_finish 9 = .ok (.bipush 9, 2) := by decide +kernel
theorem dX3_finish_11 : decode cX3_finish 11 = .ok (.if_icmp .gt 176, 3) := by decide +kernel
theorem dX3_finish_14 : decode cX3_finish 14 = .ok (.iconst 0, 1) := by decide +kernel
theorem dX3_finish_15 : decode cX3_finish 15 = .ok (.istore_n 3, 1) := by decide +kernel
theorem dX3_finish_16 : decode cX3_finish 16 = .ok (.iload_n 3, 1) := by decide +kernel
theorem dX3_finish_17 : decode cX3_finish 17 = .ok (.aload_n 0, 1) := by decide +kernel
theorem dX3_finish_18 : decode cX3_finish 18 = .ok (.getfield 7, 3) := by decide +kernel
theorem dX3_finish_21 : decode cX3_finish 21 = .ok (.getfield 62, 3) := by decide +kernel
theorem dX3_finish_24 : decode cX3_finish 24 = .ok (.if_icmp .ge 157, 3) := by decide +kernel
theorem dX3_finish_181 : decode cX3_finish 181 = .ok (.iinc 2 1, 3) := by decide +kernel
theorem dX3_finish_184 : decode cX3_finish 184 = .ok (.goto (-176), 3) := by decide +kernel
theorem dX3_finish_187 : decode cX3_finish 187 = .ok (.return_, 1) := by decide +kernel
theorem dX3_encode_0 : decode cX3_encode 0 = .ok (.aload_n 0, 1) := by decide +kernel
theorem dX3_encode_1 : decode cX3_encode 1 = .ok (.iconst 0, 1) := by decide +kernel
theorem dX3_encode_2 : decode cX3_encode 2 = .ok (.putfield 22, 3) := by decide +kernel
theorem dX3_encode_5 : decode cX3_encode 5 = .ok (.aload_n 0, 1) := by decide +kernel
theorem dX3_encode_6 : decode cX3_encode 6 = .ok (.getfield 7, 3) := by decide +kernel
theorem dX3_encode_9 : decode cX3_encode 9 = .ok (.getfield 238, 3) := by decide +kernel
theorem dX3_encode_12 : decode cX3_encode 12 = .ok (.bipush 9, 2) := by decide +kernel
theorem dX3_encode_14 : decode cX3_encode 14 = .ok (.imul, 1) := by decide +kernel
theorem dX3_encode_15 : decode cX3_encode 15 = .ok (.iconst 1, 1) := by decide +kernel
theorem dX3_encode_16 : decode cX3_encode 16 = .ok (.iadd, 1) := by decide +kernel
theorem dX3_encode_17 : decode cX3_encode 17 = .ok (.newarray .int, 2) := by decide +kernel
theorem dX3_encode_19 : decode cX3_encode 19 = .ok (.astore_n 1, 1) := by decide +kernel
theorem dX3_encode_20 : decode cX3_encode 20 = .ok (.iconst 0, 1) := by decide +kernel
theorem dX3_encode_21 : decode cX3_encode 21 = .ok (.istore_n 2, 1) := by decide +kernel
theorem dX3_encode_22 : decode cX3_encode 22 = .ok (.iconst 0, 1) := by decide +kernel
theorem dX3_encode_23 : decode cX3_encode 23 = .ok (.istore_n 3, 1) := by decide +kernel
theorem dX3_encode_24 : decode cX3_encode 24 = .ok (.iload_n 3, 1) := by decide +kernel
theorem dX3_encode_25 : decode cX3_encode 25 = .ok (.aload_n 0, 1) := by decide +kernel
theorem dX3_encode_26 : decode cX3_encode 26 = .ok (.getfield 7, 3) := by decide +kernel
theorem dX3_encode_29 : decode cX3_encode 29 = .ok (.getfield 238, 3) := by decide +kernel
theorem dX3_encode_32 : decode cX3_encode 32 = .ok (.if_icmp .ge 255, 3) := by decide +kernel
theorem dX3_encode_287 : decode cX3_encode 287 = .ok (.aload_n 0, 1) := by decide +kernel
theorem dX3_encode_288 : decode cX3_encode 288 = .ok (.getfield 7, 3) := by decide +kernel
theorem dX3_encode_291 : decode cX3_encode 291 = .ok (.aload_n 1, 1) := by decide +kernel
theorem dX3_encode_292 : decode cX3_encode 292 = .ok (.iload_n 2, 1) := by decide +kernel
theorem dX3_encode_293 : decode cX3_encode 293 = .ok (.iconst 1, 1) := by decide +kernel
theorem dX3_encode_294 : decode cX3_encode 294 = .ok (.iadd, 1) := by decide +kernel
theorem dX3_encode_295 : decode cX3_encode 295 = .ok (.invokestatic 251, 3) := by decide +kernel
theorem dX3_encode_298 : decode cX3_encode 298 = .ok (.putfield 257, 3) := by decide +kernel
theorem dX3_encode_301 : decode cX3_encode 301 = .ok (.aload_n 0, 1) := by decide +kernel
theorem dX3_encode_302 : decode cX3_encode 302 = .ok (.getfield 7, 3) := by decide +kernel
theorem dX3_encode_305 : decode cX3_encode 305 = .ok (.aload_n 0, 1) := by decide +kernel
theorem dX3_encode_306 : decode cX3_encode 306 = .ok (.getfield 18, 3) := by decide +kernel
theorem dX3_encode_309 : decode cX3_encode 309 = .ok (.aload_n 0, 1) := by decide +kernel
theorem dX3_encode_310 : decode cX3_encode 310 = .ok (.getfield 22, 3) := by decide +kernel
theorem dX3_encode_313 : decode cX3_encode 313 = .ok (.invokestatic 251, 3) := by decide +kernel
theorem dX3_encode_316 : decode cX3_encode 316 = .ok (.putfield 259, 3) := by decide +kernel
theorem dX3_encode_319 : decode cX3_encode 319 = .ok (.return_, 1) := by decide +kernel
theorem dX4_init_0 : decode cX4_init 0 = .ok (.aload_n 0, 1) := by decide +kernel
theorem dX4_init_1 : decode cX4_init 1 = .ok (.invokespecial 1, 3) := by decide +kernel
theorem dX4_init_4 : decode cX4_init 4 = .ok (.aload_n 0, 1) := by decide +kernel
theorem dX4_init_5 : decode cX4_init 5 = .ok (.ldc 9, 2) := by decide +kernel
theorem dX4_init_7 : decode cX4_init 7 = .ok (.newarray .int, 2) := by decide +kernel
theorem dX4_init_9 : decode cX4_init 9 = .ok (.putfield 10, 3) := by decide +kernel
theorem dX4_init_12 : decode cX4_init 12 = .ok (.aload_n 0, 1) := by decide +kernel
theorem dX4_init_13 : decode cX4_init 13 = .ok (.ldc 14, 2) := by decide +kernel
theorem dX4_init_15 : decode cX4_init 15 = .ok (.newarray .int, 2) := by decide +kernel
theorem dX4_init_17 : decode cX4_init 17 = .ok (.putfield 15, 3) := by decide +kernel
theorem dX4_init_20 : decode cX4_init 20 = .ok (.aload_n 0, 1) := by decide +kernel
theorem dX4_init_21 : decode cX4_init 21 = .ok (.ldc 14, 2) := by decide +kernel
theorem dX4_init_23 : decode cX4_init 23 = .ok (.newarray .int, 2) := by decide +kernel
theorem dX4_init_25 : decode cX4_init 25 = .ok (.putfield 18, 3) := by decide +kernel
theorem dX4_init_28 : decode cX4_init 28 = .ok (.aload_n 0, 1) := by decide +kernel
theorem dX4_init_29 : decode cX4_init 29 = .ok (.iconst 0, 1) := by decide +kernel
theorem dX4_init_30 : decode cX4_init 30 = .ok (.putfield 21, 3) := by decide +kernel
theorem dX4_init_33 : decode cX4_init 33 = .ok (.aload_n 0, 1) := by decide +kernel
theorem dX4_init_34 : decode cX4_init 34 = .ok (.bipush 16, 2) := by decide +kernel
theorem dX4_init_36 : decode cX4_init 36 = .ok (.putfield 25, 3) := by decide +kernel
theorem dX4_init_39 : decode cX4_init 39 = .ok (.aload_n 0, 1) := by decide +kernel
theorem dX4_init_40 : decode cX4_init 40 = .ok (.ldc 28, 2) := by decide +kernel
theorem dX4_init_42 : decode cX4_init 42 = .ok (.putfield 29, 3) := by decide +kernel
theorem dX4_init_45 : decode cX4_init 45 = .ok (.aload_n 0, 1) := by decide +kernel
theorem dX4_init_46 : decode cX4_init 46 = .ok (.ldc 32, 2) := by decide +kernel
theorem dX4_init_48 : decode cX4_init 48 = .ok (.putfield 33, 3) := by decide +kernel
theorem dX4_init_51 : decode cX4_init 51 = .ok (.aload_n 0, 1) := by decide +kernel
theorem dX4_init_52 : decode cX4_init 52 = .ok (.iconst 0, 1) := by decide +kernel
theorem dX4_init_53 : decode cX4_init 53 = .ok (.putfield 36, 3) := by decide +kernel
theorem dX4_init_56 : decode cX4_init 56 = .ok (.aload_n 0, 1) := by decide +kernel
theorem dX4_init_57 : decode cX4_init 57 = .ok (.getfield 10, 3) := by decide +kernel
theorem dX4_init_60 : decode cX4_init 60 = .ok (.iconst 2, 1) := by decide +kernel
theorem dX4_init_61 : decode cX4_init 61 = .ok (.iconst 1, 1) := by decide +kernel
theorem dX4_init_62 : decode cX4_init 62 = .ok (.iastore, 1) := by decide +kernel
theorem dX4_init_63 : decode cX4_init 63 = .ok (.aload_n 0, 1) := by decide +kernel
theorem dX4_init_64 : decode cX4_init 64 = .ok (.getfield 10, 3) := by decide +kernel
theorem dX4_init_67 : decode cX4_init 67 = .ok (.iconst 3, 1) := by decide +kernel
theorem dX4_init_68 : decode cX4_init 68 = .ok (.iconst 2, 1) := by decide +kernel
theorem dX4_init_69 : decode cX4_init 69 = .ok (.iastore, 1) := by decide +kernel
theorem dX4_init_70 : decode cX4_init 70 = .ok (.iconst 5, 1) := by decide +kernel
theorem dX4_init_71 : decode cX4_init 71 = .ok (.istore_n 1, 1) := by decide +kernel
theorem dX4_init_72 : decode cX4_init 72 = .ok (.iload_n 1, 1) := by decide +kernel
theorem dX4_init_73 : decode cX4_init 73 = .ok (.bipush 7, 2) := by decide +kernel
theorem dX4_init_75 : decode cX4_init 75 = .ok (.if_icmp .gt 32, 3) := by decide +kernel
theorem dX4_init_78 : decode cX4_init 78 = .ok (.aload_n 0, 1) := by decide +kernel
theorem dX4_init_79 : decode cX4_init 79 = .ok (.getfield 10, 3) := by decide +kernel
theorem dX4_init_82 : decode cX4_init 82 = .ok (.iload_n 1, 1) := by decide +kernel
theorem dX4_init_83 : decode cX4_init 83 = .ok (.invokestatic 40, 3) := by decide +kernel
theorem dX4_init_86 : decode cX4_init 86 = .ok (.iload_n 1, 1) := by decide +kernel
theorem dX4_init_87 : decode cX4_init 87 = .ok (.iastore, 1) := by decide +kernel
theorem dX4_init_88 : decode cX4_init 88 = .ok (.aload_n 0, 1) := by decide +kernel
theorem dX4_init_89 : decode cX4_init 89 = .ok (.getfield 10, 3) := by decide +kernel
theorem dX4_init_92 : decode cX4_init 92 = .ok (.iload_n 1, 1) := by decide +kernel
theorem dX4_init_93 : decode cX4_init 93 = .ok (.invokestatic 40, 3) := by decide +kernel
theorem dX4_init_96 : decode cX4_init 96 = .ok (.iconst 1, 1) := by decide +kernel
theorem dX4_init_97 : decode cX4_init 97 = .ok (.iadd, 1) := by decide +kernel
theorem dX4_init_98 : decode cX4_init 98 = .ok (.bipush 65, 2) := by decide +kernel
theorem dX4_init_100 : decode cX4_init 100 = .ok (.iastore, 1) := by decide +kernel
theorem dX4_init_101 : decode cX4_init 101 = .ok (.iinc 1 1, 3) := by decide +kernel
theorem dX4_init_104 : decode cX4_init 104 = .ok (.goto (-32), 3) := by decide +kernel
theorem dX4_init_107 : decode cX4_init 107 = .ok (.return_, 1) := by decide +kernel
theorem dX4_empty_0 : decode cX4_empty 0 = .ok (.iconst 4, 1) := by decide +kernel
theorem dX4_empty_1 : decode cX4_empty 1 = .ok (.iconst 2, 1) := by decide +kernel
theorem dX4_empty_2 : decode cX4_empty 2 = .ok (.iload_n 0, 1) := by decide +kernel
theorem dX4_empty_3 : decode cX4_empty 3 = .ok (.iconst 5, 1) := by decide +kernel
theorem dX4_empty_4 : decode cX4_empty 4 = .ok (.isub, 1) := by decide +kernel
theorem dX4_empty_5 : decode cX4_empty 5 = .ok (.imul, 1) := by decide +kernel
theorem dX4_empty_6 : decode cX4_empty 6 = .ok (.iadd, 1) := by decide +kernel
theorem dX4_empty_7 : decode cX4_empty 7 = .ok (.ireturn, 1) := by decide +kernel
theorem dX4_room_0 : decode cX4_room 0 = .ok (.aload_n 0, 1) := by decide +kernel
theorem dX4_room_1 : decode cX4_room 1 = .ok (.getfield 29, 3) := by decide +kernel
theorem dX4_room_4 : decode cX4_room 4 = .ok (.iload_n 1, 1) := by decide +kernel
theorem dX4_room_5 : decode cX4_room 5 = .ok (.iadd, 1) := by decide +kernel
theorem dX4_room_6 : decode cX4_room 6 = .ok (.aload_n 0, 1) := by decide +kernel
theorem dX4_room_7 : decode cX4_room 7 = .ok (.getfield 33, 3) := by decide +kernel
theorem dX4_room_10 : decode cX4_room 10 = .ok (.if_icmp .le 20, 3) := by decide +kernel
theorem dX4_room_30 : decode cX4_room 30 = .ok (.aload_n 0, 1) := by decide +kernel
theorem dX4_room_31 : decode cX4_room 31 = .ok (.getfield 29, 3) := by decide +kernel
theorem dX4_room_34 : decode cX4_room 34 = .ok (.istore_n 2, 1) := by decide +kernel
theorem dX4_room_35 : decode cX4_room 35 = .ok (.aload_n 0, 1) := by decide +kernel
theorem dX4_room_36 : decode cX4_room 36 = .ok (.dup, 1) := by decide +kernel
theorem dX4_room_37 : decode cX4_room 37 = .ok (.getfield 29, 3) := by decide +kernel
theorem dX4_room_40 : decode cX4_room 40 = .ok (.iload_n 1, 1) := by decide +kernel
theorem dX4_room_41 : decode cX4_room 41 = .ok (.iadd, 1) := by decide +kernel
theorem dX4_room_42 : decode cX4_room 42 = .ok (.putfield 29, 3) := by decide +kernel
theorem dX4_room_45 : decode cX4_room 45 = .ok (.iload_n 2, 1) := by decide +kernel
theorem dX4_room_46 : decode cX4_room 46 = .ok (.ireturn, 1) := by decide +kernel
theorem dX4_reset_0 : decode cX4_reset 0 = .ok (.aload_n 0, 1) := by decide +kernel
theorem dX4_reset_1 : decode cX4_reset 1 = .ok (.iload_n 1, 1) := by decide +kernel
theorem dX4_reset_2 : decode cX4_reset 2 = .ok (.putfield 29, 3) := by decide +kernel
theorem dX4_reset_5 : decode cX4_reset 5 = .ok (.aload_n 0, 1) := by decide +kernel
theorem dX4_reset_6 : decode cX4_reset 6 = .ok (.ldc 32, 2) := by decide +kernel
theorem dX4_reset_8 : decode cX4_reset 8 = .ok (.putfield 33, 3) := by decide +kernel
theorem dX4_reset_11 : decode cX4_reset 11 = .ok (.aload_n 0, 1) := by decide +kernel
theorem dX4_reset_12 : decode cX4_reset 12 = .ok (.iconst 0, 1) := by decide +kernel
theorem dX4_reset_13 : decode cX4_reset 13 = .ok (.putfield 36, 3) := by decide +kernel
theorem dX4_reset_16 : decode cX4_reset 16 = .ok (.aload_n 0, 1) := by decide +kernel
theorem dX4_reset_17 : decode cX4_reset 17 = .ok (.iconst 0, 1) := by decide +kernel
theorem dX4_reset_18 : decode cX4_reset 18 = .ok (.putfield 21, 3) := by decide +kernel
theorem dX4_reset_21 : decode cX4_reset 21 = .ok (.return_, 1) := by decide +kernel
theorem dX4_kind_0 : decode cX4_kind 0 = .ok (.aload_n 0, 1) := by decide +kernel
theorem dX4_kind_1 : decode cX4_kind 1 = .ok (.getfield 10, 3) := by decide +kernel
theorem dX4_kind_4 : decode cX4_kind 4 = .ok (.iload_n 1, 1) := by decide +kernel
theorem dX4_kind_5 : decode cX4_kind 5 = .ok (.iaload, 1) := by decide +kernel
theorem dX4_kind_6 : decode cX4_kind 6 = .ok (.bipush 15, 2) := by decide +kernel
theorem dX4_kind_8 : decode cX4_kind 8 = .ok (.iand, 1) := by decide +kernel
theorem dX4_kind_9 : decode cX4_kind 9 = .ok (.ireturn, 1) := by decide +kernel
theorem dX4_size_0 : decode cX4_size 0 = .ok (.aload_n 0, 1) := by decide +kernel
theorem dX4_size_1 : decode cX4_size 1 = .ok (.getfield 10, 3) := by decide +kernel
theorem dX4_size_4 : decode cX4_size 4 = .ok (.iload_n 1, 1) := by decide +kernel
theorem dX4_size_5 : decode cX4_size 5 = .ok (.iaload, 1) := by decide +kernel
theorem dX4_size_6 : decode cX4_size 6 = .ok (.iconst 4, 1) := by decide +kernel
theorem dX4_size_7 : decode cX4_size 7 = .ok (.iushr, 1) := by decide +kernel
theorem dX4_size_8 : decode cX4_size 8 = .ok (.ireturn, 1) := by decide +kernel
theorem dX4_made_0 : decode cX4_made 0 = .ok (.iload_n 1, 1) := by decide +kernel
theorem dX4_made_1 : decode cX4_made 1 = .ok (.bipush 6, 2) := by decide +kernel
theorem dX4_made_3 : decode cX4_made 3 = .ok (.if_icmp .ne 7, 3) := by decide +kernel
theorem dX4_made_6 : decode cX4_made 6 = .ok (.iconst 2, 1) := by decide +kernel
theorem dX4_made_7 : decode cX4_made 7 = .ok (.goto 4, 3) := by decide +kernel
theorem dX4_made_11 : decode cX4_made 11 = .ok (.istore 4, 2) := by decide +kernel
theorem dX4_made_13 : decode cX4_made 13 = .ok (.aload_n 0, 1) := by decide +kernel
theorem dX4_made_14 : decode cX4_made 14 = .ok (.getfield 21, 3) := by decide +kernel
theorem dX4_made_17 : decode cX4_made 17 = .ok (.iload_n 2, 1) := by decide +kernel
theorem dX4_made_18 : decode cX4_made 18 = .ok (.isub, 1) := by decide +kernel
theorem dX4_made_19 : decode cX4_made 19 = .ok (.iload 4, 2) := by decide +kernel
theorem dX4_made_21 : decode cX4_made 21 = .ok (.idiv, 1) := by decide +kernel
theorem dX4_made_22 : decode cX4_made 22 = .ok (.istore 5, 2) := by decide +kernel
theorem dX4_made_24 : decode cX4_made 24 = .ok (.aload_n 0, 1) := by decide +kernel
theorem dX4_made_25 : decode cX4_made 25 = .ok (.iload_n 2, 1) := by decide +kernel
theorem dX4_made_26 : decode cX4_made 26 = .ok (.putfield 21, 3) := by decide +kernel
theorem dX4_made_29 : decode cX4_made 29 = .ok (.iload 5, 2) := by decide +kernel
theorem dX4_made_31 : decode cX4_made 31 = .ok (.ifCond .gt 8, 3) := by decide +kernel
theorem dX4_made_34 : decode cX4_made 34 = .ok (.iload_n 1, 1) := by decide +kernel
theorem dX4_made_35 : decode cX4_made 35 = .ok (.invokestatic 40, 3) := by decide +kernel
theorem dX4_made_38 : decode cX4_made 38 = .ok (.ireturn, 1) := by decide +kernel
theorem dX4_copy_0 : decode cX4_copy 0 = .ok (.aload_n 0, 1) := by decide +kernel
theorem dX4_copy_1 : decode cX4_copy 1 = .ok (.iload_n 1, 1) := by decide +kernel
theorem dX4_copy_2 : decode cX4_copy 2 = .ok (.invokevirtual 46, 3) := by decide +kernel
theorem dX4_copy_5 : decode cX4_copy 5 = .ok (.istore_n 2, 1) := by decide +kernel
theorem dX4_copy_6 : decode cX4_copy 6 = .ok (.iload_n 2, 1) := by decide +kernel
theorem dX4_copy_7 : decode cX4_copy 7 = .ok (.iconst 3, 1) := by decide +kernel
theorem dX4_copy_8 : decode cX4_copy 8 = .ok (.if_icmp .ge 5, 3) := by decide +kernel
theorem dX4_copy_13 : decode cX4_copy 13 = .ok (.aload_n 0, 1) := by decide +kernel
theorem dX4_copy_14 : decode cX4_copy 14 = .ok (.iload_n 1, 1) := by decide +kernel
theorem dX4_copy_15 : decode cX4_copy 15 = .ok (.invokevirtual 110, 3) := by decide +kernel
theorem dX4_copy_18 : decode cX4_copy 18 = .ok (.istore_n 3, 1) := by decide +kernel
theorem dX4_copy_19 : decode cX4_copy 19 = .ok (.iload_n 2, 1) := by decide +kernel
theorem dX4_copy_20 : decode cX4_copy 20 = .ok (.iconst 3, 1) := by decide +kernel
theorem dX4_copy_21 : decode cX4_copy 21 = .ok (.if_icmp .ne 7, 3) := by decide +kernel
theorem dX4_copy_28 : decode cX4_copy 28 = .ok (.iload_n 2, 1) := by decide +kernel
theorem dX4_copy_29 : decode cX4_copy 29 = .ok (.iconst 4, 1) := by decide +kernel
theorem dX4_copy_30 : decode cX4_copy 30 = .ok (.if_icmp .ne 9, 3) := by decide +kernel
theorem dX4_copy_39 : decode cX4_copy 39 = .ok (.iload_n 2, 1) := by decide +kernel
theorem dX4_copy_40 : decode cX4_copy 40 = .ok (.bipush 6, 2) := by decide +kernel
theorem dX4_copy_42 : decode cX4_copy 42 = .ok (.if_icmp .ne 11, 3) := by decide +kernel
theorem dX4_copy_45 : decode cX4_copy 45 = .ok (.iconst 2, 1) := by decide +kernel
theorem dX4_copy_46 : decode cX4_copy 46 = .ok (.iload_n 3, 1) := by decide +kernel
theorem dX4_copy_47 : decode cX4_copy 47 = .ok (.imul, 1) := by decide +kernel
theorem dX4_copy_48 : decode cX4_copy 48 = .ok (.iconst 2, 1) := by decide +kernel
theorem dX4_copy_49 : decode cX4_copy 49 = .ok (.iadd, 1) := by decide +kernel
theorem dX4_copy_50 : decode cX4_copy 50 = .ok (.goto 6, 3) := by decide +kernel
theorem dX4_copy_56 : decode cX4_copy 56 = .ok (.istore 4, 2) := by decide +kernel
theorem dX4_copy_58 : decode cX4_copy 58 = .ok (.aload_n 0, 1) := by decide +kernel
theorem dX4_copy_59 : decode cX4_copy 59 = .ok (.iload 4, 2) := by decide +kernel
theorem dX4_copy_61 : decode cX4_copy 61 = .ok (.invokevirtual 65, 3) := by decide +kernel
theorem dX4_copy_64 : decode cX4_copy 64 = .ok (.istore 5, 2) := by decide +kernel
theorem dX4_copy_66 : decode cX4_copy 66 = .ok (.aload_n 0, 1) := by decide +kernel
theorem dX4_copy_67 : decode cX4_copy 67 = .ok (.getfield 10, 3) := by decide +kernel
theorem dX4_copy_70 : decode cX4_copy 70 = .ok (.iload_n 1, 1) := by decide +kernel
theorem dX4_copy_71 : decode cX4_copy 71 = .ok (.aload_n 0, 1) := by decide +kernel
theorem dX4_copy_72 : decode cX4_copy 72 = .ok (.getfield 10, 3) := by decide +kernel
theorem dX4_copy_75 : decode cX4_copy 75 = .ok (.iload 5, 2) := by decide +kernel
theorem dX4_copy_77 : decode cX4_copy 77 = .ok (.iload 4, 2) := by decide +kernel
theorem dX4_copy_79 : decode cX4_copy 79 = .ok (.invokestatic 76, 3) := by decide +kernel
theorem dX4_copy_82 : decode cX4_copy 82 = .ok (.iload_n 2, 1) := by decide +kernel
theorem dX4_copy_83 : decode cX4_copy 83 = .ok (.iconst 5, 1) := by decide +kernel
theorem dX4_copy_84 : decode cX4_copy 84 = .ok (.if_icmp .lt 42, 3) := by decide +kernel
theorem dX4_copy_87 : decode cX4_copy 87 = .ok (.iconst 2, 1) := by decide +kernel
theorem dX4_copy_88 : decode cX4_copy 88 = .ok (.istore 6, 2) := by decide +kernel
theorem dX4_copy_90 : decode cX4_copy 90 = .ok (.iload 6, 2) := by decide +kernel
theorem dX4_copy_92 : decode cX4_copy 92 = .ok (.iload 4, 2) := by decide +kernel
theorem dX4_copy_94 : decode cX4_copy 94 = .ok (.if_icmp .ge 32, 3) := by decide +kernel
theorem dX4_copy_126 : decode cX4_copy 126 = .ok (.iload 5, 2) := by decide +kernel
theorem dX4_copy_128 : decode cX4_copy 128 = .ok (.ireturn, 1) := by decide +kernel
theorem dX4_copyTo_0 : decode cX4_copyTo 0 = .ok (.aload_n 0, 1) := by decide +kernel
theorem dX4_copyTo_1 : decode cX4_copyTo 1 = .ok (.getfield 29, 3) := by decide +kernel
theorem dX4_copyTo_4 : decode cX4_copyTo 4 = .ok (.istore_n 3, 1) := by decide +kernel
theorem dX4_copyTo_5 : decode cX4_copyTo 5 = .ok (.aload_n 0, 1) := by decide +kernel
theorem dX4_copyTo_6 : decode cX4_copyTo 6 = .ok (.ldc 82, 2) := by decide +kernel
theorem dX4_copyTo_8 : decode cX4_copyTo 8 = .ok (.iload_n 1, 1) := by decide +kernel
theorem dX4_copyTo_9 : decode cX4_copyTo 9 = .ok (.sipush 16500, 3) := by decide +kernel
theorem dX4_copyTo_12 : decode cX4_copyTo 12 = .ok (.imul, 1) := by decide +kernel
theorem dX4_copyTo_13 : decode cX4_copyTo 13 = .ok (.iadd, 1) := by decide +kernel
theorem dX4_copyTo_14 : decode cX4_copyTo 14 = .ok (.putfield 29, 3) := by decide +kernel
theorem dX4_copyTo_17 : decode cX4_copyTo 17 = .ok (.aload_n 0, 1) := by decide +kernel
theorem dX4_copyTo_18 : decode cX4_copyTo 18 = .ok (.iload_n 2, 1) := by decide +kernel
theorem dX4_copyTo_19 : decode cX4_copyTo 19 = .ok (.invokevirtual 116, 3) := by decide +kernel
theorem dX4_copyTo_22 : decode cX4_copyTo 22 = .ok (.istore 4, 2) := by decide +kernel
theorem dX4_copyTo_24 : decode cX4_copyTo 24 = .ok (.aload_n 0, 1) := by decide +kernel
theorem dX4_copyTo_25 : decode cX4_copyTo 25 = .ok (.iload_n 3, 1) := by decide +kernel
theorem dX4_copyTo_26 : decode cX4_copyTo 26 = .ok (.putfield 29, 3) := by decide +kernel
theorem dX4_copyTo_29 : decode cX4_copyTo 29 = .ok (.iload 4, 2) := by decide +kernel
theorem dX4_copyTo_31 : decode cX4_copyTo 31 = .ok (.ireturn, 1) := by decide +kernel
theorem dX5_init_0 : decode cX5_init 0 = .ok (.aload_n 0, 1) := by decide +kernel
theorem dX5_init_1 : decode cX5_init 1 = .ok (.invokespecial 1, 3) := by decide +kernel
theorem dX5_init_4 : decode cX5_init 4 = .ok (.aload_n 0, 1) := by decide +kernel
theorem dX5_init_5 : decode cX5_init 5 = .ok (.sipush 20000, 3) := by decide +kernel
theorem dX5_init_8 : decode cX5_init 8 = .ok (.newarray .int, 2) := by decide +kernel
theorem dX5_init_10 : decode cX5_init 10 = .ok (.putfield 7, 3) := by decide +kernel
theorem dX5_init_13 : decode cX5_init 13 = .ok (.aload_n 0, 1) := by decide +kernel
theorem dX5_init_14 : decode cX5_init 14 = .ok (.ldc 13, 2) := by decide +kernel
theorem dX5_init_16 : decode cX5_init 16 = .ok (.newarray .int, 2) := by decide +kernel
theorem dX5_init_18 : decode cX5_init 18 = .ok (.putfield 14, 3) := by decide +kernel
theorem dX5_init_21 : decode cX5_init 21 = .ok (.aload_n 0, 1) := by decide +kernel
theorem dX5_init_22 : decode cX5_init 22 = .ok (.iconst 0, 1) := by decide +kernel
theorem dX5_init_23 : decode cX5_init 23 = .ok (.putfield 17, 3) := by decide +kernel
theorem dX5_init_26 : decode cX5_init 26 = .ok (.aload_n 0, 1) := by decide +kernel
theorem dX5_init_27 : decode cX5_init 27 = .ok (.iconst 0, 1) := by decide +kernel
theorem dX5_init_28 : decode cX5_init 28 = .ok (.putfield 21, 3) := by decide +kernel
theorem dX5_init_31 : decode cX5_init 31 = .ok (.aload_n 0, 1) := by decide +kernel
theorem dX5_init_32 : decode cX5_init 32 = .ok (.iconst 0, 1) := by decide +kernel
theorem dX5_init_33 : decode cX5_init 33 = .ok (.putfield 24, 3) := by decide +kernel
theorem dX5_init_36 : decode cX5_init 36 = .ok (.aload_n 0, 1) := by decide +kernel
theorem dX5_init_37 : decode cX5_init 37 = .ok (.iconst 0, 1) := by decide +kernel
theorem dX5_init_38 : decode cX5_init 38 = .ok (.putfield 27, 3) := by decide +kernel
theorem dX5_init_41 : decode cX5_init 41 = .ok (.aload_n 0, 1) := by decide +kernel
theorem dX5_init_42 : decode cX5_init 42 = .ok (.iconst 0, 1) := by decide +kernel
theorem dX5_init_43 : decode cX5_init 43 = .ok (.putfield 30, 3) := by decide +kernel
theorem dX5_init_46 : decode cX5_init 46 = .ok (.aload_n 0, 1) := by decide +kernel
theorem dX5_init_47 : decode cX5_init 47 = .ok (.iconst 0, 1) := by decide +kernel
theorem dX5_init_48 : decode cX5_init 48 = .ok (.putfield 34, 3) := by decide +kernel
theorem dX5_init_51 : decode cX5_init 51 = .ok (.aload_n 0, 1) := by decide +kernel
theorem dX5_init_52 : decode cX5_init 52 = .ok (.iconst 0, 1) := by decide +kernel
theorem dX5_init_53 : decode cX5_init 53 = .ok (.putfield 37, 3) := by decide +kernel
theorem dX5_init_56 : decode cX5_init 56 = .ok (.aload_n 0, 1) := by decide +kernel
theorem dX5_init_57 : decode cX5_init 57 = .ok (.aconst_null, 1) := by decide +kernel
theorem dX5_init_58 : decode cX5_init 58 = .ok (.putfield 40, 3) := by decide +kernel
theorem dX5_init_61 : decode cX5_init 61 = .ok (.aload_n 0, 1) := by decide +kernel
theorem dX5_init_62 : decode cX5_init 62 = .ok (.aconst_null, 1) := by decide +kernel
theorem dX5_init_63 : decode cX5_init 63 = .ok (.putfield 44, 3) := by decide +kernel
theorem dX5_init_66 : decode cX5_init 66 = .ok (.aload_n 0, 1) := by decide +kernel
theorem dX5_init_67 : decode cX5_init 67 = .ok (.aconst_null, 1) := by decide +kernel
theorem dX5_init_68 : decode cX5_init 68 = .ok (.putfield 47, 3) := by decide +kernel
theorem dX5_init_71 : decode cX5_init 71 = .ok (.aload_n 0, 1) := by decide +kernel
theorem dX5_init_72 : decode cX5_init 72 = .ok (.iconst 0, 1) := by decide +kernel
theorem dX5_init_73 : decode cX5_init 73 = .ok (.putfield 50, 3) := by decide +kernel
theorem dX5_init_76 : decode cX5_init 76 = .ok (.aload_n 0, 1) := by decide +kernel
theorem dX5_init_77 : decode cX5_init 77 = .ok (.iconst 0, 1) := by decide +kernel
theorem dX5_init_78 : decode cX5_init 78 = .ok (.putfield 53, 3) := by decide +kernel
theorem dX5_init_81 : decode cX5_init 81 = .ok (.aload_n 0, 1) := by decide +kernel
theorem dX5_init_82 : decode cX5_init 82 = .ok (.iconst 0, 1) := by decide +kernel
theorem dX5_init_83 : decode cX5_init 83 = .ok (.putfield 56, 3) := by decide +kernel
theorem dX5_init_86 : decode cX5_init 86 = .ok (.aload_n 0, 1) := by decide +kernel
theorem dX5_init_87 : decode cX5_init 87 = .ok (.sipush 400, 3) := by decide +kernel
theorem dX5_init_90 : decode cX5_init 90 = .ok (.newarray .int, 2) := by decide +kernel
theorem dX5_init_92 : decode cX5_init 92 = .ok (.putfield 59, 3) := by decide +kernel
theorem dX5_init_95 : decode cX5_init 95 = .ok (.aload_n 0, 1) := by decide +kernel
theorem dX5_init_96 : decode cX5_init 96 = .ok (.aload_n 1, 1) := by decide +kernel
theorem dX5_init_97 : decode cX5_init 97 = .ok (.putfield 62, 3) := by decide +kernel
theorem dX5_init_100 : decode cX5_init 100 = .ok (.aload_n 0, 1) := by decide +kernel
theorem dX5_init_101 : decode cX5_init 101 = .ok (.aload_n 2, 1) := by decide +kernel
theorem dX5_init_102 : decode cX5_init 102 = .ok (.putfield 66, 3) := by decide +kernel
theorem dX5_init_105 : decode cX5_init 105 = .ok (.aload_n 0, 1) := by decide +kernel
theorem dX5_init_106 : decode cX5_init 106 = .ok (.aload_n 3, 1) := by decide +kernel
theorem dX5_init_107 : decode cX5_init 107 = .ok (.putfield 70, 3) := by decide +kernel
theorem dX5_init_110 : decode cX5_init 110 = .ok (.return_, 1) := by decide +kernel
theorem dX8_init_0 : decode cX8_init 0 = .ok (.aload_n 0, 1) := by decide +kernel
theorem dX8_init_1 : decode cX8_init 1 = .ok (.invokespecial 1, 3) := by decide +kernel
theorem dX8_init_4 : decode cX8_init 4 = .ok (.aload_n 0, 1) := by decide +kernel
theorem dX8_init_5 : decode cX8_init 5 = .ok (.sipush 6002, 3) := by decide +kernel
theorem dX8_init_8 : decode cX8_init 8 = .ok (.newarray .int, 2) := by decide +kernel
theorem dX8_init_10 : decode cX8_init 10 = .ok (.putfield 9, 3) := by decide +kernel
theorem dX8_init_13 : decode cX8_init 13 = .ok (.aload_n 0, 1) := by decide +kernel
theorem dX8_init_14 : decode cX8_init 14 = .ok (.sipush 6002, 3) := by decide +kernel
theorem dX8_init_17 : decode cX8_init 17 = .ok (.newarray .int, 2) := by decide +kernel
theorem dX8_init_19 : decode cX8_init 19 = .ok (.putfield 13, 3) := by decide +kernel
theorem dX8_init_22 : decode cX8_init 22 = .ok (.aload_n 0, 1) := by decide +kernel
theorem dX8_init_23 : decode cX8_init 23 = .ok (.sipush 6002, 3) := by decide +kernel
theorem dX8_init_26 : decode cX8_init 26 = .ok (.newarray .int, 2) := by decide +kernel
theorem dX8_init_28 : decode cX8_init 28 = .ok (.putfield 16, 3) := by decide +kernel
theorem dX8_init_31 : decode cX8_init 31 = .ok (.aload_n 0, 1) := by decide +kernel
theorem dX8_init_32 : decode cX8_init 32 = .ok (.sipush 6002, 3) := by decide +kernel
theorem dX8_init_35 : decode cX8_init 35 = .ok (.newarray .int, 2) := by decide +kernel
theorem dX8_init_37 : decode cX8_init 37 = .ok (.putfield 19, 3) := by decide +kernel
theorem dX8_init_40 : decode cX8_init 40 = .ok (.aload_n 0, 1) := by decide +kernel
theorem dX8_init_41 : decode cX8_init 41 = .ok (.iconst (-1), 1) := by decide +kernel
theorem dX8_init_42 : decode cX8_init 42 = .ok (.putfield 22, 3) := by decide +kernel
theorem dX8_init_45 : decode cX8_init 45 = .ok (.aload_n 0, 1) := by decide +kernel
theorem dX8_init_46 : decode cX8_init 46 = .ok (.iconst 0, 1) := by decide +kernel
theorem dX8_init_47 : decode cX8_init 47 = .ok (.putfield 26, 3) := by decide +kernel
theorem dX8_init_50 : decode cX8_init 50 = .ok (.aload_n 0, 1) := by decide +kernel
theorem dX8_init_51 : decode cX8_init 51 = .ok (.iconst 0, 1) := by decide +kernel
theorem dX8_init_52 : decode cX8_init 52 = .ok (.putfield 29, 3) := by decide +kernel
theorem dX8_init_55 : decode cX8_init 55 = .ok (.aload_n 0, 1) := by decide +kernel
theorem dX8_init_56 : decode cX8_init 56 = .ok (.iconst 0, 1) := by decide +kernel
theorem dX8_init_57 : decode cX8_init 57 = .ok (.putfield 32, 3) := by decide +kernel
theorem dX8_init_60 : decode cX8_init 60 = .ok (.aload_n 0, 1) := by decide +kernel
theorem dX8_init_61 : decode cX8_init 61 = .ok (.iconst (-1), 1) := by decide +kernel
theorem dX8_init_62 : decode cX8_init 62 = .ok (.putfield 35, 3) := by decide +kernel
theorem dX8_init_65 : decode cX8_init 65 = .ok (.aload_n 0, 1) := by decide +kernel
theorem dX8_init_66 : decode cX8_init 66 = .ok (.iconst 0, 1) := by decide +kernel
theorem dX8_init_67 : decode cX8_init 67 = .ok (.putfield 38, 3) := by decide +kernel
theorem dX8_init_70 : decode cX8_init 70 = .ok (.aload_n 0, 1) := by decide +kernel
theorem dX8_init_71 : decode cX8_init 71 = .ok (.iconst 0, 1) := by decide +kernel
theorem dX8_init_72 : decode cX8_init 72 = .ok (.putfield 41, 3) := by decide +kernel
theorem dX8_init_75 : decode cX8_init 75 = .ok (.aload_n 0, 1) := by decide +kernel
theorem dX8_init_76 : decode cX8_init 76 = .ok (.aconst_null, 1) := by decide +kernel
theorem dX8_init_77 : decode cX8_init 77 = .ok (.putfield 44, 3) := by decide +kernel
theorem dX8_init_80 : decode cX8_init 80 = .ok (.aload_n 0, 1) := by decide +kernel
theorem dX8_init_81 : decode cX8_init 81 = .ok (.aload_n 1, 1) := by decide +kernel
theorem dX8_init_82 : decode cX8_init 82 = .ok (.putfield 48, 3) := by decide +kernel
theorem dX8_init_85 : decode cX8_init 85 = .ok (.aload_n 0, 1) := by decide +kernel
theorem dX8_init_86 : decode cX8_init 86 = .ok (.aload_n 2, 1) := by decide +kernel
theorem dX8_init_87 : decode cX8_init 87 = .ok (.putfield 52, 3) := by decide +kernel
theorem dX8_init_90 : decode cX8_init 90 = .ok (.aload_n 0, 1) := by decide +kernel
theorem dX8_init_91 : decode cX8_init 91 = .ok (.aload_n 3, 1) := by decide +kernel
theorem dX8_init_92 : decode cX8_init 92 = .ok (.putfield 56, 3) := by decide +kernel
theorem dX8_init_95 : decode cX8_init 95 = .ok (.return_, 1) := by decide +kernel
theorem dX9_init_0 : decode cX9_init 0 = .ok (.aload_n 0, 1) := by decide +kernel
theorem dX9_init_1 : decode cX9_init 1 = .ok (.invokespecial 5, 3) := by decide +kernel
theorem dX9_init_4 : decode cX9_init 4 = .ok (.aload_n 0, 1) := by decide +kernel
theorem dX9_init_5 : decode cX9_init 5 = .ok (.aconst_null, 1) := by decide +kernel
theorem dX9_init_6 : decode cX9_init 6 = .ok (.putfield 11, 3) := by decide +kernel
theorem dX9_init_9 : decode cX9_init 9 = .ok (.aload_n 0, 1) := by decide +kernel
theorem dX9_init_10 : decode cX9_init 10 = .ok (.iconst 0, 1) := by decide +kernel
theorem dX9_init_11 : decode cX9_init 11 = .ok (.putfield 15, 3) := by decide +kernel
theorem dX9_init_14 : decode cX9_init 14 = .ok (.aload_n 0, 1) := by decide +kernel
theorem dX9_init_15 : decode cX9_init 15 = .ok (.iconst (-1), 1) := by decide +kernel
theorem dX9_init_16 : decode cX9_init 16 = .ok (.putfield 19, 3) := by decide +kernel
theorem dX9_init_19 : decode cX9_init 19 = .ok (.aload_n 0, 1) := by decide +kernel
theorem dX9_init_20 : decode cX9_init 20 = .ok (.iconst 0, 1) := by decide +kernel
theorem dX9_init_21 : decode cX9_init 21 = .ok (.putfield 22, 3) := by decide +kernel
theorem dX9_init_24 : decode cX9_init 24 = .ok (.aload_n 0, 1) := by decide +kernel
theorem dX9_init_25 : decode cX9_init 25 = .ok (.bipush 10, 2) := by decide +kernel
theorem dX9_init_27 : decode cX9_init 27 = .ok (.newarray .int, 2) := by decide +kernel
theorem dX9_init_29 : decode cX9_init 29 = .ok (.putfield 25, 3) := by decide +kernel
theorem dX9_init_32 : decode cX9_init 32 = .ok (.aload_n 0, 1) := by decide +kernel
theorem dX9_init_33 : decode cX9_init 33 = .ok (.bipush 16, 2) := by decide +kernel
theorem dX9_init_35 : decode cX9_init 35 = .ok (.newarray .int, 2) := by decide +kernel
theorem dX9_init_37 : decode cX9_init 37 = .ok (.putfield 29, 3) := by decide +kernel
theorem dX9_init_40 : decode cX9_init 40 = .ok (.aload_n 0, 1) := by decide +kernel
theorem dX9_init_41 : decode cX9_init 41 = .ok (.iconst 0, 1) := by decide +kernel
theorem dX9_init_42 : decode cX9_init 42 = .ok (.putfield 32, 3) := by decide +kernel
theorem dX9_init_45 : decode cX9_init 45 = .ok (.aload_n 0, 1) := by decide +kernel
theorem dX9_init_46 : decode cX9_init 46 = .ok (.iconst 0, 1) := by decide +kernel
theorem dX9_init_47 : decode cX9_init 47 = .ok (.putfield 35, 3) := by decide +kernel
theorem dX9_init_50 : decode cX9_init 50 = .ok (.aload_n 0, 1) := by decide +kernel
theorem dX9_init_51 : decode cX9_init 51 = .ok (.iconst 0, 1) := by decide +kernel
theorem dX9_init_52 : decode cX9_init 52 = .ok (.putfield 39, 3) := by decide +kernel
theorem dX9_init_55 : decode cX9_init 55 = .ok (.aload_n 0, 1) := by decide +kernel
theorem dX9_init_56 : decode cX9_init 56 = .ok (.iconst 0, 1) := by decide +kernel
theorem dX9_init_57 : decode cX9_init 57 = .ok (.putfield 42, 3) := by decide +kernel
theorem dX9_init_60 : decode cX9_init 60 = .ok (.aload_n 0, 1) := by decide +kernel
theorem dX9_init_61 : decode cX9_init 61 = .ok (.iconst 0, 1) := by decide +kernel
theorem dX9_init_62 : decode cX9_init 62 = .ok (.putfield 45, 3) := by decide +kernel
theorem dX9_init_65 : decode cX9_init 65 = .ok (.aload_n 0, 1) := by decide +kernel
theorem dX9_init_66 : decode cX9_init 66 = .ok (.iconst (-1), 1) := by decide +kernel
theorem dX9_init_67 : decode cX9_init 67 = .ok (.putfield 48, 3) := by decide +kernel
theorem dX9_init_70 : decode cX9_init 70 = .ok (.aload_n 0, 1) := by decide +kernel
theorem dX9_init_71 : decode cX9_init 71 = .ok (.iconst (-1), 1) := by decide +kernel
theorem dX9_init_72 : decode cX9_init 72 = .ok (.putfield 51, 3) := by decide +kernel
theorem dX9_init_75 : decode cX9_init 75 = .ok (.aload_n 0, 1) := by decide +kernel
theorem dX9_init_76 : decode cX9_init 76 = .ok (.sipush 402, 3) := by decide +kernel
theorem dX9_init_79 : decode cX9_init 79 = .ok (.newarray .int, 2) := by decide +kernel
theorem dX9_init_81 : decode cX9_init 81 = .ok (.putfield 54, 3) := by decide +kernel
theorem dX9_init_84 : decode cX9_init 84 = .ok (.aload_n 0, 1) := by decide +kernel
theorem dX9_init_85 : decode cX9_init 85 = .ok (.aload_n 1, 1) := by decide +kernel
theorem dX9_init_86 : decode cX9_init 86 = .ok (.putfield 57, 3) := by decide +kernel
theorem dX9_init_89 : decode cX9_init 89 = .ok (.aload_n 0, 1) := by decide +kernel
theorem dX9_init_90 : decode cX9_init 90 = .ok (.aload_n 2, 1) := by decide +kernel
theorem dX9_init_91 : decode cX9_init 91 = .ok (.putfield 61, 3) := by decide +kernel
theorem dX9_init_94 : decode cX9_init 94 = .ok (.return_, 1) := by decide +kernel
theorem dX10_init_0 : decode cX10_init 0 = .ok (.aload_n 0, 1) := by decide +kernel
theorem dX10_init_1 : decode cX10_init 1 = .ok (.invokespecial 1, 3) := by decide +kernel
theorem dX10_init_4 : decode cX10_init 4 = .ok (.aload_n 0, 1) := by decide +kernel
theorem dX10_init_5 : decode cX10_init 5 = .ok (.sipush 4004, 3) := by decide +kernel
theorem dX10_init_8 : decode cX10_init 8 = .ok (.newarray .int, 2) := by decide +kernel
theorem dX10_init_10 : decode cX10_init 10 = .ok (.putfield 7, 3) := by decide +kernel
theorem dX10_init_13 : decode cX10_init 13 = .ok (.aload_n 0, 1) := by decide +kernel
theorem dX10_init_14 : decode cX10_init 14 = .ok (.iconst 0, 1) := by decide +kernel
theorem dX10_init_15 : decode cX10_init 15 = .ok (.putfield 13, 3) := by decide +kernel
theorem dX10_init_18 : decode cX10_init 18 = .ok (.aload_n 0, 1) := by decide +kernel
theorem dX10_init_19 : decode cX10_init 19 = .ok (.iconst 0, 1) := by decide +kernel
theorem dX10_init_20 : decode cX10_init 20 = .ok (.putfield 17, 3) := by decide +kernel
theorem dX10_init_23 : decode cX10_init 23 = .ok (.aload_n 0, 1) := by decide +kernel
theorem dX10_init_24 : decode cX10_init 24 = .ok (.sipush 16400, 3) := by decide +kernel
theorem dX10_init_27 : decode cX10_init 27 = .ok (.newarray .int, 2) := by decide +kernel
theorem dX10_init_29 : decode cX10_init 29 = .ok (.putfield 21, 3) := by decide +kernel
theorem dX10_init_32 : decode cX10_init 32 = .ok (.aload_n 0, 1) := by decide +kernel
theorem dX10_init_33 : decode cX10_init 33 = .ok (.sipush 16400, 3) := by decide +kernel
theorem dX10_init_36 : decode cX10_init 36 = .ok (.newarray .int, 2) := by decide +kernel
theorem dX10_init_38 : decode cX10_init 38 = .ok (.putfield 24, 3) := by decide +kernel
theorem dX10_init_41 : decode cX10_init 41 = .ok (.aload_n 0, 1) := by decide +kernel
theorem dX10_init_42 : decode cX10_init 42 = .ok (.sipush 16400, 3) := by decide +kernel
theorem dX10_init_45 : decode cX10_init 45 = .ok (.newarray .int, 2) := by decide +kernel
theorem dX10_init_47 : decode cX10_init 47 = .ok (.putfield 27, 3) := by decide +kernel
theorem dX10_init_50 : decode cX10_init 50 = .ok (.aload_n 0, 1) := by decide +kernel
theorem dX10_init_51 : decode cX10_init 51 = .ok (.sipush 16400, 3) := by decide +kernel
theorem dX10_init_54 : decode cX10_init 54 = .ok (.newarray .int, 2) := by decide +kernel
theorem dX10_init_56 : decode cX10_init 56 = .ok (.putfield 30, 3) := by decide +kernel
theorem dX10_init_59 : decode cX10_init 59 = .ok (.aload_n 0, 1) := by decide +kernel
theorem dX10_init_60 : decode cX10_init 60 = .ok (.sipush 16400, 3) := by decide +kernel
theorem dX10_init_63 : decode cX10_init 63 = .ok (.newarray .int, 2) := by decide +kernel
theorem dX10_init_65 : decode cX10_init 65 = .ok (.putfield 33, 3) := by decide +kernel
theorem dX10_init_68 : decode cX10_init 68 = .ok (.aload_n 0, 1) := by decide +kernel
theorem dX10_init_69 : decode cX10_init 69 = .ok (.sipush 16400, 3) := by decide +kernel
theorem dX10_init_72 : decode cX10_init 72 = .ok (.newarray .int, 2) := by decide +kernel
theorem dX10_init_74 : decode cX10_init 74 = .ok (.putfield 36, 3) := by decide +kernel
theorem dX10_init_77 : decode cX10_init 77 = .ok (.aload_n 0, 1) := by decide +kernel
theorem dX10_init_78 : decode cX10_init 78 = .ok (.iconst 0, 1) := by decide +kernel
theorem dX10_init_79 : decode cX10_init 79 = .ok (.putfield 39, 3) := by decide +kernel
theorem dX10_init_82 : decode cX10_init 82 = .ok (.aload_n 0, 1) := by decide +kernel
theorem dX10_init_83 : decode cX10_init 83 = .ok (.sipush 16800, 3) := by decide +kernel
theorem dX10_init_86 : decode cX10_init 86 = .ok (.newarray .int, 2) := by decide +kernel
theorem dX10_init_88 : decode cX10_init 88 = .ok (.putfield 42, 3) := by decide +kernel
theorem dX10_init_91 : decode cX10_init 91 = .ok (.aload_n 0, 1) := by decide +kernel
theorem dX10_init_92 : decode cX10_init 92 = .ok (.iconst 0, 1) := by decide +kernel
theorem dX10_init_93 : decode cX10_init 93 = .ok (.putfield 45, 3) := by decide +kernel
theorem dX10_init_96 : decode cX10_init 96 = .ok (.aload_n 0, 1) := by decide +kernel
theorem dX10_init_97 : decode cX10_init 97 = .ok (.iconst 0, 1) := by decide +kernel
theorem dX10_init_98 : decode cX10_init 98 = .ok (.putfield 48, 3) := by decide +kernel
theorem dX10_init_101 : decode cX10_init 101 = .ok (.aload_n 0, 1) := by decide +kernel
theorem dX10_init_102 : decode cX10_init 102 = .ok (.iconst 0, 1) := by decide +kernel
theorem dX10_init_103 : decode cX10_init 103 = .ok (.putfield 51, 3) := by decide +kernel
theorem dX10_init_106 : decode cX10_init 106 = .ok (.aload_n 0, 1) := by decide +kernel
theorem dX10_init_107 : decode cX10_init 107 = .ok (.iconst 0, 1) := by decide +kernel
theorem dX10_init_108 : decode cX10_init 108 = .ok (.putfield 54, 3) := by decide +kernel
theorem dX10_init_111 : decode cX10_init 111 = .ok (.aload_n 0, 1) := by decide +kernel
theorem dX10_init_112 : decode cX10_init 112 = .ok (.iconst 0, 1) := by decide +kernel
theorem dX10_init_113 : decode cX10_init 113 = .ok (.putfield 57, 3) := by decide +kernel
theorem dX10_init_116 : decode cX10_init 116 = .ok (.aload_n 0, 1) := by decide +kernel
theorem dX10_init_117 : decode cX10_init 117 = .ok (.aload_n 1, 1) := by decide +kernel
theorem dX10_init_118 : decode cX10_init 118 = .ok (.putfield 60, 3) := by decide +kernel
theorem dX10_init_121 : decode cX10_init 121 = .ok (.aload_n 0, 1) := by decide +kernel
theorem dX10_init_122 : decode cX10_init 122 = .ok (.aload_n 2, 1) := by decide +kernel
theorem dX10_init_123 : decode cX10_init 123 = .ok (.putfield 64, 3) := by decide +kernel
theorem dX10_init_126 : decode cX10_init 126 = .ok (.aload_n 0, 1) := by decide +kernel
theorem dX10_init_127 : decode cX10_init 127 = .ok (.aload_n 3, 1) := by decide +kernel
theorem dX10_init_128 : decode cX10_init 128 = .ok (.putfield 68, 3) := by decide +kernel
theorem dX10_init_131 : decode cX10_init 131 = .ok (.return_, 1) := by decide +kernel
theorem dX11_init_0 : decode cX11_init 0 = .ok (.aload_n 0, 1) := by decide +kernel
theorem dX11_init_1 : decode cX11_init 1 = .ok (.invokespecial 1, 3) := by decide +kernel
theorem dX11_init_4 : decode cX11_init 4 = .ok (.aload_n 0, 1) := by decide +kernel
theorem dX11_init_5 : decode cX11_init 5 = .ok (.aconst_null, 1) := by decide +kernel
theorem dX11_init_6 : decode cX11_init 6 = .ok (.putfield 7, 3) := by decide +kernel
theorem dX11_init_9 : decode cX11_init 9 = .ok (.aload_n 0, 1) := by decide +kernel
theorem dX11_init_10 : decode cX11_init 10 = .ok (.iconst 0, 1) := by decide +kernel
theorem dX11_init_11 : decode cX11_init 11 = .ok (.putfield 13, 3) := by decide +kernel
theorem dX11_init_14 : decode cX11_init 14 = .ok (.aload_n 0, 1) := by decide +kernel
theorem dX11_init_15 : decode cX11_init 15 = .ok (.iconst 0, 1) := by decide +kernel
theorem dX11_init_16 : decode cX11_init 16 = .ok (.putfield 17, 3) := by decide +kernel
theorem dX11_init_19 : decode cX11_init 19 = .ok (.aload_n 0, 1) := by decide +kernel
theorem dX11_init_20 : decode cX11_init 20 = .ok (.iconst (-1), 1) := by decide +kernel
theorem dX11_init_21 : decode cX11_init 21 = .ok (.putfield 20, 3) := by decide +kernel
theorem dX11_init_24 : decode cX11_init 24 = .ok (.aload_n 0, 1) := by decide +kernel
theorem dX11_init_25 : decode cX11_init 25 = .ok (.iconst 0, 1) := by decide +kernel
theorem dX11_init_26 : decode cX11_init 26 = .ok (.putfield 23, 3) := by decide +kernel
theorem dX11_init_29 : decode cX11_init 29 = .ok (.aload_n 0, 1) := by decide +kernel
theorem dX11_init_30 : decode cX11_init 30 = .ok (.lconst 0, 1) := by decide +kernel
theorem dX11_init_31 : decode cX11_init 31 = .ok (.putfield 26, 3) := by decide +kernel
theorem dX11_init_34 : decode cX11_init 34 = .ok (.aload_n 0, 1) := by decide +kernel
theorem dX11_init_35 : decode cX11_init 35 = .ok (.sipush 6004, 3) := by decide +kernel
theorem dX11_init_38 : decode cX11_init 38 = .ok (.newarray .int, 2) := by decide +kernel
theorem dX11_init_40 : decode cX11_init 40 = .ok (.putfield 30, 3) := by decide +kernel
theorem dX11_init_43 : decode cX11_init 43 = .ok (.aload_n 0, 1) := by decide +kernel
theorem dX11_init_44 : decode cX11_init 44 = .ok (.iconst 0, 1) := by decide +kernel
theorem dX11_init_45 : decode cX11_init 45 = .ok (.putfield 33, 3) := by decide +kernel
theorem dX11_init_48 : decode cX11_init 48 = .ok (.aload_n 0, 1) := by decide +kernel
theorem dX11_init_49 : decode cX11_init 49 = .ok (.sipush 4000, 3) := by decide +kernel
theorem dX11_init_52 : decode cX11_init 52 = .ok (.newarray .int, 2) := by decide +kernel
theorem dX11_init_54 : decode cX11_init 54 = .ok (.putfield 38, 3) := by decide +kernel
theorem dX11_init_57 : decode cX11_init 57 = .ok (.aload_n 0, 1) := by decide +kernel
theorem dX11_init_58 : decode cX11_init 58 = .ok (.iconst 1, 1) := by decide +kernel
theorem dX11_init_59 : decode cX11_init 59 = .ok (.putfield 41, 3) := by decide +kernel
theorem dX11_init_62 : decode cX11_init 62 = .ok (.aload_n 0, 1) := by decide +kernel
theorem dX11_init_63 : decode cX11_init 63 = .ok (.aconst_null, 1) := by decide +kernel
theorem dX11_init_64 : decode cX11_init 64 = .ok (.putfield 45, 3) := by decide +kernel
theorem dX11_init_67 : decode cX11_init 67 = .ok (.aload_n 0, 1) := by decide +kernel
theorem dX11_init_68 : decode cX11_init 68 = .ok (.iconst 0, 1) := by decide +kernel
theorem dX11_init_69 : decode cX11_init 69 = .ok (.putfield 49, 3) := by decide +kernel
theorem dX11_init_72 : decode cX11_init 72 = .ok (.aload_n 0, 1) := by decide +kernel
theorem dX11_init_73 : decode cX11_init 73 = .ok (.iconst 0, 1) := by decide +kernel
theorem dX11_init_74 : decode cX11_init 74 = .ok (.putfield 52, 3) := by decide +kernel
theorem dX11_init_77 : decode cX11_init 77 = .ok (.aload_n 0, 1) := by decide +kernel
theorem dX11_init_78 : decode cX11_init 78 = .ok (.iconst 0, 1) := by decide +kernel
theorem dX11_init_79 : decode cX11_init 79 = .ok (.putfield 55, 3) := by decide +kernel
theorem dX11_init_82 : decode cX11_init 82 = .ok (.aload_n 0, 1) := by decide +kernel
theorem dX11_init_83 : decode cX11_init 83 = .ok (.aload_n 1, 1) := by decide +kernel
theorem dX11_init_84 : decode cX11_init 84 = .ok (.putfield 58, 3) := by decide +kernel
theorem dX11_init_87 : decode cX11_init 87 = .ok (.return_, 1) := by decide +kernel
theorem dX13_init_0 : decode cX13_init 0 = .ok (.aload_n 0, 1) := by decide +kernel
theorem dX13_init_1 : decode cX13_init 1 = .ok (.invokespecial 1, 3) := by decide +kernel
theorem dX13_init_4 : decode cX13_init 4 = .ok (.aload_n 0, 1) := by decide +kernel
theorem dX13_init_5 : decode cX13_init 5 = .ok (.new 7, 3) := by decide +kernel
theorem dX13_init_8 : decode cX13_init 8 = .ok (.dup, 1) := by decide +kernel
theorem dX13_init_9 : decode cX13_init 9 = .ok (.invokespecial 9, 3) := by decide +kernel
theorem dX13_init_12 : decode cX13_init 12 = .ok (.putfield 10, 3) := by decide +kernel
theorem dX13_init_15 : decode cX13_init 15 = .ok (.aload_n 0, 1) := by decide +kernel
theorem dX13_init_16 : decode cX13_init 16 = .ok (.new 16, 3) := by decide +kernel
theorem dX13_init_19 : decode cX13_init 19 = .ok (.dup, 1) := by decide +kernel
theorem dX13_init_20 : decode cX13_init 20 = .ok (.aload_n 0, 1) := by decide +kernel
theorem dX13_init_21 : decode cX13_init 21 = .ok (.getfield 10, 3) := by decide +kernel
theorem dX13_init_24 : decode cX13_init 24 = .ok (.invokespecial 18, 3) := by decide +kernel
theorem dX13_init_27 : decode cX13_init 27 = .ok (.putfield 21, 3) := by decide +kernel
theorem dX13_init_30 : decode cX13_init 30 = .ok (.aload_n 0, 1) := by decide +kernel
theorem dX13_init_31 : decode cX13_init 31 = .ok (.new 25, 3) := by decide +kernel
theorem dX13_init_34 : decode cX13_init 34 = .ok (.dup, 1) := by decide +kernel
theorem dX13_init_35 : decode cX13_init 35 = .ok (.aload_n 0, 1) := by decide +kernel
theorem dX13_init_36 : decode cX13_init 36 = .ok (.getfield 10, 3) := by decide +kernel
theorem dX13_init_39 : decode cX13_init 39 = .ok (.invokespecial 27, 3) := by decide +kernel
theorem dX13_init_42 : decode cX13_init 42 = .ok (.putfield 28, 3) := by decide +kernel
theorem dX13_init_45 : decode cX13_init 45 = .ok (.aload_n 0, 1) := by decide +kernel
theorem dX13_init_46 : decode cX13_init 46 = .ok (.new 32, 3) := by decide +kernel
theorem dX13_init_49 : decode cX13_init 49 = .ok (.dup, 1) := by decide +kernel
theorem dX13_init_50 : decode cX13_init 50 = .ok (.aload_n 0, 1) := by decide +kernel
theorem dX13_init_51 : decode cX13_init 51 = .ok (.getfield 10, 3) := by decide +kernel
theorem dX13_init_54 : decode cX13_init 54 = .ok (.aload_n 0, 1) := by decide +kernel
theorem dX13_init_55 : decode cX13_init 55 = .ok (.getfield 21, 3) := by decide +kernel
theorem dX13_init_58 : decode cX13_init 58 = .ok (.aload_n 0, 1) := by decide +kernel
theorem dX13_init_59 : decode cX13_init 59 = .ok (.getfield 28, 3) := by decide +kernel
theorem dX13_init_62 : decode cX13_init 62 = .ok (.invokespecial 34, 3) := by decide +kernel
theorem dX13_init_65 : decode cX13_init 65 = .ok (.putfield 37, 3) := by decide +kernel
theorem dX13_init_68 : decode cX13_init 68 = .ok (.aload_n 0, 1) := by decide +kernel
theorem dX13_init_69 : decode cX13_init 69 = .ok (.new 41, 3) := by decide +kernel
theorem dX13_init_72 : decode cX13_init 72 = .ok (.dup, 1) := by decide +kernel
theorem dX13_init_73 : decode cX13_init 73 = .ok (.aload_n 0, 1) := by decide +kernel
theorem dX13_init_74 : decode cX13_init 74 = .ok (.getfield 10, 3) := by decide +kernel
theorem dX13_init_77 : decode cX13_init 77 = .ok (.aload_n 0, 1) := by decide +kernel
theorem dX13_init_78 : decode cX13_init 78 = .ok (.getfield 28, 3) := by decide +kernel
theorem dX13_init_81 : decode cX13_init 81 = .ok (.invokespecial 43, 3) := by decide +kernel
theorem dX13_init_84 : decode cX13_init 84 = .ok (.putfield 46, 3) := by decide +kernel
theorem dX13_init_87 : decode cX13_init 87 = .ok (.aload_n 0, 1) := by decide +kernel
theorem dX13_init_88 : decode cX13_init 88 = .ok (.new 50, 3) := by decide +kernel
theorem dX13_init_91 : decode cX13_init 91 = .ok (.dup, 1) := by decide +kernel
theorem dX13_init_92 : decode cX13_init 92 = .ok (.aload_n 0, 1) := by decide +kernel
theorem dX13_init_93 : decode cX13_init 93 = .ok (.getfield 10, 3) := by decide +kernel
theorem dX13_init_96 : decode cX13_init 96 = .ok (.aload_n 0, 1) := by decide +kernel
theorem dX13_init_97 : decode cX13_init 97 = .ok (.getfield 28, 3) := by decide +kernel
theorem dX13_init_100 : decode cX13_init 100 = .ok (.aload_n 0, 1) := by decide +kernel
theorem dX13_init_101 : decode cX13_init 101 = .ok (.getfield 46, 3) := by decide +kernel
theorem dX13_init_104 : decode cX13_init 104 = .ok (.invokespecial 52, 3) := by decide +kernel
theorem dX13_init_107 : decode cX13_init 107 = .ok (.putfield 55, 3) := by decide +kernel
theorem dX13_init_110 : decode cX13_init 110 = .ok (.aload_n 0, 1) := by decide +kernel
theorem dX13_init_111 : decode cX13_init 111 = .ok (.new 59, 3) := by decide +kernel
theorem dX13_init_114 : decode cX13_init 114 = .ok (.dup, 1) := by decide +kernel
theorem dX13_init_115 : decode cX13_init 115 = .ok (.aload_n 0, 1) := by decide +kernel
theorem dX13_init_116 : decode cX13_init 116 = .ok (.getfield 10, 3) := by decide +kernel
theorem dX13_init_119 : decode cX13_init 119 = .ok (.aload_n 0, 1) := by decide +kernel
theorem dX13_init_120 : decode cX13_init 120 = .ok (.getfield 28, 3) := by decide +kernel
theorem dX13_init_123 : decode cX13_init 123 = .ok (.invokespecial 61, 3) := by decide +kernel
theorem dX13_init_126 : decode cX13_init 126 = .ok (.putfield 62, 3) := by decide +kernel
theorem dX13_init_129 : decode cX13_init 129 = .ok (.aload_n 0, 1) := by decide +kernel
theorem dX13_init_130 : decode cX13_init 130 = .ok (.sipush 6000, 3) := by decide +kernel
theorem dX13_init_133 : decode cX13_init 133 = .ok (.newarray .int, 2) := by decide +kernel
theorem dX13_init_135 : decode cX13_init 135 = .ok (.putfield 66, 3) := by decide +kernel
theorem dX13_init_138 : decode cX13_init 138 = .ok (.aload_n 0, 1) := by decide +kernel
theorem dX13_init_139 : decode cX13_init 139 = .ok (.iconst 0, 1) := by decide +kernel
theorem dX13_init_140 : decode cX13_init 140 = .ok (.putfield 70, 3) := by decide +kernel
theorem dX13_init_143 : decode cX13_init 143 = .ok (.aload_n 0, 1) := by decide +kernel
theorem dX13_init_144 : decode cX13_init 144 = .ok (.iconst 0, 1) := by decide +kernel
theorem dX13_init_145 : decode cX13_init 145 = .ok (.putfield 74, 3) := by decide +kernel
theorem dX13_init_148 : decode cX13_init 148 = .ok (.aload_n 0, 1) := by decide +kernel
theorem dX13_init_149 : decode cX13_init 149 = .ok (.iconst 4, 1) := by decide +kernel
theorem dX13_init_150 : decode cX13_init 150 = .ok (.anewarray 77, 3) := by decide +kernel
theorem dX13_init_153 : decode cX13_init 153 = .ok (.putfield 79, 3) := by decide +kernel
theorem dX13_init_156 : decode cX13_init 156 = .ok (.aload_n 0, 1) := by decide +kernel
theorem dX13_init_157 : decode cX13_init 157 = .ok (.iconst 0, 1) := by decide +kernel
theorem dX13_init_158 : decode cX13_init 158 = .ok (.putfield 83, 3) := by decide +kernel
theorem dX13_init_161 : decode cX13_init 161 = .ok (.aload_n 0, 1) := by decide +kernel
theorem dX13_init_162 : decode cX13_init 162 = .ok (.aconst_null, 1) := by decide +kernel
theorem dX13_init_163 : decode cX13_init 163 = .ok (.putfield 86, 3) := by decide +kernel
theorem dX13_init_166 : decode cX13_init 166 = .ok (.aload_n 0, 1) := by decide +kernel
theorem dX13_init_167 : decode cX13_init 167 = .ok (.iconst 4, 1) := by decide +kernel
theorem dX13_init_168 : decode cX13_init 168 = .ok (.anewarray 90, 3) := by decide +kernel
theorem dX13_init_171 : decode cX13_init 171 = .ok (.putfield 92, 3) := by decide +kernel
theorem dX13_init_174 : decode cX13_init 174 = .ok (.aload_n 0, 1) := by decide +kernel
theorem dX13_init_175 : decode cX13_init 175 = .ok (.iconst 3, 1) := by decide +kernel
theorem dX13_init_176 : decode cX13_init 176 = .ok (.newarray .int, 2) := by decide +kernel
theorem dX13_init_178 : decode cX13_init 178 = .ok (.dup, 1) := by decide +kernel
theorem dX13_init_179 : decode cX13_init 179 = .ok (.iconst 0, 1) := by decide +kernel
theorem dX13_init_180 : decode cX13_init 180 = .ok (.iconst 0, 1) := by decide +kernel
theorem dX13_init_181 : decode cX13_init 181 = .ok (.iastore, 1) := by decide +kernel
theorem dX13_init_182 : decode cX13_init 182 = .ok (.dup, 1) := by decide +kernel
theorem dX13_init_183 : decode cX13_init 183 = .ok (.iconst 1, 1) := by decide +kernel
theorem dX13_init_184 : decode cX13_init 184 = .ok (.iconst (-1), 1) := by decide +kernel
theorem dX13_init_185 : decode cX13_init 185 = .ok (.iastore, 1) := by decide +kernel
theorem dX13_init_186 : decode cX13_init 186 = .ok (.dup, 1) := by decide +kernel
theorem dX13_init_187 : decode cX13_init 187 = .ok (.iconst 2, 1) := by decide +kernel
theorem dX13_init_188 : decode cX13_init 188 = .ok (.iconst (-1), 1) := by decide +kernel
theorem dX13_init_189 : decode cX13_init 189 = .ok (.iastore, 1) := by decide +kernel
theorem dX13_init_190 : decode cX13_init 190 = .ok (.putfield 96, 3) := by decide +kernel
theorem dX13_init_193 : decode cX13_init 193 = .ok (.aload_n 0, 1) := by decide +kernel
theorem dX13_init_194 : decode cX13_init 194 = .ok (.iconst 0, 1) := by decide +kernel
theorem dX13_init_195 : decode cX13_init 195 = .ok (.putfield 99, 3) := by decide +kernel
theorem dX13_init_198 : decode cX13_init 198 = .ok (.aload_n 0, 1) := by decide +kernel
theorem dX13_init_199 : decode cX13_init 199 = .ok (.iconst 0, 1) := by decide +kernel
theorem dX13_init_200 : decode cX13_init 200 = .ok (.putfield 102, 3) := by decide +kernel
theorem dX13_init_203 : decode cX13_init 203 = .ok (.aload_n 0, 1) := by decide +kernel
theorem dX13_init_204 : decode cX13_init 204 = .ok (.iconst 0, 1) := by decide +kernel
theorem dX13_init_205 : decode cX13_init 205 = .ok (.putfield 105, 3) := by decide +kernel
theorem dX13_init_208 : decode cX13_init 208 = .ok (.aload_n 0, 1) := by decide +kernel
theorem dX13_init_209 : decode cX13_init 209 = .ok (.sipush 12500, 3) := by decide +kernel
theorem dX13_init_212 : decode cX13_init 212 = .ok (.newarray .long, 2) := by decide +kernel
theorem dX13_init_214 : decode cX13_init 214 = .ok (.putfield 108, 3) := by decide +kernel
theorem dX13_init_217 : decode cX13_init 217 = .ok (.aload_n 0, 1) := by decide +kernel
theorem dX13_init_218 : decode cX13_init 218 = .ok (.iconst 0, 1) := by decide +kernel
theorem dX13_init_219 : decode cX13_init 219 = .ok (.putfield 112, 3) := by decide +kernel
theorem dX13_init_222 : decode cX13_init 222 = .ok (.new 115, 3) := by decide +kernel
theorem dX13_init_225 : decode cX13_init 225 = .ok (.dup, 1) := by decide +kernel
theorem dX13_init_226 : decode cX13_init 226 = .ok (.aload_n 0, 1) := by decide +kernel
theorem dX13_init_227 : decode cX13_init 227 = .ok (.getfield 10, 3) := by decide +kernel
theorem dX13_init_230 : decode cX13_init 230 = .ok (.aload_n 0, 1) := by decide +kernel
theorem dX13_init_231 : decode cX13_init 231 = .ok (.getfield 21, 3) := by decide +kernel
theorem dX13_init_234 : decode cX13_init 234 = .ok (.aload_n 0, 1) := by decide +kernel
theorem dX13_init_235 : decode cX13_init 235 = .ok (.getfield 28, 3) := by decide +kernel
theorem dX13_init_238 : decode cX13_init 238 = .ok (.invokespecial 117, 3) := by decide +kernel
theorem dX13_init_241 : decode cX13_init 241 = .ok (.astore_n 1, 1) := by decide +kernel
theorem dX13_init_242 : decode cX13_init 242 = .ok (.aload_n 0, 1) := by decide +kernel
theorem dX13_init_243 : decode cX13_init 243 = .ok (.new 118, 3) := by decide +kernel
theorem dX13_init_246 : decode cX13_init 246 = .ok (.dup, 1) := by decide +kernel
theorem dX13_init_247 : decode cX13_init 247 = .ok (.aload_n 0, 1) := by decide +kernel
theorem dX13_init_248 : decode cX13_init 248 = .ok (.getfield 10, 3) := by decide +kernel
theorem dX13_init_251 : decode cX13_init 251 = .ok (.aload_n 0, 1) := by decide +kernel
theorem dX13_init_252 : decode cX13_init 252 = .ok (.getfield 62, 3) := by decide +kernel
theorem dX13_init_255 : decode cX13_init 255 = .ok (.new 120, 3) := by decide +kernel
theorem dX13_init_258 : decode cX13_init 258 = .ok (.dup, 1) := by decide +kernel
theorem dX13_init_259 : decode cX13_init 259 = .ok (.aload_n 0, 1) := by decide +kernel
theorem dX13_init_260 : decode cX13_init 260 = .ok (.getfield 10, 3) := by decide +kernel
theorem dX13_init_263 : decode cX13_init 263 = .ok (.aload_n 0, 1) := by decide +kernel
theorem dX13_init_264 : decode cX13_init 264 = .ok (.getfield 21, 3) := by decide +kernel
theorem dX13_init_267 : decode cX13_init 267 = .ok (.aload_n 0, 1) := by decide +kernel
theorem dX13_init_268 : decode cX13_init 268 = .ok (.getfield 28, 3) := by decide +kernel
theorem dX13_init_271 : decode cX13_init 271 = .ok (.aload_n 1, 1) := by decide +kernel
theorem dX13_init_272 : decode cX13_init 272 = .ok (.invokespecial 122, 3) := by decide +kernel
theorem dX13_init_275 : decode cX13_init 275 = .ok (.invokespecial 125, 3) := by decide +kernel
theorem dX13_init_278 : decode cX13_init 278 = .ok (.putfield 128, 3) := by decide +kernel
theorem dX13_init_281 : decode cX13_init 281 = .ok (.aload_n 0, 1) := by decide +kernel
theorem dX13_init_282 : decode cX13_init 282 = .ok (.aload_n 0, 1) := by decide +kernel
theorem dX13_init_283 : decode cX13_init 283 = .ok (.getfield 10, 3) := by decide +kernel
theorem dX13_init_286 : decode cX13_init 286 = .ok (.iconst 0, 1) := by decide +kernel
theorem dX13_init_287 : decode cX13_init 287 = .ok (.aload_n 0, 1) := by decide +kernel
theorem dX13_init_288 : decode cX13_init 288 = .ok (.getfield 10, 3) := by decide +kernel
theorem dX13_init_291 : decode cX13_init 291 = .ok (.bipush 6, 2) := by decide +kernel
theorem dX13_init_293 : decode cX13_init 293 = .ok (.iconst 0, 1) := by decide +kernel
theorem dX13_init_294 : decode cX13_init 294 = .ok (.iconst 1, 1) := by decide +kernel
theorem dX13_init_295 : decode cX13_init 295 = .ok (.invokevirtual 132, 3) := by decide +kernel
theorem dX13_init_298 : decode cX13_init 298 = .ok (.invokevirtual 136, 3) := by decide +kernel
theorem dX13_init_301 : decode cX13_init 301 = .ok (.putfield 140, 3) := by decide +kernel
theorem dX13_init_304 : decode cX13_init 304 = .ok (.aload_n 0, 1) := by decide +kernel
theorem dX13_init_305 : decode cX13_init 305 = .ok (.getfield 10, 3) := by decide +kernel
theorem dX13_init_308 : decode cX13_init 308 = .ok (.ldc 143, 2) := by decide +kernel
theorem dX13_init_310 : decode cX13_init 310 = .ok (.invokevirtual 144, 3) := by decide +kernel
theorem dX13_init_313 : decode cX13_init 313 = .ok (.aload_n 0, 1) := by decide +kernel
theorem dX13_init_314 : decode cX13_init 314 = .ok (.aload_n 0, 1) := by decide +kernel
theorem dX13_init_315 : decode cX13_init 315 = .ok (.invokevirtual 148, 3) := by decide +kernel
theorem dX13_init_318 : decode cX13_init 318 = .ok (.putfield 152, 3) := by decide +kernel
theorem dX13_init_321 : decode cX13_init 321 = .ok (.return_, 1) := by decide +kernel
theorem dX13_bundleOfDraft_0 : decode cX13_bundleOfDraft 0 = .ok (.aload_n 0, 1) := by decide +kernel
theorem dX13_bundleOfDraft_1 : decode cX13_bundleOfDraft 1 = .ok (.getfield 86, 3) := by decide +kernel
theorem dX13_bundleOfDraft_4 : decode cX13_bundleOfDraft 4 = .ok (.ifnull 8, 3) := by decide +kernel
theorem dX13_bundleOfDraft_12 : decode cX13_bundleOfDraft 12 = .ok (.aload_n 0, 1) := by decide +kernel
theorem dX13_bundleOfDraft_13 : decode cX13_bundleOfDraft 13 = .ok (.getfield 46, 3) := by decide +kernel
theorem dX13_bundleOfDraft_16 : decode cX13_bundleOfDraft 16 = .ok (.aload_n 0, 1) := by decide +kernel
theorem dX13_bundleOfDraft_17 : decode cX13_bundleOfDraft 17 = .ok (.getfield 79, 3) := by decide +kernel
theorem dX13_bundleOfDraft_20 : decode cX13_bundleOfDraft 20 = .ok (.aload_n 0, 1) := by decide +kernel
theorem dX13_bundleOfDraft_21 : decode cX13_bundleOfDraft 21 = .ok (.getfield 83, 3) := by decide +kernel
theorem dX13_bundleOfDraft_24 : decode cX13_bundleOfDraft 24 = .ok (.invokevirtual 172, 3) := by decide +kernel
theorem dX13_bundleOfDraft_27 : decode cX13_bundleOfDraft 27 = .ok (.astore_n 1, 1) := by decide +kernel
theorem dX13_bundleOfDraft_28 : decode cX13_bundleOfDraft 28 = .ok (.aload_n 1, 1) := by decide +kernel
theorem dX13_bundleOfDraft_29 : decode cX13_bundleOfDraft 29 = .ok (.getfield 176, 3) := by decide +kernel
theorem dX13_bundleOfDraft_32 : decode cX13_bundleOfDraft 32 = .ok (.ifCond .ne 11, 3) := by decide +kernel
theorem dX13_bundleOfDraft_35 : decode cX13_bundleOfDraft 35 = .ok (.aload_n 0, 1) := by decide +kernel
theorem dX13_bundleOfDraft_36 : decode cX13_bundleOfDraft 36 = .ok (.getfield 55, 3) := by decide +kernel
theorem dX13_bundleOfDraft_39 : decode cX13_bundleOfDraft 39 = .ok (.aload_n 1, 1) := by decide +kernel
theorem dX13_bundleOfDraft_40 : decode cX13_bundleOfDraft 40 = .ok (.invokevirtual 181, 3) := by decide +kernel
theorem dX13_bundleOfDraft_43 : decode cX13_bundleOfDraft 43 = .ok (.aload_n 1, 1) := by decide +kernel
theorem dX13_bundleOfDraft_44 : decode cX13_bundleOfDraft 44 = .ok (.getfield 176, 3) := by decide +kernel
theorem dX13_bundleOfDraft_47 : decode cX13_bundleOfDraft 47 = .ok (.ifCond .ne 10, 3) := by decide +kernel
theorem dX13_bundleOfDraft_50 : decode cX13_bundleOfDraft 50 = .ok (.aload_n 0, 1) := by decide +kernel
theorem dX13_bundleOfDraft_51 : decode cX13_bundleOfDraft 51 = .ok (.getfield 55, 3) := by decide +kernel
theorem dX13_bundleOfDraft_54 : decode cX13_bundleOfDraft 54 = .ok (.invokevirtual 185, 3) := by decide +kernel
theorem dX13_bundleOfDraft_57 : decode cX13_bundleOfDraft 57 = .ok (.aload_n 0, 1) := by decide +kernel
theorem dX13_bundleOfDraft_58 : decode cX13_bundleOfDraft 58 = .ok (.aload_n 1, 1) := by decide +kernel
theorem dX13_bundleOfDraft_59 : decode cX13_bundleOfDraft 59 = .ok (.putfield 86, 3) := by decide +kernel
theorem dX13_bundleOfDraft_62 : decode cX13_bundleOfDraft 62 = .ok (.aload_n 1, 1) := by decide +kernel
theorem dX13_bundleOfDraft_63 : decode cX13_bundleOfDraft 63 = .ok (.areturn, 1) := by decide +kernel
theorem dJ7_copyOf_59c91_0 : decode cJ7_copyOf_59c91 0 = .ok (.iload_n 1, 1) := by decide +kernel
theorem dJ7_copyOf_59c91_1 : decode cJ7_copyOf_59c91 1 = .ok (.aload_n 0, 1) := by decide +kernel
theorem dJ7_copyOf_59c91_2 : decode cJ7_copyOf_59c91 2 = .ok (.arraylength, 1) := by decide +kernel
theorem dJ7_copyOf_59c91_3 : decode cJ7_copyOf_59c91 3 = .ok (.if_icmp .ne 11, 3) := by decide +kernel
theorem dJ7_copyOf_59c91_6 : decode cJ7_copyOf_59c91 6 = .ok (.aload_n 0, 1) := by decide +kernel
theorem dJ7_copyOf_59c91_7 : decode cJ7_copyOf_59c91 7 = .ok (.invokevirtual 316, 3) := by decide +kernel
theorem dJ7_copyOf_59c91_10 : decode cJ7_copyOf_59c91 10 = .ok (.checkcast 317, 3) := by decide +kernel
theorem dJ7_copyOf_59c91_13 : decode cJ7_copyOf_59c91 13 = .ok (.areturn, 1) := by decide +kernel
theorem dJ7_copyOf_59c91_14 : decode cJ7_copyOf_59c91 14 = .ok (.iload_n 1, 1) := by decide +kernel
theorem dJ7_copyOf_59c91_15 : decode cJ7_copyOf_59c91 15 = .ok (.newarray .int, 2) := by decide +kernel
theorem dJ7_copyOf_59c91_17 : decode cJ7_copyOf_59c91 17 = .ok (.astore_n 2, 1) := by decide +kernel
theorem dJ7_copyOf_59c91_18 : decode cJ7_copyOf_59c91 18 = .ok (.aload_n 0, 1) := by decide +kernel
theorem dJ7_copyOf_59c91_19 : decode cJ7_copyOf_59c91 19 = .ok (.iconst 0, 1) := by decide +kernel
theorem dJ7_copyOf_59c91_20 : decode cJ7_copyOf_59c91 20 = .ok (.aload_n 2, 1) := by decide +kernel
theorem dJ7_copyOf_59c91_21 : decode cJ7_copyOf_59c91 21 = .ok (.iconst 0, 1) := by decide +kernel
theorem dJ7_copyOf_59c91_22 : decode cJ7_copyOf_59c91 22 = .ok (.aload_n 0, 1) := by decide +kernel
theorem dJ7_copyOf_59c91_23 : decode cJ7_copyOf_59c91 23 = .ok (.arraylength, 1) := by decide +kernel
theorem dJ7_copyOf_59c91_24 : decode cJ7_copyOf_59c91 24 = .ok (.iload_n 1, 1) := by decide +kernel
theorem dJ7_copyOf_59c91_25 : decode cJ7_copyOf_59c91 25 = .ok (.invokestatic 304, 3) := by decide +kernel
theorem dJ7_copyOf_59c91_28 : decode cJ7_copyOf_59c91 28 = .ok (.invokestatic 150, 3) := by decide +kernel
theorem dJ7_copyOf_59c91_31 : decode cJ7_copyOf_59c91 31 = .ok (.aload_n 2, 1) := by decide +kernel
theorem dJ7_copyOf_59c91_32 : decode cJ7_copyOf_59c91 32 = .ok (.areturn, 1) := by decide +kernel
