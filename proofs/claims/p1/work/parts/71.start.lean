set_option maxHeartbeats 4000000 in
set_option maxRecDepth 100000 in
theorem whole_start {p : Program} {e : Env} {s : State} {m : MethodId} {below : List Frame} {meth : Method} {c : Code} (l : Launch) (hflags : l.flags = flags0) {b L : Nat} {xs : Nat → Int32} (hL : L ≤ 6) (C0 : lw_At p s m meth c b L xs) : W p l e room_1 s m #[Value.ref b] below meth c s.heap [] 0 0 (lw_Z below #[Value.ref b] s) (entryFrame m ([Value.ref b] : List Value).toArray 7) := by
  obtain ⟨hx, hb, hr, hml, hown, hts, hX, hbl, hlocks, hgv⟩ := id C0
  have hA : ∀ q : Nat, s.heap.size ≤ q → (fun q : Nat => s.heap.size ≤ q) q := fun _ h => h
  have hAn : ∀ q : Nat, q < s.heap.size → ¬ (fun q : Nat => s.heap.size ≤ q) q := fun q h => Nat.not_le.mpr h
  obtain ⟨c0, i0, k0⟩ := u_known (C := RX0) (T := TX0) (N := 9) (n := 9) hts (fun w h => zt_X0 w h) (hts _ (zt_all _ zm_327))
  obtain ⟨c1, i1, k1⟩ := u_known (C := RX1) (T := TX1) (N := 16) (n := 16) hts (fun w h => zt_X1 w h) (hts _ (zt_all _ zm_367))
  obtain ⟨c2, i2, k2⟩ := u_known (C := RX2) (T := TX2) (N := 16) (n := 16) hts (fun w h => zt_X2 w h) (hts _ (zt_all _ zm_281))
  obtain ⟨c3, i3, k3⟩ := u_known (C := RX3) (T := TX3) (N := 15) (n := 15) hts (fun w h => zt_X3 w h) (hts _ (zt_all _ zm_288))
  obtain ⟨c4, i4, k4⟩ := u_known (C := RX4) (T := TX4) (N := 8) (n := 8) hts (fun w h => zt_X4 w h) (hts _ (zt_all _ zm_190))
  obtain ⟨c5, i5, k5⟩ := u_known (C := RX5) (T := TX5) (N := 19) (n := 19) hts (fun w h => zt_X5 w h) (hts _ (zt_all _ zm_324))
  obtain ⟨c6, i6, k6⟩ := u_known (C := RX6) (T := TX6) (N := 16) (n := 16) hts (fun w h => zt_X6 w h) (hts _ (zt_all _ zm_217))
  obtain ⟨c7, i7, k7⟩ := u_known (C := RX7) (T := TX7) (N := 7) (n := 7) hts (fun w h => zt_X7 w h) (hts _ (zt_all _ zm_1231))
  obtain ⟨c8, i8, k8⟩ := u_known (C := RX8) (T := TX8) (N := 15) (n := 15) hts (fun w h => zt_X8 w h) (hts _ (zt_all _ zm_274))
  obtain ⟨c9, i9, k9⟩ := u_known (C := RX9) (T := TX9) (N := 16) (n := 16) hts (fun w h => zt_X9 w h) (hts _ (zt_all _ zm_295))
  obtain ⟨c10, i10, k10⟩ := u_known (C := RX10) (T := TX10) (N := 19) (n := 19) hts (fun w h => zt_X10 w h) (hts _ (zt_all _ zm_318))
  obtain ⟨c11, i11, k11⟩ := u_known (C := RX11) (T := TX11) (N := 15) (n := 15) hts (fun w h => zt_X11 w h) (hts _ (zt_all _ zm_211))
  obtain ⟨c12, i12, k12⟩ := u_known (C := RX12) (T := TX12) (N := 15) (n := 15) hts (fun w h => zt_X12 w h) (hts _ (zt_all _ zm_682))
  obtain ⟨c13, i13, k13⟩ := u_known (C := RX13) (T := TX13) (N := 23) (n := 23) hts (fun w h => zt_X13 w h) (hts _ (zt_all _ zm_187))
  obtain ⟨c14, i14, k14⟩ := u_known (C := RX14) (T := TX14) (N := 6) (n := 6) hts (fun w h => zt_X14 w h) (hts _ (zt_all _ zm_1232))
  obtain ⟨c15, i15, k15⟩ := u_known (C := RX15) (T := TX15) (N := 8) (n := 8) hts (fun w h => zt_X15 w h) (hts _ (zt_all _ zm_528))
  obtain ⟨c16, i16, k16⟩ := u_known (C := RX16) (T := TX16) (N := 243) (n := 243) hts (fun w h => zt_X16 w h) (hts _ (zt_all _ zm_452))
  obtain ⟨dC, dI, hKc⟩ : ∃ (dC : Nat → ClassId) (dI : Nat → Nat → Nat), ∀ (k : Nat) (q : vw_C), vwCl[k]? = some q → u_Kn s q.1 q.2.1 q.2.2 (dC k) (dI k) := by
    refine ⟨fun k => [c0, c1, c2, c3, c4, c5, c6, c7, c8, c9, c10, c11, c12, c13, c14, c15, c16].getD k c0, fun k => [i0, i1, i2, i3, i4, i5, i6, i7, i8, i9, i10, i11, i12, i13, i14, i15, i16].getD k i0, ?_⟩
    intro k q hq
    match k, hq with
    | 0, hq => cases hq; exact k0
    | 1, hq => cases hq; exact k1
    | 2, hq => cases hq; exact k2
    | 3, hq => cases hq; exact k3
    | 4, hq => cases hq; exact k4
    | 5, hq => cases hq; exact k5
    | 6, hq => cases hq; exact k6
    | 7, hq => cases hq; exact k7
    | 8, hq => cases hq; exact k8
    | 9, hq => cases hq; exact k9
    | 10, hq => cases hq; exact k10
    | 11, hq => cases hq; exact k11
    | 12, hq => cases hq; exact k12
    | 13, hq => cases hq; exact k13
    | 14, hq => cases hq; exact k14
    | 15, hq => cases hq; exact k15
    | 16, hq => cases hq; exact k16
    | k + 17, hq => simp [vwCl] at hq
  obtain ⟨a0, ha0⟩ := zA_prim (ty := .byte) (fun C h => by cases h) (hts _ (zt_all _ zm_455))
  obtain ⟨a1, ha1⟩ := zA_prim (ty := .int) (fun C h => by cases h) (hts _ (zt_all _ zm_9))
  obtain ⟨a2, ha2⟩ := zA_prim (ty := .long) (fun C h => by cases h) (hts _ (zt_all _ zm_314))
  obtain ⟨a3, ha3⟩ := zA_prim (ty := .boolean) (fun C h => by cases h) (hts _ (zt_all _ zm_521))
  obtain ⟨a4, ha4⟩ := zA_obj (C := "PolicyHouse$Query") (hts (.arrayOver (.object "PolicyHouse$Query")) (List.mem_of_getElem? (i := 1026) (by decide +kernel)))
  obtain ⟨a5, ha5⟩ := zA_obj (C := "PolicyHouse$Tree") (hts (.arrayOver (.object "PolicyHouse$Tree")) (List.mem_of_getElem? (i := 1024) (by decide +kernel)))
  obtain ⟨a6, ha6⟩ := zA_obj (C := "PolicyHouseModel$Values") (hts (.arrayOver (.object "PolicyHouseModel$Values")) (List.mem_of_getElem? (i := 3571) (by decide +kernel)))
  obtain ⟨cA, hKa⟩ : ∃ cA : Nat → ClassId, ∀ (k : Nat) (q : ClassId × FieldType), (zT cA)[k]? = some q → ArrOfT s q.1 q.2 ∧ va_RA s q.1 q.2 := by
    refine ⟨fun k => [a0, a1, a2, a3, a4, a5, a6].getD k a0, ?_⟩
    intro k q hq
    match k, hq with
    | 0, hq => cases hq; exact ha0
    | 1, hq => cases hq; exact ha1
    | 2, hq => cases hq; exact ha2
    | 3, hq => cases hq; exact ha3
    | 4, hq => cases hq; exact ha4
    | 5, hq => cases hq; exact ha5
    | 6, hq => cases hq; exact ha6
    | k + 7, hq => simp [zT] at hq
  have hp : ∀ w ∈ zPr, w.before #[Value.ref b] s = true := flat_of_before _ hgv
  obtain ⟨K0, V0, e0, s01, s02, s03, s04, v0, l0⟩ := zStr1 (A := fun q : Nat => s.heap.size ≤ q) (tm := .string "PolicyHouse$Names" 48) (len := zLn.getD 0 0) (byt := zBy.getD 0 []) (by decide) (fun w h => hp w (zSr0 w h)) hAn
  obtain ⟨K1, V1, e1, s11, s12, s13, s14, v1, l1⟩ := zStr1 (A := fun q : Nat => s.heap.size ≤ q) (tm := .string "PolicyHouse$Names" 70) (len := zLn.getD 1 0) (byt := zBy.getD 1 []) (by decide) (fun w h => hp w (zSr1 w h)) hAn
  obtain ⟨K2, V2, e2, s21, s22, s23, s24, v2, l2⟩ := zStr1 (A := fun q : Nat => s.heap.size ≤ q) (tm := .string "PolicyHouse$Builtins" 43) (len := zLn.getD 2 0) (byt := zBy.getD 2 []) (by decide) (fun w h => hp w (zSr2 w h)) hAn
  obtain ⟨K3, V3, e3, s31, s32, s33, s34, v3, l3⟩ := zStr1 (A := fun q : Nat => s.heap.size ≤ q) (tm := .string "PolicyHouseModel" 528) (len := zLn.getD 3 0) (byt := zBy.getD 3 []) (by decide) (fun w h => hp w (zSr3 w h)) hAn
  obtain ⟨K4, V4, e4, s41, s42, s43, s44, v4, l4⟩ := zStr1 (A := fun q : Nat => s.heap.size ≤ q) (tm := .string "PolicyHouseModel" 534) (len := zLn.getD 4 0) (byt := zBy.getD 4 []) (by decide) (fun w h => hp w (zSr4 w h)) hAn
  obtain ⟨K5, V5, e5, s51, s52, s53, s54, v5, l5⟩ := zStr1 (A := fun q : Nat => s.heap.size ≤ q) (tm := .string "PolicyHouseModel" 536) (len := zLn.getD 5 0) (byt := zBy.getD 5 []) (by decide) (fun w h => hp w (zSr5 w h)) hAn
  obtain ⟨K6, V6, e6, s61, s62, s63, s64, v6, l6⟩ := zStr1 (A := fun q : Nat => s.heap.size ≤ q) (tm := .string "PolicyHouseModel" 538) (len := zLn.getD 6 0) (byt := zBy.getD 6 []) (by decide) (fun w h => hp w (zSr6 w h)) hAn
  obtain ⟨K7, V7, e7, s71, s72, s73, s74, v7, l7⟩ := zStr1 (A := fun q : Nat => s.heap.size ≤ q) (tm := .string "PolicyHouse" 369) (len := zLn.getD 7 0) (byt := zBy.getD 7 []) (by decide) (fun w h => hp w (zSr7 w h)) hAn
  have hinj : ∀ i j : Nat, i < 8 → j < 8 → (fun k => [K0, K1, K2, K3, K4, K5, K6, K7].getD k 0) i = (fun k => [K0, K1, K2, K3, K4, K5, K6, K7].getD k 0) j → i = j := by
    intro i j hi hj e
    rcases (show i = 0 ∨ i = 1 ∨ i = 2 ∨ i = 3 ∨ i = 4 ∨ i = 5 ∨ i = 6 ∨ i = 7 by omega) with rfl | rfl | rfl | rfl | rfl | rfl | rfl | rfl
    · rcases (show j = 0 ∨ j = 1 ∨ j = 2 ∨ j = 3 ∨ j = 4 ∨ j = 5 ∨ j = 6 ∨ j = 7 by omega) with rfl | rfl | rfl | rfl | rfl | rfl | rfl | rfl
      · exact rfl
      · exact (zStr_ne ((show K0 = K1 from e) ▸ s03) s04 s13 s14 (by decide)).elim
      · exact (zStr_ne ((show K0 = K2 from e) ▸ s03) s04 s23 s24 (by decide)).elim
      · exact (zStr_ne ((show K0 = K3 from e) ▸ s03) s04 s33 s34 (by decide)).elim
      · exact (zStr_ne ((show K0 = K4 from e) ▸ s03) s04 s43 s44 (by decide)).elim
      · exact (zStr_ne ((show K0 = K5 from e) ▸ s03) s04 s53 s54 (by decide)).elim
      · exact (zStr_ne ((show K0 = K6 from e) ▸ s03) s04 s63 s64 (by decide)).elim
      · exact (zStr_ne ((show K0 = K7 from e) ▸ s03) s04 s73 s74 (by decide)).elim
    · rcases (show j = 0 ∨ j = 1 ∨ j = 2 ∨ j = 3 ∨ j = 4 ∨ j = 5 ∨ j = 6 ∨ j = 7 by omega) with rfl | rfl | rfl | rfl | rfl | rfl | rfl | rfl
      · exact (zStr_ne ((show K1 = K0 from e) ▸ s13) s14 s03 s04 (by decide)).elim
      · exact rfl
      · exact (zStr_ne ((show K1 = K2 from e) ▸ s13) s14 s23 s24 (by decide)).elim
      · exact (zStr_ne ((show K1 = K3 from e) ▸ s13) s14 s33 s34 (by decide)).elim
      · exact (zStr_ne ((show K1 = K4 from e) ▸ s13) s14 s43 s44 (by decide)).elim
      · exact (zStr_ne ((show K1 = K5 from e) ▸ s13) s14 s53 s54 (by decide)).elim
      · exact (zStr_ne ((show K1 = K6 from e) ▸ s13) s14 s63 s64 (by decide)).elim
      · exact (zStr_ne ((show K1 = K7 from e) ▸ s13) s14 s73 s74 (by decide)).elim
    · rcases (show j = 0 ∨ j = 1 ∨ j = 2 ∨ j = 3 ∨ j = 4 ∨ j = 5 ∨ j = 6 ∨ j = 7 by omega) with rfl | rfl | rfl | rfl | rfl | rfl | rfl | rfl
      · exact (zStr_ne ((show K2 = K0 from e) ▸ s23) s24 s03 s04 (by decide)).elim
      · exact (zStr_ne ((show K2 = K1 from e) ▸ s23) s24 s13 s14 (by decide)).elim
      · exact rfl
      · exact (zStr_ne ((show K2 = K3 from e) ▸ s23) s24 s33 s34 (by decide)).elim
      · exact (zStr_ne ((show K2 = K4 from e) ▸ s23) s24 s43 s44 (by decide)).elim
      · exact (zStr_ne ((show K2 = K5 from e) ▸ s23) s24 s53 s54 (by decide)).elim
      · exact (zStr_ne ((show K2 = K6 from e) ▸ s23) s24 s63 s64 (by decide)).elim
      · exact (zStr_ne ((show K2 = K7 from e) ▸ s23) s24 s73 s74 (by decide)).elim
    · rcases (show j = 0 ∨ j = 1 ∨ j = 2 ∨ j = 3 ∨ j = 4 ∨ j = 5 ∨ j = 6 ∨ j = 7 by omega) with rfl | rfl | rfl | rfl | rfl | rfl | rfl | rfl
      · exact (zStr_ne ((show K3 = K0 from e) ▸ s33) s34 s03 s04 (by decide)).elim
      · exact (zStr_ne ((show K3 = K1 from e) ▸ s33) s34 s13 s14 (by decide)).elim
      · exact (zStr_ne ((show K3 = K2 from e) ▸ s33) s34 s23 s24 (by decide)).elim
      · exact rfl
      · exact (zStr_ne ((show K3 = K4 from e) ▸ s33) s34 s43 s44 (by decide)).elim
      · exact (zStr_ne ((show K3 = K5 from e) ▸ s33) s34 s53 s54 (by decide)).elim
      · exact (zStr_ne ((show K3 = K6 from e) ▸ s33) s34 s63 s64 (by decide)).elim
      · exact (zStr_ne ((show K3 = K7 from e) ▸ s33) s34 s73 s74 (by decide)).elim
    · rcases (show j = 0 ∨ j = 1 ∨ j = 2 ∨ j = 3 ∨ j = 4 ∨ j = 5 ∨ j = 6 ∨ j = 7 by omega) with rfl | rfl | rfl | rfl | rfl | rfl | rfl | rfl
      · exact (zStr_ne ((show K4 = K0 from e) ▸ s43) s44 s03 s04 (by decide)).elim
      · exact (zStr_ne ((show K4 = K1 from e) ▸ s43) s44 s13 s14 (by decide)).elim
      · exact (zStr_ne ((show K4 = K2 from e) ▸ s43) s44 s23 s24 (by decide)).elim
      · exact (zStr_ne ((show K4 = K3 from e) ▸ s43) s44 s33 s34 (by decide)).elim
      · exact rfl
      · exact (zStr_ne ((show K4 = K5 from e) ▸ s43) s44 s53 s54 (by decide)).elim
      · exact (zStr_ne ((show K4 = K6 from e) ▸ s43) s44 s63 s64 (by decide)).elim
      · exact (zStr_ne ((show K4 = K7 from e) ▸ s43) s44 s73 s74 (by decide)).elim
    · rcases (show j = 0 ∨ j = 1 ∨ j = 2 ∨ j = 3 ∨ j = 4 ∨ j = 5 ∨ j = 6 ∨ j = 7 by omega) with rfl | rfl | rfl | rfl | rfl | rfl | rfl | rfl
      · exact (zStr_ne ((show K5 = K0 from e) ▸ s53) s54 s03 s04 (by decide)).elim
      · exact (zStr_ne ((show K5 = K1 from e) ▸ s53) s54 s13 s14 (by decide)).elim
      · exact (zStr_ne ((show K5 = K2 from e) ▸ s53) s54 s23 s24 (by decide)).elim
      · exact (zStr_ne ((show K5 = K3 from e) ▸ s53) s54 s33 s34 (by decide)).elim
      · exact (zStr_ne ((show K5 = K4 from e) ▸ s53) s54 s43 s44 (by decide)).elim
      · exact rfl
      · exact (zStr_ne ((show K5 = K6 from e) ▸ s53) s54 s63 s64 (by decide)).elim
      · exact (zStr_ne ((show K5 = K7 from e) ▸ s53) s54 s73 s74 (by decide)).elim
    · rcases (show j = 0 ∨ j = 1 ∨ j = 2 ∨ j = 3 ∨ j = 4 ∨ j = 5 ∨ j = 6 ∨ j = 7 by omega) with rfl | rfl | rfl | rfl | rfl | rfl | rfl | rfl
      · exact (zStr_ne ((show K6 = K0 from e) ▸ s63) s64 s03 s04 (by decide)).elim
      · exact (zStr_ne ((show K6 = K1 from e) ▸ s63) s64 s13 s14 (by decide)).elim
      · exact (zStr_ne ((show K6 = K2 from e) ▸ s63) s64 s23 s24 (by decide)).elim
      · exact (zStr_ne ((show K6 = K3 from e) ▸ s63) s64 s33 s34 (by decide)).elim
      · exact (zStr_ne ((show K6 = K4 from e) ▸ s63) s64 s43 s44 (by decide)).elim
      · exact (zStr_ne ((show K6 = K5 from e) ▸ s63) s64 s53 s54 (by decide)).elim
      · exact rfl
      · exact (zStr_ne ((show K6 = K7 from e) ▸ s63) s64 s73 s74 (by decide)).elim
    · rcases (show j = 0 ∨ j = 1 ∨ j = 2 ∨ j = 3 ∨ j = 4 ∨ j = 5 ∨ j = 6 ∨ j = 7 by omega) with rfl | rfl | rfl | rfl | rfl | rfl | rfl | rfl
      · exact (zStr_ne ((show K7 = K0 from e) ▸ s73) s74 s03 s04 (by decide)).elim
      · exact (zStr_ne ((show K7 = K1 from e) ▸ s73) s74 s13 s14 (by decide)).elim
      · exact (zStr_ne ((show K7 = K2 from e) ▸ s73) s74 s23 s24 (by decide)).elim
      · exact (zStr_ne ((show K7 = K3 from e) ▸ s73) s74 s33 s34 (by decide)).elim
      · exact (zStr_ne ((show K7 = K4 from e) ▸ s73) s74 s43 s44 (by decide)).elim
      · exact (zStr_ne ((show K7 = K5 from e) ▸ s73) s74 s53 s54 (by decide)).elim
      · exact (zStr_ne ((show K7 = K6 from e) ▸ s73) s74 s63 s64 (by decide)).elim
      · exact rfl
  have hS : vk_S 8 zLn zBy (fun k => [K0, K1, K2, K3, K4, K5, K6, K7].getD k 0) (fun k => [V0, V1, V2, V3, V4, V5, V6, V7].getD k 0) (fun q : Nat => s.heap.size ≤ q) s s.heap := by
    refine ⟨fun i hi => ?_, hinj⟩
    rcases (show i = 0 ∨ i = 1 ∨ i = 2 ∨ i = 3 ∨ i = 4 ∨ i = 5 ∨ i = 6 ∨ i = 7 by omega) with rfl | rfl | rfl | rfl | rfl | rfl | rfl | rfl
    · exact ⟨s01, s02, s03, s04⟩
    · exact ⟨s11, s12, s13, s14⟩
    · exact ⟨s21, s22, s23, s24⟩
    · exact ⟨s31, s32, s33, s34⟩
    · exact ⟨s41, s42, s43, s44⟩
    · exact ⟨s51, s52, s53, s54⟩
    · exact ⟨s61, s62, s63, s64⟩
    · exact ⟨s71, s72, s73, s74⟩
  have hZ : va_Z "java/lang/String" "COMPACT_STRINGS" "Z" (.int 1) (fun q : Nat => s.heap.size ≤ q) s s.heap := va_Zof (hts (.laysStatic "java/lang/String" "COMPACT_STRINGS" "Z") (List.mem_of_getElem? (i := 638) (by decide +kernel))) (hts (.initialized "java/lang/String") (List.mem_of_getElem? (i := 461) (by decide +kernel))) (va_eqt (hp (.eq (.static "java/lang/String" "COMPACT_STRINGS" "Z") (.int 1)) (List.mem_of_getElem? (i := 4) (by decide +kernel)))) hAn
  have hZq : va_Zq "jdk/internal/util/Preconditions" "SIOOBE_FORMATTER" "Ljava/util/function/BiFunction;" (fun q : Nat => s.heap.size ≤ q) s s.heap := va_Zqof (hts (.laysStatic "jdk/internal/util/Preconditions" "SIOOBE_FORMATTER" "Ljava/util/function/BiFunction;") (List.mem_of_getElem? (i := 654) (by decide +kernel))) (hts (.initialized "jdk/internal/util/Preconditions") (List.mem_of_getElem? (i := 463) (by decide +kernel))) (hp (.isRef (.static "jdk/internal/util/Preconditions" "SIOOBE_FORMATTER" "Ljava/util/function/BiFunction;")) (List.mem_of_getElem? (i := 5) (by decide +kernel))) hAn
  have hE : zE b L xs (fun k => [K0, K1, K2, K3, K4, K5, K6, K7].getD k 0) (fun k => [V0, V1, V2, V3, V4, V5, V6, V7].getD k 0) (fun q : Nat => s.heap.size ≤ q) s s.heap := by
    refine ⟨hS, hZ, hZq, vk_R.of (hts (.stringRef "PolicyHouse$Names" 48 "package import as default if contains else some in every not with true false null input data set _ ") (List.mem_of_getElem? (i := 625) (by decide +kernel))) e0, vk_R.of (hts (.stringRef "PolicyHouse$Names" 70 "abs n ceil n floor n round n numbers.range ww count y sum c product c max c min c sort c concat sc strings.includes ss startswith ss endswith ss indexof ss lower s upper s replace sss split ss strings.reverse s substring sww trim ss trim_left ss trim_right ss trim_prefix ss trim_suffix ss trim_space s strings.count ss format_int nw to_number x sprintf sa array.concat aa array.slice aww array.reverse a object.get oxx object.keys o object.remove ox object.filter ox object.union oo json.patch xa union t intersection t is_null x is_boolean x is_number x is_string x is_array x is_object x is_set x type_name x base64.encode s base64.decode s hex.encode s hex.decode s urlquery.encode s urlquery.decode s json.marshal x json.unmarshal s regex.match ss glob.match sxs net.cidr_contains ss semver.is_valid s semver.compare ss units.parse_bytes s time.date w time.clock w time.weekday w time.seconds a walk x ") (List.mem_of_getElem? (i := 700) (by decide +kernel))) e1, vk_R.of (hts (.stringRef "PolicyHouse$Builtins" 43 "op  pathfromvalu") (List.mem_of_getElem? (i := 1101) (by decide +kernel))) e2, vk_R.of (hts (.stringRef "PolicyHouseModel" 528 "_") (List.mem_of_getElem? (i := 4399) (by decide +kernel))) e3, vk_R.of (hts (.stringRef "PolicyHouseModel" 534 "set") (List.mem_of_getElem? (i := 4418) (by decide +kernel))) e4, vk_R.of (hts (.stringRef "PolicyHouseModel" 536 "input") (List.mem_of_getElem? (i := 4419) (by decide +kernel))) e5, vk_R.of (hts (.stringRef "PolicyHouseModel" 538 "data") (List.mem_of_getElem? (i := 4420) (by decide +kernel))) e6, vk_R.of (hts (.stringRef "PolicyHouse" 369 "no such rule") (List.mem_of_getElem? (i := 3478) (by decide +kernel))) e7, va_AO.of (hts (.arrayOver (.object "PolicyHouse$Tree")) (List.mem_of_getElem? (i := 1024) (by decide +kernel))), va_AO.of (hts (.arrayOver (.object "PolicyHouse$Query")) (List.mem_of_getElem? (i := 1026) (by decide +kernel))), va_AO.of (hts (.arrayOver (.object "PolicyHouseModel$Values")) (List.mem_of_getElem? (i := 3571) (by decide +kernel))), va_Nw.of rfl (hts (.castable "[I" "java/lang/Cloneable") (List.mem_of_getElem? (i := 1816) (by decide +kernel))), (vx_Zqof (C := Bundle.tN) (n := "UNASSIGNED_STACK") (d := Bundle.steD) (hts (.laysStatic "java/lang/Throwable" "UNASSIGNED_STACK" "[Ljava/lang/StackTraceElement;") (List.mem_of_getElem? (i := 3465) (by decide +kernel))) (hts (.initialized "java/lang/Throwable") (List.mem_of_getElem? (i := 482) (by decide +kernel))) (hp (.isRef (.static "java/lang/Throwable" "UNASSIGNED_STACK" "[Ljava/lang/StackTraceElement;")) (List.mem_of_getElem? (i := 9) (by decide +kernel))) hAn), (vx_Zqof (C := Bundle.tN) (n := "SUPPRESSED_SENTINEL") (d := Bundle.listD) (hts (.laysStatic "java/lang/Throwable" "SUPPRESSED_SENTINEL" "Ljava/util/List;") (List.mem_of_getElem? (i := 3467) (by decide +kernel))) (hts (.initialized "java/lang/Throwable") (List.mem_of_getElem? (i := 482) (by decide +kernel))) (hp (.isRef (.static "java/lang/Throwable" "SUPPRESSED_SENTINEL" "Ljava/util/List;")) (List.mem_of_getElem? (i := 10) (by decide +kernel))) hAn), (fun w hw => va_Nw.of (zNg_on w hw) (hts w (zt_ng w hw))), ?_⟩
    obtain ⟨scr, h1, h2, h3, h4, h5⟩ := hX
    exact ⟨scr, h1, h2, h3, by omega, by rw [h4], h5, hAn b hbl⟩
  have hst : l.stackTraces = false := by
    unfold Launch.stackTraces
    rw [hflags]
    decide
  have hl := lv_entry ([.ref b]) (n := 7) (Nat.le_of_ble_eq_true rfl)
  rw [lg_entry_eq]
  have hT : ∀ w ∈ zwL_law, w.before #[Value.ref b] s = true := fun w h => (List.mem_cons.mp h).elim (fun e => e ▸ hts _ (zt_all _ zm_1192)) (fun h => hts w (zt_all w h))
  exact zLaw (zE_ok b L xs _ _) l hst (dC, dI) cA _ _ (zE_ss b L xs _ _) hL (zE_scr b L xs _ _) ⟨hx, hb, hml, hown, hT, ⟨hKc, hKa⟩, hA, hlocks, rfl, zE_ok b L xs _ _, hE⟩ hr s.heap [] _ (fun k q h => by simp at h) ⟨fun i j p q h => by simp at h, fun k q h => by simp at h⟩ va_S.rf hl
