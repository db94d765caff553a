set_option maxHeartbeats 4000000 in
set_option maxRecDepth 100000 in
/-- stopOf: the place of the next blank, or the end -/
theorem kX6_stopOf {E : zEn} (hE : zOk E) (l : Launch) (D : va_G) (cA : Nat → ClassId) (N : Nat) (len : List Nat) (byt : List (List Int32)) (K : Nat → Nat) (V : Nat → Nat) (i : Nat) (f : Nat) (hs : zSt E N len byt K V) (hi : i < N) (hf : f < 2 ^ 30) : zMi E l yX6_stopOf wsX6_stopOf ({ frames := 4, cells := 0, slots := 0, locals := 85 }) D vwCl (zT cA) [.ref (K i), .int (nI f)] [] (S := Nat) (fun (r : Int32) (u : Nat) => (r = nI u) ∧ (f ≤ u) ∧ (u ≤ max f (len.getD i 0))) (fun (u : Nat) => []) := by
  refine zz_enteri (cc := cX6_stopOf) (lv := [(0, .ref (K i)), (1, .int (nI f))]) hE 3 (by decide) rfl (Nat.le_of_ble_eq_true rfl) rfl ?_
  intro p e s m args below meth c X hr hin
  refine zz_iload_n X 1 dX6_stopOf_0 rfl rfl ?_
  refine zz_istore_n X [(2, .int (nI f)), (0, .ref (K i)), (1, .int (nI f))] dX6_stopOf_1 rfl (by decide) rfl ?_
  refine zz_ind (α := Nat) (fun a => max f (len.getD i 0) - a) (fun a => f ≤ a ∧ a ≤ max f (len.getD i 0)) (fun a => []) (fun a => [(2, .int (nI a)), (0, .ref (K i)), (1, .int (nI f))]) (fun a => []) (f) (⟨Nat.le_refl _, Nat.le_max_left _ _⟩) rfl rfl rfl ?_
  intro a hI_2 ih_2
  obtain ⟨j, rfl⟩ : ∃ z, z = a := ⟨_, rfl⟩
  refine zz_at (ws' := []) (lv' := [(2, .int (nI j)), (0, .ref (K i)), (1, .int (nI f))]) (st' := []) rfl rfl rfl ?_
  have hL := hs.2.2.2 i hi
  have hj2 : j < 2 ^ 31 := by omega
  refine zz_iload_n X 0 dX6_stopOf_2 rfl rfl ?_
  refine zz_aload_n X 1 dX6_stopOf_3 rfl rfl ?_
  refine zz_callTi X (rest := [.int (nI j)]) (As := []) (kJ0_length hE l D cA N len byt K V i hs hi) 0 gX6_stopOf_J0_length_8abf5 rfl (by decide +kernel) [] [] [] rfl rfl (by decide) rfl (by decide) (by decide) ⟨Nat.le_of_ble_eq_true rfl, Nat.le_of_ble_eq_true rfl⟩ (zz_recvS X hs hi) rfl rfl rfl (Nat.le_of_ble_eq_true rfl) dX6_stopOf_4 (Nat.le_of_ble_eq_true rfl) (Nat.le_of_ble_eq_true rfl) (fun r1 _ hw2 => ?_)
  obtain rfl := hw2
  refine zz_show (ws' := []) rfl ?_
  refine zz_icmp_ge X 26 dX6_stopOf_7 (by decide) (fun hjc => ?_) (fun hjc => ?_)
  · skip
    refine zz_iload_n X 0 dX6_stopOf_26 rfl rfl ?_
    exact zz_iret X hr (j) [] (by decide) rfl rfl (Nat.le_of_ble_eq_true rfl) (Nat.le_of_ble_eq_true rfl) (⟨rfl, hI_2.1, hI_2.2⟩) dX6_stopOf_27
  · skip
    have hjl : j < (len.getD i 0) := Nat.lt_of_not_le (fun h => hjc (nI_le h (by omega)))
    refine zz_aload_n X 1 dX6_stopOf_10 rfl rfl ?_
    refine zz_iload_n X 0 dX6_stopOf_11 rfl rfl ?_
    refine zz_callTi X (rest := []) (As := [.int (nI j)]) (kJ0_charAt hE l D cA N len byt K V i j hs hi hjl) 1 gX6_stopOf_J0_charAt_5068e rfl (by decide +kernel) [] [] [] rfl rfl (by decide) rfl (by decide) (by decide) ⟨Nat.le_of_ble_eq_true rfl, Nat.le_of_ble_eq_true rfl⟩ (zz_recvS X hs hi) rfl rfl rfl (Nat.le_of_ble_eq_true rfl) dX6_stopOf_12 (Nat.le_of_ble_eq_true rfl) (Nat.le_of_ble_eq_true rfl) (fun r3 _ hw4 => ?_)
    obtain rfl := hw4
    refine zz_show (ws' := []) rfl ?_
    refine zz_bipush X 32 dX6_stopOf_15 rfl ?_
    refine zz_icmp_eq X 26 dX6_stopOf_17 (by decide) (fun c17 => ?_) (fun c17 => ?_)
    · skip
      refine zz_iload_n X 0 dX6_stopOf_26 rfl rfl ?_
      exact zz_iret X hr (j) [] (by decide) rfl rfl (Nat.le_of_ble_eq_true rfl) (Nat.le_of_ble_eq_true rfl) (⟨rfl, hI_2.1, hI_2.2⟩) dX6_stopOf_27
    · skip
      refine zz_iinc X 0 ((nI (j + 1))) [(2, .int (nI (j + 1))), (0, .ref (K i)), (1, .int (nI f))] dX6_stopOf_20 rfl (nI_1 j) (by decide) rfl ?_
      refine zz_goto X 2 dX6_stopOf_23 (by decide) ?_
      exact ih_2 (j + 1) (⟨by omega, by omega⟩) (by omega)
