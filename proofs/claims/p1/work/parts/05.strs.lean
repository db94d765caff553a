set_option maxHeartbeats 4000000 in
set_option maxRecDepth 100000 in
/-- String.coder of a constant -/
theorem kJ0_coder {E : zEn} (hE : zOk E) (l : Launch) (D : va_G) (cA : Nat → ClassId) (N : Nat) (len : List Nat) (byt : List (List Int32)) (K : Nat → Nat) (V : Nat → Nat) (i : Nat) (hs : zSt E N len byt K V) (hi : i < N) : zMi E l yJ0_coder_7d493 zwJ0_coder_7d493 ({ frames := 0, cells := 0, slots := 0, locals := 0 }) D vwCl (zT cA) [.ref (K i)] [] (S := Unit) (fun (r : Int32) (u : Unit) => (r = 0)) (fun (u : Unit) => []) := by
  refine zz_enterz (cc := cJ0_coder_7d493) (lv := [(0, .ref (K i))]) hE 1 (by decide) rfl (Nat.le_of_ble_eq_true rfl) rfl ?_
  intro p e s m args below meth c X hr hin
  refine zz_gets X (v := .int 1) hs.2.1 (List.mem_cons_of_mem _ zm_146) dJ0_coder_7d493_0 ?_
  refine zz_if_eq X 13 dJ0_coder_7d493_3 (by decide) (fun h => absurd h (by decide)) (fun _ => ?_)
  refine zz_aload_n X 0 dJ0_coder_7d493_6 rfl rfl ?_
  refine zz_sfld X (v := .int 0) (fun A U H h => ((hs.1 A U H h).1 i hi).2.1) (List.mem_cons_of_mem _ zm_147) dJ0_coder_7d493_7 ?_
  refine zz_goto X 14 dJ0_coder_7d493_10 (by decide) ?_
  exact zz_zret X hr (by decide) (()) [] (by decide) rfl rfl (Nat.le_of_ble_eq_true rfl) (Nat.le_of_ble_eq_true rfl) (rfl) dJ0_coder_7d493_14

set_option maxHeartbeats 4000000 in
set_option maxRecDepth 100000 in
/-- String.isLatin1 of a constant -/
theorem kJ0_isLatin1 {E : zEn} (hE : zOk E) (l : Launch) (D : va_G) (cA : Nat → ClassId) (N : Nat) (len : List Nat) (byt : List (List Int32)) (K : Nat → Nat) (V : Nat → Nat) (i : Nat) (hs : zSt E N len byt K V) (hi : i < N) : zMi E l yJ0_isLatin1_aae02 zwJ0_isLatin1_aae02 ({ frames := 0, cells := 0, slots := 0, locals := 0 }) D vwCl (zT cA) [.ref (K i)] [] (S := Unit) (fun (r : Int32) (u : Unit) => (r = 1)) (fun (u : Unit) => []) := by
  refine zz_enterz (cc := cJ0_isLatin1_aae02) (lv := [(0, .ref (K i))]) hE 1 (by decide) rfl (Nat.le_of_ble_eq_true rfl) rfl ?_
  intro p e s m args below meth c X hr hin
  refine zz_gets X (v := .int 1) hs.2.1 (List.mem_cons_of_mem _ zm_146) dJ0_isLatin1_aae02_0 ?_
  refine zz_if_eq X 17 dJ0_isLatin1_aae02_3 (by decide) (fun h => absurd h (by decide)) (fun _ => ?_)
  refine zz_aload_n X 0 dJ0_isLatin1_aae02_6 rfl rfl ?_
  refine zz_sfld X (v := .int 0) (fun A U H h => ((hs.1 A U H h).1 i hi).2.1) (List.mem_cons_of_mem _ zm_147) dJ0_isLatin1_aae02_7 ?_
  refine zz_if_ne X 17 dJ0_isLatin1_aae02_10 (by decide) (fun h => absurd (by decide) h) (fun _ => ?_)
  refine zz_iconst X 1 dJ0_isLatin1_aae02_13 rfl ?_
  refine zz_goto X 18 dJ0_isLatin1_aae02_14 (by decide) ?_
  exact zz_zret X hr (by decide) (()) [] (by decide) rfl rfl (Nat.le_of_ble_eq_true rfl) (Nat.le_of_ble_eq_true rfl) (rfl) dJ0_isLatin1_aae02_18

set_option maxHeartbeats 4000000 in
set_option maxRecDepth 100000 in
/-- String.length of a constant -/
theorem kJ0_length {E : zEn} (hE : zOk E) (l : Launch) (D : va_G) (cA : Nat → ClassId) (N : Nat) (len : List Nat) (byt : List (List Int32)) (K : Nat → Nat) (V : Nat → Nat) (i : Nat) (hs : zSt E N len byt K V) (hi : i < N) : zMi E l yJ0_length_8abf5 zwJ0_length_8abf5 ({ frames := 1, cells := 0, slots := 0, locals := 20 }) D vwCl (zT cA) [.ref (K i)] [] (S := Unit) (fun (r : Int32) (u : Unit) => (r = (nI (len.getD i 0)))) (fun (u : Unit) => []) := by
  refine zz_enteri (cc := cJ0_length_8abf5) (lv := [(0, .ref (K i))]) hE 1 (by decide) rfl (Nat.le_of_ble_eq_true rfl) rfl ?_
  intro p e s m args below meth c X hr hin
  refine zz_aload_n X 0 dJ0_length_8abf5_0 rfl rfl ?_
  refine zz_sfld X (v := .ref (V i)) (fun A U H h => ((hs.1 A U H h).1 i hi).2.2.1) (List.mem_cons_of_mem _ zm_148) dJ0_length_8abf5_1 ?_
  refine zz_tlen X (fun A U H h => ((hs.1 A U H h).1 i hi).2.2.2) ((nI (len.getD i 0))) rfl dJ0_length_8abf5_4 ?_
  refine zz_aload_n X 0 dJ0_length_8abf5_5 rfl rfl ?_
  refine zz_callTi X (rest := [.int (nI (len.getD i 0))]) (As := []) (kJ0_coder hE l D cA N len byt K V i hs hi) 0 (zgV zm_244 zm_245 zm_246 zm_141 zm_243) rfl (by decide +kernel) [] [] [] rfl rfl (by decide) rfl (by decide) (by decide) ⟨Nat.le_of_ble_eq_true rfl, Nat.le_of_ble_eq_true rfl⟩ (zz_recvS X hs hi) rfl rfl rfl (Nat.le_of_ble_eq_true rfl) dJ0_length_8abf5_6 (Nat.le_of_ble_eq_true rfl) (Nat.le_of_ble_eq_true rfl) (fun r1 _ hw2 => ?_)
  obtain rfl := hw2
  refine zz_show (ws' := []) rfl ?_
  refine zz_ishr X ((nI (len.getD i 0))) dJ0_length_8abf5_9 (sb_shr0 _) ?_
  exact zz_iret X hr (()) [] (by decide) rfl rfl (Nat.le_of_ble_eq_true rfl) (Nat.le_of_ble_eq_true rfl) (rfl) dJ0_length_8abf5_10

set_option maxHeartbeats 4000000 in
set_option maxRecDepth 100000 in
/-- Preconditions.checkIndex, in range -/
theorem kJ3_checkIndex_n {E : zEn} (hE : zOk E) (l : Launch) (D : va_G) (cA : Nat → ClassId) (a : Nat) (b : Nat) (hab : a < b) (hb : b < 2 ^ 31) : zMi E l yJ3_checkIndex_8e157 zwJ3_checkIndex_8e157 ({ frames := 0, cells := 0, slots := 0, locals := 0 }) D vwCl (zT cA) [.int (nI a), .int (nI b), .null] [] (S := Unit) (fun (r : Int32) (u : Unit) => (r = nI a)) (fun (u : Unit) => []) := by
  refine zz_enteri (cc := cJ3_checkIndex_8e157) (lv := [(0, .int (nI a)), (1, .int (nI b)), (2, .null)]) hE 3 (by decide) rfl (Nat.le_of_ble_eq_true rfl) rfl ?_
  intro p e s m args below meth c X hr hin
  refine zz_iload_n X 0 dJ3_checkIndex_8e157_0 rfl rfl ?_
  refine zz_if_lt X 9 dJ3_checkIndex_8e157_1 (by decide) (fun h => absurd h (nI_pos (Nat.lt_trans hab hb))) (fun _ => ?_)
  refine zz_iload_n X 0 dJ3_checkIndex_8e157_4 rfl rfl ?_
  refine zz_iload_n X 1 dJ3_checkIndex_8e157_5 rfl rfl ?_
  refine zz_icmp_lt X 16 dJ3_checkIndex_8e157_6 (by decide) (fun _ => ?_) (fun h => absurd (nI_lt hab hb) h)
  refine zz_iload_n X 0 dJ3_checkIndex_8e157_16 rfl rfl ?_
  exact zz_iret X hr (()) [] (by decide) rfl rfl (Nat.le_of_ble_eq_true rfl) (Nat.le_of_ble_eq_true rfl) (rfl) dJ3_checkIndex_8e157_17

set_option maxHeartbeats 4000000 in
set_option maxRecDepth 100000 in
/-- Preconditions.checkIndex, in range -/
theorem kJ3_checkIndex_r {E : zEn} (hE : zOk E) (l : Launch) (D : va_G) (cA : Nat → ClassId) (a : Nat) (b : Nat) (q : Nat) (hab : a < b) (hb : b < 2 ^ 31) : zMi E l yJ3_checkIndex_8e157 zwJ3_checkIndex_8e157 ({ frames := 0, cells := 0, slots := 0, locals := 0 }) D vwCl (zT cA) [.int (nI a), .int (nI b), .ref q] [] (S := Unit) (fun (r : Int32) (u : Unit) => (r = nI a)) (fun (u : Unit) => []) := by
  refine zz_enteri (cc := cJ3_checkIndex_8e157) (lv := [(0, .int (nI a)), (1, .int (nI b)), (2, .ref q)]) hE 3 (by decide) rfl (Nat.le_of_ble_eq_true rfl) rfl ?_
  intro p e s m args below meth c X hr hin
  refine zz_iload_n X 0 dJ3_checkIndex_8e157_0 rfl rfl ?_
  refine zz_if_lt X 9 dJ3_checkIndex_8e157_1 (by decide) (fun h => absurd h (nI_pos (Nat.lt_trans hab hb))) (fun _ => ?_)
  refine zz_iload_n X 0 dJ3_checkIndex_8e157_4 rfl rfl ?_
  refine zz_iload_n X 1 dJ3_checkIndex_8e157_5 rfl rfl ?_
  refine zz_icmp_lt X 16 dJ3_checkIndex_8e157_6 (by decide) (fun _ => ?_) (fun h => absurd (nI_lt hab hb) h)
  refine zz_iload_n X 0 dJ3_checkIndex_8e157_16 rfl rfl ?_
  exact zz_iret X hr (()) [] (by decide) rfl rfl (Nat.le_of_ble_eq_true rfl) (Nat.le_of_ble_eq_true rfl) (rfl) dJ3_checkIndex_8e157_17

set_option maxHeartbeats 4000000 in
set_option maxRecDepth 100000 in
/-- String.checkIndex, in range -/
theorem kJ0_checkIndex {E : zEn} (hE : zOk E) (l : Launch) (D : va_G) (cA : Nat → ClassId) (N : Nat) (len : List Nat) (byt : List (List Int32)) (K : Nat → Nat) (V : Nat → Nat) (a : Nat) (b : Nat) (hs : zSt E N len byt K V) (hab : a < b) (hb : b < 2 ^ 31) : zMv E l yJ0_checkIndex_df160 zwJ0_checkIndex_df160 ({ frames := 1, cells := 0, slots := 0, locals := 22 }) D vwCl (zT cA) [.int (nI a), .int (nI b)] [] (S := Unit) (fun (u : Unit) => (True)) (fun (u : Unit) => []) := by
  refine zz_enterv (cc := cJ0_checkIndex_df160) (lv := [(0, .int (nI a)), (1, .int (nI b))]) hE 2 (by decide) rfl (Nat.le_of_ble_eq_true rfl) rfl ?_
  intro p e s m args below meth c X hr hin
  refine zz_iload_n X 0 dJ0_checkIndex_df160_0 rfl rfl ?_
  refine zz_iload_n X 1 dJ0_checkIndex_df160_1 rfl rfl ?_
  refine zz_getsq X hs.2.2.1 (List.mem_cons_of_mem _ zm_156) dJ0_checkIndex_df160_2 ?_ (fun t1 => ?_)
  · skip
    refine zz_callSi X (rest := []) (As := [.int (nI a), .int (nI b), .null]) (kJ3_checkIndex_n hE l D cA a b hab hb) 3 (zgS zm_158 zm_159 zm_160 zm_157) rfl (by decide +kernel) [] [] [] rfl rfl (by decide) rfl (by decide) (by decide) ⟨Nat.le_of_ble_eq_true rfl, Nat.le_of_ble_eq_true rfl⟩ rfl rfl rfl (Nat.le_of_ble_eq_true rfl) dJ0_checkIndex_df160_5 (Nat.le_of_ble_eq_true rfl) (Nat.le_of_ble_eq_true rfl) (fun r2 _ hw3 => ?_)
    obtain rfl := hw3
    refine zz_show (ws' := []) rfl ?_
    refine zz_pop X dJ0_checkIndex_df160_8 rfl ?_
    exact zz_vret X hr (()) [] (by decide) rfl rfl (Nat.le_of_ble_eq_true rfl) (Nat.le_of_ble_eq_true rfl) (trivial) dJ0_checkIndex_df160_9
  · skip
    refine zz_callSi X (rest := []) (As := [.int (nI a), .int (nI b), .ref t1]) (kJ3_checkIndex_r hE l D cA a b t1 hab hb) 3 (zgS zm_158 zm_159 zm_160 zm_157) rfl (by decide +kernel) [] [] [] rfl rfl (by decide) rfl (by decide) (by decide) ⟨Nat.le_of_ble_eq_true rfl, Nat.le_of_ble_eq_true rfl⟩ rfl rfl rfl (Nat.le_of_ble_eq_true rfl) dJ0_checkIndex_df160_5 (Nat.le_of_ble_eq_true rfl) (Nat.le_of_ble_eq_true rfl) (fun r4 _ hw5 => ?_)
    obtain rfl := hw5
    refine zz_show (ws' := []) rfl ?_
    refine zz_pop X dJ0_checkIndex_df160_8 rfl ?_
    exact zz_vret X hr (()) [] (by decide) rfl rfl (Nat.le_of_ble_eq_true rfl) (Nat.le_of_ble_eq_true rfl) (trivial) dJ0_checkIndex_df160_9

set_option maxHeartbeats 4000000 in
set_option maxRecDepth 100000 in
/-- StringLatin1.charAt of a constant -/
theorem kJ1_charAt {E : zEn} (hE : zOk E) (l : Launch) (D : va_G) (cA : Nat → ClassId) (N : Nat) (len : List Nat) (byt : List (List Int32)) (K : Nat → Nat) (V : Nat → Nat) (i : Nat) (k : Nat) (hs : zSt E N len byt K V) (hi : i < N) (hk : k < len.getD i 0) : zMi E l yJ1_charAt_3b067 zwJ1_charAt_3b067 ({ frames := 2, cells := 0, slots := 0, locals := 43 }) D vwCl (zT cA) [.ref (V i), .int (nI k)] [] (S := Unit) (fun (r : Int32) (u : Unit) => (r = ((byt.getD i []).getD k 0 &&& 255))) (fun (u : Unit) => []) := by
  refine zz_enterz (cc := cJ1_charAt_3b067) (lv := [(0, .ref (V i)), (1, .int (nI k))]) hE 2 (by decide) rfl (Nat.le_of_ble_eq_true rfl) rfl ?_
  intro p e s m args below meth c X hr hin
  refine zz_iload_n X 1 dJ1_charAt_3b067_0 rfl rfl ?_
  refine zz_aload_n X 0 dJ1_charAt_3b067_1 rfl rfl ?_
  refine zz_tlen X (fun A U H h => ((hs.1 A U H h).1 i hi).2.2.2) ((nI (len.getD i 0))) rfl dJ1_charAt_3b067_2 ?_
  refine zz_callSv X (rest := []) (As := [.int (nI k), .int (nI (len.getD i 0))]) (kJ0_checkIndex hE l D cA N len byt K V k (len.getD i 0) hs hk (zSt_len hs hi)) 2 (zgS zm_154 zm_155 zm_141 zm_153) rfl (by decide +kernel) [] [] [] rfl rfl (by decide) rfl (by decide) (by decide) ⟨Nat.le_of_ble_eq_true rfl, Nat.le_of_ble_eq_true rfl⟩ rfl rfl rfl (Nat.le_of_ble_eq_true rfl) dJ1_charAt_3b067_3 (Nat.le_of_ble_eq_true rfl) (Nat.le_of_ble_eq_true rfl) (fun _ hw1 => ?_)
  refine zz_show (ws' := []) rfl ?_
  refine zz_aload_n X 0 dJ1_charAt_3b067_6 rfl rfl ?_
  refine zz_iload_n X 1 dJ1_charAt_3b067_7 rfl rfl ?_
  refine zz_tb X (fun A U H h => ((hs.1 A U H h).1 i hi).2.2.2) (vp_in_nI hk (zSt_len hs hi)) (.int ((byt.getD i []).getD k 0)) (by rw [nI_clamp (Nat.lt_trans hk (zSt_len hs hi))]) dJ1_charAt_3b067_8 ?_
  refine zz_sipush X 255 dJ1_charAt_3b067_9 rfl ?_
  refine zz_iand X (((byt.getD i []).getD k 0 &&& 255)) dJ1_charAt_3b067_12 rfl ?_
  refine zz_i2c X (((byt.getD i []).getD k 0 &&& 255)) dJ1_charAt_3b067_13 (sc_c2 _) ?_
  exact zz_zret X hr (sc_nar _) (()) [] (by decide) rfl rfl (Nat.le_of_ble_eq_true rfl) (Nat.le_of_ble_eq_true rfl) (rfl) dJ1_charAt_3b067_14

set_option maxHeartbeats 4000000 in
set_option maxRecDepth 100000 in
/-- String.charAt of a constant -/
theorem kJ0_charAt {E : zEn} (hE : zOk E) (l : Launch) (D : va_G) (cA : Nat → ClassId) (N : Nat) (len : List Nat) (byt : List (List Int32)) (K : Nat → Nat) (V : Nat → Nat) (i : Nat) (k : Nat) (hs : zSt E N len byt K V) (hi : i < N) (hk : k < len.getD i 0) : zMi E l yJ0_charAt_5068e zwJ0_charAt_5068e ({ frames := 3, cells := 0, slots := 0, locals := 64 }) D vwCl (zT cA) [.ref (K i), .int (nI k)] [] (S := Unit) (fun (r : Int32) (u : Unit) => (r = ((byt.getD i []).getD k 0 &&& 255))) (fun (u : Unit) => []) := by
  refine zz_enterz (cc := cJ0_charAt_5068e) (lv := [(0, .ref (K i)), (1, .int (nI k))]) hE 2 (by decide) rfl (Nat.le_of_ble_eq_true rfl) rfl ?_
  intro p e s m args below meth c X hr hin
  refine zz_aload_n X 0 dJ0_charAt_5068e_0 rfl rfl ?_
  refine zz_callTi X (rest := []) (As := []) (kJ0_isLatin1 hE l D cA N len byt K V i hs hi) 0 (zgV zm_143 zm_144 zm_145 zm_141 zm_142) rfl (by decide +kernel) [] [] [] rfl rfl (by decide) rfl (by decide) (by decide) ⟨Nat.le_of_ble_eq_true rfl, Nat.le_of_ble_eq_true rfl⟩ (zz_recvS X hs hi) rfl rfl rfl (Nat.le_of_ble_eq_true rfl) dJ0_charAt_5068e_1 (Nat.le_of_ble_eq_true rfl) (Nat.le_of_ble_eq_true rfl) (fun r1 _ hw2 => ?_)
  obtain rfl := hw2
  refine zz_show (ws' := []) rfl ?_
  refine zz_if_eq X 16 dJ0_charAt_5068e_4 (by decide) (fun h => absurd h (by decide)) (fun _ => ?_)
  refine zz_aload_n X 0 dJ0_charAt_5068e_7 rfl rfl ?_
  refine zz_sfld X (v := .ref (V i)) (fun A U H h => ((hs.1 A U H h).1 i hi).2.2.1) (List.mem_cons_of_mem _ zm_148) dJ0_charAt_5068e_8 ?_
  refine zz_iload_n X 1 dJ0_charAt_5068e_11 rfl rfl ?_
  refine zz_callSi X (rest := []) (As := [.ref (V i), .int (nI k)]) (kJ1_charAt hE l D cA N len byt K V i k hs hi hk) 2 (zgS zm_150 zm_151 zm_152 zm_149) rfl (by decide +kernel) [] [] [] rfl rfl (by decide) rfl (by decide) (by decide) ⟨Nat.le_of_ble_eq_true rfl, Nat.le_of_ble_eq_true rfl⟩ rfl rfl rfl (Nat.le_of_ble_eq_true rfl) dJ0_charAt_5068e_12 (Nat.le_of_ble_eq_true rfl) (Nat.le_of_ble_eq_true rfl) (fun r3 _ hw4 => ?_)
  obtain rfl := hw4
  refine zz_show (ws' := []) rfl ?_
  exact zz_zret X hr (sc_nar _) (()) [] (by decide) rfl rfl (Nat.le_of_ble_eq_true rfl) (Nat.le_of_ble_eq_true rfl) (rfl) dJ0_charAt_5068e_15
