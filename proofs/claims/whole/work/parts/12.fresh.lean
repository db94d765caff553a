set_option maxHeartbeats 4000000 in
set_option maxRecDepth 100000 in
/-- kind -/
theorem kX4_kind {E : zEn} (hE : zOk E) (l : Launch) (D : va_G) (cA : Nat → ClassId) (h0 : Nat) (hc : Nat) (ha : Nat) (hz : Nat) (used : Int32) (kept : Int32) (top : Int32) (end_ : Int32) (full : Int32) (fc : Nat → Int32) (h : Nat) (hh : h < 886000) : zMi E l yX4_kind wsX4_kind ({ frames := 0, cells := 0, slots := 0, locals := 0 }) D vwCl (zT cA) [.ref h0, .int (nI h)] [(h0, .inr (4, [.ref hc, .ref ha, .ref hz, .int used, .int kept, .int top, .int end_, .int full])), (hc, .inl (cA 1, 886000, .inl fc))] (S := Unit) (fun (r : Int32) (u : Unit) => (r = fc h &&& 15)) (fun (u : Unit) => [(h0, .inr (4, [.ref hc, .ref ha, .ref hz, .int used, .int kept, .int top, .int end_, .int full])), (hc, .inl (cA 1, 886000, .inl fc))]) := by
  refine zz_enteri (cc := cX4_kind) (lv := [(0, .ref h0), (1, .int (nI h))]) hE 2 (by decide) rfl (Nat.le_of_ble_eq_true rfl) rfl ?_
  intro p e s m args below meth c X hr hin
  refine zz_aload_n X 0 dX4_kind_0 rfl rfl ?_
  refine zz_get X 0 0 rfl rfl (by decide) inX4_kind_X4 rfl (List.mem_of_getElem? (i := 1) rfl) rfl dX4_kind_1 ?_
  refine zz_iload_n X 1 dX4_kind_4 rfl rfl ?_
  refine zz_iald X 1 1 rfl rfl (vp_in_nI hh (by decide)) ((fc h)) (zn_ix (by omega)) dX4_kind_5 ?_
  refine zz_bipush X 15 dX4_kind_6 rfl ?_
  refine zz_iand X (((fc h) &&& 15)) dX4_kind_8 rfl ?_
  exact zz_iret X hr (()) [0, 1] (by decide) rfl rfl (Nat.le_of_ble_eq_true rfl) (Nat.le_of_ble_eq_true rfl) (rfl) dX4_kind_9

set_option maxHeartbeats 4000000 in
set_option maxRecDepth 100000 in
/-- size -/
theorem kX4_size {E : zEn} (hE : zOk E) (l : Launch) (D : va_G) (cA : Nat → ClassId) (h0 : Nat) (hc : Nat) (ha : Nat) (hz : Nat) (used : Int32) (kept : Int32) (top : Int32) (end_ : Int32) (full : Int32) (fc : Nat → Int32) (h : Nat) (hh : h < 886000) : zMi E l yX4_size wsX4_size ({ frames := 0, cells := 0, slots := 0, locals := 0 }) D vwCl (zT cA) [.ref h0, .int (nI h)] [(h0, .inr (4, [.ref hc, .ref ha, .ref hz, .int used, .int kept, .int top, .int end_, .int full])), (hc, .inl (cA 1, 886000, .inl fc))] (S := Unit) (fun (r : Int32) (u : Unit) => (r = zu4 (fc h))) (fun (u : Unit) => [(h0, .inr (4, [.ref hc, .ref ha, .ref hz, .int used, .int kept, .int top, .int end_, .int full])), (hc, .inl (cA 1, 886000, .inl fc))]) := by
  refine zz_enteri (cc := cX4_size) (lv := [(0, .ref h0), (1, .int (nI h))]) hE 2 (by decide) rfl (Nat.le_of_ble_eq_true rfl) rfl ?_
  intro p e s m args below meth c X hr hin
  refine zz_aload_n X 0 dX4_size_0 rfl rfl ?_
  refine zz_get X 0 0 rfl rfl (by decide) inX4_size_X4 rfl (List.mem_of_getElem? (i := 1) rfl) rfl dX4_size_1 ?_
  refine zz_iload_n X 1 dX4_size_4 rfl rfl ?_
  refine zz_iald X 1 1 rfl rfl (vp_in_nI hh (by decide)) ((fc h)) (zn_ix (by omega)) dX4_size_5 ?_
  refine zz_iconst X 4 dX4_size_6 rfl ?_
  refine zz_iushr X ((zu4 (fc h))) dX4_size_7 rfl ?_
  exact zz_iret X hr (()) [0, 1] (by decide) rfl rfl (Nat.le_of_ble_eq_true rfl) (Nat.le_of_ble_eq_true rfl) (rfl) dX4_size_8

set_option maxHeartbeats 4000000 in
set_option maxRecDepth 100000 in
/-- sort of nothing -/
theorem kX4_sort0 {E : zEn} (hE : zOk E) (l : Launch) (D : va_G) (cA : Nat → ClassId) (h0 : Nat) (hc : Nat) (ha : Nat) (hz : Nat) (used : Int32) (kept : Int32) (top : Int32) (end_ : Int32) (full : Int32) (b : Int32) (st : Int32) : zMv E l yX4_sort wsX4_sort ({ frames := 0, cells := 0, slots := 0, locals := 0 }) D vwCl (zT cA) [.ref h0, .int b, .int 0, .int st] [(h0, .inr (4, [.ref hc, .ref ha, .ref hz, .int used, .int kept, .int top, .int end_, .int full]))] (S := Unit) (fun (u : Unit) => (True)) (fun (u : Unit) => [(h0, .inr (4, [.ref hc, .ref ha, .ref hz, .int used, .int kept, .int top, .int end_, .int full]))]) := by
  refine zz_enterv (cc := cX4_sort) (lv := [(0, .ref h0), (1, .int b), (2, .int 0), (3, .int st)]) hE 13 (by decide) rfl (Nat.le_of_ble_eq_true rfl) rfl ?_
  intro p e s m args below meth c X hr hin
  refine zz_iconst X 1 dX4_sort_0 rfl ?_
  refine zz_istore X [(4, .int 1), (0, .ref h0), (1, .int b), (2, .int 0), (3, .int st)] dX4_sort_1 (by decide) rfl ?_
  refine zz_iload X 0 dX4_sort_3 rfl ?_
  refine zz_iload_n X 3 dX4_sort_5 rfl rfl ?_
  refine zz_icmp_ge X 233 dX4_sort_6 (by decide) (fun _ => ?_) (fun h => absurd (by decide) h)
  exact zz_vret X hr (()) [0] (by decide) rfl rfl (Nat.le_of_ble_eq_true rfl) (Nat.le_of_ble_eq_true rfl) (trivial) dX4_sort_233

set_option maxHeartbeats 4000000 in
set_option maxRecDepth 100000 in
/-- made: an empty object -/
theorem kX4_made0 {E : zEn} (hE : zOk E) (l : Launch) (D : va_G) (cA : Nat → ClassId) (h0 : Nat) (hc : Nat) (ha : Nat) (hz : Nat) (kept : Int32) (fc : Nat → Int32) (fa : Nat → Int32) : zMi E l yX4_made wsX4_made ({ frames := 1, cells := 0, slots := 0, locals := 60 }) D vwCl (zT cA) [.ref h0, .int 6, .int 0, .int 1] [(h0, .inr (4, [.ref hc, .ref ha, .ref hz, .int 0, .int kept, .int 258000, .int 820000, .int 0])), (hc, .inl (cA 1, 886000, .inl fc)), (ha, .inl (cA 1, 90000, .inl fa))] (S := Nat → Int32) (fun (r : Int32) (u : Nat → Int32) => (r = 258000) ∧ (u 258000 = 6) ∧ (u 258001 = 65) ∧ (∀ j : Nat, j < 258000 → u j = fc j)) (fun (u : Nat → Int32) => [(h0, .inr (4, [.ref hc, .ref ha, .ref hz, .int 0, .int kept, .int 258002, .int 820000, .int 0])), (hc, .inl (cA 1, 886000, .inl u)), (ha, .inl (cA 1, 90000, .inl fa))]) := by
  refine zz_enteri (cc := cX4_made) (lv := [(0, .ref h0), (1, .int 6), (2, .int 0), (3, .int 1)]) hE 11 (by decide) rfl (Nat.le_of_ble_eq_true rfl) rfl ?_
  intro p e s m args below meth c X hr hin
  refine zz_iload_n X 1 dX4_made_0 rfl rfl ?_
  refine zz_bipush X 6 dX4_made_1 rfl ?_
  refine zz_icmp_ne X 10 dX4_made_3 (by decide) (fun h => absurd (by decide) h) (fun _ => ?_)
  refine zz_iconst X 2 dX4_made_6 rfl ?_
  refine zz_goto X 11 dX4_made_7 (by decide) ?_
  refine zz_istore X [(4, .int 2), (0, .ref h0), (1, .int 6), (2, .int 0), (3, .int 1)] dX4_made_11 (by decide) rfl ?_
  refine zz_aload_n X 1 dX4_made_13 rfl rfl ?_
  refine zz_get X 0 3 rfl rfl (by decide) inX4_made_X4 rfl (List.mem_of_getElem? (i := 1) rfl) rfl dX4_made_14 ?_
  refine zz_iload_n X 3 dX4_made_17 rfl rfl ?_
  refine zz_isub X (0) dX4_made_18 (by decide) ?_
  refine zz_iload X 0 dX4_made_19 rfl ?_
  refine zz_idiv X (0) dX4_made_21 (by decide) (by decide) ?_
  refine zz_istore X [(5, .int 0), (4, .int 2), (0, .ref h0), (1, .int 6), (2, .int 0), (3, .int 1)] dX4_made_22 (by decide) rfl ?_
  refine zz_aload_n X 2 dX4_made_24 rfl rfl ?_
  refine zz_iload_n X 4 dX4_made_25 rfl rfl ?_
  refine zz_put X 0 3 rfl rfl (by decide) inX4_made_X4 rfl (List.mem_of_getElem? (i := 1) rfl) tyX4 tyX4_ok nmX4 rfl (ty := .int) rfl rfl rfl (Nat.le_of_ble_eq_true rfl) dX4_made_26 [(h0, .inr (4, [.ref hc, .ref ha, .ref hz, .int 0, .int kept, .int 258000, .int 820000, .int 0])), (hc, .inl (cA 1, 886000, .inl fc)), (ha, .inl (cA 1, 90000, .inl fa))] rfl ?_
  refine zz_iload_n X 3 dX4_made_29 rfl rfl ?_
  refine zz_iconst X 5 dX4_made_30 rfl ?_
  refine zz_icmp_eq X 218 dX4_made_31 (by decide) (fun h => absurd h (by decide)) (fun _ => ?_)
  refine zz_aload_n X 2 dX4_made_34 rfl rfl ?_
  refine zz_iload_n X 4 dX4_made_35 rfl rfl ?_
  refine zz_iload X 0 dX4_made_36 rfl ?_
  refine zz_iload X 1 dX4_made_38 rfl ?_
  refine zz_callVv X (rest := []) (As := [.int 0, .int 0, .int 2]) (kX4_sort0 hE l D cA h0 hc ha hz 0 kept 258000 820000 0 0 2) 3 gX4_made_X4_sort rfl (by decide +kernel) [0] [1, 2] [(hc, .inl (cA 1, 886000, .inl fc)), (ha, .inl (cA 1, 90000, .inl fa))] rfl rfl (by decide) rfl (by decide) (by decide) ⟨Nat.le_of_ble_eq_true rfl, Nat.le_of_ble_eq_true rfl⟩ 0 rfl rfl rfl rfl rfl (Nat.le_of_ble_eq_true rfl) dX4_made_40 (Nat.le_of_ble_eq_true rfl) (Nat.le_of_ble_eq_true rfl) (fun _ hw1 => ?_)
  refine zz_show (ws' := [(hc, .inl (cA 1, 886000, .inl fc)), (ha, .inl (cA 1, 90000, .inl fa)), (h0, .inr (4, [.ref hc, .ref ha, .ref hz, .int 0, .int kept, .int 258000, .int 820000, .int 0]))]) rfl ?_
  refine zz_iconst X 0 dX4_made_43 rfl ?_
  refine zz_istore X [(6, .int 0), (5, .int 0), (4, .int 2), (0, .ref h0), (1, .int 6), (2, .int 0), (3, .int 1)] dX4_made_44 (by decide) rfl ?_
  refine zz_iconst X 0 dX4_made_46 rfl ?_
  refine zz_istore X [(7, .int 0), (6, .int 0), (5, .int 0), (4, .int 2), (0, .ref h0), (1, .int 6), (2, .int 0), (3, .int 1)] dX4_made_47 (by decide) rfl ?_
  refine zz_iload X 0 dX4_made_49 rfl ?_
  refine zz_iload X 2 dX4_made_51 rfl ?_
  refine zz_icmp_ge X 214 dX4_made_53 (by decide) (fun _ => ?_) (fun h => absurd (by decide) h)
  refine zz_iload X 1 dX4_made_214 rfl ?_
  refine zz_istore X [(5, .int 0), (7, .int 0), (6, .int 0), (4, .int 2), (0, .ref h0), (1, .int 6), (2, .int 0), (3, .int 1)] dX4_made_216 (by decide) rfl ?_
  refine zz_iconst X 1 dX4_made_218 rfl ?_
  refine zz_istore X [(6, .int 1), (5, .int 0), (7, .int 0), (4, .int 2), (0, .ref h0), (1, .int 6), (2, .int 0), (3, .int 1)] dX4_made_219 (by decide) rfl ?_
  refine zz_iconst X 0 dX4_made_221 rfl ?_
  refine zz_istore X [(7, .int 0), (6, .int 1), (5, .int 0), (4, .int 2), (0, .ref h0), (1, .int 6), (2, .int 0), (3, .int 1)] dX4_made_222 (by decide) rfl ?_
  refine zz_iload_n X 6 dX4_made_224 rfl rfl ?_
  refine zz_istore X [(8, .int 0), (7, .int 0), (6, .int 1), (5, .int 0), (4, .int 2), (0, .ref h0), (1, .int 6), (2, .int 0), (3, .int 1)] dX4_made_225 (by decide) rfl ?_
  refine zz_iload X 0 dX4_made_227 rfl ?_
  refine zz_iload_n X 7 dX4_made_229 rfl rfl ?_
  refine zz_iload X 3 dX4_made_230 rfl ?_
  refine zz_iload X 4 dX4_made_232 rfl ?_
  refine zz_imul X (0) dX4_made_234 (by decide) ?_
  refine zz_iadd X (0) dX4_made_235 (by decide) ?_
  refine zz_icmp_ge X 286 dX4_made_236 (by decide) (fun _ => ?_) (fun h => absurd (by decide) h)
  refine zz_iload X 2 dX4_made_286 rfl ?_
  refine zz_iload_n X 8 dX4_made_288 rfl rfl ?_
  refine zz_if_eq X 297 dX4_made_289 (by decide) (fun h => absurd h (by decide)) (fun _ => ?_)
  refine zz_ldc X (List.mem_of_getElem? (i := 3) rfl) dX4_made_292 ?_
  refine zz_goto X 300 dX4_made_294 (by decide) ?_
  refine zz_icmp_gt X 319 dX4_made_300 (by decide) (fun h => absurd h (by decide)) (fun _ => ?_)
  refine zz_iload X 1 dX4_made_303 rfl ?_
  refine zz_iload_n X 8 dX4_made_305 rfl rfl ?_
  refine zz_if_eq X 314 dX4_made_306 (by decide) (fun h => absurd h (by decide)) (fun _ => ?_)
  refine zz_bipush X 62 dX4_made_309 rfl ?_
  refine zz_goto X 316 dX4_made_311 (by decide) ?_
  refine zz_icmp_lt X 321 dX4_made_316 (by decide) (fun _ => ?_) (fun h => absurd (by decide) h)
  refine zz_aload_n X 5 dX4_made_321 rfl rfl ?_
  refine zz_iload X 3 dX4_made_322 rfl ?_
  refine zz_iload X 4 dX4_made_324 rfl ?_
  refine zz_imul X (0) dX4_made_326 (by decide) ?_
  refine zz_iconst X 2 dX4_made_327 rfl ?_
  refine zz_iadd X (2) dX4_made_328 (by decide) ?_
  refine zz_callVi X (rest := []) (As := [.int 2]) (kX4_room hE l D cA h0 hc ha hz 0 kept 258000 820000 0 2 (by decide)) 1 gX4_made_X4_room rfl (by decide +kernel) [2] [0, 1] [(hc, .inl (cA 1, 886000, .inl fc)), (ha, .inl (cA 1, 90000, .inl fa))] rfl rfl (by decide) rfl (by decide) (by decide) ⟨Nat.le_of_ble_eq_true rfl, Nat.le_of_ble_eq_true rfl⟩ 0 rfl rfl rfl rfl rfl (Nat.le_of_ble_eq_true rfl) dX4_made_329 (Nat.le_of_ble_eq_true rfl) (Nat.le_of_ble_eq_true rfl) (fun r2 _ hw3 => ?_)
  obtain rfl := hw3
  refine zz_show (ws' := [(hc, .inl (cA 1, 886000, .inl fc)), (ha, .inl (cA 1, 90000, .inl fa)), (h0, .inr (4, [.ref hc, .ref ha, .ref hz, .int 0, .int kept, .int (258000 + 2), .int 820000, .int 0]))]) rfl ?_
  refine zz_istore X [(8, .int 258000), (7, .int 0), (6, .int 1), (5, .int 0), (4, .int 2), (0, .ref h0), (1, .int 6), (2, .int 0), (3, .int 1)] dX4_made_332 (by decide) rfl ?_
  refine zz_aload_n X 5 dX4_made_334 rfl rfl ?_
  refine zz_get X 2 0 rfl rfl (by decide) inX4_made_X4 rfl (List.mem_of_getElem? (i := 8) rfl) rfl dX4_made_335 ?_
  refine zz_iload X 0 dX4_made_338 rfl ?_
  refine zz_iload_n X 6 dX4_made_340 rfl rfl ?_
  refine zz_iload X 3 dX4_made_341 rfl ?_
  refine zz_iconst X 4 dX4_made_343 rfl ?_
  refine zz_ishl X (0) dX4_made_344 (by decide) ?_
  refine zz_ior X (6) dX4_made_345 (by decide) ?_
  refine zz_iast X 0 1 rfl rfl (vp_in_nI (n := 258000) (by decide) (by decide)) 258000 (by decide) dX4_made_346 [(hc, .inl (cA 1, 886000, .inl (upd fc 258000 6))), (ha, .inl (cA 1, 90000, .inl fa)), (h0, .inr (4, [.ref hc, .ref ha, .ref hz, .int 0, .int kept, .int (258000 + 2), .int 820000, .int 0]))] rfl ?_
  refine zz_aload_n X 5 dX4_made_347 rfl rfl ?_
  refine zz_get X 2 0 rfl rfl (by decide) inX4_made_X4 rfl (List.mem_of_getElem? (i := 8) rfl) rfl dX4_made_348 ?_
  refine zz_iload X 0 dX4_made_351 rfl ?_
  refine zz_iconst X 1 dX4_made_353 rfl ?_
  refine zz_iadd X (258001) dX4_made_354 (by decide) ?_
  refine zz_iload X 2 dX4_made_355 rfl ?_
  refine zz_bipush X 6 dX4_made_357 rfl ?_
  refine zz_ishl X (64) dX4_made_359 (by decide) ?_
  refine zz_iload X 1 dX4_made_360 rfl ?_
  refine zz_iconst X 1 dX4_made_362 rfl ?_
  refine zz_iadd X (1) dX4_made_363 (by decide) ?_
  refine zz_ior X (65) dX4_made_364 (by decide) ?_
  refine zz_iast X 0 1 rfl rfl (vp_in_nI (n := 258001) (by decide) (by decide)) 258001 (by decide) dX4_made_365 [(hc, .inl (cA 1, 886000, .inl (upd (upd fc 258000 6) 258001 65))), (ha, .inl (cA 1, 90000, .inl fa)), (h0, .inr (4, [.ref hc, .ref ha, .ref hz, .int 0, .int kept, .int (258000 + 2), .int 820000, .int 0]))] rfl ?_
  refine zz_aload_n X 5 dX4_made_366 rfl rfl ?_
  refine zz_get X 2 1 rfl rfl (by decide) inX4_made_X4 rfl (List.mem_of_getElem? (i := 2) rfl) rfl dX4_made_367 ?_
  refine zz_iload_n X 7 dX4_made_370 rfl rfl ?_
  refine zz_aload_n X 5 dX4_made_371 rfl rfl ?_
  refine zz_get X 2 0 rfl rfl (by decide) inX4_made_X4 rfl (List.mem_of_getElem? (i := 8) rfl) rfl dX4_made_372 ?_
  refine zz_iload X 0 dX4_made_375 rfl ?_
  refine zz_iconst X 2 dX4_made_377 rfl ?_
  refine zz_iadd X (258002) dX4_made_378 (by decide) ?_
  refine zz_iload X 3 dX4_made_379 rfl ?_
  refine zz_iload X 4 dX4_made_381 rfl ?_
  refine zz_imul X (0) dX4_made_383 (by decide) ?_
  refine zz_copyi X 1 0 1 1 (List.mem_of_getElem? (i := 9) rfl) (List.mem_of_getElem? (i := 10) rfl) (List.mem_of_getElem? (i := 11) rfl) (List.mem_of_getElem? (i := 12) rfl) rfl rfl rfl rfl rfl (by decide) (by decide) (by decide) 0 258002 0 (by decide) (by decide) (by decide) (Nat.le_of_ble_eq_true rfl) (Nat.le_of_ble_eq_true rfl) (fun _ => rfl)  (Nat.le_of_ble_eq_true rfl) (Nat.le_of_ble_eq_true rfl) dX4_made_384 [(hc, .inl (cA 1, 886000, .inl (va_cpy fa (upd (upd fc 258000 6) 258001 65) 0 258002 0))), (ha, .inl (cA 1, 90000, .inl fa)), (h0, .inr (4, [.ref hc, .ref ha, .ref hz, .int 0, .int kept, .int (258000 + 2), .int 820000, .int 0]))] rfl ?_
  refine zz_iload X 0 dX4_made_387 rfl ?_
  exact zz_iret X hr (va_cpy fa (upd (upd fc 258000 6) 258001 65) 0 258002 0) [2, 0, 1] (by decide) rfl rfl (Nat.le_of_ble_eq_true rfl) (Nat.le_of_ble_eq_true rfl) (⟨rfl, (by simp [va_cpy, upd]), (by simp [va_cpy, upd]), (fun j hj => by simp only [va_cpy, upd]; rw [if_neg (by omega), if_neg (by omega), if_neg (by omega)])⟩) dX4_made_389

set_option maxHeartbeats 4000000 in
set_option maxRecDepth 100000 in
/-- copy of an empty object -/
theorem kX4_copy0 {E : zEn} (hE : zOk E) (l : Launch) (D : va_G) (cA : Nat → ClassId) (h0 : Nat) (hc : Nat) (ha : Nat) (hz : Nat) (used : Int32) (kept : Int32) (fc : Nat → Int32) (hk6 : fc 258000 = 6) : zMi E l yX4_copy wsX4_copy ({ frames := 1, cells := 0, slots := 0, locals := 60 }) D vwCl (zT cA) [.ref h0, .int 258000] [(h0, .inr (4, [.ref hc, .ref ha, .ref hz, .int used, .int kept, .int 60000, .int 820000, .int 0])), (hc, .inl (cA 1, 886000, .inl fc))] (S := Nat → Int32) (fun (r : Int32) (u : Nat → Int32) => (r = 60000) ∧ (u 60000 = fc 258000) ∧ (u 60001 = fc 258001) ∧ (∀ j : Nat, j < 60000 → u j = fc j)) (fun (u : Nat → Int32) => [(h0, .inr (4, [.ref hc, .ref ha, .ref hz, .int used, .int kept, .int 60002, .int 820000, .int 0])), (hc, .inl (cA 1, 886000, .inl u))]) := by
  refine zz_enteri (cc := cX4_copy) (lv := [(0, .ref h0), (1, .int 258000)]) hE 7 (by decide) rfl (Nat.le_of_ble_eq_true rfl) rfl ?_
  intro p e s m args below meth c X hr hin
  refine zz_aload_n X 0 dX4_copy_0 rfl rfl ?_
  refine zz_iload_n X 1 dX4_copy_1 rfl rfl ?_
  refine zz_callVi X (rest := []) (As := [.int 258000]) (kX4_kind hE l D cA h0 hc ha hz used kept 60000 820000 0 fc 258000 (by decide)) 1 gX4_copy_X4_kind rfl (by decide +kernel) [0, 1] [] [] rfl rfl (by decide) rfl (by decide) (by decide) ⟨Nat.le_of_ble_eq_true rfl, Nat.le_of_ble_eq_true rfl⟩ 0 rfl rfl rfl rfl rfl (Nat.le_of_ble_eq_true rfl) dX4_copy_2 (Nat.le_of_ble_eq_true rfl) (Nat.le_of_ble_eq_true rfl) (fun r1 _ hw2 => ?_)
  obtain rfl := hw2
  refine zz_show (ws' := [(h0, .inr (4, [.ref hc, .ref ha, .ref hz, .int used, .int kept, .int 60000, .int 820000, .int 0])), (hc, .inl (cA 1, 886000, .inl fc))]) rfl ?_
  refine zz_st (st' := [.int 6]) (by rw [hk6]; rfl) ?_
  refine zz_istore_n X [(2, .int 6), (0, .ref h0), (1, .int 258000)] dX4_copy_5 rfl (by decide) rfl ?_
  refine zz_iload_n X 0 dX4_copy_6 rfl rfl ?_
  refine zz_iconst X 3 dX4_copy_7 rfl ?_
  refine zz_icmp_ge X 13 dX4_copy_8 (by decide) (fun _ => ?_) (fun h => absurd (by decide) h)
  refine zz_aload_n X 1 dX4_copy_13 rfl rfl ?_
  refine zz_iload_n X 2 dX4_copy_14 rfl rfl ?_
  refine zz_callVi X (rest := []) (As := [.int 258000]) (kX4_size hE l D cA h0 hc ha hz used kept 60000 820000 0 fc 258000 (by decide)) 1 gX4_copy_X4_size rfl (by decide +kernel) [0, 1] [] [] rfl rfl (by decide) rfl (by decide) (by decide) ⟨Nat.le_of_ble_eq_true rfl, Nat.le_of_ble_eq_true rfl⟩ 0 rfl rfl rfl rfl rfl (Nat.le_of_ble_eq_true rfl) dX4_copy_15 (Nat.le_of_ble_eq_true rfl) (Nat.le_of_ble_eq_true rfl) (fun r3 _ hw4 => ?_)
  obtain rfl := hw4
  refine zz_show (ws' := [(h0, .inr (4, [.ref hc, .ref ha, .ref hz, .int used, .int kept, .int 60000, .int 820000, .int 0])), (hc, .inl (cA 1, 886000, .inl fc))]) rfl ?_
  refine zz_st (st' := [.int 0]) (by rw [hk6]; rfl) ?_
  refine zz_istore_n X [(3, .int 0), (2, .int 6), (0, .ref h0), (1, .int 258000)] dX4_copy_18 rfl (by decide) rfl ?_
  refine zz_iload_n X 1 dX4_copy_19 rfl rfl ?_
  refine zz_iconst X 3 dX4_copy_20 rfl ?_
  refine zz_icmp_ne X 28 dX4_copy_21 (by decide) (fun _ => ?_) (fun h => absurd h (by decide))
  refine zz_iload_n X 1 dX4_copy_28 rfl rfl ?_
  refine zz_iconst X 4 dX4_copy_29 rfl ?_
  refine zz_icmp_ne X 39 dX4_copy_30 (by decide) (fun _ => ?_) (fun h => absurd h (by decide))
  refine zz_iload_n X 1 dX4_copy_39 rfl rfl ?_
  refine zz_bipush X 6 dX4_copy_40 rfl ?_
  refine zz_icmp_ne X 53 dX4_copy_42 (by decide) (fun h => absurd (by decide) h) (fun _ => ?_)
  refine zz_iconst X 2 dX4_copy_45 rfl ?_
  refine zz_iload_n X 0 dX4_copy_46 rfl rfl ?_
  refine zz_imul X (0) dX4_copy_47 (by decide) ?_
  refine zz_iconst X 2 dX4_copy_48 rfl ?_
  refine zz_iadd X (2) dX4_copy_49 (by decide) ?_
  refine zz_goto X 56 dX4_copy_50 (by decide) ?_
  refine zz_istore X [(4, .int 2), (3, .int 0), (2, .int 6), (0, .ref h0), (1, .int 258000)] dX4_copy_56 (by decide) rfl ?_
  refine zz_aload_n X 3 dX4_copy_58 rfl rfl ?_
  refine zz_iload X 0 dX4_copy_59 rfl ?_
  refine zz_callVi X (rest := []) (As := [.int 2]) (kX4_room hE l D cA h0 hc ha hz used kept 60000 820000 0 2 (by decide)) 1 gX4_copy_X4_room rfl (by decide +kernel) [0] [1] [(hc, .inl (cA 1, 886000, .inl fc))] rfl rfl (by decide) rfl (by decide) (by decide) ⟨Nat.le_of_ble_eq_true rfl, Nat.le_of_ble_eq_true rfl⟩ 0 rfl rfl rfl rfl rfl (Nat.le_of_ble_eq_true rfl) dX4_copy_61 (Nat.le_of_ble_eq_true rfl) (Nat.le_of_ble_eq_true rfl) (fun r5 _ hw6 => ?_)
  obtain rfl := hw6
  refine zz_show (ws' := [(hc, .inl (cA 1, 886000, .inl fc)), (h0, .inr (4, [.ref hc, .ref ha, .ref hz, .int used, .int kept, .int (60000 + 2), .int 820000, .int 0]))]) rfl ?_
  refine zz_istore X [(5, .int 60000), (4, .int 2), (3, .int 0), (2, .int 6), (0, .ref h0), (1, .int 258000)] dX4_copy_64 (by decide) rfl ?_
  refine zz_aload_n X 4 dX4_copy_66 rfl rfl ?_
  refine zz_get X 1 0 rfl rfl (by decide) inX4_copy_X4 rfl (List.mem_of_getElem? (i := 1) rfl) rfl dX4_copy_67 ?_
  refine zz_iload_n X 5 dX4_copy_70 rfl rfl ?_
  refine zz_aload_n X 4 dX4_copy_71 rfl rfl ?_
  refine zz_get X 1 0 rfl rfl (by decide) inX4_copy_X4 rfl (List.mem_of_getElem? (i := 1) rfl) rfl dX4_copy_72 ?_
  refine zz_iload X 0 dX4_copy_75 rfl ?_
  refine zz_iload X 1 dX4_copy_77 rfl ?_
  refine zz_copyi X 0 0 1 1 (List.mem_of_getElem? (i := 2) rfl) (List.mem_of_getElem? (i := 3) rfl) (List.mem_of_getElem? (i := 4) rfl) (List.mem_of_getElem? (i := 5) rfl) rfl rfl rfl rfl rfl (by decide) (by decide) (by decide) 258000 60000 2 (by decide) (by decide) (by decide) (Nat.le_of_ble_eq_true rfl) (Nat.le_of_ble_eq_true rfl) (fun _ => rfl)  (Nat.le_of_ble_eq_true rfl) (Nat.le_of_ble_eq_true rfl) dX4_copy_79 [(hc, .inl (cA 1, 886000, .inl (va_cpy fc fc 258000 60000 2))), (h0, .inr (4, [.ref hc, .ref ha, .ref hz, .int used, .int kept, .int (60000 + 2), .int 820000, .int 0]))] rfl ?_
  refine zz_iload_n X 3 dX4_copy_82 rfl rfl ?_
  refine zz_iconst X 5 dX4_copy_83 rfl ?_
  refine zz_icmp_lt X 126 dX4_copy_84 (by decide) (fun h => absurd h (by decide)) (fun _ => ?_)
  refine zz_iconst X 2 dX4_copy_87 rfl ?_
  refine zz_istore X [(6, .int 2), (5, .int 60000), (4, .int 2), (3, .int 0), (2, .int 6), (0, .ref h0), (1, .int 258000)] dX4_copy_88 (by decide) rfl ?_
  refine zz_iload X 0 dX4_copy_90 rfl ?_
  refine zz_iload X 2 dX4_copy_92 rfl ?_
  refine zz_icmp_ge X 126 dX4_copy_94 (by decide) (fun _ => ?_) (fun h => absurd (by decide) h)
  refine zz_iload X 1 dX4_copy_126 rfl ?_
  exact zz_iret X hr (va_cpy fc fc 258000 60000 2) [1, 0] (by decide) rfl rfl (Nat.le_of_ble_eq_true rfl) (Nat.le_of_ble_eq_true rfl) (⟨rfl, (by simp [va_cpy]), (by simp [va_cpy]), (fun j hj => by simp only [va_cpy]; rw [if_neg (by omega)])⟩) dX4_copy_128

set_option maxHeartbeats 4000000 in
set_option maxRecDepth 100000 in
/-- copyTo of an empty object -/
theorem kX4_copyTo0 {E : zEn} (hE : zOk E) (l : Launch) (D : va_G) (cA : Nat → ClassId) (h0 : Nat) (hc : Nat) (ha : Nat) (hz : Nat) (used : Int32) (kept : Int32) (fc : Nat → Int32) (hk6 : fc 258000 = 6) : zMi E l yX4_copyTo wsX4_copyTo ({ frames := 2, cells := 0, slots := 0, locals := 86 }) D vwCl (zT cA) [.ref h0, .int 0, .int 258000] [(h0, .inr (4, [.ref hc, .ref ha, .ref hz, .int used, .int kept, .int 258002, .int 820000, .int 0])), (hc, .inl (cA 1, 886000, .inl fc))] (S := Nat → Int32) (fun (r : Int32) (u : Nat → Int32) => (r = 60000) ∧ (u 60000 = fc 258000) ∧ (u 60001 = fc 258001) ∧ (∀ j : Nat, j < 60000 → u j = fc j)) (fun (u : Nat → Int32) => [(h0, .inr (4, [.ref hc, .ref ha, .ref hz, .int used, .int kept, .int 258002, .int 820000, .int 0])), (hc, .inl (cA 1, 886000, .inl u))]) := by
  refine zz_enteri (cc := cX4_copyTo) (lv := [(0, .ref h0), (1, .int 0), (2, .int 258000)]) hE 5 (by decide) rfl (Nat.le_of_ble_eq_true rfl) rfl ?_
  intro p e s m args below meth c X hr hin
  refine zz_aload_n X 0 dX4_copyTo_0 rfl rfl ?_
  refine zz_get X 0 5 rfl rfl (by decide) inX4_copyTo_X4 rfl (List.mem_of_getElem? (i := 1) rfl) rfl dX4_copyTo_1 ?_
  refine zz_istore_n X [(3, .int 258002), (0, .ref h0), (1, .int 0), (2, .int 258000)] dX4_copyTo_4 rfl (by decide) rfl ?_
  refine zz_aload_n X 1 dX4_copyTo_5 rfl rfl ?_
  refine zz_ldc X (List.mem_of_getElem? (i := 2) rfl) dX4_copyTo_6 ?_
  refine zz_iload_n X 2 dX4_copyTo_8 rfl rfl ?_
  refine zz_sipush X 16500 dX4_copyTo_9 rfl ?_
  refine zz_imul X (0) dX4_copyTo_12 (by decide) ?_
  refine zz_iadd X (60000) dX4_copyTo_13 (by decide) ?_
  refine zz_put X 0 5 rfl rfl (by decide) inX4_copyTo_X4 rfl (List.mem_of_getElem? (i := 1) rfl) tyX4 tyX4_ok nmX4 rfl (ty := .int) rfl rfl rfl (Nat.le_of_ble_eq_true rfl) dX4_copyTo_14 [(h0, .inr (4, [.ref hc, .ref ha, .ref hz, .int used, .int kept, .int 60000, .int 820000, .int 0])), (hc, .inl (cA 1, 886000, .inl fc))] rfl ?_
  refine zz_aload_n X 1 dX4_copyTo_17 rfl rfl ?_
  refine zz_iload_n X 3 dX4_copyTo_18 rfl rfl ?_
  refine zz_callVi X (rest := []) (As := [.int 258000]) (kX4_copy0 hE l D cA h0 hc ha hz used kept fc hk6) 1 gX4_copyTo_X4_copy rfl (by decide +kernel) [0, 1] [] [] rfl rfl (by decide) rfl (by decide) (by decide) ⟨Nat.le_of_ble_eq_true rfl, Nat.le_of_ble_eq_true rfl⟩ 0 rfl rfl rfl rfl rfl (Nat.le_of_ble_eq_true rfl) dX4_copyTo_19 (Nat.le_of_ble_eq_true rfl) (Nat.le_of_ble_eq_true rfl) (fun r2 u4 hw3 => ?_)
  obtain ⟨f21, rfl⟩ : ∃ z, z = u4 := ⟨_, rfl⟩
  obtain ⟨rfl, hq5, hq6, hq7⟩ := hw3
  refine zz_show (ws' := [(h0, .inr (4, [.ref hc, .ref ha, .ref hz, .int used, .int kept, .int 60002, .int 820000, .int 0])), (hc, .inl (cA 1, 886000, .inl f21))]) rfl ?_
  refine zz_istore X [(4, .int 60000), (3, .int 258002), (0, .ref h0), (1, .int 0), (2, .int 258000)] dX4_copyTo_22 (by decide) rfl ?_
  refine zz_aload_n X 2 dX4_copyTo_24 rfl rfl ?_
  refine zz_iload_n X 1 dX4_copyTo_25 rfl rfl ?_
  refine zz_put X 0 5 rfl rfl (by decide) inX4_copyTo_X4 rfl (List.mem_of_getElem? (i := 1) rfl) tyX4 tyX4_ok nmX4 rfl (ty := .int) rfl rfl rfl (Nat.le_of_ble_eq_true rfl) dX4_copyTo_26 [(h0, .inr (4, [.ref hc, .ref ha, .ref hz, .int used, .int kept, .int 258002, .int 820000, .int 0])), (hc, .inl (cA 1, 886000, .inl f21))] rfl ?_
  refine zz_iload X 0 dX4_copyTo_29 rfl ?_
  exact zz_iret X hr (f21) [0, 1] (by decide) rfl rfl (Nat.le_of_ble_eq_true rfl) (Nat.le_of_ble_eq_true rfl) (⟨rfl, hq5, hq6, hq7⟩) dX4_copyTo_31
