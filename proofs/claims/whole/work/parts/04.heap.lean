set_option maxHeartbeats 4000000 in
set_option maxRecDepth 100000 in
/-- Heap() -/
theorem kX4_init {E : zEn} (hE : zOk E) (l : Launch) (D : va_G) (cA : Nat → ClassId) (h0 : Nat) : zMv E l yX4_init wsX4_init ({ frames := 1, cells := 3, slots := 1066000, locals := 12 }) D vwCl (zT cA) [.ref h0] [(h0, .inr (4, [.null, .null, .null, .int 0, .int 0, .int 0, .int 0, .int 0]))] (S := Nat × Nat × Nat) (fun (u : Nat × Nat × Nat) => (True)) (fun (u : Nat × Nat × Nat) => [(h0, .inr (4, [.ref u.1, .ref u.2.1, .ref u.2.2, .int 0, .int 16, .int 258000, .int 820000, .int 0])), (u.1, .inl (cA 1, 886000, .inl (upd (upd (fun _ => 0) 2 1) 3 2))), (u.2.1, .inl (cA 1, 90000, .inl (fun _ => 0))), (u.2.2, .inl (cA 1, 90000, .inl (fun _ => 0)))]) := by
  refine zz_enterv (cc := cX4_init) (lv := [(0, .ref h0)]) hE 1 (by decide) rfl (Nat.le_of_ble_eq_true rfl) rfl ?_
  intro p e s m args below meth c X hr hin
  refine zz_aload_n X 0 dX4_init_0 rfl rfl ?_
  refine zz_objInit X (List.mem_of_getElem? (i := 1) rfl) (List.mem_of_getElem? (i := 2) rfl) (List.mem_of_getElem? (i := 3) rfl) dX4_init_1 (Nat.le_of_ble_eq_true rfl) (Nat.le_of_ble_eq_true rfl) ?_
  refine zz_aload_n X 0 dX4_init_4 rfl rfl ?_
  refine zz_ldc X (List.mem_of_getElem? (i := 4) rfl) dX4_init_5 ?_
  refine zz_newaI X 1 rfl 886000 (List.mem_of_getElem? (i := 5) rfl) (by decide) (by decide) (Nat.le_of_ble_eq_true rfl) (Nat.le_of_ble_eq_true rfl) (Nat.le_of_ble_eq_true rfl) dX4_init_7 (fun q1 => ?_)
  refine zz_show (ws' := [(h0, .inr (4, [.null, .null, .null, .int 0, .int 0, .int 0, .int 0, .int 0])), (q1, .inl (cA 1, 886000, .inl (fun _ => 0)))]) rfl ?_
  refine zz_putF X 0 0 rfl rfl (by decide) inX4_init_X4 rfl (List.mem_of_getElem? (i := 6) rfl) tyX4 tyX4_ok nmX4 rfl hin rfl (ty := (.array .int)) rfl rfl rfl (Nat.le_of_ble_eq_true rfl) dX4_init_9 [(h0, .inr (4, [.ref q1, .null, .null, .int 0, .int 0, .int 0, .int 0, .int 0])), (q1, .inl (cA 1, 886000, .inl (fun _ => 0)))] rfl ?_
  refine zz_aload_n X 0 dX4_init_12 rfl rfl ?_
  refine zz_ldc X (List.mem_of_getElem? (i := 7) rfl) dX4_init_13 ?_
  refine zz_newaI X 1 rfl 90000 (List.mem_of_getElem? (i := 5) rfl) (by decide) (by decide) (Nat.le_of_ble_eq_true rfl) (Nat.le_of_ble_eq_true rfl) (Nat.le_of_ble_eq_true rfl) dX4_init_15 (fun q2 => ?_)
  refine zz_show (ws' := [(h0, .inr (4, [.ref q1, .null, .null, .int 0, .int 0, .int 0, .int 0, .int 0])), (q1, .inl (cA 1, 886000, .inl (fun _ => 0))), (q2, .inl (cA 1, 90000, .inl (fun _ => 0)))]) rfl ?_
  refine zz_putF X 0 1 rfl rfl (by decide) inX4_init_X4 rfl (List.mem_of_getElem? (i := 8) rfl) tyX4 tyX4_ok nmX4 rfl hin rfl (ty := (.array .int)) rfl rfl rfl (Nat.le_of_ble_eq_true rfl) dX4_init_17 [(h0, .inr (4, [.ref q1, .ref q2, .null, .int 0, .int 0, .int 0, .int 0, .int 0])), (q1, .inl (cA 1, 886000, .inl (fun _ => 0))), (q2, .inl (cA 1, 90000, .inl (fun _ => 0)))] rfl ?_
  refine zz_aload_n X 0 dX4_init_20 rfl rfl ?_
  refine zz_ldc X (List.mem_of_getElem? (i := 7) rfl) dX4_init_21 ?_
  refine zz_newaI X 1 rfl 90000 (List.mem_of_getElem? (i := 5) rfl) (by decide) (by decide) (Nat.le_of_ble_eq_true rfl) (Nat.le_of_ble_eq_true rfl) (Nat.le_of_ble_eq_true rfl) dX4_init_23 (fun q3 => ?_)
  refine zz_show (ws' := [(h0, .inr (4, [.ref q1, .ref q2, .null, .int 0, .int 0, .int 0, .int 0, .int 0])), (q1, .inl (cA 1, 886000, .inl (fun _ => 0))), (q2, .inl (cA 1, 90000, .inl (fun _ => 0))), (q3, .inl (cA 1, 90000, .inl (fun _ => 0)))]) rfl ?_
  refine zz_putF X 0 2 rfl rfl (by decide) inX4_init_X4 rfl (List.mem_of_getElem? (i := 9) rfl) tyX4 tyX4_ok nmX4 rfl hin rfl (ty := (.array .int)) rfl rfl rfl (Nat.le_of_ble_eq_true rfl) dX4_init_25 [(h0, .inr (4, [.ref q1, .ref q2, .ref q3, .int 0, .int 0, .int 0, .int 0, .int 0])), (q1, .inl (cA 1, 886000, .inl (fun _ => 0))), (q2, .inl (cA 1, 90000, .inl (fun _ => 0))), (q3, .inl (cA 1, 90000, .inl (fun _ => 0)))] rfl ?_
  refine zz_aload_n X 0 dX4_init_28 rfl rfl ?_
  refine zz_iconst X 0 dX4_init_29 rfl ?_
  refine zz_put X 0 3 rfl rfl (by decide) inX4_init_X4 rfl (List.mem_of_getElem? (i := 10) rfl) tyX4 tyX4_ok nmX4 rfl (ty := .int) rfl rfl rfl (Nat.le_of_ble_eq_true rfl) dX4_init_30 [(h0, .inr (4, [.ref q1, .ref q2, .ref q3, .int 0, .int 0, .int 0, .int 0, .int 0])), (q1, .inl (cA 1, 886000, .inl (fun _ => 0))), (q2, .inl (cA 1, 90000, .inl (fun _ => 0))), (q3, .inl (cA 1, 90000, .inl (fun _ => 0)))] rfl ?_
  refine zz_aload_n X 0 dX4_init_33 rfl rfl ?_
  refine zz_bipush X 16 dX4_init_34 rfl ?_
  refine zz_put X 0 4 rfl rfl (by decide) inX4_init_X4 rfl (List.mem_of_getElem? (i := 11) rfl) tyX4 tyX4_ok nmX4 rfl (ty := .int) rfl rfl rfl (Nat.le_of_ble_eq_true rfl) dX4_init_36 [(h0, .inr (4, [.ref q1, .ref q2, .ref q3, .int 0, .int 16, .int 0, .int 0, .int 0])), (q1, .inl (cA 1, 886000, .inl (fun _ => 0))), (q2, .inl (cA 1, 90000, .inl (fun _ => 0))), (q3, .inl (cA 1, 90000, .inl (fun _ => 0)))] rfl ?_
  refine zz_aload_n X 0 dX4_init_39 rfl rfl ?_
  refine zz_ldc X (List.mem_of_getElem? (i := 12) rfl) dX4_init_40 ?_
  refine zz_put X 0 5 rfl rfl (by decide) inX4_init_X4 rfl (List.mem_of_getElem? (i := 13) rfl) tyX4 tyX4_ok nmX4 rfl (ty := .int) rfl rfl rfl (Nat.le_of_ble_eq_true rfl) dX4_init_42 [(h0, .inr (4, [.ref q1, .ref q2, .ref q3, .int 0, .int 16, .int 258000, .int 0, .int 0])), (q1, .inl (cA 1, 886000, .inl (fun _ => 0))), (q2, .inl (cA 1, 90000, .inl (fun _ => 0))), (q3, .inl (cA 1, 90000, .inl (fun _ => 0)))] rfl ?_
  refine zz_aload_n X 0 dX4_init_45 rfl rfl ?_
  refine zz_ldc X (List.mem_of_getElem? (i := 14) rfl) dX4_init_46 ?_
  refine zz_put X 0 6 rfl rfl (by decide) inX4_init_X4 rfl (List.mem_of_getElem? (i := 15) rfl) tyX4 tyX4_ok nmX4 rfl (ty := .int) rfl rfl rfl (Nat.le_of_ble_eq_true rfl) dX4_init_48 [(h0, .inr (4, [.ref q1, .ref q2, .ref q3, .int 0, .int 16, .int 258000, .int 820000, .int 0])), (q1, .inl (cA 1, 886000, .inl (fun _ => 0))), (q2, .inl (cA 1, 90000, .inl (fun _ => 0))), (q3, .inl (cA 1, 90000, .inl (fun _ => 0)))] rfl ?_
  refine zz_aload_n X 0 dX4_init_51 rfl rfl ?_
  refine zz_iconst X 0 dX4_init_52 rfl ?_
  refine zz_put X 0 7 rfl rfl (by decide) inX4_init_X4 rfl (List.mem_of_getElem? (i := 16) rfl) tyX4 tyX4_ok nmX4 rfl (ty := .boolean) rfl (by decide) rfl (Nat.le_of_ble_eq_true rfl) dX4_init_53 [(h0, .inr (4, [.ref q1, .ref q2, .ref q3, .int 0, .int 16, .int 258000, .int 820000, .int 0])), (q1, .inl (cA 1, 886000, .inl (fun _ => 0))), (q2, .inl (cA 1, 90000, .inl (fun _ => 0))), (q3, .inl (cA 1, 90000, .inl (fun _ => 0)))] rfl ?_
  refine zz_aload_n X 0 dX4_init_56 rfl rfl ?_
  refine zz_get X 0 0 rfl rfl (by decide) inX4_init_X4 rfl (List.mem_of_getElem? (i := 6) rfl) rfl dX4_init_57 ?_
  refine zz_iconst X 2 dX4_init_60 rfl ?_
  refine zz_iconst X 1 dX4_init_61 rfl ?_
  refine zz_iast X 1 1 rfl rfl (vp_in_nI (n := 2) (by decide) (by decide)) 2 (by decide) dX4_init_62 [(h0, .inr (4, [.ref q1, .ref q2, .ref q3, .int 0, .int 16, .int 258000, .int 820000, .int 0])), (q1, .inl (cA 1, 886000, .inl (upd (fun _ => 0) 2 1))), (q2, .inl (cA 1, 90000, .inl (fun _ => 0))), (q3, .inl (cA 1, 90000, .inl (fun _ => 0)))] rfl ?_
  refine zz_aload_n X 0 dX4_init_63 rfl rfl ?_
  refine zz_get X 0 0 rfl rfl (by decide) inX4_init_X4 rfl (List.mem_of_getElem? (i := 6) rfl) rfl dX4_init_64 ?_
  refine zz_iconst X 3 dX4_init_67 rfl ?_
  refine zz_iconst X 2 dX4_init_68 rfl ?_
  refine zz_iast X 1 1 rfl rfl (vp_in_nI (n := 3) (by decide) (by decide)) 3 (by decide) dX4_init_69 [(h0, .inr (4, [.ref q1, .ref q2, .ref q3, .int 0, .int 16, .int 258000, .int 820000, .int 0])), (q1, .inl (cA 1, 886000, .inl (upd (upd (fun _ => 0) 2 1) 3 2))), (q2, .inl (cA 1, 90000, .inl (fun _ => 0))), (q3, .inl (cA 1, 90000, .inl (fun _ => 0)))] rfl ?_
  exact zz_vret X hr ((q1, q2, q3)) [0, 1, 2, 3] (by decide) rfl rfl (Nat.le_of_ble_eq_true rfl) (Nat.le_of_ble_eq_true rfl) (trivial) dX4_init_70

set_option maxHeartbeats 4000000 in
set_option maxRecDepth 100000 in
/-- reset -/
theorem kX4_reset {E : zEn} (hE : zOk E) (l : Launch) (D : va_G) (cA : Nat → ClassId) (h0 : Nat) (hc : Nat) (ha : Nat) (hz : Nat) (used : Int32) (kept : Int32) (top : Int32) (end_ : Int32) (full : Int32) (place : Int32) : zMv E l yX4_reset wsX4_reset ({ frames := 0, cells := 0, slots := 0, locals := 0 }) D vwCl (zT cA) [.ref h0, .int place] [(h0, .inr (4, [.ref hc, .ref ha, .ref hz, .int used, .int kept, .int top, .int end_, .int full]))] (S := Unit) (fun (u : Unit) => (True)) (fun (u : Unit) => [(h0, .inr (4, [.ref hc, .ref ha, .ref hz, .int 0, .int kept, .int place, .int 820000, .int 0]))]) := by
  refine zz_enterv (cc := cX4_reset) (lv := [(0, .ref h0), (1, .int place)]) hE 2 (by decide) rfl (Nat.le_of_ble_eq_true rfl) rfl ?_
  intro p e s m args below meth c X hr hin
  refine zz_aload_n X 0 dX4_reset_0 rfl rfl ?_
  refine zz_iload_n X 1 dX4_reset_1 rfl rfl ?_
  refine zz_put X 0 5 rfl rfl (by decide) inX4_reset_X4 rfl (List.mem_of_getElem? (i := 1) rfl) tyX4 tyX4_ok nmX4 rfl (ty := .int) rfl rfl rfl (Nat.le_of_ble_eq_true rfl) dX4_reset_2 [(h0, .inr (4, [.ref hc, .ref ha, .ref hz, .int used, .int kept, .int place, .int end_, .int full]))] rfl ?_
  refine zz_aload_n X 0 dX4_reset_5 rfl rfl ?_
  refine zz_ldc X (List.mem_of_getElem? (i := 2) rfl) dX4_reset_6 ?_
  refine zz_put X 0 6 rfl rfl (by decide) inX4_reset_X4 rfl (List.mem_of_getElem? (i := 3) rfl) tyX4 tyX4_ok nmX4 rfl (ty := .int) rfl rfl rfl (Nat.le_of_ble_eq_true rfl) dX4_reset_8 [(h0, .inr (4, [.ref hc, .ref ha, .ref hz, .int used, .int kept, .int place, .int 820000, .int full]))] rfl ?_
  refine zz_aload_n X 0 dX4_reset_11 rfl rfl ?_
  refine zz_iconst X 0 dX4_reset_12 rfl ?_
  refine zz_put X 0 7 rfl rfl (by decide) inX4_reset_X4 rfl (List.mem_of_getElem? (i := 4) rfl) tyX4 tyX4_ok nmX4 rfl (ty := .boolean) rfl (by decide) rfl (Nat.le_of_ble_eq_true rfl) dX4_reset_13 [(h0, .inr (4, [.ref hc, .ref ha, .ref hz, .int used, .int kept, .int place, .int 820000, .int 0]))] rfl ?_
  refine zz_aload_n X 0 dX4_reset_16 rfl rfl ?_
  refine zz_iconst X 0 dX4_reset_17 rfl ?_
  refine zz_put X 0 3 rfl rfl (by decide) inX4_reset_X4 rfl (List.mem_of_getElem? (i := 5) rfl) tyX4 tyX4_ok nmX4 rfl (ty := .int) rfl rfl rfl (Nat.le_of_ble_eq_true rfl) dX4_reset_18 [(h0, .inr (4, [.ref hc, .ref ha, .ref hz, .int 0, .int kept, .int place, .int 820000, .int 0]))] rfl ?_
  exact zz_vret X hr (()) [0] (by decide) rfl rfl (Nat.le_of_ble_eq_true rfl) (Nat.le_of_ble_eq_true rfl) (trivial) dX4_reset_21

set_option maxHeartbeats 4000000 in
set_option maxRecDepth 100000 in
/-- room: where there is room, the place is top -/
theorem kX4_room {E : zEn} (hE : zOk E) (l : Launch) (D : va_G) (cA : Nat → ClassId) (h0 : Nat) (hc : Nat) (ha : Nat) (hz : Nat) (used : Int32) (kept : Int32) (top : Int32) (end_ : Int32) (full : Int32) (n : Int32) (hr0 : top + n ≤ end_) : zMi E l yX4_room wsX4_room ({ frames := 0, cells := 0, slots := 0, locals := 0 }) D vwCl (zT cA) [.ref h0, .int n] [(h0, .inr (4, [.ref hc, .ref ha, .ref hz, .int used, .int kept, .int top, .int end_, .int full]))] (S := Unit) (fun (r : Int32) (u : Unit) => (r = top)) (fun (u : Unit) => [(h0, .inr (4, [.ref hc, .ref ha, .ref hz, .int used, .int kept, .int (top + n), .int end_, .int full]))]) := by
  refine zz_enteri (cc := cX4_room) (lv := [(0, .ref h0), (1, .int n)]) hE 3 (by decide) rfl (Nat.le_of_ble_eq_true rfl) rfl ?_
  intro p e s m args below meth c X hr hin
  refine zz_aload_n X 0 dX4_room_0 rfl rfl ?_
  refine zz_get X 0 5 rfl rfl (by decide) inX4_room_X4 rfl (List.mem_of_getElem? (i := 1) rfl) rfl dX4_room_1 ?_
  refine zz_iload_n X 1 dX4_room_4 rfl rfl ?_
  refine zz_iadd X ((top + n)) dX4_room_5 rfl ?_
  refine zz_aload_n X 0 dX4_room_6 rfl rfl ?_
  refine zz_get X 0 6 rfl rfl (by decide) inX4_room_X4 rfl (List.mem_of_getElem? (i := 2) rfl) rfl dX4_room_7 ?_
  refine zz_icmp_le X 30 dX4_room_10 (by decide) (fun _ => ?_) (fun h => absurd hr0 h)
  refine zz_aload_n X 0 dX4_room_30 rfl rfl ?_
  refine zz_get X 0 5 rfl rfl (by decide) inX4_room_X4 rfl (List.mem_of_getElem? (i := 1) rfl) rfl dX4_room_31 ?_
  refine zz_istore_n X [(2, .int top), (0, .ref h0), (1, .int n)] dX4_room_34 rfl (by decide) rfl ?_
  refine zz_aload_n X 1 dX4_room_35 rfl rfl ?_
  refine zz_dup X dX4_room_36 rfl ?_
  refine zz_get X 0 5 rfl rfl (by decide) inX4_room_X4 rfl (List.mem_of_getElem? (i := 1) rfl) rfl dX4_room_37 ?_
  refine zz_iload_n X 2 dX4_room_40 rfl rfl ?_
  refine zz_iadd X ((top + n)) dX4_room_41 rfl ?_
  refine zz_put X 0 5 rfl rfl (by decide) inX4_room_X4 rfl (List.mem_of_getElem? (i := 1) rfl) tyX4 tyX4_ok nmX4 rfl (ty := .int) rfl rfl rfl (Nat.le_of_ble_eq_true rfl) dX4_room_42 [(h0, .inr (4, [.ref hc, .ref ha, .ref hz, .int used, .int kept, .int (top + n), .int end_, .int full]))] rfl ?_
  refine zz_iload_n X 0 dX4_room_45 rfl rfl ?_
  exact zz_iret X hr (()) [0] (by decide) rfl rfl (Nat.le_of_ble_eq_true rfl) (Nat.le_of_ble_eq_true rfl) (rfl) dX4_room_46
