set_option maxHeartbeats 4000000 in
set_option maxRecDepth 100000 in
/-- reset: nothing is pushed, the row begins at the place -/
theorem kX4_reset (l : Launch) (D : va_G) (cA : Nat → ClassId) (h0 hc ha hs : Nat) (used kept top end_ full : Int32) (place : Int32) : zMv l yX4_reset wsX4_reset ({ frames := 0, cells := 0, slots := 0, locals := 0 }) D vwCl (zT cA) [.ref h0, .int place] [(h0, .inr (4, [.ref hc, .ref ha, .ref hs, .int used, .int kept, .int top, .int end_, .int full]))] (S := Unit) (fun _ => True) (fun _ => [(h0, .inr (4, [.ref hc, .ref ha, .ref hs, .int 0, .int kept, .int place, .int 820000, .int 0]))]) := by
  refine zz_enterv (cc := cX4_reset) (lv := [(0, .ref h0), (1, .int place)]) 2 (by decide) rfl (Nat.le_of_ble_eq_true rfl) rfl ?_
  intro p e s m args below meth c X hr hin
  refine zz_aload_n X 0 dX4_reset_0 rfl rfl ?_
  refine zz_iload_n X 1 dX4_reset_1 rfl rfl ?_
  refine zz_put X 0 5 rfl rfl (by decide) inX4_reset_X4 rfl (List.mem_of_getElem? (i := 1) rfl) tyX4 tyX4_ok nmX4 rfl (ty := .int) rfl rfl rfl (Nat.le_of_ble_eq_true rfl) dX4_reset_2 [(h0, .inr (4, [.ref hc, .ref ha, .ref hs, .int used, .int kept, .int place, .int end_, .int full]))] rfl ?_
  refine zz_aload_n X 0 dX4_reset_5 rfl rfl ?_
  refine zz_ldc X (List.mem_of_getElem? (i := 2) rfl) dX4_reset_6 ?_
  refine zz_put X 0 6 rfl rfl (by decide) inX4_reset_X4 rfl (List.mem_of_getElem? (i := 3) rfl) tyX4 tyX4_ok nmX4 rfl (ty := .int) rfl rfl rfl (Nat.le_of_ble_eq_true rfl) dX4_reset_8 [(h0, .inr (4, [.ref hc, .ref ha, .ref hs, .int used, .int kept, .int place, .int 820000, .int full]))] rfl ?_
  refine zz_aload_n X 0 dX4_reset_11 rfl rfl ?_
  refine zz_iconst X 0 dX4_reset_12 rfl ?_
  refine zz_put X 0 7 rfl rfl (by decide) inX4_reset_X4 rfl (List.mem_of_getElem? (i := 4) rfl) tyX4 tyX4_ok nmX4 rfl (ty := .boolean) rfl (by decide) rfl (Nat.le_of_ble_eq_true rfl) dX4_reset_13 [(h0, .inr (4, [.ref hc, .ref ha, .ref hs, .int used, .int kept, .int place, .int 820000, .int 0]))] rfl ?_
  refine zz_aload_n X 0 dX4_reset_16 rfl rfl ?_
  refine zz_iconst X 0 dX4_reset_17 rfl ?_
  refine zz_put X 0 3 rfl rfl (by decide) inX4_reset_X4 rfl (List.mem_of_getElem? (i := 5) rfl) tyX4 tyX4_ok nmX4 rfl (ty := .int) rfl rfl rfl (Nat.le_of_ble_eq_true rfl) dX4_reset_18 [(h0, .inr (4, [.ref hc, .ref ha, .ref hs, .int 0, .int kept, .int place, .int 820000, .int 0]))] rfl ?_
  exact zz_vret X hr (()) [0] (by decide) rfl rfl (by decide) (by decide) (trivial) dX4_reset_21

set_option maxHeartbeats 4000000 in
set_option maxRecDepth 100000 in
/-- room: where there is room, the place is top -/
theorem kX4_room (l : Launch) (D : va_G) (cA : Nat → ClassId) (h0 hc ha hs : Nat) (used kept top end_ full : Int32) (n : Int32) (hr0 : top + n ≤ end_) : zMi l yX4_room wsX4_room ({ frames := 0, cells := 0, slots := 0, locals := 0 }) D vwCl (zT cA) [.ref h0, .int n] [(h0, .inr (4, [.ref hc, .ref ha, .ref hs, .int used, .int kept, .int top, .int end_, .int full]))] (S := Unit) (fun (r : Int32) (_ : Unit) => r = top) (fun _ => [(h0, .inr (4, [.ref hc, .ref ha, .ref hs, .int used, .int kept, .int (top + n), .int end_, .int full]))]) := by
  refine zz_enteri (cc := cX4_room) (lv := [(0, .ref h0), (1, .int n)]) 3 (by decide) rfl (Nat.le_of_ble_eq_true rfl) rfl ?_
  intro p e s m args below meth c X hr hin
  refine zz_aload_n X 0 dX4_room_0 rfl rfl ?_
  refine zz_get X 0 5 rfl rfl (by decide) inX4_room_X4 rfl (List.mem_of_getElem? (i := 1) rfl) rfl dX4_room_1 ?_
  refine zz_iload_n X 1 dX4_room_4 rfl rfl ?_
  refine zz_iadd X ((top + n)) dX4_room_5 rfl ?_
  refine zz_aload_n X 0 dX4_room_6 rfl rfl ?_
  refine zz_get X 0 6 rfl rfl (by decide) inX4_room_X4 rfl (List.mem_of_getElem? (i := 2) rfl) rfl dX4_room_7 ?_
  refine zz_icmp_le X 30 dX4_room_10 (by decide) (fun _ => ?_) (fun h => absurd hr0 h)
  refine zz_aload_n X 0 dX4_room_30 rfl rfl ?_
  refine zz_get X 0 5 rfl rfl (by decide) inX4_room_X4 rfl (List.mem_of_getElem? (i := 1) rfl) rfl dX4_room_31 ?_
  refine zz_istore_n X [(2, .int top), (0, .ref h0), (1, .int n)] dX4_room_34 rfl (by decide) rfl ?_
  refine zz_aload_n X 1 dX4_room_35 rfl rfl ?_
  refine zz_dup X dX4_room_36 rfl ?_
  refine zz_get X 0 5 rfl rfl (by decide) inX4_room_X4 rfl (List.mem_of_getElem? (i := 1) rfl) rfl dX4_room_37 ?_
  refine zz_iload_n X 2 dX4_room_40 rfl rfl ?_
  refine zz_iadd X ((top + n)) dX4_room_41 rfl ?_
  refine zz_put X 0 5 rfl rfl (by decide) inX4_room_X4 rfl (List.mem_of_getElem? (i := 1) rfl) tyX4 tyX4_ok nmX4 rfl (ty := .int) rfl rfl rfl (Nat.le_of_ble_eq_true rfl) dX4_room_42 [(h0, .inr (4, [.ref hc, .ref ha, .ref hs, .int used, .int kept, .int (top + n), .int end_, .int full]))] rfl ?_
  refine zz_iload_n X 0 dX4_room_45 rfl rfl ?_
  exact zz_iret X hr (()) [0] (by decide) rfl rfl (by decide) (by decide) (rfl) dX4_room_46
