set_option maxHeartbeats 4000000 in
set_option maxRecDepth 100000 in
/-- Texts(heap) -/
theorem kX11_init {E : zEn} (hE : zOk E) (l : Launch) (D : va_G) (cA : Nat → ClassId) (h0 : Nat) (bh : Nat) : zMv E l yX11_init wsX11_init ({ frames := 1, cells := 2, slots := 106004, locals := 12 }) D vwCl (zT cA) [.ref h0, .ref bh] [(h0, .inr (11, [.null, .null, .int 0, .int 0, .int 0, .int 0, .long 0, .null, .int 0, .null, .int 0, .int 0, .int 0]))] (S := Nat × Nat) (fun (u : Nat × Nat) => (True)) (fun (u : Nat × Nat) => [(h0, .inr (11, [.ref bh, .null, .int 0, .int 0, .int (-1), .int 0, .long 0, .ref u.1, .int 0, .ref u.2, .int 0, .int 0, .int 0])), (u.1, .inl (cA 1, 6004, .inl (fun _ => 0))), (u.2, .inl (cA 1, 100000, .inl (fun _ => 0)))]) := by
  refine zz_enterv (cc := cX11_init) (lv := [(0, .ref h0), (1, .ref bh)]) hE 2 (by decide) rfl (Nat.le_of_ble_eq_true rfl) rfl ?_
  intro p e s m args below meth c X hr hin
  refine zz_aload_n X 0 dX11_init_0 rfl rfl ?_
  refine zz_objInit X (List.mem_of_getElem? (i := 1) rfl) (List.mem_of_getElem? (i := 2) rfl) (List.mem_of_getElem? (i := 3) rfl) dX11_init_1 (Nat.le_of_ble_eq_true rfl) (Nat.le_of_ble_eq_true rfl) ?_
  refine zz_aload_n X 0 dX11_init_4 rfl rfl ?_
  refine zz_null X dX11_init_5 ?_
  refine zz_put X 0 1 rfl rfl (by decide) inX11_init_X11 rfl (List.mem_of_getElem? (i := 4) rfl) tyX11 tyX11_ok nmX11 rfl (ty := (.array .int)) rfl rfl rfl (Nat.le_of_ble_eq_true rfl) dX11_init_6 [(h0, .inr (11, [.null, .null, .int 0, .int 0, .int 0, .int 0, .long 0, .null, .int 0, .null, .int 0, .int 0, .int 0]))] rfl ?_
  refine zz_aload_n X 0 dX11_init_9 rfl rfl ?_
  refine zz_iconst X 0 dX11_init_10 rfl ?_
  refine zz_put X 0 2 rfl rfl (by decide) inX11_init_X11 rfl (List.mem_of_getElem? (i := 5) rfl) tyX11 tyX11_ok nmX11 rfl (ty := .int) rfl rfl rfl (Nat.le_of_ble_eq_true rfl) dX11_init_11 [(h0, .inr (11, [.null, .null, .int 0, .int 0, .int 0, .int 0, .long 0, .null, .int 0, .null, .int 0, .int 0, .int 0]))] rfl ?_
  refine zz_aload_n X 0 dX11_init_14 rfl rfl ?_
  refine zz_iconst X 0 dX11_init_15 rfl ?_
  refine zz_put X 0 3 rfl rfl (by decide) inX11_init_X11 rfl (List.mem_of_getElem? (i := 6) rfl) tyX11 tyX11_ok nmX11 rfl (ty := .int) rfl rfl rfl (Nat.le_of_ble_eq_true rfl) dX11_init_16 [(h0, .inr (11, [.null, .null, .int 0, .int 0, .int 0, .int 0, .long 0, .null, .int 0, .null, .int 0, .int 0, .int 0]))] rfl ?_
  refine zz_aload_n X 0 dX11_init_19 rfl rfl ?_
  refine zz_iconst X (-1) dX11_init_20 rfl ?_
  refine zz_put X 0 4 rfl rfl (by decide) inX11_init_X11 rfl (List.mem_of_getElem? (i := 7) rfl) tyX11 tyX11_ok nmX11 rfl (ty := .int) rfl rfl rfl (Nat.le_of_ble_eq_true rfl) dX11_init_21 [(h0, .inr (11, [.null, .null, .int 0, .int 0, .int (-1), .int 0, .long 0, .null, .int 0, .null, .int 0, .int 0, .int 0]))] rfl ?_
  refine zz_aload_n X 0 dX11_init_24 rfl rfl ?_
  refine zz_iconst X 0 dX11_init_25 rfl ?_
  refine zz_put X 0 5 rfl rfl (by decide) inX11_init_X11 rfl (List.mem_of_getElem? (i := 8) rfl) tyX11 tyX11_ok nmX11 rfl (ty := .int) rfl rfl rfl (Nat.le_of_ble_eq_true rfl) dX11_init_26 [(h0, .inr (11, [.null, .null, .int 0, .int 0, .int (-1), .int 0, .long 0, .null, .int 0, .null, .int 0, .int 0, .int 0]))] rfl ?_
  refine zz_aload_n X 0 dX11_init_29 rfl rfl ?_
  refine zz_lconst X 0 dX11_init_30 rfl ?_
  refine zz_put X 0 6 rfl rfl (by decide) inX11_init_X11 rfl (List.mem_of_getElem? (i := 9) rfl) tyX11 tyX11_ok nmX11 rfl (ty := .long) rfl rfl rfl (Nat.le_of_ble_eq_true rfl) dX11_init_31 [(h0, .inr (11, [.null, .null, .int 0, .int 0, .int (-1), .int 0, .long 0, .null, .int 0, .null, .int 0, .int 0, .int 0]))] rfl ?_
  refine zz_aload_n X 0 dX11_init_34 rfl rfl ?_
  refine zz_sipush X 6004 dX11_init_35 rfl ?_
  refine zz_newaI X 1 rfl 6004 (List.mem_of_getElem? (i := 10) rfl) (by decide) (by decide) (Nat.le_of_ble_eq_true rfl) (Nat.le_of_ble_eq_true rfl) (Nat.le_of_ble_eq_true rfl) dX11_init_38 (fun q1 => ?_)
  refine zz_show (ws' := [(h0, .inr (11, [.null, .null, .int 0, .int 0, .int (-1), .int 0, .long 0, .null, .int 0, .null, .int 0, .int 0, .int 0])), (q1, .inl (cA 1, 6004, .inl (fun _ => 0)))]) rfl ?_
  refine zz_putF X 0 7 rfl rfl (by decide) inX11_init_X11 rfl (List.mem_of_getElem? (i := 11) rfl) tyX11 tyX11_ok nmX11 rfl hin rfl (ty := (.array .int)) rfl rfl rfl (Nat.le_of_ble_eq_true rfl) dX11_init_40 [(h0, .inr (11, [.null, .null, .int 0, .int 0, .int (-1), .int 0, .long 0, .ref q1, .int 0, .null, .int 0, .int 0, .int 0])), (q1, .inl (cA 1, 6004, .inl (fun _ => 0)))] rfl ?_
  refine zz_aload_n X 0 dX11_init_43 rfl rfl ?_
  refine zz_iconst X 0 dX11_init_44 rfl ?_
  refine zz_put X 0 8 rfl rfl (by decide) inX11_init_X11 rfl (List.mem_of_getElem? (i := 12) rfl) tyX11 tyX11_ok nmX11 rfl (ty := .int) rfl rfl rfl (Nat.le_of_ble_eq_true rfl) dX11_init_45 [(h0, .inr (11, [.null, .null, .int 0, .int 0, .int (-1), .int 0, .long 0, .ref q1, .int 0, .null, .int 0, .int 0, .int 0])), (q1, .inl (cA 1, 6004, .inl (fun _ => 0)))] rfl ?_
  refine zz_aload_n X 0 dX11_init_48 rfl rfl ?_
  refine zz_ldc X (List.mem_of_getElem? (i := 13) rfl) dX11_init_49 ?_
  refine zz_newaI X 1 rfl 100000 (List.mem_of_getElem? (i := 10) rfl) (by decide) (by decide) (Nat.le_of_ble_eq_true rfl) (Nat.le_of_ble_eq_true rfl) (Nat.le_of_ble_eq_true rfl) dX11_init_51 (fun q2 => ?_)
  refine zz_show (ws' := [(h0, .inr (11, [.null, .null, .int 0, .int 0, .int (-1), .int 0, .long 0, .ref q1, .int 0, .null, .int 0, .int 0, .int 0])), (q1, .inl (cA 1, 6004, .inl (fun _ => 0))), (q2, .inl (cA 1, 100000, .inl (fun _ => 0)))]) rfl ?_
  refine zz_putF X 0 9 rfl rfl (by decide) inX11_init_X11 rfl (List.mem_of_getElem? (i := 14) rfl) tyX11 tyX11_ok nmX11 rfl hin rfl (ty := (.array .int)) rfl rfl rfl (Nat.le_of_ble_eq_true rfl) dX11_init_53 [(h0, .inr (11, [.null, .null, .int 0, .int 0, .int (-1), .int 0, .long 0, .ref q1, .int 0, .ref q2, .int 0, .int 0, .int 0])), (q1, .inl (cA 1, 6004, .inl (fun _ => 0))), (q2, .inl (cA 1, 100000, .inl (fun _ => 0)))] rfl ?_
  refine zz_aload_n X 0 dX11_init_56 rfl rfl ?_
  refine zz_iconst X 0 dX11_init_57 rfl ?_
  refine zz_put X 0 10 rfl rfl (by decide) inX11_init_X11 rfl (List.mem_of_getElem? (i := 15) rfl) tyX11 tyX11_ok nmX11 rfl (ty := .int) rfl rfl rfl (Nat.le_of_ble_eq_true rfl) dX11_init_58 [(h0, .inr (11, [.null, .null, .int 0, .int 0, .int (-1), .int 0, .long 0, .ref q1, .int 0, .ref q2, .int 0, .int 0, .int 0])), (q1, .inl (cA 1, 6004, .inl (fun _ => 0))), (q2, .inl (cA 1, 100000, .inl (fun _ => 0)))] rfl ?_
  refine zz_aload_n X 0 dX11_init_61 rfl rfl ?_
  refine zz_iconst X 0 dX11_init_62 rfl ?_
  refine zz_put X 0 11 rfl rfl (by decide) inX11_init_X11 rfl (List.mem_of_getElem? (i := 16) rfl) tyX11 tyX11_ok nmX11 rfl (ty := .int) rfl rfl rfl (Nat.le_of_ble_eq_true rfl) dX11_init_63 [(h0, .inr (11, [.null, .null, .int 0, .int 0, .int (-1), .int 0, .long 0, .ref q1, .int 0, .ref q2, .int 0, .int 0, .int 0])), (q1, .inl (cA 1, 6004, .inl (fun _ => 0))), (q2, .inl (cA 1, 100000, .inl (fun _ => 0)))] rfl ?_
  refine zz_aload_n X 0 dX11_init_66 rfl rfl ?_
  refine zz_iconst X 0 dX11_init_67 rfl ?_
  refine zz_put X 0 12 rfl rfl (by decide) inX11_init_X11 rfl (List.mem_of_getElem? (i := 17) rfl) tyX11 tyX11_ok nmX11 rfl (ty := .boolean) rfl (by decide) rfl (Nat.le_of_ble_eq_true rfl) dX11_init_68 [(h0, .inr (11, [.null, .null, .int 0, .int 0, .int (-1), .int 0, .long 0, .ref q1, .int 0, .ref q2, .int 0, .int 0, .int 0])), (q1, .inl (cA 1, 6004, .inl (fun _ => 0))), (q2, .inl (cA 1, 100000, .inl (fun _ => 0)))] rfl ?_
  refine zz_aload_n X 0 dX11_init_71 rfl rfl ?_
  refine zz_aload_n X 1 dX11_init_72 rfl rfl ?_
  refine zz_putF X 0 0 rfl rfl (by decide) inX11_init_X11 rfl (List.mem_of_getElem? (i := 18) rfl) tyX11 tyX11_ok nmX11 rfl hin rfl (ty := (.object "PolicyHouse$Heap")) rfl rfl rfl (Nat.le_of_ble_eq_true rfl) dX11_init_73 [(h0, .inr (11, [.ref bh, .null, .int 0, .int 0, .int (-1), .int 0, .long 0, .ref q1, .int 0, .ref q2, .int 0, .int 0, .int 0])), (q1, .inl (cA 1, 6004, .inl (fun _ => 0))), (q2, .inl (cA 1, 100000, .inl (fun _ => 0)))] rfl ?_
  exact zz_vret X hr ((q1, q2)) [0, 1, 2] (by decide) rfl rfl (Nat.le_of_ble_eq_true rfl) (Nat.le_of_ble_eq_true rfl) (trivial) dX11_init_76

set_option maxHeartbeats 4000000 in
set_option maxRecDepth 100000 in
/-- Reader(heap, texts, names) -/
theorem kX8_init {E : zEn} (hE : zOk E) (l : Launch) (D : va_G) (cA : Nat → ClassId) (h0 : Nat) (bh : Nat) (bt : Nat) (bn : Nat) : zMv E l yX8_init wsX8_init ({ frames := 1, cells := 4, slots := 24008, locals := 12 }) D vwCl (zT cA) [.ref h0, .ref bh, .ref bt, .ref bn] [(h0, .inr (8, [.null, .null, .null, .null, .null, .null, .null, .int 0, .int 0, .int 0, .int 0, .int 0, .int 0, .int 0, .null]))] (S := Nat × Nat × Nat × Nat) (fun (u : Nat × Nat × Nat × Nat) => (True)) (fun (u : Nat × Nat × Nat × Nat) => [(h0, .inr (8, [.ref bh, .ref bt, .ref bn, .ref u.1, .ref u.2.1, .ref u.2.2.1, .ref u.2.2.2, .int (-1), .int 0, .int 0, .int 0, .int (-1), .int 0, .int 0, .null])), (u.1, .inl (cA 1, 6002, .inl (fun _ => 0))), (u.2.1, .inl (cA 1, 6002, .inl (fun _ => 0))), (u.2.2.1, .inl (cA 1, 6002, .inl (fun _ => 0))), (u.2.2.2, .inl (cA 1, 6002, .inl (fun _ => 0)))]) := by
  refine zz_enterv (cc := cX8_init) (lv := [(0, .ref h0), (1, .ref bh), (2, .ref bt), (3, .ref bn)]) hE 4 (by decide) rfl (Nat.le_of_ble_eq_true rfl) rfl ?_
  intro p e s m args below meth c X hr hin
  refine zz_aload_n X 0 dX8_init_0 rfl rfl ?_
  refine zz_objInit X (List.mem_of_getElem? (i := 1) rfl) (List.mem_of_getElem? (i := 2) rfl) (List.mem_of_getElem? (i := 3) rfl) dX8_init_1 (Nat.le_of_ble_eq_true rfl) (Nat.le_of_ble_eq_true rfl) ?_
  refine zz_aload_n X 0 dX8_init_4 rfl rfl ?_
  refine zz_sipush X 6002 dX8_init_5 rfl ?_
  refine zz_newaI X 1 rfl 6002 (List.mem_of_getElem? (i := 4) rfl) (by decide) (by decide) (Nat.le_of_ble_eq_true rfl) (Nat.le_of_ble_eq_true rfl) (Nat.le_of_ble_eq_true rfl) dX8_init_8 (fun q1 => ?_)
  refine zz_show (ws' := [(h0, .inr (8, [.null, .null, .null, .null, .null, .null, .null, .int 0, .int 0, .int 0, .int 0, .int 0, .int 0, .int 0, .null])), (q1, .inl (cA 1, 6002, .inl (fun _ => 0)))]) rfl ?_
  refine zz_putF X 0 3 rfl rfl (by decide) inX8_init_X8 rfl (List.mem_of_getElem? (i := 5) rfl) tyX8 tyX8_ok nmX8 rfl hin rfl (ty := (.array .int)) rfl rfl rfl (Nat.le_of_ble_eq_true rfl) dX8_init_10 [(h0, .inr (8, [.null, .null, .null, .ref q1, .null, .null, .null, .int 0, .int 0, .int 0, .int 0, .int 0, .int 0, .int 0, .null])), (q1, .inl (cA 1, 6002, .inl (fun _ => 0)))] rfl ?_
  refine zz_aload_n X 0 dX8_init_13 rfl rfl ?_
  refine zz_sipush X 6002 dX8_init_14 rfl ?_
  refine zz_newaI X 1 rfl 6002 (List.mem_of_getElem? (i := 4) rfl) (by decide) (by decide) (Nat.le_of_ble_eq_true rfl) (Nat.le_of_ble_eq_true rfl) (Nat.le_of_ble_eq_true rfl) dX8_init_17 (fun q2 => ?_)
  refine zz_show (ws' := [(h0, .inr (8, [.null, .null, .null, .ref q1, .null, .null, .null, .int 0, .int 0, .int 0, .int 0, .int 0, .int 0, .int 0, .null])), (q1, .inl (cA 1, 6002, .inl (fun _ => 0))), (q2, .inl (cA 1, 6002, .inl (fun _ => 0)))]) rfl ?_
  refine zz_putF X 0 4 rfl rfl (by decide) inX8_init_X8 rfl (List.mem_of_getElem? (i := 6) rfl) tyX8 tyX8_ok nmX8 rfl hin rfl (ty := (.array .int)) rfl rfl rfl (Nat.le_of_ble_eq_true rfl) dX8_init_19 [(h0, .inr (8, [.null, .null, .null, .ref q1, .ref q2, .null, .null, .int 0, .int 0, .int 0, .int 0, .int 0, .int 0, .int 0, .null])), (q1, .inl (cA 1, 6002, .inl (fun _ => 0))), (q2, .inl (cA 1, 6002, .inl (fun _ => 0)))] rfl ?_
  refine zz_aload_n X 0 dX8_init_22 rfl rfl ?_
  refine zz_sipush X 6002 dX8_init_23 rfl ?_
  refine zz_newaI X 1 rfl 6002 (List.mem_of_getElem? (i := 4) rfl) (by decide) (by decide) (Nat.le_of_ble_eq_true rfl) (Nat.le_of_ble_eq_true rfl) (Nat.le_of_ble_eq_true rfl) dX8_init_26 (fun q3 => ?_)
  refine zz_show (ws' := [(h0, .inr (8, [.null, .null, .null, .ref q1, .ref q2, .null, .null, .int 0, .int 0, .int 0, .int 0, .int 0, .int 0, .int 0, .null])), (q1, .inl (cA 1, 6002, .inl (fun _ => 0))), (q2, .inl (cA 1, 6002, .inl (fun _ => 0))), (q3, .inl (cA 1, 6002, .inl (fun _ => 0)))]) rfl ?_
  refine zz_putF X 0 5 rfl rfl (by decide) inX8_init_X8 rfl (List.mem_of_getElem? (i := 7) rfl) tyX8 tyX8_ok nmX8 rfl hin rfl (ty := (.array .int)) rfl rfl rfl (Nat.le_of_ble_eq_true rfl) dX8_init_28 [(h0, .inr (8, [.null, .null, .null, .ref q1, .ref q2, .ref q3, .null, .int 0, .int 0, .int 0, .int 0, .int 0, .int 0, .int 0, .null])), (q1, .inl (cA 1, 6002, .inl (fun _ => 0))), (q2, .inl (cA 1, 6002, .inl (fun _ => 0))), (q3, .inl (cA 1, 6002, .inl (fun _ => 0)))] rfl ?_
  refine zz_aload_n X 0 dX8_init_31 rfl rfl ?_
  refine zz_sipush X 6002 dX8_init_32 rfl ?_
  refine zz_newaI X 1 rfl 6002 (List.mem_of_getElem? (i := 4) rfl) (by decide) (by decide) (Nat.le_of_ble_eq_true rfl) (Nat.le_of_ble_eq_true rfl) (Nat.le_of_ble_eq_true rfl) dX8_init_35 (fun q4 => ?_)
  refine zz_show (ws' := [(h0, .inr (8, [.null, .null, .null, .ref q1, .ref q2, .ref q3, .null, .int 0, .int 0, .int 0, .int 0, .int 0, .int 0, .int 0, .null])), (q1, .inl (cA 1, 6002, .inl (fun _ => 0))), (q2, .inl (cA 1, 6002, .inl (fun _ => 0))), (q3, .inl (cA 1, 6002, .inl (fun _ => 0))), (q4, .inl (cA 1, 6002, .inl (fun _ => 0)))]) rfl ?_
  refine zz_putF X 0 6 rfl rfl (by decide) inX8_init_X8 rfl (List.mem_of_getElem? (i := 8) rfl) tyX8 tyX8_ok nmX8 rfl hin rfl (ty := (.array .int)) rfl rfl rfl (Nat.le_of_ble_eq_true rfl) dX8_init_37 [(h0, .inr (8, [.null, .null, .null, .ref q1, .ref q2, .ref q3, .ref q4, .int 0, .int 0, .int 0, .int 0, .int 0, .int 0, .int 0, .null])), (q1, .inl (cA 1, 6002, .inl (fun _ => 0))), (q2, .inl (cA 1, 6002, .inl (fun _ => 0))), (q3, .inl (cA 1, 6002, .inl (fun _ => 0))), (q4, .inl (cA 1, 6002, .inl (fun _ => 0)))] rfl ?_
  refine zz_aload_n X 0 dX8_init_40 rfl rfl ?_
  refine zz_iconst X (-1) dX8_init_41 rfl ?_
  refine zz_put X 0 7 rfl rfl (by decide) inX8_init_X8 rfl (List.mem_of_getElem? (i := 9) rfl) tyX8 tyX8_ok nmX8 rfl (ty := .int) rfl rfl rfl (Nat.le_of_ble_eq_true rfl) dX8_init_42 [(h0, .inr (8, [.null, .null, .null, .ref q1, .ref q2, .ref q3, .ref q4, .int (-1), .int 0, .int 0, .int 0, .int 0, .int 0, .int 0, .null])), (q1, .inl (cA 1, 6002, .inl (fun _ => 0))), (q2, .inl (cA 1, 6002, .inl (fun _ => 0))), (q3, .inl (cA 1, 6002, .inl (fun _ => 0))), (q4, .inl (cA 1, 6002, .inl (fun _ => 0)))] rfl ?_
  refine zz_aload_n X 0 dX8_init_45 rfl rfl ?_
  refine zz_iconst X 0 dX8_init_46 rfl ?_
  refine zz_put X 0 8 rfl rfl (by decide) inX8_init_X8 rfl (List.mem_of_getElem? (i := 10) rfl) tyX8 tyX8_ok nmX8 rfl (ty := .int) rfl rfl rfl (Nat.le_of_ble_eq_true rfl) dX8_init_47 [(h0, .inr (8, [.null, .null, .null, .ref q1, .ref q2, .ref q3, .ref q4, .int (-1), .int 0, .int 0, .int 0, .int 0, .int 0, .int 0, .null])), (q1, .inl (cA 1, 6002, .inl (fun _ => 0))), (q2, .inl (cA 1, 6002, .inl (fun _ => 0))), (q3, .inl (cA 1, 6002, .inl (fun _ => 0))), (q4, .inl (cA 1, 6002, .inl (fun _ => 0)))] rfl ?_
  refine zz_aload_n X 0 dX8_init_50 rfl rfl ?_
  refine zz_iconst X 0 dX8_init_51 rfl ?_
  refine zz_put X 0 9 rfl rfl (by decide) inX8_init_X8 rfl (List.mem_of_getElem? (i := 11) rfl) tyX8 tyX8_ok nmX8 rfl (ty := .int) rfl rfl rfl (Nat.le_of_ble_eq_true rfl) dX8_init_52 [(h0, .inr (8, [.null, .null, .null, .ref q1, .ref q2, .ref q3, .ref q4, .int (-1), .int 0, .int 0, .int 0, .int 0, .int 0, .int 0, .null])), (q1, .inl (cA 1, 6002, .inl (fun _ => 0))), (q2, .inl (cA 1, 6002, .inl (fun _ => 0))), (q3, .inl (cA 1, 6002, .inl (fun _ => 0))), (q4, .inl (cA 1, 6002, .inl (fun _ => 0)))] rfl ?_
  refine zz_aload_n X 0 dX8_init_55 rfl rfl ?_
  refine zz_iconst X 0 dX8_init_56 rfl ?_
  refine zz_put X 0 10 rfl rfl (by decide) inX8_init_X8 rfl (List.mem_of_getElem? (i := 12) rfl) tyX8 tyX8_ok nmX8 rfl (ty := .int) rfl rfl rfl (Nat.le_of_ble_eq_true rfl) dX8_init_57 [(h0, .inr (8, [.null, .null, .null, .ref q1, .ref q2, .ref q3, .ref q4, .int (-1), .int 0, .int 0, .int 0, .int 0, .int 0, .int 0, .null])), (q1, .inl (cA 1, 6002, .inl (fun _ => 0))), (q2, .inl (cA 1, 6002, .inl (fun _ => 0))), (q3, .inl (cA 1, 6002, .inl (fun _ => 0))), (q4, .inl (cA 1, 6002, .inl (fun _ => 0)))] rfl ?_
  refine zz_aload_n X 0 dX8_init_60 rfl rfl ?_
  refine zz_iconst X (-1) dX8_init_61 rfl ?_
  refine zz_put X 0 11 rfl rfl (by decide) inX8_init_X8 rfl (List.mem_of_getElem? (i := 13) rfl) tyX8 tyX8_ok nmX8 rfl (ty := .int) rfl rfl rfl (Nat.le_of_ble_eq_true rfl) dX8_init_62 [(h0, .inr (8, [.null, .null, .null, .ref q1, .ref q2, .ref q3, .ref q4, .int (-1), .int 0, .int 0, .int 0, .int (-1), .int 0, .int 0, .null])), (q1, .inl (cA 1, 6002, .inl (fun _ => 0))), (q2, .inl (cA 1, 6002, .inl (fun _ => 0))), (q3, .inl (cA 1, 6002, .inl (fun _ => 0))), (q4, .inl (cA 1, 6002, .inl (fun _ => 0)))] rfl ?_
  refine zz_aload_n X 0 dX8_init_65 rfl rfl ?_
  refine zz_iconst X 0 dX8_init_66 rfl ?_
  refine zz_put X 0 12 rfl rfl (by decide) inX8_init_X8 rfl (List.mem_of_getElem? (i := 14) rfl) tyX8 tyX8_ok nmX8 rfl (ty := .int) rfl rfl rfl (Nat.le_of_ble_eq_true rfl) dX8_init_67 [(h0, .inr (8, [.null, .null, .null, .ref q1, .ref q2, .ref q3, .ref q4, .int (-1), .int 0, .int 0, .int 0, .int (-1), .int 0, .int 0, .null])), (q1, .inl (cA 1, 6002, .inl (fun _ => 0))), (q2, .inl (cA 1, 6002, .inl (fun _ => 0))), (q3, .inl (cA 1, 6002, .inl (fun _ => 0))), (q4, .inl (cA 1, 6002, .inl (fun _ => 0)))] rfl ?_
  refine zz_aload_n X 0 dX8_init_70 rfl rfl ?_
  refine zz_iconst X 0 dX8_init_71 rfl ?_
  refine zz_put X 0 13 rfl rfl (by decide) inX8_init_X8 rfl (List.mem_of_getElem? (i := 15) rfl) tyX8 tyX8_ok nmX8 rfl (ty := .int) rfl rfl rfl (Nat.le_of_ble_eq_true rfl) dX8_init_72 [(h0, .inr (8, [.null, .null, .null, .ref q1, .ref q2, .ref q3, .ref q4, .int (-1), .int 0, .int 0, .int 0, .int (-1), .int 0, .int 0, .null])), (q1, .inl (cA 1, 6002, .inl (fun _ => 0))), (q2, .inl (cA 1, 6002, .inl (fun _ => 0))), (q3, .inl (cA 1, 6002, .inl (fun _ => 0))), (q4, .inl (cA 1, 6002, .inl (fun _ => 0)))] rfl ?_
  refine zz_aload_n X 0 dX8_init_75 rfl rfl ?_
  refine zz_null X dX8_init_76 ?_
  refine zz_put X 0 14 rfl rfl (by decide) inX8_init_X8 rfl (List.mem_of_getElem? (i := 16) rfl) tyX8 tyX8_ok nmX8 rfl (ty := (.object "PolicyHouse$Tree")) rfl rfl rfl (Nat.le_of_ble_eq_true rfl) dX8_init_77 [(h0, .inr (8, [.null, .null, .null, .ref q1, .ref q2, .ref q3, .ref q4, .int (-1), .int 0, .int 0, .int 0, .int (-1), .int 0, .int 0, .null])), (q1, .inl (cA 1, 6002, .inl (fun _ => 0))), (q2, .inl (cA 1, 6002, .inl (fun _ => 0))), (q3, .inl (cA 1, 6002, .inl (fun _ => 0))), (q4, .inl (cA 1, 6002, .inl (fun _ => 0)))] rfl ?_
  refine zz_aload_n X 0 dX8_init_80 rfl rfl ?_
  refine zz_aload_n X 1 dX8_init_81 rfl rfl ?_
  refine zz_putF X 0 0 rfl rfl (by decide) inX8_init_X8 rfl (List.mem_of_getElem? (i := 17) rfl) tyX8 tyX8_ok nmX8 rfl hin rfl (ty := (.object "PolicyHouse$Heap")) rfl rfl rfl (Nat.le_of_ble_eq_true rfl) dX8_init_82 [(h0, .inr (8, [.ref bh, .null, .null, .ref q1, .ref q2, .ref q3, .ref q4, .int (-1), .int 0, .int 0, .int 0, .int (-1), .int 0, .int 0, .null])), (q1, .inl (cA 1, 6002, .inl (fun _ => 0))), (q2, .inl (cA 1, 6002, .inl (fun _ => 0))), (q3, .inl (cA 1, 6002, .inl (fun _ => 0))), (q4, .inl (cA 1, 6002, .inl (fun _ => 0)))] rfl ?_
  refine zz_aload_n X 0 dX8_init_85 rfl rfl ?_
  refine zz_aload_n X 2 dX8_init_86 rfl rfl ?_
  refine zz_putF X 0 1 rfl rfl (by decide) inX8_init_X8 rfl (List.mem_of_getElem? (i := 18) rfl) tyX8 tyX8_ok nmX8 rfl hin rfl (ty := (.object "PolicyHouse$Texts")) rfl rfl rfl (Nat.le_of_ble_eq_true rfl) dX8_init_87 [(h0, .inr (8, [.ref bh, .ref bt, .null, .ref q1, .ref q2, .ref q3, .ref q4, .int (-1), .int 0, .int 0, .int 0, .int (-1), .int 0, .int 0, .null])), (q1, .inl (cA 1, 6002, .inl (fun _ => 0))), (q2, .inl (cA 1, 6002, .inl (fun _ => 0))), (q3, .inl (cA 1, 6002, .inl (fun _ => 0))), (q4, .inl (cA 1, 6002, .inl (fun _ => 0)))] rfl ?_
  refine zz_aload_n X 0 dX8_init_90 rfl rfl ?_
  refine zz_aload_n X 3 dX8_init_91 rfl rfl ?_
  refine zz_putF X 0 2 rfl rfl (by decide) inX8_init_X8 rfl (List.mem_of_getElem? (i := 19) rfl) tyX8 tyX8_ok nmX8 rfl hin rfl (ty := (.object "PolicyHouse$Names")) rfl rfl rfl (Nat.le_of_ble_eq_true rfl) dX8_init_92 [(h0, .inr (8, [.ref bh, .ref bt, .ref bn, .ref q1, .ref q2, .ref q3, .ref q4, .int (-1), .int 0, .int 0, .int 0, .int (-1), .int 0, .int 0, .null])), (q1, .inl (cA 1, 6002, .inl (fun _ => 0))), (q2, .inl (cA 1, 6002, .inl (fun _ => 0))), (q3, .inl (cA 1, 6002, .inl (fun _ => 0))), (q4, .inl (cA 1, 6002, .inl (fun _ => 0)))] rfl ?_
  exact zz_vret X hr ((q1, q2, q3, q4)) [0, 1, 2, 3, 4] (by decide) rfl rfl (Nat.le_of_ble_eq_true rfl) (Nat.le_of_ble_eq_true rfl) (trivial) dX8_init_95

set_option maxHeartbeats 4000000 in
set_option maxRecDepth 100000 in
/-- Checker(heap, names) -/
theorem kX2_init {E : zEn} (hE : zOk E) (l : Launch) (D : va_G) (cA : Nat → ClassId) (h0 : Nat) (bh : Nat) (bn : Nat) : zMv E l yX2_init wsX2_init ({ frames := 1, cells := 7, slots := 37216, locals := 12 }) D vwCl (zT cA) [.ref h0, .ref bh, .ref bn] [(h0, .inr (2, [.null, .null, .null, .null, .int 0, .null, .null, .null, .int 0, .null, .int 0, .int 0, .int 0, .null, .null, .null]))] (S := Nat × Nat × Nat × Nat × Nat × Nat × Nat) (fun (u : Nat × Nat × Nat × Nat × Nat × Nat × Nat) => (True)) (fun (u : Nat × Nat × Nat × Nat × Nat × Nat × Nat) => [(h0, .inr (2, [.ref bh, .ref bn, .null, .null, .int 0, .ref u.1, .ref u.2.1, .ref u.2.2.1, .int 0, .ref u.2.2.2.1, .int 0, .int 0, .int 0, .ref u.2.2.2.2.1, .ref u.2.2.2.2.2.1, .ref u.2.2.2.2.2.2])), (u.1, .inl (cA 1, 6100, .inl (fun _ => 0))), (u.2.1, .inl (cA 1, 6100, .inl (fun _ => 0))), (u.2.2.1, .inl (cA 1, 6100, .inl (fun _ => 0))), (u.2.2.2.1, .inl (cA 1, 6100, .inl (fun _ => 0))), (u.2.2.2.2.1, .inl (cA 1, 16, .inl (fun _ => 0))), (u.2.2.2.2.2.1, .inl (cA 1, 6400, .inl (fun _ => 0))), (u.2.2.2.2.2.2, .inl (cA 1, 6400, .inl (fun _ => 0)))]) := by
  refine zz_enterv (cc := cX2_init) (lv := [(0, .ref h0), (1, .ref bh), (2, .ref bn)]) hE 3 (by decide) rfl (Nat.le_of_ble_eq_true rfl) rfl ?_
  intro p e s m args below meth c X hr hin
  refine zz_aload_n X 0 dX2_init_0 rfl rfl ?_
  refine zz_objInit X (List.mem_of_getElem? (i := 1) rfl) (List.mem_of_getElem? (i := 2) rfl) (List.mem_of_getElem? (i := 3) rfl) dX2_init_1 (Nat.le_of_ble_eq_true rfl) (Nat.le_of_ble_eq_true rfl) ?_
  refine zz_aload_n X 0 dX2_init_4 rfl rfl ?_
  refine zz_null X dX2_init_5 ?_
  refine zz_put X 0 2 rfl rfl (by decide) inX2_init_X2 rfl (List.mem_of_getElem? (i := 4) rfl) tyX2 tyX2_ok nmX2 rfl (ty := (.object "PolicyHouse$Bundle")) rfl rfl rfl (Nat.le_of_ble_eq_true rfl) dX2_init_6 [(h0, .inr (2, [.null, .null, .null, .null, .int 0, .null, .null, .null, .int 0, .null, .int 0, .int 0, .int 0, .null, .null, .null]))] rfl ?_
  refine zz_aload_n X 0 dX2_init_9 rfl rfl ?_
  refine zz_null X dX2_init_10 ?_
  refine zz_put X 0 3 rfl rfl (by decide) inX2_init_X2 rfl (List.mem_of_getElem? (i := 5) rfl) tyX2 tyX2_ok nmX2 rfl (ty := (.object "PolicyHouse$Tree")) rfl rfl rfl (Nat.le_of_ble_eq_true rfl) dX2_init_11 [(h0, .inr (2, [.null, .null, .null, .null, .int 0, .null, .null, .null, .int 0, .null, .int 0, .int 0, .int 0, .null, .null, .null]))] rfl ?_
  refine zz_aload_n X 0 dX2_init_14 rfl rfl ?_
  refine zz_iconst X 0 dX2_init_15 rfl ?_
  refine zz_put X 0 4 rfl rfl (by decide) inX2_init_X2 rfl (List.mem_of_getElem? (i := 6) rfl) tyX2 tyX2_ok nmX2 rfl (ty := .int) rfl rfl rfl (Nat.le_of_ble_eq_true rfl) dX2_init_16 [(h0, .inr (2, [.null, .null, .null, .null, .int 0, .null, .null, .null, .int 0, .null, .int 0, .int 0, .int 0, .null, .null, .null]))] rfl ?_
  refine zz_aload_n X 0 dX2_init_19 rfl rfl ?_
  refine zz_sipush X 6100 dX2_init_20 rfl ?_
  refine zz_newaI X 1 rfl 6100 (List.mem_of_getElem? (i := 7) rfl) (by decide) (by decide) (Nat.le_of_ble_eq_true rfl) (Nat.le_of_ble_eq_true rfl) (Nat.le_of_ble_eq_true rfl) dX2_init_23 (fun q1 => ?_)
  refine zz_show (ws' := [(h0, .inr (2, [.null, .null, .null, .null, .int 0, .null, .null, .null, .int 0, .null, .int 0, .int 0, .int 0, .null, .null, .null])), (q1, .inl (cA 1, 6100, .inl (fun _ => 0)))]) rfl ?_
  refine zz_putF X 0 5 rfl rfl (by decide) inX2_init_X2 rfl (List.mem_of_getElem? (i := 8) rfl) tyX2 tyX2_ok nmX2 rfl hin rfl (ty := (.array .int)) rfl rfl rfl (Nat.le_of_ble_eq_true rfl) dX2_init_25 [(h0, .inr (2, [.null, .null, .null, .null, .int 0, .ref q1, .null, .null, .int 0, .null, .int 0, .int 0, .int 0, .null, .null, .null])), (q1, .inl (cA 1, 6100, .inl (fun _ => 0)))] rfl ?_
  refine zz_aload_n X 0 dX2_init_28 rfl rfl ?_
  refine zz_sipush X 6100 dX2_init_29 rfl ?_
  refine zz_newaI X 1 rfl 6100 (List.mem_of_getElem? (i := 7) rfl) (by decide) (by decide) (Nat.le_of_ble_eq_true rfl) (Nat.le_of_ble_eq_true rfl) (Nat.le_of_ble_eq_true rfl) dX2_init_32 (fun q2 => ?_)
  refine zz_show (ws' := [(h0, .inr (2, [.null, .null, .null, .null, .int 0, .ref q1, .null, .null, .int 0, .null, .int 0, .int 0, .int 0, .null, .null, .null])), (q1, .inl (cA 1, 6100, .inl (fun _ => 0))), (q2, .inl (cA 1, 6100, .inl (fun _ => 0)))]) rfl ?_
  refine zz_putF X 0 6 rfl rfl (by decide) inX2_init_X2 rfl (List.mem_of_getElem? (i := 9) rfl) tyX2 tyX2_ok nmX2 rfl hin rfl (ty := (.array .int)) rfl rfl rfl (Nat.le_of_ble_eq_true rfl) dX2_init_34 [(h0, .inr (2, [.null, .null, .null, .null, .int 0, .ref q1, .ref q2, .null, .int 0, .null, .int 0, .int 0, .int 0, .null, .null, .null])), (q1, .inl (cA 1, 6100, .inl (fun _ => 0))), (q2, .inl (cA 1, 6100, .inl (fun _ => 0)))] rfl ?_
  refine zz_aload_n X 0 dX2_init_37 rfl rfl ?_
  refine zz_sipush X 6100 dX2_init_38 rfl ?_
  refine zz_newaI X 1 rfl 6100 (List.mem_of_getElem? (i := 7) rfl) (by decide) (by decide) (Nat.le_of_ble_eq_true rfl) (Nat.le_of_ble_eq_true rfl) (Nat.le_of_ble_eq_true rfl) dX2_init_41 (fun q3 => ?_)
  refine zz_show (ws' := [(h0, .inr (2, [.null, .null, .null, .null, .int 0, .ref q1, .ref q2, .null, .int 0, .null, .int 0, .int 0, .int 0, .null, .null, .null])), (q1, .inl (cA 1, 6100, .inl (fun _ => 0))), (q2, .inl (cA 1, 6100, .inl (fun _ => 0))), (q3, .inl (cA 1, 6100, .inl (fun _ => 0)))]) rfl ?_
  refine zz_putF X 0 7 rfl rfl (by decide) inX2_init_X2 rfl (List.mem_of_getElem? (i := 10) rfl) tyX2 tyX2_ok nmX2 rfl hin rfl (ty := (.array .int)) rfl rfl rfl (Nat.le_of_ble_eq_true rfl) dX2_init_43 [(h0, .inr (2, [.null, .null, .null, .null, .int 0, .ref q1, .ref q2, .ref q3, .int 0, .null, .int 0, .int 0, .int 0, .null, .null, .null])), (q1, .inl (cA 1, 6100, .inl (fun _ => 0))), (q2, .inl (cA 1, 6100, .inl (fun _ => 0))), (q3, .inl (cA 1, 6100, .inl (fun _ => 0)))] rfl ?_
  refine zz_aload_n X 0 dX2_init_46 rfl rfl ?_
  refine zz_iconst X 0 dX2_init_47 rfl ?_
  refine zz_put X 0 8 rfl rfl (by decide) inX2_init_X2 rfl (List.mem_of_getElem? (i := 11) rfl) tyX2 tyX2_ok nmX2 rfl (ty := .int) rfl rfl rfl (Nat.le_of_ble_eq_true rfl) dX2_init_48 [(h0, .inr (2, [.null, .null, .null, .null, .int 0, .ref q1, .ref q2, .ref q3, .int 0, .null, .int 0, .int 0, .int 0, .null, .null, .null])), (q1, .inl (cA 1, 6100, .inl (fun _ => 0))), (q2, .inl (cA 1, 6100, .inl (fun _ => 0))), (q3, .inl (cA 1, 6100, .inl (fun _ => 0)))] rfl ?_
  refine zz_aload_n X 0 dX2_init_51 rfl rfl ?_
  refine zz_sipush X 6100 dX2_init_52 rfl ?_
  refine zz_newaI X 1 rfl 6100 (List.mem_of_getElem? (i := 7) rfl) (by decide) (by decide) (Nat.le_of_ble_eq_true rfl) (Nat.le_of_ble_eq_true rfl) (Nat.le_of_ble_eq_true rfl) dX2_init_55 (fun q4 => ?_)
  refine zz_show (ws' := [(h0, .inr (2, [.null, .null, .null, .null, .int 0, .ref q1, .ref q2, .ref q3, .int 0, .null, .int 0, .int 0, .int 0, .null, .null, .null])), (q1, .inl (cA 1, 6100, .inl (fun _ => 0))), (q2, .inl (cA 1, 6100, .inl (fun _ => 0))), (q3, .inl (cA 1, 6100, .inl (fun _ => 0))), (q4, .inl (cA 1, 6100, .inl (fun _ => 0)))]) rfl ?_
  refine zz_putF X 0 9 rfl rfl (by decide) inX2_init_X2 rfl (List.mem_of_getElem? (i := 12) rfl) tyX2 tyX2_ok nmX2 rfl hin rfl (ty := (.array .int)) rfl rfl rfl (Nat.le_of_ble_eq_true rfl) dX2_init_57 [(h0, .inr (2, [.null, .null, .null, .null, .int 0, .ref q1, .ref q2, .ref q3, .int 0, .ref q4, .int 0, .int 0, .int 0, .null, .null, .null])), (q1, .inl (cA 1, 6100, .inl (fun _ => 0))), (q2, .inl (cA 1, 6100, .inl (fun _ => 0))), (q3, .inl (cA 1, 6100, .inl (fun _ => 0))), (q4, .inl (cA 1, 6100, .inl (fun _ => 0)))] rfl ?_
  refine zz_aload_n X 0 dX2_init_60 rfl rfl ?_
  refine zz_iconst X 0 dX2_init_61 rfl ?_
  refine zz_put X 0 10 rfl rfl (by decide) inX2_init_X2 rfl (List.mem_of_getElem? (i := 13) rfl) tyX2 tyX2_ok nmX2 rfl (ty := .int) rfl rfl rfl (Nat.le_of_ble_eq_true rfl) dX2_init_62 [(h0, .inr (2, [.null, .null, .null, .null, .int 0, .ref q1, .ref q2, .ref q3, .int 0, .ref q4, .int 0, .int 0, .int 0, .null, .null, .null])), (q1, .inl (cA 1, 6100, .inl (fun _ => 0))), (q2, .inl (cA 1, 6100, .inl (fun _ => 0))), (q3, .inl (cA 1, 6100, .inl (fun _ => 0))), (q4, .inl (cA 1, 6100, .inl (fun _ => 0)))] rfl ?_
  refine zz_aload_n X 0 dX2_init_65 rfl rfl ?_
  refine zz_iconst X 0 dX2_init_66 rfl ?_
  refine zz_put X 0 11 rfl rfl (by decide) inX2_init_X2 rfl (List.mem_of_getElem? (i := 14) rfl) tyX2 tyX2_ok nmX2 rfl (ty := .int) rfl rfl rfl (Nat.le_of_ble_eq_true rfl) dX2_init_67 [(h0, .inr (2, [.null, .null, .null, .null, .int 0, .ref q1, .ref q2, .ref q3, .int 0, .ref q4, .int 0, .int 0, .int 0, .null, .null, .null])), (q1, .inl (cA 1, 6100, .inl (fun _ => 0))), (q2, .inl (cA 1, 6100, .inl (fun _ => 0))), (q3, .inl (cA 1, 6100, .inl (fun _ => 0))), (q4, .inl (cA 1, 6100, .inl (fun _ => 0)))] rfl ?_
  refine zz_aload_n X 0 dX2_init_70 rfl rfl ?_
  refine zz_iconst X 0 dX2_init_71 rfl ?_
  refine zz_put X 0 12 rfl rfl (by decide) inX2_init_X2 rfl (List.mem_of_getElem? (i := 15) rfl) tyX2 tyX2_ok nmX2 rfl (ty := .int) rfl rfl rfl (Nat.le_of_ble_eq_true rfl) dX2_init_72 [(h0, .inr (2, [.null, .null, .null, .null, .int 0, .ref q1, .ref q2, .ref q3, .int 0, .ref q4, .int 0, .int 0, .int 0, .null, .null, .null])), (q1, .inl (cA 1, 6100, .inl (fun _ => 0))), (q2, .inl (cA 1, 6100, .inl (fun _ => 0))), (q3, .inl (cA 1, 6100, .inl (fun _ => 0))), (q4, .inl (cA 1, 6100, .inl (fun _ => 0)))] rfl ?_
  refine zz_aload_n X 0 dX2_init_75 rfl rfl ?_
  refine zz_bipush X 16 dX2_init_76 rfl ?_
  refine zz_newaI X 1 rfl 16 (List.mem_of_getElem? (i := 7) rfl) (by decide) (by decide) (Nat.le_of_ble_eq_true rfl) (Nat.le_of_ble_eq_true rfl) (Nat.le_of_ble_eq_true rfl) dX2_init_78 (fun q5 => ?_)
  refine zz_show (ws' := [(h0, .inr (2, [.null, .null, .null, .null, .int 0, .ref q1, .ref q2, .ref q3, .int 0, .ref q4, .int 0, .int 0, .int 0, .null, .null, .null])), (q1, .inl (cA 1, 6100, .inl (fun _ => 0))), (q2, .inl (cA 1, 6100, .inl (fun _ => 0))), (q3, .inl (cA 1, 6100, .inl (fun _ => 0))), (q4, .inl (cA 1, 6100, .inl (fun _ => 0))), (q5, .inl (cA 1, 16, .inl (fun _ => 0)))]) rfl ?_
  refine zz_putF X 0 13 rfl rfl (by decide) inX2_init_X2 rfl (List.mem_of_getElem? (i := 16) rfl) tyX2 tyX2_ok nmX2 rfl hin rfl (ty := (.array .int)) rfl rfl rfl (Nat.le_of_ble_eq_true rfl) dX2_init_80 [(h0, .inr (2, [.null, .null, .null, .null, .int 0, .ref q1, .ref q2, .ref q3, .int 0, .ref q4, .int 0, .int 0, .int 0, .ref q5, .null, .null])), (q1, .inl (cA 1, 6100, .inl (fun _ => 0))), (q2, .inl (cA 1, 6100, .inl (fun _ => 0))), (q3, .inl (cA 1, 6100, .inl (fun _ => 0))), (q4, .inl (cA 1, 6100, .inl (fun _ => 0))), (q5, .inl (cA 1, 16, .inl (fun _ => 0)))] rfl ?_
  refine zz_aload_n X 0 dX2_init_83 rfl rfl ?_
  refine zz_sipush X 6400 dX2_init_84 rfl ?_
  refine zz_newaI X 1 rfl 6400 (List.mem_of_getElem? (i := 7) rfl) (by decide) (by decide) (Nat.le_of_ble_eq_true rfl) (Nat.le_of_ble_eq_true rfl) (Nat.le_of_ble_eq_true rfl) dX2_init_87 (fun q6 => ?_)
  refine zz_show (ws' := [(h0, .inr (2, [.null, .null, .null, .null, .int 0, .ref q1, .ref q2, .ref q3, .int 0, .ref q4, .int 0, .int 0, .int 0, .ref q5, .null, .null])), (q1, .inl (cA 1, 6100, .inl (fun _ => 0))), (q2, .inl (cA 1, 6100, .inl (fun _ => 0))), (q3, .inl (cA 1, 6100, .inl (fun _ => 0))), (q4, .inl (cA 1, 6100, .inl (fun _ => 0))), (q5, .inl (cA 1, 16, .inl (fun _ => 0))), (q6, .inl (cA 1, 6400, .inl (fun _ => 0)))]) rfl ?_
  refine zz_putF X 0 14 rfl rfl (by decide) inX2_init_X2 rfl (List.mem_of_getElem? (i := 17) rfl) tyX2 tyX2_ok nmX2 rfl hin rfl (ty := (.array .int)) rfl rfl rfl (Nat.le_of_ble_eq_true rfl) dX2_init_89 [(h0, .inr (2, [.null, .null, .null, .null, .int 0, .ref q1, .ref q2, .ref q3, .int 0, .ref q4, .int 0, .int 0, .int 0, .ref q5, .ref q6, .null])), (q1, .inl (cA 1, 6100, .inl (fun _ => 0))), (q2, .inl (cA 1, 6100, .inl (fun _ => 0))), (q3, .inl (cA 1, 6100, .inl (fun _ => 0))), (q4, .inl (cA 1, 6100, .inl (fun _ => 0))), (q5, .inl (cA 1, 16, .inl (fun _ => 0))), (q6, .inl (cA 1, 6400, .inl (fun _ => 0)))] rfl ?_
  refine zz_aload_n X 0 dX2_init_92 rfl rfl ?_
  refine zz_sipush X 6400 dX2_init_93 rfl ?_
  refine zz_newaI X 1 rfl 6400 (List.mem_of_getElem? (i := 7) rfl) (by decide) (by decide) (Nat.le_of_ble_eq_true rfl) (Nat.le_of_ble_eq_true rfl) (Nat.le_of_ble_eq_true rfl) dX2_init_96 (fun q7 => ?_)
  refine zz_show (ws' := [(h0, .inr (2, [.null, .null, .null, .null, .int 0, .ref q1, .ref q2, .ref q3, .int 0, .ref q4, .int 0, .int 0, .int 0, .ref q5, .ref q6, .null])), (q1, .inl (cA 1, 6100, .inl (fun _ => 0))), (q2, .inl (cA 1, 6100, .inl (fun _ => 0))), (q3, .inl (cA 1, 6100, .inl (fun _ => 0))), (q4, .inl (cA 1, 6100, .inl (fun _ => 0))), (q5, .inl (cA 1, 16, .inl (fun _ => 0))), (q6, .inl (cA 1, 6400, .inl (fun _ => 0))), (q7, .inl (cA 1, 6400, .inl (fun _ => 0)))]) rfl ?_
  refine zz_putF X 0 15 rfl rfl (by decide) inX2_init_X2 rfl (List.mem_of_getElem? (i := 18) rfl) tyX2 tyX2_ok nmX2 rfl hin rfl (ty := (.array .int)) rfl rfl rfl (Nat.le_of_ble_eq_true rfl) dX2_init_98 [(h0, .inr (2, [.null, .null, .null, .null, .int 0, .ref q1, .ref q2, .ref q3, .int 0, .ref q4, .int 0, .int 0, .int 0, .ref q5, .ref q6, .ref q7])), (q1, .inl (cA 1, 6100, .inl (fun _ => 0))), (q2, .inl (cA 1, 6100, .inl (fun _ => 0))), (q3, .inl (cA 1, 6100, .inl (fun _ => 0))), (q4, .inl (cA 1, 6100, .inl (fun _ => 0))), (q5, .inl (cA 1, 16, .inl (fun _ => 0))), (q6, .inl (cA 1, 6400, .inl (fun _ => 0))), (q7, .inl (cA 1, 6400, .inl (fun _ => 0)))] rfl ?_
  refine zz_aload_n X 0 dX2_init_101 rfl rfl ?_
  refine zz_aload_n X 1 dX2_init_102 rfl rfl ?_
  refine zz_putF X 0 0 rfl rfl (by decide) inX2_init_X2 rfl (List.mem_of_getElem? (i := 19) rfl) tyX2 tyX2_ok nmX2 rfl hin rfl (ty := (.object "PolicyHouse$Heap")) rfl rfl rfl (Nat.le_of_ble_eq_true rfl) dX2_init_103 [(h0, .inr (2, [.ref bh, .null, .null, .null, .int 0, .ref q1, .ref q2, .ref q3, .int 0, .ref q4, .int 0, .int 0, .int 0, .ref q5, .ref q6, .ref q7])), (q1, .inl (cA 1, 6100, .inl (fun _ => 0))), (q2, .inl (cA 1, 6100, .inl (fun _ => 0))), (q3, .inl (cA 1, 6100, .inl (fun _ => 0))), (q4, .inl (cA 1, 6100, .inl (fun _ => 0))), (q5, .inl (cA 1, 16, .inl (fun _ => 0))), (q6, .inl (cA 1, 6400, .inl (fun _ => 0))), (q7, .inl (cA 1, 6400, .inl (fun _ => 0)))] rfl ?_
  refine zz_aload_n X 0 dX2_init_106 rfl rfl ?_
  refine zz_aload_n X 2 dX2_init_107 rfl rfl ?_
  refine zz_putF X 0 1 rfl rfl (by decide) inX2_init_X2 rfl (List.mem_of_getElem? (i := 20) rfl) tyX2 tyX2_ok nmX2 rfl hin rfl (ty := (.object "PolicyHouse$Names")) rfl rfl rfl (Nat.le_of_ble_eq_true rfl) dX2_init_108 [(h0, .inr (2, [.ref bh, .ref bn, .null, .null, .int 0, .ref q1, .ref q2, .ref q3, .int 0, .ref q4, .int 0, .int 0, .int 0, .ref q5, .ref q6, .ref q7])), (q1, .inl (cA 1, 6100, .inl (fun _ => 0))), (q2, .inl (cA 1, 6100, .inl (fun _ => 0))), (q3, .inl (cA 1, 6100, .inl (fun _ => 0))), (q4, .inl (cA 1, 6100, .inl (fun _ => 0))), (q5, .inl (cA 1, 16, .inl (fun _ => 0))), (q6, .inl (cA 1, 6400, .inl (fun _ => 0))), (q7, .inl (cA 1, 6400, .inl (fun _ => 0)))] rfl ?_
  exact zz_vret X hr ((q1, q2, q3, q4, q5, q6, q7)) [0, 1, 2, 3, 4, 5, 6, 7] (by decide) rfl rfl (Nat.le_of_ble_eq_true rfl) (Nat.le_of_ble_eq_true rfl) (trivial) dX2_init_111

set_option maxHeartbeats 4000000 in
set_option maxRecDepth 100000 in
/-- Coder(heap, names, checker) -/
theorem kX3_init {E : zEn} (hE : zOk E) (l : Launch) (D : va_G) (cA : Nat → ClassId) (h0 : Nat) (bh : Nat) (bn : Nat) (bk : Nat) : zMv E l yX3_init wsX3_init ({ frames := 1, cells := 2, slots := 86100, locals := 12 }) D vwCl (zT cA) [.ref h0, .ref bh, .ref bn, .ref bk] [(h0, .inr (3, [.null, .null, .null, .null, .null, .null, .int 0, .int 0, .int 0, .int 0, .int 0, .int 0, .int 0, .null, .int 0]))] (S := Nat × Nat) (fun (u : Nat × Nat) => (True)) (fun (u : Nat × Nat) => [(h0, .inr (3, [.ref bh, .ref bn, .ref bk, .null, .null, .ref u.1, .int 0, .int 0, .int 0, .int 0, .int 0, .int 0, .int 0, .ref u.2, .int 0])), (u.1, .inl (cA 1, 80000, .inl (fun _ => 0))), (u.2, .inl (cA 1, 6100, .inl (fun _ => 0)))]) := by
  refine zz_enterv (cc := cX3_init) (lv := [(0, .ref h0), (1, .ref bh), (2, .ref bn), (3, .ref bk)]) hE 4 (by decide) rfl (Nat.le_of_ble_eq_true rfl) rfl ?_
  intro p e s m args below meth c X hr hin
  refine zz_aload_n X 0 dX3_init_0 rfl rfl ?_
  refine zz_objInit X (List.mem_of_getElem? (i := 1) rfl) (List.mem_of_getElem? (i := 2) rfl) (List.mem_of_getElem? (i := 3) rfl) dX3_init_1 (Nat.le_of_ble_eq_true rfl) (Nat.le_of_ble_eq_true rfl) ?_
  refine zz_aload_n X 0 dX3_init_4 rfl rfl ?_
  refine zz_null X dX3_init_5 ?_
  refine zz_put X 0 3 rfl rfl (by decide) inX3_init_X3 rfl (List.mem_of_getElem? (i := 4) rfl) tyX3 tyX3_ok nmX3 rfl (ty := (.object "PolicyHouse$Bundle")) rfl rfl rfl (Nat.le_of_ble_eq_true rfl) dX3_init_6 [(h0, .inr (3, [.null, .null, .null, .null, .null, .null, .int 0, .int 0, .int 0, .int 0, .int 0, .int 0, .int 0, .null, .int 0]))] rfl ?_
  refine zz_aload_n X 0 dX3_init_9 rfl rfl ?_
  refine zz_null X dX3_init_10 ?_
  refine zz_put X 0 4 rfl rfl (by decide) inX3_init_X3 rfl (List.mem_of_getElem? (i := 5) rfl) tyX3 tyX3_ok nmX3 rfl (ty := (.object "PolicyHouse$Tree")) rfl rfl rfl (Nat.le_of_ble_eq_true rfl) dX3_init_11 [(h0, .inr (3, [.null, .null, .null, .null, .null, .null, .int 0, .int 0, .int 0, .int 0, .int 0, .int 0, .int 0, .null, .int 0]))] rfl ?_
  refine zz_aload_n X 0 dX3_init_14 rfl rfl ?_
  refine zz_ldc X (List.mem_of_getElem? (i := 6) rfl) dX3_init_15 ?_
  refine zz_newaI X 1 rfl 80000 (List.mem_of_getElem? (i := 7) rfl) (by decide) (by decide) (Nat.le_of_ble_eq_true rfl) (Nat.le_of_ble_eq_true rfl) (Nat.le_of_ble_eq_true rfl) dX3_init_17 (fun q1 => ?_)
  refine zz_show (ws' := [(h0, .inr (3, [.null, .null, .null, .null, .null, .null, .int 0, .int 0, .int 0, .int 0, .int 0, .int 0, .int 0, .null, .int 0])), (q1, .inl (cA 1, 80000, .inl (fun _ => 0)))]) rfl ?_
  refine zz_putF X 0 5 rfl rfl (by decide) inX3_init_X3 rfl (List.mem_of_getElem? (i := 8) rfl) tyX3 tyX3_ok nmX3 rfl hin rfl (ty := (.array .int)) rfl rfl rfl (Nat.le_of_ble_eq_true rfl) dX3_init_19 [(h0, .inr (3, [.null, .null, .null, .null, .null, .ref q1, .int 0, .int 0, .int 0, .int 0, .int 0, .int 0, .int 0, .null, .int 0])), (q1, .inl (cA 1, 80000, .inl (fun _ => 0)))] rfl ?_
  refine zz_aload_n X 0 dX3_init_22 rfl rfl ?_
  refine zz_iconst X 0 dX3_init_23 rfl ?_
  refine zz_put X 0 6 rfl rfl (by decide) inX3_init_X3 rfl (List.mem_of_getElem? (i := 9) rfl) tyX3 tyX3_ok nmX3 rfl (ty := .int) rfl rfl rfl (Nat.le_of_ble_eq_true rfl) dX3_init_24 [(h0, .inr (3, [.null, .null, .null, .null, .null, .ref q1, .int 0, .int 0, .int 0, .int 0, .int 0, .int 0, .int 0, .null, .int 0])), (q1, .inl (cA 1, 80000, .inl (fun _ => 0)))] rfl ?_
  refine zz_aload_n X 0 dX3_init_27 rfl rfl ?_
  refine zz_iconst X 0 dX3_init_28 rfl ?_
  refine zz_put X 0 7 rfl rfl (by decide) inX3_init_X3 rfl (List.mem_of_getElem? (i := 10) rfl) tyX3 tyX3_ok nmX3 rfl (ty := .int) rfl rfl rfl (Nat.le_of_ble_eq_true rfl) dX3_init_29 [(h0, .inr (3, [.null, .null, .null, .null, .null, .ref q1, .int 0, .int 0, .int 0, .int 0, .int 0, .int 0, .int 0, .null, .int 0])), (q1, .inl (cA 1, 80000, .inl (fun _ => 0)))] rfl ?_
  refine zz_aload_n X 0 dX3_init_32 rfl rfl ?_
  refine zz_iconst X 0 dX3_init_33 rfl ?_
  refine zz_put X 0 8 rfl rfl (by decide) inX3_init_X3 rfl (List.mem_of_getElem? (i := 11) rfl) tyX3 tyX3_ok nmX3 rfl (ty := .int) rfl rfl rfl (Nat.le_of_ble_eq_true rfl) dX3_init_34 [(h0, .inr (3, [.null, .null, .null, .null, .null, .ref q1, .int 0, .int 0, .int 0, .int 0, .int 0, .int 0, .int 0, .null, .int 0])), (q1, .inl (cA 1, 80000, .inl (fun _ => 0)))] rfl ?_
  refine zz_aload_n X 0 dX3_init_37 rfl rfl ?_
  refine zz_iconst X 0 dX3_init_38 rfl ?_
  refine zz_put X 0 9 rfl rfl (by decide) inX3_init_X3 rfl (List.mem_of_getElem? (i := 12) rfl) tyX3 tyX3_ok nmX3 rfl (ty := .int) rfl rfl rfl (Nat.le_of_ble_eq_true rfl) dX3_init_39 [(h0, .inr (3, [.null, .null, .null, .null, .null, .ref q1, .int 0, .int 0, .int 0, .int 0, .int 0, .int 0, .int 0, .null, .int 0])), (q1, .inl (cA 1, 80000, .inl (fun _ => 0)))] rfl ?_
  refine zz_aload_n X 0 dX3_init_42 rfl rfl ?_
  refine zz_iconst X 0 dX3_init_43 rfl ?_
  refine zz_put X 0 10 rfl rfl (by decide) inX3_init_X3 rfl (List.mem_of_getElem? (i := 13) rfl) tyX3 tyX3_ok nmX3 rfl (ty := .int) rfl rfl rfl (Nat.le_of_ble_eq_true rfl) dX3_init_44 [(h0, .inr (3, [.null, .null, .null, .null, .null, .ref q1, .int 0, .int 0, .int 0, .int 0, .int 0, .int 0, .int 0, .null, .int 0])), (q1, .inl (cA 1, 80000, .inl (fun _ => 0)))] rfl ?_
  refine zz_aload_n X 0 dX3_init_47 rfl rfl ?_
  refine zz_iconst X 0 dX3_init_48 rfl ?_
  refine zz_put X 0 11 rfl rfl (by decide) inX3_init_X3 rfl (List.mem_of_getElem? (i := 14) rfl) tyX3 tyX3_ok nmX3 rfl (ty := .int) rfl rfl rfl (Nat.le_of_ble_eq_true rfl) dX3_init_49 [(h0, .inr (3, [.null, .null, .null, .null, .null, .ref q1, .int 0, .int 0, .int 0, .int 0, .int 0, .int 0, .int 0, .null, .int 0])), (q1, .inl (cA 1, 80000, .inl (fun _ => 0)))] rfl ?_
  refine zz_aload_n X 0 dX3_init_52 rfl rfl ?_
  refine zz_iconst X 0 dX3_init_53 rfl ?_
  refine zz_put X 0 12 rfl rfl (by decide) inX3_init_X3 rfl (List.mem_of_getElem? (i := 15) rfl) tyX3 tyX3_ok nmX3 rfl (ty := .int) rfl rfl rfl (Nat.le_of_ble_eq_true rfl) dX3_init_54 [(h0, .inr (3, [.null, .null, .null, .null, .null, .ref q1, .int 0, .int 0, .int 0, .int 0, .int 0, .int 0, .int 0, .null, .int 0])), (q1, .inl (cA 1, 80000, .inl (fun _ => 0)))] rfl ?_
  refine zz_aload_n X 0 dX3_init_57 rfl rfl ?_
  refine zz_sipush X 6100 dX3_init_58 rfl ?_
  refine zz_newaI X 1 rfl 6100 (List.mem_of_getElem? (i := 7) rfl) (by decide) (by decide) (Nat.le_of_ble_eq_true rfl) (Nat.le_of_ble_eq_true rfl) (Nat.le_of_ble_eq_true rfl) dX3_init_61 (fun q2 => ?_)
  refine zz_show (ws' := [(h0, .inr (3, [.null, .null, .null, .null, .null, .ref q1, .int 0, .int 0, .int 0, .int 0, .int 0, .int 0, .int 0, .null, .int 0])), (q1, .inl (cA 1, 80000, .inl (fun _ => 0))), (q2, .inl (cA 1, 6100, .inl (fun _ => 0)))]) rfl ?_
  refine zz_putF X 0 13 rfl rfl (by decide) inX3_init_X3 rfl (List.mem_of_getElem? (i := 16) rfl) tyX3 tyX3_ok nmX3 rfl hin rfl (ty := (.array .int)) rfl rfl rfl (Nat.le_of_ble_eq_true rfl) dX3_init_63 [(h0, .inr (3, [.null, .null, .null, .null, .null, .ref q1, .int 0, .int 0, .int 0, .int 0, .int 0, .int 0, .int 0, .ref q2, .int 0])), (q1, .inl (cA 1, 80000, .inl (fun _ => 0))), (q2, .inl (cA 1, 6100, .inl (fun _ => 0)))] rfl ?_
  refine zz_aload_n X 0 dX3_init_66 rfl rfl ?_
  refine zz_iconst X 0 dX3_init_67 rfl ?_
  refine zz_put X 0 14 rfl rfl (by decide) inX3_init_X3 rfl (List.mem_of_getElem? (i := 17) rfl) tyX3 tyX3_ok nmX3 rfl (ty := .int) rfl rfl rfl (Nat.le_of_ble_eq_true rfl) dX3_init_68 [(h0, .inr (3, [.null, .null, .null, .null, .null, .ref q1, .int 0, .int 0, .int 0, .int 0, .int 0, .int 0, .int 0, .ref q2, .int 0])), (q1, .inl (cA 1, 80000, .inl (fun _ => 0))), (q2, .inl (cA 1, 6100, .inl (fun _ => 0)))] rfl ?_
  refine zz_aload_n X 0 dX3_init_71 rfl rfl ?_
  refine zz_aload_n X 1 dX3_init_72 rfl rfl ?_
  refine zz_putF X 0 0 rfl rfl (by decide) inX3_init_X3 rfl (List.mem_of_getElem? (i := 18) rfl) tyX3 tyX3_ok nmX3 rfl hin rfl (ty := (.object "PolicyHouse$Heap")) rfl rfl rfl (Nat.le_of_ble_eq_true rfl) dX3_init_73 [(h0, .inr (3, [.ref bh, .null, .null, .null, .null, .ref q1, .int 0, .int 0, .int 0, .int 0, .int 0, .int 0, .int 0, .ref q2, .int 0])), (q1, .inl (cA 1, 80000, .inl (fun _ => 0))), (q2, .inl (cA 1, 6100, .inl (fun _ => 0)))] rfl ?_
  refine zz_aload_n X 0 dX3_init_76 rfl rfl ?_
  refine zz_aload_n X 2 dX3_init_77 rfl rfl ?_
  refine zz_putF X 0 1 rfl rfl (by decide) inX3_init_X3 rfl (List.mem_of_getElem? (i := 19) rfl) tyX3 tyX3_ok nmX3 rfl hin rfl (ty := (.object "PolicyHouse$Names")) rfl rfl rfl (Nat.le_of_ble_eq_true rfl) dX3_init_78 [(h0, .inr (3, [.ref bh, .ref bn, .null, .null, .null, .ref q1, .int 0, .int 0, .int 0, .int 0, .int 0, .int 0, .int 0, .ref q2, .int 0])), (q1, .inl (cA 1, 80000, .inl (fun _ => 0))), (q2, .inl (cA 1, 6100, .inl (fun _ => 0)))] rfl ?_
  refine zz_aload_n X 0 dX3_init_81 rfl rfl ?_
  refine zz_aload_n X 3 dX3_init_82 rfl rfl ?_
  refine zz_putF X 0 2 rfl rfl (by decide) inX3_init_X3 rfl (List.mem_of_getElem? (i := 20) rfl) tyX3 tyX3_ok nmX3 rfl hin rfl (ty := (.object "PolicyHouse$Checker")) rfl rfl rfl (Nat.le_of_ble_eq_true rfl) dX3_init_83 [(h0, .inr (3, [.ref bh, .ref bn, .ref bk, .null, .null, .ref q1, .int 0, .int 0, .int 0, .int 0, .int 0, .int 0, .int 0, .ref q2, .int 0])), (q1, .inl (cA 1, 80000, .inl (fun _ => 0))), (q2, .inl (cA 1, 6100, .inl (fun _ => 0)))] rfl ?_
  exact zz_vret X hr ((q1, q2)) [0, 1, 2] (by decide) rfl rfl (Nat.le_of_ble_eq_true rfl) (Nat.le_of_ble_eq_true rfl) (trivial) dX3_init_86

set_option maxHeartbeats 4000000 in
set_option maxRecDepth 100000 in
/-- Scopes(heap, names) -/
theorem kX9_init {E : zEn} (hE : zOk E) (l : Launch) (D : va_G) (cA : Nat → ClassId) (h0 : Nat) (bh : Nat) (bn : Nat) : zMv E l yX9_init wsX9_init ({ frames := 1, cells := 3, slots := 428, locals := 12 }) D vwCl (zT cA) [.ref h0, .ref bh, .ref bn] [(h0, .inr (9, [.null, .null, .null, .int 0, .int 0, .int 0, .null, .null, .int 0, .int 0, .int 0, .int 0, .int 0, .int 0, .int 0, .null]))] (S := Nat × Nat × Nat) (fun (u : Nat × Nat × Nat) => (True)) (fun (u : Nat × Nat × Nat) => [(h0, .inr (9, [.ref bh, .ref bn, .null, .int 0, .int (-1), .int 0, .ref u.1, .ref u.2.1, .int 0, .int 0, .int 0, .int 0, .int 0, .int (-1), .int (-1), .ref u.2.2])), (u.1, .inl (cA 1, 10, .inl (fun _ => 0))), (u.2.1, .inl (cA 1, 16, .inl (fun _ => 0))), (u.2.2, .inl (cA 1, 402, .inl (fun _ => 0)))]) := by
  refine zz_enterv (cc := cX9_init) (lv := [(0, .ref h0), (1, .ref bh), (2, .ref bn)]) hE 3 (by decide) rfl (Nat.le_of_ble_eq_true rfl) rfl ?_
  intro p e s m args below meth c X hr hin
  refine zz_aload_n X 0 dX9_init_0 rfl rfl ?_
  refine zz_objInit X (List.mem_of_getElem? (i := 1) rfl) (List.mem_of_getElem? (i := 2) rfl) (List.mem_of_getElem? (i := 3) rfl) dX9_init_1 (Nat.le_of_ble_eq_true rfl) (Nat.le_of_ble_eq_true rfl) ?_
  refine zz_aload_n X 0 dX9_init_4 rfl rfl ?_
  refine zz_null X dX9_init_5 ?_
  refine zz_put X 0 2 rfl rfl (by decide) inX9_init_X9 rfl (List.mem_of_getElem? (i := 4) rfl) tyX9 tyX9_ok nmX9 rfl (ty := (.object "PolicyHouse$Bundle")) rfl rfl rfl (Nat.le_of_ble_eq_true rfl) dX9_init_6 [(h0, .inr (9, [.null, .null, .null, .int 0, .int 0, .int 0, .null, .null, .int 0, .int 0, .int 0, .int 0, .int 0, .int 0, .int 0, .null]))] rfl ?_
  refine zz_aload_n X 0 dX9_init_9 rfl rfl ?_
  refine zz_iconst X 0 dX9_init_10 rfl ?_
  refine zz_put X 0 3 rfl rfl (by decide) inX9_init_X9 rfl (List.mem_of_getElem? (i := 5) rfl) tyX9 tyX9_ok nmX9 rfl (ty := .int) rfl rfl rfl (Nat.le_of_ble_eq_true rfl) dX9_init_11 [(h0, .inr (9, [.null, .null, .null, .int 0, .int 0, .int 0, .null, .null, .int 0, .int 0, .int 0, .int 0, .int 0, .int 0, .int 0, .null]))] rfl ?_
  refine zz_aload_n X 0 dX9_init_14 rfl rfl ?_
  refine zz_iconst X (-1) dX9_init_15 rfl ?_
  refine zz_put X 0 4 rfl rfl (by decide) inX9_init_X9 rfl (List.mem_of_getElem? (i := 6) rfl) tyX9 tyX9_ok nmX9 rfl (ty := .int) rfl rfl rfl (Nat.le_of_ble_eq_true rfl) dX9_init_16 [(h0, .inr (9, [.null, .null, .null, .int 0, .int (-1), .int 0, .null, .null, .int 0, .int 0, .int 0, .int 0, .int 0, .int 0, .int 0, .null]))] rfl ?_
  refine zz_aload_n X 0 dX9_init_19 rfl rfl ?_
  refine zz_iconst X 0 dX9_init_20 rfl ?_
  refine zz_put X 0 5 rfl rfl (by decide) inX9_init_X9 rfl (List.mem_of_getElem? (i := 7) rfl) tyX9 tyX9_ok nmX9 rfl (ty := .int) rfl rfl rfl (Nat.le_of_ble_eq_true rfl) dX9_init_21 [(h0, .inr (9, [.null, .null, .null, .int 0, .int (-1), .int 0, .null, .null, .int 0, .int 0, .int 0, .int 0, .int 0, .int 0, .int 0, .null]))] rfl ?_
  refine zz_aload_n X 0 dX9_init_24 rfl rfl ?_
  refine zz_bipush X 10 dX9_init_25 rfl ?_
  refine zz_newaI X 1 rfl 10 (List.mem_of_getElem? (i := 8) rfl) (by decide) (by decide) (Nat.le_of_ble_eq_true rfl) (Nat.le_of_ble_eq_true rfl) (Nat.le_of_ble_eq_true rfl) dX9_init_27 (fun q1 => ?_)
  refine zz_show (ws' := [(h0, .inr (9, [.null, .null, .null, .int 0, .int (-1), .int 0, .null, .null, .int 0, .int 0, .int 0, .int 0, .int 0, .int 0, .int 0, .null])), (q1, .inl (cA 1, 10, .inl (fun _ => 0)))]) rfl ?_
  refine zz_putF X 0 6 rfl rfl (by decide) inX9_init_X9 rfl (List.mem_of_getElem? (i := 9) rfl) tyX9 tyX9_ok nmX9 rfl hin rfl (ty := (.array .int)) rfl rfl rfl (Nat.le_of_ble_eq_true rfl) dX9_init_29 [(h0, .inr (9, [.null, .null, .null, .int 0, .int (-1), .int 0, .ref q1, .null, .int 0, .int 0, .int 0, .int 0, .int 0, .int 0, .int 0, .null])), (q1, .inl (cA 1, 10, .inl (fun _ => 0)))] rfl ?_
  refine zz_aload_n X 0 dX9_init_32 rfl rfl ?_
  refine zz_bipush X 16 dX9_init_33 rfl ?_
  refine zz_newaI X 1 rfl 16 (List.mem_of_getElem? (i := 8) rfl) (by decide) (by decide) (Nat.le_of_ble_eq_true rfl) (Nat.le_of_ble_eq_true rfl) (Nat.le_of_ble_eq_true rfl) dX9_init_35 (fun q2 => ?_)
  refine zz_show (ws' := [(h0, .inr (9, [.null, .null, .null, .int 0, .int (-1), .int 0, .ref q1, .null, .int 0, .int 0, .int 0, .int 0, .int 0, .int 0, .int 0, .null])), (q1, .inl (cA 1, 10, .inl (fun _ => 0))), (q2, .inl (cA 1, 16, .inl (fun _ => 0)))]) rfl ?_
  refine zz_putF X 0 7 rfl rfl (by decide) inX9_init_X9 rfl (List.mem_of_getElem? (i := 10) rfl) tyX9 tyX9_ok nmX9 rfl hin rfl (ty := (.array .int)) rfl rfl rfl (Nat.le_of_ble_eq_true rfl) dX9_init_37 [(h0, .inr (9, [.null, .null, .null, .int 0, .int (-1), .int 0, .ref q1, .ref q2, .int 0, .int 0, .int 0, .int 0, .int 0, .int 0, .int 0, .null])), (q1, .inl (cA 1, 10, .inl (fun _ => 0))), (q2, .inl (cA 1, 16, .inl (fun _ => 0)))] rfl ?_
  refine zz_aload_n X 0 dX9_init_40 rfl rfl ?_
  refine zz_iconst X 0 dX9_init_41 rfl ?_
  refine zz_put X 0 8 rfl rfl (by decide) inX9_init_X9 rfl (List.mem_of_getElem? (i := 11) rfl) tyX9 tyX9_ok nmX9 rfl (ty := .int) rfl rfl rfl (Nat.le_of_ble_eq_true rfl) dX9_init_42 [(h0, .inr (9, [.null, .null, .null, .int 0, .int (-1), .int 0, .ref q1, .ref q2, .int 0, .int 0, .int 0, .int 0, .int 0, .int 0, .int 0, .null])), (q1, .inl (cA 1, 10, .inl (fun _ => 0))), (q2, .inl (cA 1, 16, .inl (fun _ => 0)))] rfl ?_
  refine zz_aload_n X 0 dX9_init_45 rfl rfl ?_
  refine zz_iconst X 0 dX9_init_46 rfl ?_
  refine zz_put X 0 9 rfl rfl (by decide) inX9_init_X9 rfl (List.mem_of_getElem? (i := 12) rfl) tyX9 tyX9_ok nmX9 rfl (ty := .boolean) rfl (by decide) rfl (Nat.le_of_ble_eq_true rfl) dX9_init_47 [(h0, .inr (9, [.null, .null, .null, .int 0, .int (-1), .int 0, .ref q1, .ref q2, .int 0, .int 0, .int 0, .int 0, .int 0, .int 0, .int 0, .null])), (q1, .inl (cA 1, 10, .inl (fun _ => 0))), (q2, .inl (cA 1, 16, .inl (fun _ => 0)))] rfl ?_
  refine zz_aload_n X 0 dX9_init_50 rfl rfl ?_
  refine zz_iconst X 0 dX9_init_51 rfl ?_
  refine zz_put X 0 10 rfl rfl (by decide) inX9_init_X9 rfl (List.mem_of_getElem? (i := 13) rfl) tyX9 tyX9_ok nmX9 rfl (ty := .boolean) rfl (by decide) rfl (Nat.le_of_ble_eq_true rfl) dX9_init_52 [(h0, .inr (9, [.null, .null, .null, .int 0, .int (-1), .int 0, .ref q1, .ref q2, .int 0, .int 0, .int 0, .int 0, .int 0, .int 0, .int 0, .null])), (q1, .inl (cA 1, 10, .inl (fun _ => 0))), (q2, .inl (cA 1, 16, .inl (fun _ => 0)))] rfl ?_
  refine zz_aload_n X 0 dX9_init_55 rfl rfl ?_
  refine zz_iconst X 0 dX9_init_56 rfl ?_
  refine zz_put X 0 11 rfl rfl (by decide) inX9_init_X9 rfl (List.mem_of_getElem? (i := 14) rfl) tyX9 tyX9_ok nmX9 rfl (ty := .boolean) rfl (by decide) rfl (Nat.le_of_ble_eq_true rfl) dX9_init_57 [(h0, .inr (9, [.null, .null, .null, .int 0, .int (-1), .int 0, .ref q1, .ref q2, .int 0, .int 0, .int 0, .int 0, .int 0, .int 0, .int 0, .null])), (q1, .inl (cA 1, 10, .inl (fun _ => 0))), (q2, .inl (cA 1, 16, .inl (fun _ => 0)))] rfl ?_
  refine zz_aload_n X 0 dX9_init_60 rfl rfl ?_
  refine zz_iconst X 0 dX9_init_61 rfl ?_
  refine zz_put X 0 12 rfl rfl (by decide) inX9_init_X9 rfl (List.mem_of_getElem? (i := 15) rfl) tyX9 tyX9_ok nmX9 rfl (ty := .int) rfl rfl rfl (Nat.le_of_ble_eq_true rfl) dX9_init_62 [(h0, .inr (9, [.null, .null, .null, .int 0, .int (-1), .int 0, .ref q1, .ref q2, .int 0, .int 0, .int 0, .int 0, .int 0, .int 0, .int 0, .null])), (q1, .inl (cA 1, 10, .inl (fun _ => 0))), (q2, .inl (cA 1, 16, .inl (fun _ => 0)))] rfl ?_
  refine zz_aload_n X 0 dX9_init_65 rfl rfl ?_
  refine zz_iconst X (-1) dX9_init_66 rfl ?_
  refine zz_put X 0 13 rfl rfl (by decide) inX9_init_X9 rfl (List.mem_of_getElem? (i := 16) rfl) tyX9 tyX9_ok nmX9 rfl (ty := .int) rfl rfl rfl (Nat.le_of_ble_eq_true rfl) dX9_init_67 [(h0, .inr (9, [.null, .null, .null, .int 0, .int (-1), .int 0, .ref q1, .ref q2, .int 0, .int 0, .int 0, .int 0, .int 0, .int (-1), .int 0, .null])), (q1, .inl (cA 1, 10, .inl (fun _ => 0))), (q2, .inl (cA 1, 16, .inl (fun _ => 0)))] rfl ?_
  refine zz_aload_n X 0 dX9_init_70 rfl rfl ?_
  refine zz_iconst X (-1) dX9_init_71 rfl ?_
  refine zz_put X 0 14 rfl rfl (by decide) inX9_init_X9 rfl (List.mem_of_getElem? (i := 17) rfl) tyX9 tyX9_ok nmX9 rfl (ty := .int) rfl rfl rfl (Nat.le_of_ble_eq_true rfl) dX9_init_72 [(h0, .inr (9, [.null, .null, .null, .int 0, .int (-1), .int 0, .ref q1, .ref q2, .int 0, .int 0, .int 0, .int 0, .int 0, .int (-1), .int (-1), .null])), (q1, .inl (cA 1, 10, .inl (fun _ => 0))), (q2, .inl (cA 1, 16, .inl (fun _ => 0)))] rfl ?_
  refine zz_aload_n X 0 dX9_init_75 rfl rfl ?_
  refine zz_sipush X 402 dX9_init_76 rfl ?_
  refine zz_newaI X 1 rfl 402 (List.mem_of_getElem? (i := 8) rfl) (by decide) (by decide) (Nat.le_of_ble_eq_true rfl) (Nat.le_of_ble_eq_true rfl) (Nat.le_of_ble_eq_true rfl) dX9_init_79 (fun q3 => ?_)
  refine zz_show (ws' := [(h0, .inr (9, [.null, .null, .null, .int 0, .int (-1), .int 0, .ref q1, .ref q2, .int 0, .int 0, .int 0, .int 0, .int 0, .int (-1), .int (-1), .null])), (q1, .inl (cA 1, 10, .inl (fun _ => 0))), (q2, .inl (cA 1, 16, .inl (fun _ => 0))), (q3, .inl (cA 1, 402, .inl (fun _ => 0)))]) rfl ?_
  refine zz_putF X 0 15 rfl rfl (by decide) inX9_init_X9 rfl (List.mem_of_getElem? (i := 18) rfl) tyX9 tyX9_ok nmX9 rfl hin rfl (ty := (.array .int)) rfl rfl rfl (Nat.le_of_ble_eq_true rfl) dX9_init_81 [(h0, .inr (9, [.null, .null, .null, .int 0, .int (-1), .int 0, .ref q1, .ref q2, .int 0, .int 0, .int 0, .int 0, .int 0, .int (-1), .int (-1), .ref q3])), (q1, .inl (cA 1, 10, .inl (fun _ => 0))), (q2, .inl (cA 1, 16, .inl (fun _ => 0))), (q3, .inl (cA 1, 402, .inl (fun _ => 0)))] rfl ?_
  refine zz_aload_n X 0 dX9_init_84 rfl rfl ?_
  refine zz_aload_n X 1 dX9_init_85 rfl rfl ?_
  refine zz_putF X 0 0 rfl rfl (by decide) inX9_init_X9 rfl (List.mem_of_getElem? (i := 19) rfl) tyX9 tyX9_ok nmX9 rfl hin rfl (ty := (.object "PolicyHouse$Heap")) rfl rfl rfl (Nat.le_of_ble_eq_true rfl) dX9_init_86 [(h0, .inr (9, [.ref bh, .null, .null, .int 0, .int (-1), .int 0, .ref q1, .ref q2, .int 0, .int 0, .int 0, .int 0, .int 0, .int (-1), .int (-1), .ref q3])), (q1, .inl (cA 1, 10, .inl (fun _ => 0))), (q2, .inl (cA 1, 16, .inl (fun _ => 0))), (q3, .inl (cA 1, 402, .inl (fun _ => 0)))] rfl ?_
  refine zz_aload_n X 0 dX9_init_89 rfl rfl ?_
  refine zz_aload_n X 2 dX9_init_90 rfl rfl ?_
  refine zz_putF X 0 1 rfl rfl (by decide) inX9_init_X9 rfl (List.mem_of_getElem? (i := 20) rfl) tyX9 tyX9_ok nmX9 rfl hin rfl (ty := (.object "PolicyHouse$Names")) rfl rfl rfl (Nat.le_of_ble_eq_true rfl) dX9_init_91 [(h0, .inr (9, [.ref bh, .ref bn, .null, .int 0, .int (-1), .int 0, .ref q1, .ref q2, .int 0, .int 0, .int 0, .int 0, .int 0, .int (-1), .int (-1), .ref q3])), (q1, .inl (cA 1, 10, .inl (fun _ => 0))), (q2, .inl (cA 1, 16, .inl (fun _ => 0))), (q3, .inl (cA 1, 402, .inl (fun _ => 0)))] rfl ?_
  exact zz_vret X hr ((q1, q2, q3)) [0, 1, 2, 3] (by decide) rfl rfl (Nat.le_of_ble_eq_true rfl) (Nat.le_of_ble_eq_true rfl) (trivial) dX9_init_94

set_option maxHeartbeats 4000000 in
set_option maxRecDepth 100000 in
/-- Strings(heap, texts, names) -/
theorem kX10_init {E : zEn} (hE : zOk E) (l : Launch) (D : va_G) (cA : Nat → ClassId) (h0 : Nat) (bh : Nat) (bt : Nat) (bn : Nat) : zMv E l yX10_init wsX10_init ({ frames := 1, cells := 8, slots := 119204, locals := 12 }) D vwCl (zT cA) [.ref h0, .ref bh, .ref bt, .ref bn] [(h0, .inr (10, [.null, .null, .null, .null, .int 0, .int 0, .null, .null, .null, .null, .null, .null, .int 0, .null, .int 0, .int 0, .int 0, .int 0, .int 0]))] (S := Nat × Nat × Nat × Nat × Nat × Nat × Nat × Nat) (fun (u : Nat × Nat × Nat × Nat × Nat × Nat × Nat × Nat) => (True)) (fun (u : Nat × Nat × Nat × Nat × Nat × Nat × Nat × Nat) => [(h0, .inr (10, [.ref bh, .ref bt, .ref bn, .ref u.1, .int 0, .int 0, .ref u.2.1, .ref u.2.2.1, .ref u.2.2.2.1, .ref u.2.2.2.2.1, .ref u.2.2.2.2.2.1, .ref u.2.2.2.2.2.2.1, .int 0, .ref u.2.2.2.2.2.2.2, .int 0, .int 0, .int 0, .int 0, .int 0])), (u.1, .inl (cA 1, 4004, .inl (fun _ => 0))), (u.2.1, .inl (cA 1, 16400, .inl (fun _ => 0))), (u.2.2.1, .inl (cA 1, 16400, .inl (fun _ => 0))), (u.2.2.2.1, .inl (cA 1, 16400, .inl (fun _ => 0))), (u.2.2.2.2.1, .inl (cA 1, 16400, .inl (fun _ => 0))), (u.2.2.2.2.2.1, .inl (cA 1, 16400, .inl (fun _ => 0))), (u.2.2.2.2.2.2.1, .inl (cA 1, 16400, .inl (fun _ => 0))), (u.2.2.2.2.2.2.2, .inl (cA 1, 16800, .inl (fun _ => 0)))]) := by
  refine zz_enterv (cc := cX10_init) (lv := [(0, .ref h0), (1, .ref bh), (2, .ref bt), (3, .ref bn)]) hE 4 (by decide) rfl (Nat.le_of_ble_eq_true rfl) rfl ?_
  intro p e s m args below meth c X hr hin
  refine zz_aload_n X 0 dX10_init_0 rfl rfl ?_
  refine zz_objInit X (List.mem_of_getElem? (i := 1) rfl) (List.mem_of_getElem? (i := 2) rfl) (List.mem_of_getElem? (i := 3) rfl) dX10_init_1 (Nat.le_of_ble_eq_true rfl) (Nat.le_of_ble_eq_true rfl) ?_
  refine zz_aload_n X 0 dX10_init_4 rfl rfl ?_
  refine zz_sipush X 4004 dX10_init_5 rfl ?_
  refine zz_newaI X 1 rfl 4004 (List.mem_of_getElem? (i := 4) rfl) (by decide) (by decide) (Nat.le_of_ble_eq_true rfl) (Nat.le_of_ble_eq_true rfl) (Nat.le_of_ble_eq_true rfl) dX10_init_8 (fun q1 => ?_)
  refine zz_show (ws' := [(h0, .inr (10, [.null, .null, .null, .null, .int 0, .int 0, .null, .null, .null, .null, .null, .null, .int 0, .null, .int 0, .int 0, .int 0, .int 0, .int 0])), (q1, .inl (cA 1, 4004, .inl (fun _ => 0)))]) rfl ?_
  refine zz_putF X 0 3 rfl rfl (by decide) inX10_init_X10 rfl (List.mem_of_getElem? (i := 5) rfl) tyX10 tyX10_ok nmX10 rfl hin rfl (ty := (.array .int)) rfl rfl rfl (Nat.le_of_ble_eq_true rfl) dX10_init_10 [(h0, .inr (10, [.null, .null, .null, .ref q1, .int 0, .int 0, .null, .null, .null, .null, .null, .null, .int 0, .null, .int 0, .int 0, .int 0, .int 0, .int 0])), (q1, .inl (cA 1, 4004, .inl (fun _ => 0)))] rfl ?_
  refine zz_aload_n X 0 dX10_init_13 rfl rfl ?_
  refine zz_iconst X 0 dX10_init_14 rfl ?_
  refine zz_put X 0 4 rfl rfl (by decide) inX10_init_X10 rfl (List.mem_of_getElem? (i := 6) rfl) tyX10 tyX10_ok nmX10 rfl (ty := .int) rfl rfl rfl (Nat.le_of_ble_eq_true rfl) dX10_init_15 [(h0, .inr (10, [.null, .null, .null, .ref q1, .int 0, .int 0, .null, .null, .null, .null, .null, .null, .int 0, .null, .int 0, .int 0, .int 0, .int 0, .int 0])), (q1, .inl (cA 1, 4004, .inl (fun _ => 0)))] rfl ?_
  refine zz_aload_n X 0 dX10_init_18 rfl rfl ?_
  refine zz_iconst X 0 dX10_init_19 rfl ?_
  refine zz_put X 0 5 rfl rfl (by decide) inX10_init_X10 rfl (List.mem_of_getElem? (i := 7) rfl) tyX10 tyX10_ok nmX10 rfl (ty := .boolean) rfl (by decide) rfl (Nat.le_of_ble_eq_true rfl) dX10_init_20 [(h0, .inr (10, [.null, .null, .null, .ref q1, .int 0, .int 0, .null, .null, .null, .null, .null, .null, .int 0, .null, .int 0, .int 0, .int 0, .int 0, .int 0])), (q1, .inl (cA 1, 4004, .inl (fun _ => 0)))] rfl ?_
  refine zz_aload_n X 0 dX10_init_23 rfl rfl ?_
  refine zz_sipush X 16400 dX10_init_24 rfl ?_
  refine zz_newaI X 1 rfl 16400 (List.mem_of_getElem? (i := 4) rfl) (by decide) (by decide) (Nat.le_of_ble_eq_true rfl) (Nat.le_of_ble_eq_true rfl) (Nat.le_of_ble_eq_true rfl) dX10_init_27 (fun q2 => ?_)
  refine zz_show (ws' := [(h0, .inr (10, [.null, .null, .null, .ref q1, .int 0, .int 0, .null, .null, .null, .null, .null, .null, .int 0, .null, .int 0, .int 0, .int 0, .int 0, .int 0])), (q1, .inl (cA 1, 4004, .inl (fun _ => 0))), (q2, .inl (cA 1, 16400, .inl (fun _ => 0)))]) rfl ?_
  refine zz_putF X 0 6 rfl rfl (by decide) inX10_init_X10 rfl (List.mem_of_getElem? (i := 8) rfl) tyX10 tyX10_ok nmX10 rfl hin rfl (ty := (.array .int)) rfl rfl rfl (Nat.le_of_ble_eq_true rfl) dX10_init_29 [(h0, .inr (10, [.null, .null, .null, .ref q1, .int 0, .int 0, .ref q2, .null, .null, .null, .null, .null, .int 0, .null, .int 0, .int 0, .int 0, .int 0, .int 0])), (q1, .inl (cA 1, 4004, .inl (fun _ => 0))), (q2, .inl (cA 1, 16400, .inl (fun _ => 0)))] rfl ?_
  refine zz_aload_n X 0 dX10_init_32 rfl rfl ?_
  refine zz_sipush X 16400 dX10_init_33 rfl ?_
  refine zz_newaI X 1 rfl 16400 (List.mem_of_getElem? (i := 4) rfl) (by decide) (by decide) (Nat.le_of_ble_eq_true rfl) (Nat.le_of_ble_eq_true rfl) (Nat.le_of_ble_eq_true rfl) dX10_init_36 (fun q3 => ?_)
  refine zz_show (ws' := [(h0, .inr (10, [.null, .null, .null, .ref q1, .int 0, .int 0, .ref q2, .null, .null, .null, .null, .null, .int 0, .null, .int 0, .int 0, .int 0, .int 0, .int 0])), (q1, .inl (cA 1, 4004, .inl (fun _ => 0))), (q2, .inl (cA 1, 16400, .inl (fun _ => 0))), (q3, .inl (cA 1, 16400, .inl (fun _ => 0)))]) rfl ?_
  refine zz_putF X 0 7 rfl rfl (by decide) inX10_init_X10 rfl (List.mem_of_getElem? (i := 9) rfl) tyX10 tyX10_ok nmX10 rfl hin rfl (ty := (.array .int)) rfl rfl rfl (Nat.le_of_ble_eq_true rfl) dX10_init_38 [(h0, .inr (10, [.null, .null, .null, .ref q1, .int 0, .int 0, .ref q2, .ref q3, .null, .null, .null, .null, .int 0, .null, .int 0, .int 0, .int 0, .int 0, .int 0])), (q1, .inl (cA 1, 4004, .inl (fun _ => 0))), (q2, .inl (cA 1, 16400, .inl (fun _ => 0))), (q3, .inl (cA 1, 16400, .inl (fun _ => 0)))] rfl ?_
  refine zz_aload_n X 0 dX10_init_41 rfl rfl ?_
  refine zz_sipush X 16400 dX10_init_42 rfl ?_
  refine zz_newaI X 1 rfl 16400 (List.mem_of_getElem? (i := 4) rfl) (by decide) (by decide) (Nat.le_of_ble_eq_true rfl) (Nat.le_of_ble_eq_true rfl) (Nat.le_of_ble_eq_true rfl) dX10_init_45 (fun q4 => ?_)
  refine zz_show (ws' := [(h0, .inr (10, [.null, .null, .null, .ref q1, .int 0, .int 0, .ref q2, .ref q3, .null, .null, .null, .null, .int 0, .null, .int 0, .int 0, .int 0, .int 0, .int 0])), (q1, .inl (cA 1, 4004, .inl (fun _ => 0))), (q2, .inl (cA 1, 16400, .inl (fun _ => 0))), (q3, .inl (cA 1, 16400, .inl (fun _ => 0))), (q4, .inl (cA 1, 16400, .inl (fun _ => 0)))]) rfl ?_
  refine zz_putF X 0 8 rfl rfl (by decide) inX10_init_X10 rfl (List.mem_of_getElem? (i := 10) rfl) tyX10 tyX10_ok nmX10 rfl hin rfl (ty := (.array .int)) rfl rfl rfl (Nat.le_of_ble_eq_true rfl) dX10_init_47 [(h0, .inr (10, [.null, .null, .null, .ref q1, .int 0, .int 0, .ref q2, .ref q3, .ref q4, .null, .null, .null, .int 0, .null, .int 0, .int 0, .int 0, .int 0, .int 0])), (q1, .inl (cA 1, 4004, .inl (fun _ => 0))), (q2, .inl (cA 1, 16400, .inl (fun _ => 0))), (q3, .inl (cA 1, 16400, .inl (fun _ => 0))), (q4, .inl (cA 1, 16400, .inl (fun _ => 0)))] rfl ?_
  refine zz_aload_n X 0 dX10_init_50 rfl rfl ?_
  refine zz_sipush X 16400 dX10_init_51 rfl ?_
  refine zz_newaI X 1 rfl 16400 (List.mem_of_getElem? (i := 4) rfl) (by decide) (by decide) (Nat.le_of_ble_eq_true rfl) (Nat.le_of_ble_eq_true rfl) (Nat.le_of_ble_eq_true rfl) dX10_init_54 (fun q5 => ?_)
  refine zz_show (ws' := [(h0, .inr (10, [.null, .null, .null, .ref q1, .int 0, .int 0, .ref q2, .ref q3, .ref q4, .null, .null, .null, .int 0, .null, .int 0, .int 0, .int 0, .int 0, .int 0])), (q1, .inl (cA 1, 4004, .inl (fun _ => 0))), (q2, .inl (cA 1, 16400, .inl (fun _ => 0))), (q3, .inl (cA 1, 16400, .inl (fun _ => 0))), (q4, .inl (cA 1, 16400, .inl (fun _ => 0))), (q5, .inl (cA 1, 16400, .inl (fun _ => 0)))]) rfl ?_
  refine zz_putF X 0 9 rfl rfl (by decide) inX10_init_X10 rfl (List.mem_of_getElem? (i := 11) rfl) tyX10 tyX10_ok nmX10 rfl hin rfl (ty := (.array .int)) rfl rfl rfl (Nat.le_of_ble_eq_true rfl) dX10_init_56 [(h0, .inr (10, [.null, .null, .null, .ref q1, .int 0, .int 0, .ref q2, .ref q3, .ref q4, .ref q5, .null, .null, .int 0, .null, .int 0, .int 0, .int 0, .int 0, .int 0])), (q1, .inl (cA 1, 4004, .inl (fun _ => 0))), (q2, .inl (cA 1, 16400, .inl (fun _ => 0))), (q3, .inl (cA 1, 16400, .inl (fun _ => 0))), (q4, .inl (cA 1, 16400, .inl (fun _ => 0))), (q5, .inl (cA 1, 16400, .inl (fun _ => 0)))] rfl ?_
  refine zz_aload_n X 0 dX10_init_59 rfl rfl ?_
  refine zz_sipush X 16400 dX10_init_60 rfl ?_
  refine zz_newaI X 1 rfl 16400 (List.mem_of_getElem? (i := 4) rfl) (by decide) (by decide) (Nat.le_of_ble_eq_true rfl) (Nat.le_of_ble_eq_true rfl) (Nat.le_of_ble_eq_true rfl) dX10_init_63 (fun q6 => ?_)
  refine zz_show (ws' := [(h0, .inr (10, [.null, .null, .null, .ref q1, .int 0, .int 0, .ref q2, .ref q3, .ref q4, .ref q5, .null, .null, .int 0, .null, .int 0, .int 0, .int 0, .int 0, .int 0])), (q1, .inl (cA 1, 4004, .inl (fun _ => 0))), (q2, .inl (cA 1, 16400, .inl (fun _ => 0))), (q3, .inl (cA 1, 16400, .inl (fun _ => 0))), (q4, .inl (cA 1, 16400, .inl (fun _ => 0))), (q5, .inl (cA 1, 16400, .inl (fun _ => 0))), (q6, .inl (cA 1, 16400, .inl (fun _ => 0)))]) rfl ?_
  refine zz_putF X 0 10 rfl rfl (by decide) inX10_init_X10 rfl (List.mem_of_getElem? (i := 12) rfl) tyX10 tyX10_ok nmX10 rfl hin rfl (ty := (.array .int)) rfl rfl rfl (Nat.le_of_ble_eq_true rfl) dX10_init_65 [(h0, .inr (10, [.null, .null, .null, .ref q1, .int 0, .int 0, .ref q2, .ref q3, .ref q4, .ref q5, .ref q6, .null, .int 0, .null, .int 0, .int 0, .int 0, .int 0, .int 0])), (q1, .inl (cA 1, 4004, .inl (fun _ => 0))), (q2, .inl (cA 1, 16400, .inl (fun _ => 0))), (q3, .inl (cA 1, 16400, .inl (fun _ => 0))), (q4, .inl (cA 1, 16400, .inl (fun _ => 0))), (q5, .inl (cA 1, 16400, .inl (fun _ => 0))), (q6, .inl (cA 1, 16400, .inl (fun _ => 0)))] rfl ?_
  refine zz_aload_n X 0 dX10_init_68 rfl rfl ?_
  refine zz_sipush X 16400 dX10_init_69 rfl ?_
  refine zz_newaI X 1 rfl 16400 (List.mem_of_getElem? (i := 4) rfl) (by decide) (by decide) (Nat.le_of_ble_eq_true rfl) (Nat.le_of_ble_eq_true rfl) (Nat.le_of_ble_eq_true rfl) dX10_init_72 (fun q7 => ?_)
  refine zz_show (ws' := [(h0, .inr (10, [.null, .null, .null, .ref q1, .int 0, .int 0, .ref q2, .ref q3, .ref q4, .ref q5, .ref q6, .null, .int 0, .null, .int 0, .int 0, .int 0, .int 0, .int 0])), (q1, .inl (cA 1, 4004, .inl (fun _ => 0))), (q2, .inl (cA 1, 16400, .inl (fun _ => 0))), (q3, .inl (cA 1, 16400, .inl (fun _ => 0))), (q4, .inl (cA 1, 16400, .inl (fun _ => 0))), (q5, .inl (cA 1, 16400, .inl (fun _ => 0))), (q6, .inl (cA 1, 16400, .inl (fun _ => 0))), (q7, .inl (cA 1, 16400, .inl (fun _ => 0)))]) rfl ?_
  refine zz_putF X 0 11 rfl rfl (by decide) inX10_init_X10 rfl (List.mem_of_getElem? (i := 13) rfl) tyX10 tyX10_ok nmX10 rfl hin rfl (ty := (.array .int)) rfl rfl rfl (Nat.le_of_ble_eq_true rfl) dX10_init_74 [(h0, .inr (10, [.null, .null, .null, .ref q1, .int 0, .int 0, .ref q2, .ref q3, .ref q4, .ref q5, .ref q6, .ref q7, .int 0, .null, .int 0, .int 0, .int 0, .int 0, .int 0])), (q1, .inl (cA 1, 4004, .inl (fun _ => 0))), (q2, .inl (cA 1, 16400, .inl (fun _ => 0))), (q3, .inl (cA 1, 16400, .inl (fun _ => 0))), (q4, .inl (cA 1, 16400, .inl (fun _ => 0))), (q5, .inl (cA 1, 16400, .inl (fun _ => 0))), (q6, .inl (cA 1, 16400, .inl (fun _ => 0))), (q7, .inl (cA 1, 16400, .inl (fun _ => 0)))] rfl ?_
  refine zz_aload_n X 0 dX10_init_77 rfl rfl ?_
  refine zz_iconst X 0 dX10_init_78 rfl ?_
  refine zz_put X 0 12 rfl rfl (by decide) inX10_init_X10 rfl (List.mem_of_getElem? (i := 14) rfl) tyX10 tyX10_ok nmX10 rfl (ty := .int) rfl rfl rfl (Nat.le_of_ble_eq_true rfl) dX10_init_79 [(h0, .inr (10, [.null, .null, .null, .ref q1, .int 0, .int 0, .ref q2, .ref q3, .ref q4, .ref q5, .ref q6, .ref q7, .int 0, .null, .int 0, .int 0, .int 0, .int 0, .int 0])), (q1, .inl (cA 1, 4004, .inl (fun _ => 0))), (q2, .inl (cA 1, 16400, .inl (fun _ => 0))), (q3, .inl (cA 1, 16400, .inl (fun _ => 0))), (q4, .inl (cA 1, 16400, .inl (fun _ => 0))), (q5, .inl (cA 1, 16400, .inl (fun _ => 0))), (q6, .inl (cA 1, 16400, .inl (fun _ => 0))), (q7, .inl (cA 1, 16400, .inl (fun _ => 0)))] rfl ?_
  refine zz_aload_n X 0 dX10_init_82 rfl rfl ?_
  refine zz_sipush X 16800 dX10_init_83 rfl ?_
  refine zz_newaI X 1 rfl 16800 (List.mem_of_getElem? (i := 4) rfl) (by decide) (by decide) (Nat.le_of_ble_eq_true rfl) (Nat.le_of_ble_eq_true rfl) (Nat.le_of_ble_eq_true rfl) dX10_init_86 (fun q8 => ?_)
  refine zz_show (ws' := [(h0, .inr (10, [.null, .null, .null, .ref q1, .int 0, .int 0, .ref q2, .ref q3, .ref q4, .ref q5, .ref q6, .ref q7, .int 0, .null, .int 0, .int 0, .int 0, .int 0, .int 0])), (q1, .inl (cA 1, 4004, .inl (fun _ => 0))), (q2, .inl (cA 1, 16400, .inl (fun _ => 0))), (q3, .inl (cA 1, 16400, .inl (fun _ => 0))), (q4, .inl (cA 1, 16400, .inl (fun _ => 0))), (q5, .inl (cA 1, 16400, .inl (fun _ => 0))), (q6, .inl (cA 1, 16400, .inl (fun _ => 0))), (q7, .inl (cA 1, 16400, .inl (fun _ => 0))), (q8, .inl (cA 1, 16800, .inl (fun _ => 0)))]) rfl ?_
  refine zz_putF X 0 13 rfl rfl (by decide) inX10_init_X10 rfl (List.mem_of_getElem? (i := 15) rfl) tyX10 tyX10_ok nmX10 rfl hin rfl (ty := (.array .int)) rfl rfl rfl (Nat.le_of_ble_eq_true rfl) dX10_init_88 [(h0, .inr (10, [.null, .null, .null, .ref q1, .int 0, .int 0, .ref q2, .ref q3, .ref q4, .ref q5, .ref q6, .ref q7, .int 0, .ref q8, .int 0, .int 0, .int 0, .int 0, .int 0])), (q1, .inl (cA 1, 4004, .inl (fun _ => 0))), (q2, .inl (cA 1, 16400, .inl (fun _ => 0))), (q3, .inl (cA 1, 16400, .inl (fun _ => 0))), (q4, .inl (cA 1, 16400, .inl (fun _ => 0))), (q5, .inl (cA 1, 16400, .inl (fun _ => 0))), (q6, .inl (cA 1, 16400, .inl (fun _ => 0))), (q7, .inl (cA 1, 16400, .inl (fun _ => 0))), (q8, .inl (cA 1, 16800, .inl (fun _ => 0)))] rfl ?_
  refine zz_aload_n X 0 dX10_init_91 rfl rfl ?_
  refine zz_iconst X 0 dX10_init_92 rfl ?_
  refine zz_put X 0 14 rfl rfl (by decide) inX10_init_X10 rfl (List.mem_of_getElem? (i := 16) rfl) tyX10 tyX10_ok nmX10 rfl (ty := .int) rfl rfl rfl (Nat.le_of_ble_eq_true rfl) dX10_init_93 [(h0, .inr (10, [.null, .null, .null, .ref q1, .int 0, .int 0, .ref q2, .ref q3, .ref q4, .ref q5, .ref q6, .ref q7, .int 0, .ref q8, .int 0, .int 0, .int 0, .int 0, .int 0])), (q1, .inl (cA 1, 4004, .inl (fun _ => 0))), (q2, .inl (cA 1, 16400, .inl (fun _ => 0))), (q3, .inl (cA 1, 16400, .inl (fun _ => 0))), (q4, .inl (cA 1, 16400, .inl (fun _ => 0))), (q5, .inl (cA 1, 16400, .inl (fun _ => 0))), (q6, .inl (cA 1, 16400, .inl (fun _ => 0))), (q7, .inl (cA 1, 16400, .inl (fun _ => 0))), (q8, .inl (cA 1, 16800, .inl (fun _ => 0)))] rfl ?_
  refine zz_aload_n X 0 dX10_init_96 rfl rfl ?_
  refine zz_iconst X 0 dX10_init_97 rfl ?_
  refine zz_put X 0 15 rfl rfl (by decide) inX10_init_X10 rfl (List.mem_of_getElem? (i := 17) rfl) tyX10 tyX10_ok nmX10 rfl (ty := .int) rfl rfl rfl (Nat.le_of_ble_eq_true rfl) dX10_init_98 [(h0, .inr (10, [.null, .null, .null, .ref q1, .int 0, .int 0, .ref q2, .ref q3, .ref q4, .ref q5, .ref q6, .ref q7, .int 0, .ref q8, .int 0, .int 0, .int 0, .int 0, .int 0])), (q1, .inl (cA 1, 4004, .inl (fun _ => 0))), (q2, .inl (cA 1, 16400, .inl (fun _ => 0))), (q3, .inl (cA 1, 16400, .inl (fun _ => 0))), (q4, .inl (cA 1, 16400, .inl (fun _ => 0))), (q5, .inl (cA 1, 16400, .inl (fun _ => 0))), (q6, .inl (cA 1, 16400, .inl (fun _ => 0))), (q7, .inl (cA 1, 16400, .inl (fun _ => 0))), (q8, .inl (cA 1, 16800, .inl (fun _ => 0)))] rfl ?_
  refine zz_aload_n X 0 dX10_init_101 rfl rfl ?_
  refine zz_iconst X 0 dX10_init_102 rfl ?_
  refine zz_put X 0 16 rfl rfl (by decide) inX10_init_X10 rfl (List.mem_of_getElem? (i := 18) rfl) tyX10 tyX10_ok nmX10 rfl (ty := .int) rfl rfl rfl (Nat.le_of_ble_eq_true rfl) dX10_init_103 [(h0, .inr (10, [.null, .null, .null, .ref q1, .int 0, .int 0, .ref q2, .ref q3, .ref q4, .ref q5, .ref q6, .ref q7, .int 0, .ref q8, .int 0, .int 0, .int 0, .int 0, .int 0])), (q1, .inl (cA 1, 4004, .inl (fun _ => 0))), (q2, .inl (cA 1, 16400, .inl (fun _ => 0))), (q3, .inl (cA 1, 16400, .inl (fun _ => 0))), (q4, .inl (cA 1, 16400, .inl (fun _ => 0))), (q5, .inl (cA 1, 16400, .inl (fun _ => 0))), (q6, .inl (cA 1, 16400, .inl (fun _ => 0))), (q7, .inl (cA 1, 16400, .inl (fun _ => 0))), (q8, .inl (cA 1, 16800, .inl (fun _ => 0)))] rfl ?_
  refine zz_aload_n X 0 dX10_init_106 rfl rfl ?_
  refine zz_iconst X 0 dX10_init_107 rfl ?_
  refine zz_put X 0 17 rfl rfl (by decide) inX10_init_X10 rfl (List.mem_of_getElem? (i := 19) rfl) tyX10 tyX10_ok nmX10 rfl (ty := .boolean) rfl (by decide) rfl (Nat.le_of_ble_eq_true rfl) dX10_init_108 [(h0, .inr (10, [.null, .null, .null, .ref q1, .int 0, .int 0, .ref q2, .ref q3, .ref q4, .ref q5, .ref q6, .ref q7, .int 0, .ref q8, .int 0, .int 0, .int 0, .int 0, .int 0])), (q1, .inl (cA 1, 4004, .inl (fun _ => 0))), (q2, .inl (cA 1, 16400, .inl (fun _ => 0))), (q3, .inl (cA 1, 16400, .inl (fun _ => 0))), (q4, .inl (cA 1, 16400, .inl (fun _ => 0))), (q5, .inl (cA 1, 16400, .inl (fun _ => 0))), (q6, .inl (cA 1, 16400, .inl (fun _ => 0))), (q7, .inl (cA 1, 16400, .inl (fun _ => 0))), (q8, .inl (cA 1, 16800, .inl (fun _ => 0)))] rfl ?_
  refine zz_aload_n X 0 dX10_init_111 rfl rfl ?_
  refine zz_iconst X 0 dX10_init_112 rfl ?_
  refine zz_put X 0 18 rfl rfl (by decide) inX10_init_X10 rfl (List.mem_of_getElem? (i := 20) rfl) tyX10 tyX10_ok nmX10 rfl (ty := .int) rfl rfl rfl (Nat.le_of_ble_eq_true rfl) dX10_init_113 [(h0, .inr (10, [.null, .null, .null, .ref q1, .int 0, .int 0, .ref q2, .ref q3, .ref q4, .ref q5, .ref q6, .ref q7, .int 0, .ref q8, .int 0, .int 0, .int 0, .int 0, .int 0])), (q1, .inl (cA 1, 4004, .inl (fun _ => 0))), (q2, .inl (cA 1, 16400, .inl (fun _ => 0))), (q3, .inl (cA 1, 16400, .inl (fun _ => 0))), (q4, .inl (cA 1, 16400, .inl (fun _ => 0))), (q5, .inl (cA 1, 16400, .inl (fun _ => 0))), (q6, .inl (cA 1, 16400, .inl (fun _ => 0))), (q7, .inl (cA 1, 16400, .inl (fun _ => 0))), (q8, .inl (cA 1, 16800, .inl (fun _ => 0)))] rfl ?_
  refine zz_aload_n X 0 dX10_init_116 rfl rfl ?_
  refine zz_aload_n X 1 dX10_init_117 rfl rfl ?_
  refine zz_putF X 0 0 rfl rfl (by decide) inX10_init_X10 rfl (List.mem_of_getElem? (i := 21) rfl) tyX10 tyX10_ok nmX10 rfl hin rfl (ty := (.object "PolicyHouse$Heap")) rfl rfl rfl (Nat.le_of_ble_eq_true rfl) dX10_init_118 [(h0, .inr (10, [.ref bh, .null, .null, .ref q1, .int 0, .int 0, .ref q2, .ref q3, .ref q4, .ref q5, .ref q6, .ref q7, .int 0, .ref q8, .int 0, .int 0, .int 0, .int 0, .int 0])), (q1, .inl (cA 1, 4004, .inl (fun _ => 0))), (q2, .inl (cA 1, 16400, .inl (fun _ => 0))), (q3, .inl (cA 1, 16400, .inl (fun _ => 0))), (q4, .inl (cA 1, 16400, .inl (fun _ => 0))), (q5, .inl (cA 1, 16400, .inl (fun _ => 0))), (q6, .inl (cA 1, 16400, .inl (fun _ => 0))), (q7, .inl (cA 1, 16400, .inl (fun _ => 0))), (q8, .inl (cA 1, 16800, .inl (fun _ => 0)))] rfl ?_
  refine zz_aload_n X 0 dX10_init_121 rfl rfl ?_
  refine zz_aload_n X 2 dX10_init_122 rfl rfl ?_
  refine zz_putF X 0 1 rfl rfl (by decide) inX10_init_X10 rfl (List.mem_of_getElem? (i := 22) rfl) tyX10 tyX10_ok nmX10 rfl hin rfl (ty := (.object "PolicyHouse$Texts")) rfl rfl rfl (Nat.le_of_ble_eq_true rfl) dX10_init_123 [(h0, .inr (10, [.ref bh, .ref bt, .null, .ref q1, .int 0, .int 0, .ref q2, .ref q3, .ref q4, .ref q5, .ref q6, .ref q7, .int 0, .ref q8, .int 0, .int 0, .int 0, .int 0, .int 0])), (q1, .inl (cA 1, 4004, .inl (fun _ => 0))), (q2, .inl (cA 1, 16400, .inl (fun _ => 0))), (q3, .inl (cA 1, 16400, .inl (fun _ => 0))), (q4, .inl (cA 1, 16400, .inl (fun _ => 0))), (q5, .inl (cA 1, 16400, .inl (fun _ => 0))), (q6, .inl (cA 1, 16400, .inl (fun _ => 0))), (q7, .inl (cA 1, 16400, .inl (fun _ => 0))), (q8, .inl (cA 1, 16800, .inl (fun _ => 0)))] rfl ?_
  refine zz_aload_n X 0 dX10_init_126 rfl rfl ?_
  refine zz_aload_n X 3 dX10_init_127 rfl rfl ?_
  refine zz_putF X 0 2 rfl rfl (by decide) inX10_init_X10 rfl (List.mem_of_getElem? (i := 23) rfl) tyX10 tyX10_ok nmX10 rfl hin rfl (ty := (.object "PolicyHouse$Names")) rfl rfl rfl (Nat.le_of_ble_eq_true rfl) dX10_init_128 [(h0, .inr (10, [.ref bh, .ref bt, .ref bn, .ref q1, .int 0, .int 0, .ref q2, .ref q3, .ref q4, .ref q5, .ref q6, .ref q7, .int 0, .ref q8, .int 0, .int 0, .int 0, .int 0, .int 0])), (q1, .inl (cA 1, 4004, .inl (fun _ => 0))), (q2, .inl (cA 1, 16400, .inl (fun _ => 0))), (q3, .inl (cA 1, 16400, .inl (fun _ => 0))), (q4, .inl (cA 1, 16400, .inl (fun _ => 0))), (q5, .inl (cA 1, 16400, .inl (fun _ => 0))), (q6, .inl (cA 1, 16400, .inl (fun _ => 0))), (q7, .inl (cA 1, 16400, .inl (fun _ => 0))), (q8, .inl (cA 1, 16800, .inl (fun _ => 0)))] rfl ?_
  exact zz_vret X hr ((q1, q2, q3, q4, q5, q6, q7, q8)) [0, 1, 2, 3, 4, 5, 6, 7, 8] (by decide) rfl rfl (Nat.le_of_ble_eq_true rfl) (Nat.le_of_ble_eq_true rfl) (trivial) dX10_init_131

set_option maxHeartbeats 4000000 in
set_option maxRecDepth 100000 in
/-- Machine(heap, scopes, builtins) -/
theorem kX5_init {E : zEn} (hE : zOk E) (l : Launch) (D : va_G) (cA : Nat → ClassId) (h0 : Nat) (bh : Nat) (bs : Nat) (bb : Nat) : zMv E l yX5_init wsX5_init ({ frames := 1, cells := 2, slots := 78500, locals := 12 }) D vwCl (zT cA) [.ref h0, .ref bh, .ref bs, .ref bb] [(h0, .inr (5, [.null, .null, .null, .null, .null, .int 0, .int 0, .int 0, .int 0, .int 0, .int 0, .int 0, .null, .null, .null, .int 0, .int 0, .int 0]))] (S := Nat × Nat) (fun (u : Nat × Nat) => (True)) (fun (u : Nat × Nat) => [(h0, .inr (5, [.ref bh, .ref bs, .ref bb, .ref u.1, .ref u.2, .int 0, .int 0, .int 0, .int 0, .int 0, .int 0, .int 0, .null, .null, .null, .int 0, .int 0, .int 0])), (u.1, .inl (cA 1, 20000, .inl (fun _ => 0))), (u.2, .inl (cA 1, 58500, .inl (fun _ => 0)))]) := by
  refine zz_enterv (cc := cX5_init) (lv := [(0, .ref h0), (1, .ref bh), (2, .ref bs), (3, .ref bb)]) hE 4 (by decide) rfl (Nat.le_of_ble_eq_true rfl) rfl ?_
  intro p e s m args below meth c X hr hin
  refine zz_aload_n X 0 dX5_init_0 rfl rfl ?_
  refine zz_objInit X (List.mem_of_getElem? (i := 1) rfl) (List.mem_of_getElem? (i := 2) rfl) (List.mem_of_getElem? (i := 3) rfl) dX5_init_1 (Nat.le_of_ble_eq_true rfl) (Nat.le_of_ble_eq_true rfl) ?_
  refine zz_aload_n X 0 dX5_init_4 rfl rfl ?_
  refine zz_sipush X 20000 dX5_init_5 rfl ?_
  refine zz_newaI X 1 rfl 20000 (List.mem_of_getElem? (i := 4) rfl) (by decide) (by decide) (Nat.le_of_ble_eq_true rfl) (Nat.le_of_ble_eq_true rfl) (Nat.le_of_ble_eq_true rfl) dX5_init_8 (fun q1 => ?_)
  refine zz_show (ws' := [(h0, .inr (5, [.null, .null, .null, .null, .null, .int 0, .int 0, .int 0, .int 0, .int 0, .int 0, .int 0, .null, .null, .null, .int 0, .int 0, .int 0])), (q1, .inl (cA 1, 20000, .inl (fun _ => 0)))]) rfl ?_
  refine zz_putF X 0 3 rfl rfl (by decide) inX5_init_X5 rfl (List.mem_of_getElem? (i := 5) rfl) tyX5 tyX5_ok nmX5 rfl hin rfl (ty := (.array .int)) rfl rfl rfl (Nat.le_of_ble_eq_true rfl) dX5_init_10 [(h0, .inr (5, [.null, .null, .null, .ref q1, .null, .int 0, .int 0, .int 0, .int 0, .int 0, .int 0, .int 0, .null, .null, .null, .int 0, .int 0, .int 0])), (q1, .inl (cA 1, 20000, .inl (fun _ => 0)))] rfl ?_
  refine zz_aload_n X 0 dX5_init_13 rfl rfl ?_
  refine zz_ldc X (List.mem_of_getElem? (i := 6) rfl) dX5_init_14 ?_
  refine zz_newaI X 1 rfl 58500 (List.mem_of_getElem? (i := 4) rfl) (by decide) (by decide) (Nat.le_of_ble_eq_true rfl) (Nat.le_of_ble_eq_true rfl) (Nat.le_of_ble_eq_true rfl) dX5_init_16 (fun q2 => ?_)
  refine zz_show (ws' := [(h0, .inr (5, [.null, .null, .null, .ref q1, .null, .int 0, .int 0, .int 0, .int 0, .int 0, .int 0, .int 0, .null, .null, .null, .int 0, .int 0, .int 0])), (q1, .inl (cA 1, 20000, .inl (fun _ => 0))), (q2, .inl (cA 1, 58500, .inl (fun _ => 0)))]) rfl ?_
  refine zz_putF X 0 4 rfl rfl (by decide) inX5_init_X5 rfl (List.mem_of_getElem? (i := 7) rfl) tyX5 tyX5_ok nmX5 rfl hin rfl (ty := (.array .int)) rfl rfl rfl (Nat.le_of_ble_eq_true rfl) dX5_init_18 [(h0, .inr (5, [.null, .null, .null, .ref q1, .ref q2, .int 0, .int 0, .int 0, .int 0, .int 0, .int 0, .int 0, .null, .null, .null, .int 0, .int 0, .int 0])), (q1, .inl (cA 1, 20000, .inl (fun _ => 0))), (q2, .inl (cA 1, 58500, .inl (fun _ => 0)))] rfl ?_
  refine zz_aload_n X 0 dX5_init_21 rfl rfl ?_
  refine zz_iconst X 0 dX5_init_22 rfl ?_
  refine zz_put X 0 5 rfl rfl (by decide) inX5_init_X5 rfl (List.mem_of_getElem? (i := 8) rfl) tyX5 tyX5_ok nmX5 rfl (ty := .int) rfl rfl rfl (Nat.le_of_ble_eq_true rfl) dX5_init_23 [(h0, .inr (5, [.null, .null, .null, .ref q1, .ref q2, .int 0, .int 0, .int 0, .int 0, .int 0, .int 0, .int 0, .null, .null, .null, .int 0, .int 0, .int 0])), (q1, .inl (cA 1, 20000, .inl (fun _ => 0))), (q2, .inl (cA 1, 58500, .inl (fun _ => 0)))] rfl ?_
  refine zz_aload_n X 0 dX5_init_26 rfl rfl ?_
  refine zz_iconst X 0 dX5_init_27 rfl ?_
  refine zz_put X 0 6 rfl rfl (by decide) inX5_init_X5 rfl (List.mem_of_getElem? (i := 9) rfl) tyX5 tyX5_ok nmX5 rfl (ty := .int) rfl rfl rfl (Nat.le_of_ble_eq_true rfl) dX5_init_28 [(h0, .inr (5, [.null, .null, .null, .ref q1, .ref q2, .int 0, .int 0, .int 0, .int 0, .int 0, .int 0, .int 0, .null, .null, .null, .int 0, .int 0, .int 0])), (q1, .inl (cA 1, 20000, .inl (fun _ => 0))), (q2, .inl (cA 1, 58500, .inl (fun _ => 0)))] rfl ?_
  refine zz_aload_n X 0 dX5_init_31 rfl rfl ?_
  refine zz_iconst X 0 dX5_init_32 rfl ?_
  refine zz_put X 0 7 rfl rfl (by decide) inX5_init_X5 rfl (List.mem_of_getElem? (i := 10) rfl) tyX5 tyX5_ok nmX5 rfl (ty := .int) rfl rfl rfl (Nat.le_of_ble_eq_true rfl) dX5_init_33 [(h0, .inr (5, [.null, .null, .null, .ref q1, .ref q2, .int 0, .int 0, .int 0, .int 0, .int 0, .int 0, .int 0, .null, .null, .null, .int 0, .int 0, .int 0])), (q1, .inl (cA 1, 20000, .inl (fun _ => 0))), (q2, .inl (cA 1, 58500, .inl (fun _ => 0)))] rfl ?_
  refine zz_aload_n X 0 dX5_init_36 rfl rfl ?_
  refine zz_iconst X 0 dX5_init_37 rfl ?_
  refine zz_put X 0 8 rfl rfl (by decide) inX5_init_X5 rfl (List.mem_of_getElem? (i := 11) rfl) tyX5 tyX5_ok nmX5 rfl (ty := .int) rfl rfl rfl (Nat.le_of_ble_eq_true rfl) dX5_init_38 [(h0, .inr (5, [.null, .null, .null, .ref q1, .ref q2, .int 0, .int 0, .int 0, .int 0, .int 0, .int 0, .int 0, .null, .null, .null, .int 0, .int 0, .int 0])), (q1, .inl (cA 1, 20000, .inl (fun _ => 0))), (q2, .inl (cA 1, 58500, .inl (fun _ => 0)))] rfl ?_
  refine zz_aload_n X 0 dX5_init_41 rfl rfl ?_
  refine zz_iconst X 0 dX5_init_42 rfl ?_
  refine zz_put X 0 9 rfl rfl (by decide) inX5_init_X5 rfl (List.mem_of_getElem? (i := 12) rfl) tyX5 tyX5_ok nmX5 rfl (ty := .boolean) rfl (by decide) rfl (Nat.le_of_ble_eq_true rfl) dX5_init_43 [(h0, .inr (5, [.null, .null, .null, .ref q1, .ref q2, .int 0, .int 0, .int 0, .int 0, .int 0, .int 0, .int 0, .null, .null, .null, .int 0, .int 0, .int 0])), (q1, .inl (cA 1, 20000, .inl (fun _ => 0))), (q2, .inl (cA 1, 58500, .inl (fun _ => 0)))] rfl ?_
  refine zz_aload_n X 0 dX5_init_46 rfl rfl ?_
  refine zz_iconst X 0 dX5_init_47 rfl ?_
  refine zz_put X 0 10 rfl rfl (by decide) inX5_init_X5 rfl (List.mem_of_getElem? (i := 13) rfl) tyX5 tyX5_ok nmX5 rfl (ty := .boolean) rfl (by decide) rfl (Nat.le_of_ble_eq_true rfl) dX5_init_48 [(h0, .inr (5, [.null, .null, .null, .ref q1, .ref q2, .int 0, .int 0, .int 0, .int 0, .int 0, .int 0, .int 0, .null, .null, .null, .int 0, .int 0, .int 0])), (q1, .inl (cA 1, 20000, .inl (fun _ => 0))), (q2, .inl (cA 1, 58500, .inl (fun _ => 0)))] rfl ?_
  refine zz_aload_n X 0 dX5_init_51 rfl rfl ?_
  refine zz_iconst X 0 dX5_init_52 rfl ?_
  refine zz_put X 0 11 rfl rfl (by decide) inX5_init_X5 rfl (List.mem_of_getElem? (i := 14) rfl) tyX5 tyX5_ok nmX5 rfl (ty := .boolean) rfl (by decide) rfl (Nat.le_of_ble_eq_true rfl) dX5_init_53 [(h0, .inr (5, [.null, .null, .null, .ref q1, .ref q2, .int 0, .int 0, .int 0, .int 0, .int 0, .int 0, .int 0, .null, .null, .null, .int 0, .int 0, .int 0])), (q1, .inl (cA 1, 20000, .inl (fun _ => 0))), (q2, .inl (cA 1, 58500, .inl (fun _ => 0)))] rfl ?_
  refine zz_aload_n X 0 dX5_init_56 rfl rfl ?_
  refine zz_null X dX5_init_57 ?_
  refine zz_put X 0 12 rfl rfl (by decide) inX5_init_X5 rfl (List.mem_of_getElem? (i := 15) rfl) tyX5 tyX5_ok nmX5 rfl (ty := (.object "PolicyHouse$Bundle")) rfl rfl rfl (Nat.le_of_ble_eq_true rfl) dX5_init_58 [(h0, .inr (5, [.null, .null, .null, .ref q1, .ref q2, .int 0, .int 0, .int 0, .int 0, .int 0, .int 0, .int 0, .null, .null, .null, .int 0, .int 0, .int 0])), (q1, .inl (cA 1, 20000, .inl (fun _ => 0))), (q2, .inl (cA 1, 58500, .inl (fun _ => 0)))] rfl ?_
  refine zz_aload_n X 0 dX5_init_61 rfl rfl ?_
  refine zz_null X dX5_init_62 ?_
  refine zz_put X 0 13 rfl rfl (by decide) inX5_init_X5 rfl (List.mem_of_getElem? (i := 16) rfl) tyX5 tyX5_ok nmX5 rfl (ty := (.array .int)) rfl rfl rfl (Nat.le_of_ble_eq_true rfl) dX5_init_63 [(h0, .inr (5, [.null, .null, .null, .ref q1, .ref q2, .int 0, .int 0, .int 0, .int 0, .int 0, .int 0, .int 0, .null, .null, .null, .int 0, .int 0, .int 0])), (q1, .inl (cA 1, 20000, .inl (fun _ => 0))), (q2, .inl (cA 1, 58500, .inl (fun _ => 0)))] rfl ?_
  refine zz_aload_n X 0 dX5_init_66 rfl rfl ?_
  refine zz_null X dX5_init_67 ?_
  refine zz_put X 0 14 rfl rfl (by decide) inX5_init_X5 rfl (List.mem_of_getElem? (i := 17) rfl) tyX5 tyX5_ok nmX5 rfl (ty := (.array .int)) rfl rfl rfl (Nat.le_of_ble_eq_true rfl) dX5_init_68 [(h0, .inr (5, [.null, .null, .null, .ref q1, .ref q2, .int 0, .int 0, .int 0, .int 0, .int 0, .int 0, .int 0, .null, .null, .null, .int 0, .int 0, .int 0])), (q1, .inl (cA 1, 20000, .inl (fun _ => 0))), (q2, .inl (cA 1, 58500, .inl (fun _ => 0)))] rfl ?_
  refine zz_aload_n X 0 dX5_init_71 rfl rfl ?_
  refine zz_iconst X 0 dX5_init_72 rfl ?_
  refine zz_put X 0 15 rfl rfl (by decide) inX5_init_X5 rfl (List.mem_of_getElem? (i := 18) rfl) tyX5 tyX5_ok nmX5 rfl (ty := .int) rfl rfl rfl (Nat.le_of_ble_eq_true rfl) dX5_init_73 [(h0, .inr (5, [.null, .null, .null, .ref q1, .ref q2, .int 0, .int 0, .int 0, .int 0, .int 0, .int 0, .int 0, .null, .null, .null, .int 0, .int 0, .int 0])), (q1, .inl (cA 1, 20000, .inl (fun _ => 0))), (q2, .inl (cA 1, 58500, .inl (fun _ => 0)))] rfl ?_
  refine zz_aload_n X 0 dX5_init_76 rfl rfl ?_
  refine zz_iconst X 0 dX5_init_77 rfl ?_
  refine zz_put X 0 16 rfl rfl (by decide) inX5_init_X5 rfl (List.mem_of_getElem? (i := 19) rfl) tyX5 tyX5_ok nmX5 rfl (ty := .int) rfl rfl rfl (Nat.le_of_ble_eq_true rfl) dX5_init_78 [(h0, .inr (5, [.null, .null, .null, .ref q1, .ref q2, .int 0, .int 0, .int 0, .int 0, .int 0, .int 0, .int 0, .null, .null, .null, .int 0, .int 0, .int 0])), (q1, .inl (cA 1, 20000, .inl (fun _ => 0))), (q2, .inl (cA 1, 58500, .inl (fun _ => 0)))] rfl ?_
  refine zz_aload_n X 0 dX5_init_81 rfl rfl ?_
  refine zz_iconst X 0 dX5_init_82 rfl ?_
  refine zz_put X 0 17 rfl rfl (by decide) inX5_init_X5 rfl (List.mem_of_getElem? (i := 20) rfl) tyX5 tyX5_ok nmX5 rfl (ty := .int) rfl rfl rfl (Nat.le_of_ble_eq_true rfl) dX5_init_83 [(h0, .inr (5, [.null, .null, .null, .ref q1, .ref q2, .int 0, .int 0, .int 0, .int 0, .int 0, .int 0, .int 0, .null, .null, .null, .int 0, .int 0, .int 0])), (q1, .inl (cA 1, 20000, .inl (fun _ => 0))), (q2, .inl (cA 1, 58500, .inl (fun _ => 0)))] rfl ?_
  refine zz_aload_n X 0 dX5_init_86 rfl rfl ?_
  refine zz_aload_n X 1 dX5_init_87 rfl rfl ?_
  refine zz_putF X 0 0 rfl rfl (by decide) inX5_init_X5 rfl (List.mem_of_getElem? (i := 21) rfl) tyX5 tyX5_ok nmX5 rfl hin rfl (ty := (.object "PolicyHouse$Heap")) rfl rfl rfl (Nat.le_of_ble_eq_true rfl) dX5_init_88 [(h0, .inr (5, [.ref bh, .null, .null, .ref q1, .ref q2, .int 0, .int 0, .int 0, .int 0, .int 0, .int 0, .int 0, .null, .null, .null, .int 0, .int 0, .int 0])), (q1, .inl (cA 1, 20000, .inl (fun _ => 0))), (q2, .inl (cA 1, 58500, .inl (fun _ => 0)))] rfl ?_
  refine zz_aload_n X 0 dX5_init_91 rfl rfl ?_
  refine zz_aload_n X 2 dX5_init_92 rfl rfl ?_
  refine zz_putF X 0 1 rfl rfl (by decide) inX5_init_X5 rfl (List.mem_of_getElem? (i := 22) rfl) tyX5 tyX5_ok nmX5 rfl hin rfl (ty := (.object "PolicyHouse$Scopes")) rfl rfl rfl (Nat.le_of_ble_eq_true rfl) dX5_init_93 [(h0, .inr (5, [.ref bh, .ref bs, .null, .ref q1, .ref q2, .int 0, .int 0, .int 0, .int 0, .int 0, .int 0, .int 0, .null, .null, .null, .int 0, .int 0, .int 0])), (q1, .inl (cA 1, 20000, .inl (fun _ => 0))), (q2, .inl (cA 1, 58500, .inl (fun _ => 0)))] rfl ?_
  refine zz_aload_n X 0 dX5_init_96 rfl rfl ?_
  refine zz_aload_n X 3 dX5_init_97 rfl rfl ?_
  refine zz_putF X 0 2 rfl rfl (by decide) inX5_init_X5 rfl (List.mem_of_getElem? (i := 23) rfl) tyX5 tyX5_ok nmX5 rfl hin rfl (ty := (.object "PolicyHouse$Builtins")) rfl rfl rfl (Nat.le_of_ble_eq_true rfl) dX5_init_98 [(h0, .inr (5, [.ref bh, .ref bs, .ref bb, .ref q1, .ref q2, .int 0, .int 0, .int 0, .int 0, .int 0, .int 0, .int 0, .null, .null, .null, .int 0, .int 0, .int 0])), (q1, .inl (cA 1, 20000, .inl (fun _ => 0))), (q2, .inl (cA 1, 58500, .inl (fun _ => 0)))] rfl ?_
  exact zz_vret X hr ((q1, q2)) [0, 1, 2] (by decide) rfl rfl (Nat.le_of_ble_eq_true rfl) (Nat.le_of_ble_eq_true rfl) (trivial) dX5_init_101
