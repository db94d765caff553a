set_option maxHeartbeats 4000000 in
set_option maxRecDepth 100000 in
/-- Bundle of no modules -/
theorem kX1_init0 {E : zEn} (hE : zOk E) (l : Launch) (D : va_G) (cA : Nat → ClassId) (h0 : Nat) (dr : Nat) (N9 : Nat) (hN9 : N9 ≤ 12288) (hao : ∀ (A : Nat → Prop) (U : State) (H : Heap), E A U H → va_AO "PolicyHouse$Tree" U) : zMv E l yX1_init wsX1_init ({ frames := 1, cells := 5, slots := 24576, locals := 12 }) D vwCl (zT cA) [.ref h0, .ref dr, .int 0, .int (nI N9)] [(h0, .inr (1, [.null, .int 0, .int 0, .int 0, .null, .null, .null, .null, .int 0, .null, .null, .null, .null, .int 0, .int 0, .int 0]))] (S := Nat × Nat × Nat × Nat × Nat) (fun (u : Nat × Nat × Nat × Nat × Nat) => (True)) (fun (u : Nat × Nat × Nat × Nat × Nat) => [(h0, .inr (1, [.ref u.1, .int 0, .int 0, .int 0, .ref u.2.1, .ref u.2.2.1, .ref u.2.2.2.1, .ref u.2.2.2.2, .int 1, .null, .null, .null, .null, .int 0, .int (-1), .int (-1)])), (u.1, .inl (cA 5, 0, .inr (.inr (.inr (.inr (fun _ => none)))))), (u.2.1, .inl (cA 1, 0, .inl (fun _ => 0))), (u.2.2.1, .inl (cA 1, 0, .inl (fun _ => 0))), (u.2.2.2.1, .inl (cA 1, N9, .inl (fun _ => 0))), (u.2.2.2.2, .inl (cA 1, N9, .inl (fun _ => 0)))]) := by
  refine zz_enterv (cc := cX1_init) (lv := [(0, .ref h0), (1, .ref dr), (2, .int 0), (3, .int (nI N9))]) hE 6 (by decide) rfl (Nat.le_of_ble_eq_true rfl) rfl ?_
  intro p e s m args below meth c X hr hin
  refine zz_aload_n X 0 dX1_init_0 rfl rfl ?_
  refine zz_objInit X (List.mem_of_getElem? (i := 1) rfl) (List.mem_of_getElem? (i := 2) rfl) (List.mem_of_getElem? (i := 3) rfl) dX1_init_1 (Nat.le_of_ble_eq_true rfl) (Nat.le_of_ble_eq_true rfl) ?_
  refine zz_aload_n X 0 dX1_init_4 rfl rfl ?_
  refine zz_iconst X 0 dX1_init_5 rfl ?_
  refine zz_put X 0 2 rfl rfl (by decide) inX1_init_X1 rfl (List.mem_of_getElem? (i := 4) rfl) tyX1 tyX1_ok nmX1 rfl (ty := .int) rfl rfl rfl (Nat.le_of_ble_eq_true rfl) dX1_init_6 [(h0, .inr (1, [.null, .int 0, .int 0, .int 0, .null, .null, .null, .null, .int 0, .null, .null, .null, .null, .int 0, .int 0, .int 0]))] rfl ?_
  refine zz_aload_n X 0 dX1_init_9 rfl rfl ?_
  refine zz_iconst X 0 dX1_init_10 rfl ?_
  refine zz_put X 0 3 rfl rfl (by decide) inX1_init_X1 rfl (List.mem_of_getElem? (i := 5) rfl) tyX1 tyX1_ok nmX1 rfl (ty := .int) rfl rfl rfl (Nat.le_of_ble_eq_true rfl) dX1_init_11 [(h0, .inr (1, [.null, .int 0, .int 0, .int 0, .null, .null, .null, .null, .int 0, .null, .null, .null, .null, .int 0, .int 0, .int 0]))] rfl ?_
  refine zz_aload_n X 0 dX1_init_14 rfl rfl ?_
  refine zz_iconst X 1 dX1_init_15 rfl ?_
  refine zz_put X 0 8 rfl rfl (by decide) inX1_init_X1 rfl (List.mem_of_getElem? (i := 6) rfl) tyX1 tyX1_ok nmX1 rfl (ty := .int) rfl rfl rfl (Nat.le_of_ble_eq_true rfl) dX1_init_16 [(h0, .inr (1, [.null, .int 0, .int 0, .int 0, .null, .null, .null, .null, .int 1, .null, .null, .null, .null, .int 0, .int 0, .int 0]))] rfl ?_
  refine zz_aload_n X 0 dX1_init_19 rfl rfl ?_
  refine zz_null X dX1_init_20 ?_
  refine zz_put X 0 9 rfl rfl (by decide) inX1_init_X1 rfl (List.mem_of_getElem? (i := 7) rfl) tyX1 tyX1_ok nmX1 rfl (ty := (.array .int)) rfl rfl rfl (Nat.le_of_ble_eq_true rfl) dX1_init_21 [(h0, .inr (1, [.null, .int 0, .int 0, .int 0, .null, .null, .null, .null, .int 1, .null, .null, .null, .null, .int 0, .int 0, .int 0]))] rfl ?_
  refine zz_aload_n X 0 dX1_init_24 rfl rfl ?_
  refine zz_null X dX1_init_25 ?_
  refine zz_put X 0 10 rfl rfl (by decide) inX1_init_X1 rfl (List.mem_of_getElem? (i := 8) rfl) tyX1 tyX1_ok nmX1 rfl (ty := (.array .int)) rfl rfl rfl (Nat.le_of_ble_eq_true rfl) dX1_init_26 [(h0, .inr (1, [.null, .int 0, .int 0, .int 0, .null, .null, .null, .null, .int 1, .null, .null, .null, .null, .int 0, .int 0, .int 0]))] rfl ?_
  refine zz_aload_n X 0 dX1_init_29 rfl rfl ?_
  refine zz_null X dX1_init_30 ?_
  refine zz_put X 0 11 rfl rfl (by decide) inX1_init_X1 rfl (List.mem_of_getElem? (i := 9) rfl) tyX1 tyX1_ok nmX1 rfl (ty := (.array .int)) rfl rfl rfl (Nat.le_of_ble_eq_true rfl) dX1_init_31 [(h0, .inr (1, [.null, .int 0, .int 0, .int 0, .null, .null, .null, .null, .int 1, .null, .null, .null, .null, .int 0, .int 0, .int 0]))] rfl ?_
  refine zz_aload_n X 0 dX1_init_34 rfl rfl ?_
  refine zz_null X dX1_init_35 ?_
  refine zz_put X 0 12 rfl rfl (by decide) inX1_init_X1 rfl (List.mem_of_getElem? (i := 10) rfl) tyX1 tyX1_ok nmX1 rfl (ty := (.array .int)) rfl rfl rfl (Nat.le_of_ble_eq_true rfl) dX1_init_36 [(h0, .inr (1, [.null, .int 0, .int 0, .int 0, .null, .null, .null, .null, .int 1, .null, .null, .null, .null, .int 0, .int 0, .int 0]))] rfl ?_
  refine zz_aload_n X 0 dX1_init_39 rfl rfl ?_
  refine zz_iconst X 0 dX1_init_40 rfl ?_
  refine zz_put X 0 13 rfl rfl (by decide) inX1_init_X1 rfl (List.mem_of_getElem? (i := 11) rfl) tyX1 tyX1_ok nmX1 rfl (ty := .int) rfl rfl rfl (Nat.le_of_ble_eq_true rfl) dX1_init_41 [(h0, .inr (1, [.null, .int 0, .int 0, .int 0, .null, .null, .null, .null, .int 1, .null, .null, .null, .null, .int 0, .int 0, .int 0]))] rfl ?_
  refine zz_aload_n X 0 dX1_init_44 rfl rfl ?_
  refine zz_iconst X (-1) dX1_init_45 rfl ?_
  refine zz_put X 0 14 rfl rfl (by decide) inX1_init_X1 rfl (List.mem_of_getElem? (i := 12) rfl) tyX1 tyX1_ok nmX1 rfl (ty := .int) rfl rfl rfl (Nat.le_of_ble_eq_true rfl) dX1_init_46 [(h0, .inr (1, [.null, .int 0, .int 0, .int 0, .null, .null, .null, .null, .int 1, .null, .null, .null, .null, .int 0, .int (-1), .int 0]))] rfl ?_
  refine zz_aload_n X 0 dX1_init_49 rfl rfl ?_
  refine zz_iconst X (-1) dX1_init_50 rfl ?_
  refine zz_put X 0 15 rfl rfl (by decide) inX1_init_X1 rfl (List.mem_of_getElem? (i := 13) rfl) tyX1 tyX1_ok nmX1 rfl (ty := .int) rfl rfl rfl (Nat.le_of_ble_eq_true rfl) dX1_init_51 [(h0, .inr (1, [.null, .int 0, .int 0, .int 0, .null, .null, .null, .null, .int 1, .null, .null, .null, .null, .int 0, .int (-1), .int (-1)]))] rfl ?_
  refine zz_aload_n X 0 dX1_init_54 rfl rfl ?_
  refine zz_iload_n X 2 dX1_init_55 rfl rfl ?_
  refine zz_newq X 5 rfl 0 (List.mem_of_getElem? (i := 14) rfl) hao (by decide) (by decide) (Nat.le_of_ble_eq_true rfl) (Nat.le_of_ble_eq_true rfl) (Nat.le_of_ble_eq_true rfl) dX1_init_56 (fun q1 => ?_)
  refine zz_show (ws' := [(h0, .inr (1, [.null, .int 0, .int 0, .int 0, .null, .null, .null, .null, .int 1, .null, .null, .null, .null, .int 0, .int (-1), .int (-1)])), (q1, .inl (cA 5, 0, .inr (.inr (.inr (.inr (fun _ => none))))))]) rfl ?_
  refine zz_putF X 0 0 rfl rfl (by decide) inX1_init_X1 rfl (List.mem_of_getElem? (i := 15) rfl) tyX1 tyX1_ok nmX1 rfl hin rfl (ty := (.array (.object "PolicyHouse$Tree"))) rfl rfl rfl (Nat.le_of_ble_eq_true rfl) dX1_init_59 [(h0, .inr (1, [.ref q1, .int 0, .int 0, .int 0, .null, .null, .null, .null, .int 1, .null, .null, .null, .null, .int 0, .int (-1), .int (-1)])), (q1, .inl (cA 5, 0, .inr (.inr (.inr (.inr (fun _ => none))))))] rfl ?_
  refine zz_iconst X 0 dX1_init_62 rfl ?_
  refine zz_istore X [(4, .int 0), (0, .ref h0), (1, .ref dr), (2, .int 0), (3, .int (nI N9))] dX1_init_63 (by decide) rfl ?_
  refine zz_iconst X 0 dX1_init_65 rfl ?_
  refine zz_istore X [(5, .int 0), (4, .int 0), (0, .ref h0), (1, .ref dr), (2, .int 0), (3, .int (nI N9))] dX1_init_66 (by decide) rfl ?_
  refine zz_iload X 0 dX1_init_68 rfl ?_
  refine zz_iload_n X 4 dX1_init_70 rfl rfl ?_
  refine zz_icmp_ge X 103 dX1_init_71 (by decide) (fun _ => ?_) (fun h => absurd (by decide) h)
  refine zz_aload_n X 2 dX1_init_103 rfl rfl ?_
  refine zz_iload_n X 4 dX1_init_104 rfl rfl ?_
  refine zz_putF X 0 1 rfl rfl (by decide) inX1_init_X1 rfl (List.mem_of_getElem? (i := 17) rfl) tyX1 tyX1_ok nmX1 rfl hin rfl (ty := .int) rfl rfl rfl (Nat.le_of_ble_eq_true rfl) dX1_init_105 [(h0, .inr (1, [.ref q1, .int 0, .int 0, .int 0, .null, .null, .null, .null, .int 1, .null, .null, .null, .null, .int 0, .int (-1), .int (-1)])), (q1, .inl (cA 5, 0, .inr (.inr (.inr (.inr (fun _ => none))))))] rfl ?_
  refine zz_aload_n X 2 dX1_init_108 rfl rfl ?_
  refine zz_iload X 1 dX1_init_109 rfl ?_
  refine zz_bipush X 10 dX1_init_111 rfl ?_
  refine zz_imul X (0) dX1_init_113 (by decide) ?_
  refine zz_newaI X 1 rfl 0 (List.mem_of_getElem? (i := 18) rfl) (by decide) (by decide) (Nat.le_of_ble_eq_true rfl) (Nat.le_of_ble_eq_true rfl) (Nat.le_of_ble_eq_true rfl) dX1_init_114 (fun q2 => ?_)
  refine zz_show (ws' := [(h0, .inr (1, [.ref q1, .int 0, .int 0, .int 0, .null, .null, .null, .null, .int 1, .null, .null, .null, .null, .int 0, .int (-1), .int (-1)])), (q1, .inl (cA 5, 0, .inr (.inr (.inr (.inr (fun _ => none)))))), (q2, .inl (cA 1, 0, .inl (fun _ => 0)))]) rfl ?_
  refine zz_putF X 0 4 rfl rfl (by decide) inX1_init_X1 rfl (List.mem_of_getElem? (i := 19) rfl) tyX1 tyX1_ok nmX1 rfl hin rfl (ty := (.array .int)) rfl rfl rfl (Nat.le_of_ble_eq_true rfl) dX1_init_116 [(h0, .inr (1, [.ref q1, .int 0, .int 0, .int 0, .ref q2, .null, .null, .null, .int 1, .null, .null, .null, .null, .int 0, .int (-1), .int (-1)])), (q1, .inl (cA 5, 0, .inr (.inr (.inr (.inr (fun _ => none)))))), (q2, .inl (cA 1, 0, .inl (fun _ => 0)))] rfl ?_
  refine zz_aload_n X 2 dX1_init_119 rfl rfl ?_
  refine zz_iload X 1 dX1_init_120 rfl ?_
  refine zz_bipush X 6 dX1_init_122 rfl ?_
  refine zz_imul X (0) dX1_init_124 (by decide) ?_
  refine zz_newaI X 1 rfl 0 (List.mem_of_getElem? (i := 18) rfl) (by decide) (by decide) (Nat.le_of_ble_eq_true rfl) (Nat.le_of_ble_eq_true rfl) (Nat.le_of_ble_eq_true rfl) dX1_init_125 (fun q3 => ?_)
  refine zz_show (ws' := [(h0, .inr (1, [.ref q1, .int 0, .int 0, .int 0, .ref q2, .null, .null, .null, .int 1, .null, .null, .null, .null, .int 0, .int (-1), .int (-1)])), (q1, .inl (cA 5, 0, .inr (.inr (.inr (.inr (fun _ => none)))))), (q2, .inl (cA 1, 0, .inl (fun _ => 0))), (q3, .inl (cA 1, 0, .inl (fun _ => 0)))]) rfl ?_
  refine zz_putF X 0 5 rfl rfl (by decide) inX1_init_X1 rfl (List.mem_of_getElem? (i := 20) rfl) tyX1 tyX1_ok nmX1 rfl hin rfl (ty := (.array .int)) rfl rfl rfl (Nat.le_of_ble_eq_true rfl) dX1_init_127 [(h0, .inr (1, [.ref q1, .int 0, .int 0, .int 0, .ref q2, .ref q3, .null, .null, .int 1, .null, .null, .null, .null, .int 0, .int (-1), .int (-1)])), (q1, .inl (cA 5, 0, .inr (.inr (.inr (.inr (fun _ => none)))))), (q2, .inl (cA 1, 0, .inl (fun _ => 0))), (q3, .inl (cA 1, 0, .inl (fun _ => 0)))] rfl ?_
  refine zz_aload_n X 2 dX1_init_130 rfl rfl ?_
  refine zz_iload_n X 5 dX1_init_131 rfl rfl ?_
  refine zz_newaI X 1 rfl N9 (List.mem_of_getElem? (i := 18) rfl) (nI_pos (by omega)) (nI_clamp (by omega)) (by omega) (Nat.le_of_ble_eq_true rfl) (Nat.le_trans (Nat.add_le_add_left hN9 _) (Nat.le_of_ble_eq_true rfl)) dX1_init_132 (fun q4 => ?_)
  refine zz_wide (Nat.le_refl _) (Nat.add_le_add_left hN9 _) ?_
  refine zz_show (ws' := [(h0, .inr (1, [.ref q1, .int 0, .int 0, .int 0, .ref q2, .ref q3, .null, .null, .int 1, .null, .null, .null, .null, .int 0, .int (-1), .int (-1)])), (q1, .inl (cA 5, 0, .inr (.inr (.inr (.inr (fun _ => none)))))), (q2, .inl (cA 1, 0, .inl (fun _ => 0))), (q3, .inl (cA 1, 0, .inl (fun _ => 0))), (q4, .inl (cA 1, N9, .inl (fun _ => 0)))]) rfl ?_
  refine zz_putF X 0 6 rfl rfl (by decide) inX1_init_X1 rfl (List.mem_of_getElem? (i := 21) rfl) tyX1 tyX1_ok nmX1 rfl hin rfl (ty := (.array .int)) rfl rfl rfl (Nat.le_of_ble_eq_true rfl) dX1_init_134 [(h0, .inr (1, [.ref q1, .int 0, .int 0, .int 0, .ref q2, .ref q3, .ref q4, .null, .int 1, .null, .null, .null, .null, .int 0, .int (-1), .int (-1)])), (q1, .inl (cA 5, 0, .inr (.inr (.inr (.inr (fun _ => none)))))), (q2, .inl (cA 1, 0, .inl (fun _ => 0))), (q3, .inl (cA 1, 0, .inl (fun _ => 0))), (q4, .inl (cA 1, N9, .inl (fun _ => 0)))] rfl ?_
  refine zz_aload_n X 2 dX1_init_137 rfl rfl ?_
  refine zz_iload_n X 5 dX1_init_138 rfl rfl ?_
  refine zz_newaI X 1 rfl N9 (List.mem_of_getElem? (i := 18) rfl) (nI_pos (by omega)) (nI_clamp (by omega)) (by omega) (Nat.le_of_ble_eq_true rfl) (Nat.le_trans (Nat.add_le_add_left hN9 _) (Nat.le_of_ble_eq_true rfl)) dX1_init_139 (fun q5 => ?_)
  refine zz_wide (Nat.le_refl _) (Nat.add_le_add_left hN9 _) ?_
  refine zz_show (ws' := [(h0, .inr (1, [.ref q1, .int 0, .int 0, .int 0, .ref q2, .ref q3, .ref q4, .null, .int 1, .null, .null, .null, .null, .int 0, .int (-1), .int (-1)])), (q1, .inl (cA 5, 0, .inr (.inr (.inr (.inr (fun _ => none)))))), (q2, .inl (cA 1, 0, .inl (fun _ => 0))), (q3, .inl (cA 1, 0, .inl (fun _ => 0))), (q4, .inl (cA 1, N9, .inl (fun _ => 0))), (q5, .inl (cA 1, N9, .inl (fun _ => 0)))]) rfl ?_
  refine zz_putF X 0 7 rfl rfl (by decide) inX1_init_X1 rfl (List.mem_of_getElem? (i := 22) rfl) tyX1 tyX1_ok nmX1 rfl hin rfl (ty := (.array .int)) rfl rfl rfl (Nat.le_of_ble_eq_true rfl) dX1_init_141 [(h0, .inr (1, [.ref q1, .int 0, .int 0, .int 0, .ref q2, .ref q3, .ref q4, .ref q5, .int 1, .null, .null, .null, .null, .int 0, .int (-1), .int (-1)])), (q1, .inl (cA 5, 0, .inr (.inr (.inr (.inr (fun _ => none)))))), (q2, .inl (cA 1, 0, .inl (fun _ => 0))), (q3, .inl (cA 1, 0, .inl (fun _ => 0))), (q4, .inl (cA 1, N9, .inl (fun _ => 0))), (q5, .inl (cA 1, N9, .inl (fun _ => 0)))] rfl ?_
  exact zz_vret X hr ((q1, q2, q3, q4, q5)) [0, 1, 2, 3, 4, 5] (by decide) rfl rfl (Nat.le_of_ble_eq_true rfl) (Nat.le_of_ble_eq_true rfl) (trivial) dX1_init_144

set_option maxHeartbeats 4000000 in
set_option maxRecDepth 100000 in
/-- gather of nothing -/
theorem kX2_gather0 {E : zEn} (hE : zOk E) (l : Launch) (D : va_G) (cA : Nat → ClassId) (x0 : Nat) (u0 : Nat) (xheap : Value) (xnames : Value) (xt : Value) (xmodule : Int32) (xdeclared : Value) (xscopeOf : Value) (xplaceOf : Value) (xcount : Int32) (xaround : Value) (xscopes : Int32) (xbadKind : Int32) (xbadPlace : Int32) (xbits : Value) (xdirect : Value) (xall : Value) (umods : Value) (urule : Value) (upart : Value) (unodeRule : Value) (uinner : Value) (uwords : Int32) (ureads : Value) (urank : Value) (ubranch : Value) (ucode : Value) (umodule : Int32) (uplace : Int32) : zMv E l yX2_gather wsX2_gather ({ frames := 0, cells := 0, slots := 0, locals := 0 }) D vwCl (zT cA) [.ref x0] [(x0, .inr (2, [xheap, xnames, .ref u0, xt, .int xmodule, xdeclared, xscopeOf, xplaceOf, .int xcount, xaround, .int xscopes, .int xbadKind, .int xbadPlace, xbits, xdirect, xall])), (u0, .inr (1, [umods, .int 0, .int 0, .int 0, urule, upart, unodeRule, uinner, .int uwords, ureads, urank, ubranch, ucode, .int 0, .int umodule, .int uplace]))] (S := Unit) (fun (u : Unit) => (True)) (fun (u : Unit) => [(x0, .inr (2, [xheap, xnames, .ref u0, xt, .int xmodule, xdeclared, xscopeOf, xplaceOf, .int xcount, xaround, .int xscopes, .int xbadKind, .int xbadPlace, xbits, xdirect, xall])), (u0, .inr (1, [umods, .int 0, .int 0, .int 0, urule, upart, unodeRule, uinner, .int 0, ureads, urank, ubranch, ucode, .int 0, .int umodule, .int uplace]))]) := by
  refine zz_enterv (cc := cX2_gather) (lv := [(0, .ref x0)]) hE 4 (by decide) rfl (Nat.le_of_ble_eq_true rfl) rfl ?_
  intro p e s m args below meth c X hr hin
  refine zz_iconst X 0 dX2_gather_0 rfl ?_
  refine zz_istore_n X [(1, .int 0), (0, .ref x0)] dX2_gather_1 rfl (by decide) rfl ?_
  refine zz_iload_n X 0 dX2_gather_2 rfl rfl ?_
  refine zz_aload_n X 1 dX2_gather_3 rfl rfl ?_
  refine zz_get X 0 2 rfl rfl (by decide) inX2_gather_X2 rfl (List.mem_of_getElem? (i := 1) rfl) rfl dX2_gather_4 ?_
  refine zz_get X 1 1 rfl rfl (by decide) inX2_gather_X1 rfl (List.mem_of_getElem? (i := 2) rfl) rfl dX2_gather_7 ?_
  refine zz_icmp_ge X 66 dX2_gather_10 (by decide) (fun _ => ?_) (fun h => absurd (by decide) h)
  refine zz_iconst X 0 dX2_gather_66 rfl ?_
  refine zz_istore_n X [(1, .int 0), (0, .ref x0)] dX2_gather_67 rfl (by decide) rfl ?_
  refine zz_iload_n X 0 dX2_gather_68 rfl rfl ?_
  refine zz_aload_n X 1 dX2_gather_69 rfl rfl ?_
  refine zz_get X 0 2 rfl rfl (by decide) inX2_gather_X2 rfl (List.mem_of_getElem? (i := 1) rfl) rfl dX2_gather_70 ?_
  refine zz_get X 1 1 rfl rfl (by decide) inX2_gather_X1 rfl (List.mem_of_getElem? (i := 2) rfl) rfl dX2_gather_73 ?_
  refine zz_icmp_ge X 125 dX2_gather_76 (by decide) (fun _ => ?_) (fun h => absurd (by decide) h)
  refine zz_aload_n X 1 dX2_gather_125 rfl rfl ?_
  refine zz_get X 0 2 rfl rfl (by decide) inX2_gather_X2 rfl (List.mem_of_getElem? (i := 1) rfl) rfl dX2_gather_126 ?_
  refine zz_aload_n X 1 dX2_gather_129 rfl rfl ?_
  refine zz_get X 0 2 rfl rfl (by decide) inX2_gather_X2 rfl (List.mem_of_getElem? (i := 1) rfl) rfl dX2_gather_130 ?_
  refine zz_get X 1 2 rfl rfl (by decide) inX2_gather_X1 rfl (List.mem_of_getElem? (i := 11) rfl) rfl dX2_gather_133 ?_
  refine zz_bipush X 31 dX2_gather_136 rfl ?_
  refine zz_iadd X (31) dX2_gather_138 (by decide) ?_
  refine zz_bipush X 32 dX2_gather_139 rfl ?_
  refine zz_idiv X (0) dX2_gather_141 (by decide) (by decide) ?_
  refine zz_put X 1 8 rfl rfl (by decide) inX2_gather_X1 rfl (List.mem_of_getElem? (i := 12) rfl) tyX1 tyX1_ok nmX1 rfl (ty := .int) rfl rfl rfl (Nat.le_of_ble_eq_true rfl) dX2_gather_142 [(x0, .inr (2, [xheap, xnames, .ref u0, xt, .int xmodule, xdeclared, xscopeOf, xplaceOf, .int xcount, xaround, .int xscopes, .int xbadKind, .int xbadPlace, xbits, xdirect, xall])), (u0, .inr (1, [umods, .int 0, .int 0, .int 0, urule, upart, unodeRule, uinner, .int 0, ureads, urank, ubranch, ucode, .int 0, .int umodule, .int uplace]))] rfl ?_
  exact zz_vret X hr (()) [0, 1] (by decide) rfl rfl (Nat.le_of_ble_eq_true rfl) (Nat.le_of_ble_eq_true rfl) (trivial) dX2_gather_145

set_option maxHeartbeats 4000000 in
set_option maxRecDepth 100000 in
/-- findClash of nothing -/
theorem kX2_findClash0 {E : zEn} (hE : zOk E) (l : Launch) (D : va_G) (cA : Nat → ClassId) (x0 : Nat) (u0 : Nat) (xheap : Value) (xnames : Value) (xt : Value) (xmodule : Int32) (xdeclared : Value) (xscopeOf : Value) (xplaceOf : Value) (xcount : Int32) (xaround : Value) (xscopes : Int32) (xbadKind : Int32) (xbadPlace : Int32) (xbits : Value) (xdirect : Value) (xall : Value) (umods : Value) (urule : Value) (upart : Value) (unodeRule : Value) (uinner : Value) (uwords : Int32) (ureads : Value) (urank : Value) (ubranch : Value) (ucode : Value) (umodule : Int32) (uplace : Int32) : zMv E l yX2_findClash wsX2_findClash ({ frames := 0, cells := 0, slots := 0, locals := 0 }) D vwCl (zT cA) [.ref x0] [(x0, .inr (2, [xheap, xnames, .ref u0, xt, .int xmodule, xdeclared, xscopeOf, xplaceOf, .int xcount, xaround, .int xscopes, .int xbadKind, .int xbadPlace, xbits, xdirect, xall])), (u0, .inr (1, [umods, .int 0, .int 0, .int 0, urule, upart, unodeRule, uinner, .int uwords, ureads, urank, ubranch, ucode, .int 0, .int umodule, .int uplace]))] (S := Unit) (fun (u : Unit) => (True)) (fun (u : Unit) => [(x0, .inr (2, [xheap, xnames, .ref u0, xt, .int xmodule, xdeclared, xscopeOf, xplaceOf, .int xcount, xaround, .int xscopes, .int xbadKind, .int xbadPlace, xbits, xdirect, xall])), (u0, .inr (1, [umods, .int 0, .int 0, .int 0, urule, upart, unodeRule, uinner, .int uwords, ureads, urank, ubranch, ucode, .int 0, .int umodule, .int uplace]))]) := by
  refine zz_enterv (cc := cX2_findClash) (lv := [(0, .ref x0)]) hE 5 (by decide) rfl (Nat.le_of_ble_eq_true rfl) rfl ?_
  intro p e s m args below meth c X hr hin
  refine zz_iconst X 0 dX2_findClash_0 rfl ?_
  refine zz_istore_n X [(1, .int 0), (0, .ref x0)] dX2_findClash_1 rfl (by decide) rfl ?_
  refine zz_iload_n X 0 dX2_findClash_2 rfl rfl ?_
  refine zz_aload_n X 1 dX2_findClash_3 rfl rfl ?_
  refine zz_get X 0 2 rfl rfl (by decide) inX2_findClash_X2 rfl (List.mem_of_getElem? (i := 1) rfl) rfl dX2_findClash_4 ?_
  refine zz_get X 1 2 rfl rfl (by decide) inX2_findClash_X1 rfl (List.mem_of_getElem? (i := 2) rfl) rfl dX2_findClash_7 ?_
  refine zz_icmp_ge X 46 dX2_findClash_10 (by decide) (fun _ => ?_) (fun h => absurd (by decide) h)
  refine zz_iconst X 0 dX2_findClash_46 rfl ?_
  refine zz_istore_n X [(1, .int 0), (0, .ref x0)] dX2_findClash_47 rfl (by decide) rfl ?_
  refine zz_iconst X 0 dX2_findClash_48 rfl ?_
  refine zz_istore_n X [(2, .int 0), (1, .int 0), (0, .ref x0)] dX2_findClash_49 rfl (by decide) rfl ?_
  refine zz_iload_n X 0 dX2_findClash_50 rfl rfl ?_
  refine zz_aload_n X 2 dX2_findClash_51 rfl rfl ?_
  refine zz_get X 0 2 rfl rfl (by decide) inX2_findClash_X2 rfl (List.mem_of_getElem? (i := 1) rfl) rfl dX2_findClash_52 ?_
  refine zz_get X 1 1 rfl rfl (by decide) inX2_findClash_X1 rfl (List.mem_of_getElem? (i := 4) rfl) rfl dX2_findClash_55 ?_
  refine zz_icmp_ge X 224 dX2_findClash_58 (by decide) (fun _ => ?_) (fun h => absurd (by decide) h)
  exact zz_vret X hr (()) [0, 1] (by decide) rfl rfl (Nat.le_of_ble_eq_true rfl) (Nat.le_of_ble_eq_true rfl) (trivial) dX2_findClash_224

set_option maxHeartbeats 4000000 in
set_option maxRecDepth 100000 in
/-- findReads of nothing -/
theorem kX2_findReads0 {E : zEn} (hE : zOk E) (l : Launch) (D : va_G) (cA : Nat → ClassId) (x0 : Nat) (u0 : Nat) (xheap : Value) (xnames : Value) (xt : Value) (xmodule : Int32) (xdeclared : Value) (xscopeOf : Value) (xplaceOf : Value) (xcount : Int32) (xaround : Value) (xscopes : Int32) (xbadKind : Int32) (xbadPlace : Int32) (xbits : Value) (xdirect : Value) (xall : Value) (umods : Value) (urule : Value) (upart : Value) (unodeRule : Value) (uinner : Value) (urank : Value) (ubranch : Value) (ucode : Value) (umodule : Int32) (uplace : Int32) : zMv E l yX2_findReads wsX2_findReads ({ frames := 0, cells := 1, slots := 0, locals := 0 }) D vwCl (zT cA) [.ref x0] [(x0, .inr (2, [xheap, xnames, .ref u0, xt, .int xmodule, xdeclared, xscopeOf, xplaceOf, .int xcount, xaround, .int xscopes, .int xbadKind, .int xbadPlace, xbits, xdirect, xall])), (u0, .inr (1, [umods, .int 0, .int 0, .int 0, urule, upart, unodeRule, uinner, .int 0, .null, urank, ubranch, ucode, .int 0, .int umodule, .int uplace]))] (S := Nat) (fun (u : Nat) => (True)) (fun (u : Nat) => [(x0, .inr (2, [xheap, xnames, .ref u0, xt, .int xmodule, xdeclared, xscopeOf, xplaceOf, .int xcount, xaround, .int xscopes, .int xbadKind, .int xbadPlace, xbits, xdirect, xall])), (u0, .inr (1, [umods, .int 0, .int 0, .int 0, urule, upart, unodeRule, uinner, .int 0, .ref u, urank, ubranch, ucode, .int 0, .int umodule, .int uplace])), (u, .inl (cA 1, 0, .inl (fun _ => 0)))]) := by
  refine zz_enterv (cc := cX2_findReads) (lv := [(0, .ref x0)]) hE 4 (by decide) rfl (Nat.le_of_ble_eq_true rfl) rfl ?_
  intro p e s m args below meth c X hr hin
  refine zz_aload_n X 0 dX2_findReads_0 rfl rfl ?_
  refine zz_get X 0 2 rfl rfl (by decide) inX2_findReads_X2 rfl (List.mem_of_getElem? (i := 1) rfl) rfl dX2_findReads_1 ?_
  refine zz_aload_n X 0 dX2_findReads_4 rfl rfl ?_
  refine zz_get X 0 2 rfl rfl (by decide) inX2_findReads_X2 rfl (List.mem_of_getElem? (i := 1) rfl) rfl dX2_findReads_5 ?_
  refine zz_get X 1 2 rfl rfl (by decide) inX2_findReads_X1 rfl (List.mem_of_getElem? (i := 2) rfl) rfl dX2_findReads_8 ?_
  refine zz_aload_n X 0 dX2_findReads_11 rfl rfl ?_
  refine zz_get X 0 2 rfl rfl (by decide) inX2_findReads_X2 rfl (List.mem_of_getElem? (i := 1) rfl) rfl dX2_findReads_12 ?_
  refine zz_get X 1 8 rfl rfl (by decide) inX2_findReads_X1 rfl (List.mem_of_getElem? (i := 3) rfl) rfl dX2_findReads_15 ?_
  refine zz_imul X (0) dX2_findReads_18 (by decide) ?_
  refine zz_newaI X 1 rfl 0 (List.mem_of_getElem? (i := 4) rfl) (by decide) (by decide) (Nat.le_of_ble_eq_true rfl) (Nat.le_of_ble_eq_true rfl) (Nat.le_of_ble_eq_true rfl) dX2_findReads_19 (fun q1 => ?_)
  refine zz_show (ws' := [(x0, .inr (2, [xheap, xnames, .ref u0, xt, .int xmodule, xdeclared, xscopeOf, xplaceOf, .int xcount, xaround, .int xscopes, .int xbadKind, .int xbadPlace, xbits, xdirect, xall])), (u0, .inr (1, [umods, .int 0, .int 0, .int 0, urule, upart, unodeRule, uinner, .int 0, .null, urank, ubranch, ucode, .int 0, .int umodule, .int uplace])), (q1, .inl (cA 1, 0, .inl (fun _ => 0)))]) rfl ?_
  refine zz_put X 1 9 rfl rfl (by decide) inX2_findReads_X1 rfl (List.mem_of_getElem? (i := 5) rfl) tyX1 tyX1_ok nmX1 rfl (ty := (.array .int)) rfl rfl rfl (Nat.le_of_ble_eq_true rfl) dX2_findReads_21 [(x0, .inr (2, [xheap, xnames, .ref u0, xt, .int xmodule, xdeclared, xscopeOf, xplaceOf, .int xcount, xaround, .int xscopes, .int xbadKind, .int xbadPlace, xbits, xdirect, xall])), (u0, .inr (1, [umods, .int 0, .int 0, .int 0, urule, upart, unodeRule, uinner, .int 0, .ref q1, urank, ubranch, ucode, .int 0, .int umodule, .int uplace])), (q1, .inl (cA 1, 0, .inl (fun _ => 0)))] rfl ?_
  refine zz_iconst X 0 dX2_findReads_24 rfl ?_
  refine zz_istore_n X [(1, .int 0), (0, .ref x0)] dX2_findReads_25 rfl (by decide) rfl ?_
  refine zz_iload_n X 0 dX2_findReads_26 rfl rfl ?_
  refine zz_aload_n X 1 dX2_findReads_27 rfl rfl ?_
  refine zz_get X 0 2 rfl rfl (by decide) inX2_findReads_X2 rfl (List.mem_of_getElem? (i := 1) rfl) rfl dX2_findReads_28 ?_
  refine zz_get X 1 2 rfl rfl (by decide) inX2_findReads_X1 rfl (List.mem_of_getElem? (i := 2) rfl) rfl dX2_findReads_31 ?_
  refine zz_icmp_ge X 152 dX2_findReads_34 (by decide) (fun _ => ?_) (fun h => absurd (by decide) h)
  refine zz_iconst X 0 dX2_findReads_152 rfl ?_
  refine zz_istore_n X [(1, .int 0), (0, .ref x0)] dX2_findReads_153 rfl (by decide) rfl ?_
  refine zz_iload_n X 0 dX2_findReads_154 rfl rfl ?_
  refine zz_aload_n X 1 dX2_findReads_155 rfl rfl ?_
  refine zz_get X 0 2 rfl rfl (by decide) inX2_findReads_X2 rfl (List.mem_of_getElem? (i := 1) rfl) rfl dX2_findReads_156 ?_
  refine zz_get X 1 2 rfl rfl (by decide) inX2_findReads_X1 rfl (List.mem_of_getElem? (i := 2) rfl) rfl dX2_findReads_159 ?_
  refine zz_icmp_ge X 249 dX2_findReads_162 (by decide) (fun _ => ?_) (fun h => absurd (by decide) h)
  refine zz_aload_n X 1 dX2_findReads_249 rfl rfl ?_
  refine zz_get X 0 2 rfl rfl (by decide) inX2_findReads_X2 rfl (List.mem_of_getElem? (i := 1) rfl) rfl dX2_findReads_250 ?_
  refine zz_get X 1 2 rfl rfl (by decide) inX2_findReads_X1 rfl (List.mem_of_getElem? (i := 2) rfl) rfl dX2_findReads_253 ?_
  refine zz_iconst X 1 dX2_findReads_256 rfl ?_
  refine zz_isub X ((-1)) dX2_findReads_257 (by decide) ?_
  refine zz_istore_n X [(1, .int (-1)), (0, .ref x0)] dX2_findReads_258 rfl (by decide) rfl ?_
  refine zz_iload_n X 0 dX2_findReads_259 rfl rfl ?_
  refine zz_if_lt X 345 dX2_findReads_260 (by decide) (fun _ => ?_) (fun h => absurd (by decide) h)
  exact zz_vret X hr (q1) [0, 1, 2] (by decide) rfl rfl (Nat.le_of_ble_eq_true rfl) (Nat.le_of_ble_eq_true rfl) (trivial) dX2_findReads_345

set_option maxHeartbeats 4000000 in
set_option maxRecDepth 100000 in
/-- findDepth of nothing -/
theorem kX2_findDepth0 {E : zEn} (hE : zOk E) (l : Launch) (D : va_G) (cA : Nat → ClassId) (x0 : Nat) (u0 : Nat) (xheap : Value) (xnames : Value) (xt : Value) (xmodule : Int32) (xdeclared : Value) (xscopeOf : Value) (xplaceOf : Value) (xcount : Int32) (xaround : Value) (xscopes : Int32) (xbadKind : Int32) (xbadPlace : Int32) (xbits : Value) (xdirect : Value) (xall : Value) (umods : Value) (urule : Value) (upart : Value) (unodeRule : Value) (uinner : Value) (uwords : Int32) (ureads : Value) (ubranch : Value) (ucode : Value) (umodule : Int32) (uplace : Int32) : zMv E l yX2_findDepth wsX2_findDepth ({ frames := 0, cells := 2, slots := 0, locals := 0 }) D vwCl (zT cA) [.ref x0] [(x0, .inr (2, [xheap, xnames, .ref u0, xt, .int xmodule, xdeclared, xscopeOf, xplaceOf, .int xcount, xaround, .int xscopes, .int xbadKind, .int xbadPlace, xbits, xdirect, xall])), (u0, .inr (1, [umods, .int 0, .int 0, .int 0, urule, upart, unodeRule, uinner, .int uwords, ureads, .null, ubranch, ucode, .int 0, .int umodule, .int uplace]))] (S := Nat × Nat) (fun (u : Nat × Nat) => (True)) (fun (u : Nat × Nat) => [(x0, .inr (2, [xheap, xnames, .ref u0, xt, .int xmodule, xdeclared, xscopeOf, xplaceOf, .int xcount, xaround, .int xscopes, .int xbadKind, .int xbadPlace, xbits, xdirect, xall])), (u0, .inr (1, [umods, .int 0, .int 0, .int 0, urule, upart, unodeRule, uinner, .int uwords, ureads, .ref u.1, ubranch, ucode, .int 0, .int umodule, .int uplace])), (u.1, .inl (cA 1, 0, .inl (fun _ => 0))), (u.2, .inl (cA 1, 0, .inl (fun _ => 0)))]) := by
  refine zz_enterv (cc := cX2_findDepth) (lv := [(0, .ref x0)]) hE 5 (by decide) rfl (Nat.le_of_ble_eq_true rfl) rfl ?_
  intro p e s m args below meth c X hr hin
  refine zz_aload_n X 0 dX2_findDepth_0 rfl rfl ?_
  refine zz_get X 0 2 rfl rfl (by decide) inX2_findDepth_X2 rfl (List.mem_of_getElem? (i := 1) rfl) rfl dX2_findDepth_1 ?_
  refine zz_get X 1 13 rfl rfl (by decide) inX2_findDepth_X1 rfl (List.mem_of_getElem? (i := 2) rfl) rfl dX2_findDepth_4 ?_
  refine zz_if_eq X 11 dX2_findDepth_7 (by decide) (fun _ => ?_) (fun h => absurd (by decide) h)
  refine zz_aload_n X 0 dX2_findDepth_11 rfl rfl ?_
  refine zz_get X 0 2 rfl rfl (by decide) inX2_findDepth_X2 rfl (List.mem_of_getElem? (i := 1) rfl) rfl dX2_findDepth_12 ?_
  refine zz_aload_n X 0 dX2_findDepth_15 rfl rfl ?_
  refine zz_get X 0 2 rfl rfl (by decide) inX2_findDepth_X2 rfl (List.mem_of_getElem? (i := 1) rfl) rfl dX2_findDepth_16 ?_
  refine zz_get X 1 2 rfl rfl (by decide) inX2_findDepth_X1 rfl (List.mem_of_getElem? (i := 3) rfl) rfl dX2_findDepth_19 ?_
  refine zz_newaI X 1 rfl 0 (List.mem_of_getElem? (i := 4) rfl) (by decide) (by decide) (Nat.le_of_ble_eq_true rfl) (Nat.le_of_ble_eq_true rfl) (Nat.le_of_ble_eq_true rfl) dX2_findDepth_22 (fun q1 => ?_)
  refine zz_show (ws' := [(x0, .inr (2, [xheap, xnames, .ref u0, xt, .int xmodule, xdeclared, xscopeOf, xplaceOf, .int xcount, xaround, .int xscopes, .int xbadKind, .int xbadPlace, xbits, xdirect, xall])), (u0, .inr (1, [umods, .int 0, .int 0, .int 0, urule, upart, unodeRule, uinner, .int uwords, ureads, .null, ubranch, ucode, .int 0, .int umodule, .int uplace])), (q1, .inl (cA 1, 0, .inl (fun _ => 0)))]) rfl ?_
  refine zz_put X 1 10 rfl rfl (by decide) inX2_findDepth_X1 rfl (List.mem_of_getElem? (i := 5) rfl) tyX1 tyX1_ok nmX1 rfl (ty := (.array .int)) rfl rfl rfl (Nat.le_of_ble_eq_true rfl) dX2_findDepth_24 [(x0, .inr (2, [xheap, xnames, .ref u0, xt, .int xmodule, xdeclared, xscopeOf, xplaceOf, .int xcount, xaround, .int xscopes, .int xbadKind, .int xbadPlace, xbits, xdirect, xall])), (u0, .inr (1, [umods, .int 0, .int 0, .int 0, urule, upart, unodeRule, uinner, .int uwords, ureads, .ref q1, ubranch, ucode, .int 0, .int umodule, .int uplace])), (q1, .inl (cA 1, 0, .inl (fun _ => 0)))] rfl ?_
  refine zz_aload_n X 0 dX2_findDepth_27 rfl rfl ?_
  refine zz_get X 0 2 rfl rfl (by decide) inX2_findDepth_X2 rfl (List.mem_of_getElem? (i := 1) rfl) rfl dX2_findDepth_28 ?_
  refine zz_get X 1 2 rfl rfl (by decide) inX2_findDepth_X1 rfl (List.mem_of_getElem? (i := 3) rfl) rfl dX2_findDepth_31 ?_
  refine zz_newaI X 1 rfl 0 (List.mem_of_getElem? (i := 4) rfl) (by decide) (by decide) (Nat.le_of_ble_eq_true rfl) (Nat.le_of_ble_eq_true rfl) (Nat.le_of_ble_eq_true rfl) dX2_findDepth_34 (fun q2 => ?_)
  refine zz_show (ws' := [(x0, .inr (2, [xheap, xnames, .ref u0, xt, .int xmodule, xdeclared, xscopeOf, xplaceOf, .int xcount, xaround, .int xscopes, .int xbadKind, .int xbadPlace, xbits, xdirect, xall])), (u0, .inr (1, [umods, .int 0, .int 0, .int 0, urule, upart, unodeRule, uinner, .int uwords, ureads, .ref q1, ubranch, ucode, .int 0, .int umodule, .int uplace])), (q1, .inl (cA 1, 0, .inl (fun _ => 0))), (q2, .inl (cA 1, 0, .inl (fun _ => 0)))]) rfl ?_
  refine zz_astore_n X [(1, .ref q2), (0, .ref x0)] dX2_findDepth_36 rfl (by decide) rfl ?_
  refine zz_iconst X 0 dX2_findDepth_37 rfl ?_
  refine zz_istore_n X [(2, .int 0), (1, .ref q2), (0, .ref x0)] dX2_findDepth_38 rfl (by decide) rfl ?_
  refine zz_iload_n X 0 dX2_findDepth_39 rfl rfl ?_
  refine zz_aload_n X 2 dX2_findDepth_40 rfl rfl ?_
  refine zz_get X 0 2 rfl rfl (by decide) inX2_findDepth_X2 rfl (List.mem_of_getElem? (i := 1) rfl) rfl dX2_findDepth_41 ?_
  refine zz_get X 1 2 rfl rfl (by decide) inX2_findDepth_X1 rfl (List.mem_of_getElem? (i := 3) rfl) rfl dX2_findDepth_44 ?_
  refine zz_icmp_ge X 132 dX2_findDepth_47 (by decide) (fun _ => ?_) (fun h => absurd (by decide) h)
  refine zz_aload_n X 2 dX2_findDepth_132 rfl rfl ?_
  refine zz_get X 0 2 rfl rfl (by decide) inX2_findDepth_X2 rfl (List.mem_of_getElem? (i := 1) rfl) rfl dX2_findDepth_133 ?_
  refine zz_get X 1 2 rfl rfl (by decide) inX2_findDepth_X1 rfl (List.mem_of_getElem? (i := 3) rfl) rfl dX2_findDepth_136 ?_
  refine zz_iconst X 1 dX2_findDepth_139 rfl ?_
  refine zz_isub X ((-1)) dX2_findDepth_140 (by decide) ?_
  refine zz_istore_n X [(2, .int (-1)), (1, .ref q2), (0, .ref x0)] dX2_findDepth_141 rfl (by decide) rfl ?_
  refine zz_iload_n X 0 dX2_findDepth_142 rfl rfl ?_
  refine zz_if_lt X 170 dX2_findDepth_143 (by decide) (fun _ => ?_) (fun h => absurd (by decide) h)
  exact zz_vret X hr ((q1, q2)) [0, 1, 2, 3] (by decide) rfl rfl (Nat.le_of_ble_eq_true rfl) (Nat.le_of_ble_eq_true rfl) (trivial) dX2_findDepth_170

set_option maxHeartbeats 4000000 in
set_option maxRecDepth 100000 in
/-- the bundle of no modules -/
theorem kX2_bundle0 {E : zEn} (hE : zOk E) (l : Launch) (D : va_G) (cA : Nat → ClassId) (x0 : Nat) (n0 : Nat) (N9 : Nat) (dr : Nat) (xheap : Value) (xt : Value) (xmodule : Int32) (xdeclared : Value) (xscopeOf : Value) (xplaceOf : Value) (xcount : Int32) (xaround : Value) (xscopes : Int32) (xbadKind : Int32) (xbadPlace : Int32) (xbits : Value) (xdirect : Value) (xall : Value) (nheap : Value) (ntable : Value) (nparent : Value) (nname : Value) (nchild : Value) (nsibling : Value) (nwords : Value) (nbuiltin : Value) (nkinds : Value) (narity : Value) (nletters : Value) (ninput : Int32) (ndata : Int32) (nset : Int32) (nblank : Int32) (hN9 : N9 ≤ 12288) (hao : ∀ (A : Nat → Prop) (U : State) (H : Heap), E A U H → va_AO "PolicyHouse$Tree" U) : zMq E l yX2_bundle wsX2_bundle ({ frames := 2, cells := 9, slots := 24592, locals := 37 }) D vwCl (zT cA) [.ref x0, .ref dr, .int 0] [(x0, .inr (2, [xheap, .ref n0, .null, xt, .int xmodule, xdeclared, xscopeOf, xplaceOf, .int xcount, xaround, .int xscopes, .int xbadKind, .int xbadPlace, xbits, xdirect, xall])), (n0, .inr (6, [nheap, ntable, nparent, nname, nchild, nsibling, .int (nI N9), nwords, nbuiltin, nkinds, narity, nletters, .int ninput, .int ndata, .int nset, .int nblank]))] (S := Nat × Nat × Nat × Nat × Nat × Nat × Nat × Nat × Nat) (fun (r : Option Nat) (u : Nat × Nat × Nat × Nat × Nat × Nat × Nat × Nat × Nat) => (r = (some u.2.2.2.2.2.2.1))) (fun (u : Nat × Nat × Nat × Nat × Nat × Nat × Nat × Nat × Nat) => [(x0, .inr (2, [xheap, .ref n0, .ref u.2.2.2.2.2.2.1, xt, .int xmodule, xdeclared, xscopeOf, xplaceOf, .int xcount, xaround, .int xscopes, .int xbadKind, .int xbadPlace, xbits, xdirect, xall])), (n0, .inr (6, [nheap, ntable, nparent, nname, nchild, nsibling, .int (nI N9), nwords, nbuiltin, nkinds, narity, nletters, .int ninput, .int ndata, .int nset, .int nblank])), (u.1, .inl (cA 5, 0, .inr (.inr (.inr (.inr (fun _ => none)))))), (u.2.1, .inl (cA 1, 0, .inl (fun _ => 0))), (u.2.2.1, .inl (cA 1, 0, .inl (fun _ => 0))), (u.2.2.2.1, .inl (cA 1, N9, .inl (fun _ => 0))), (u.2.2.2.2.1, .inl (cA 1, N9, .inl (fun _ => 0))), (u.2.2.2.2.2.1, .inl (cA 1, 0, .inl (fun _ => 0))), (u.2.2.2.2.2.2.1, .inr (1, [.ref u.1, .int 0, .int 0, .int 0, .ref u.2.1, .ref u.2.2.1, .ref u.2.2.2.1, .ref u.2.2.2.2.1, .int 0, .ref u.2.2.2.2.2.1, .ref u.2.2.2.2.2.2.2.1, .null, .null, .int 0, .int (-1), .int (-1)])), (u.2.2.2.2.2.2.2.1, .inl (cA 1, 0, .inl (fun _ => 0))), (u.2.2.2.2.2.2.2.2, .inl (cA 1, 0, .inl (fun _ => 0)))]) := by
  refine zz_enterq (cc := cX2_bundle) (lv := [(0, .ref x0), (1, .ref dr), (2, .int 0)]) hE 4 (by decide) rfl (Nat.le_of_ble_eq_true rfl) rfl ?_
  intro p e s m args below meth c X hr hin
  refine zz_aload_n X 0 dX2_bundle_0 rfl rfl ?_
  refine zz_new X (ci := 1) (fs := [.null, .int 0, .int 0, .int 0, .null, .null, .null, .null, .int 0, .null, .null, .null, .null, .int 0, .int 0, .int 0]) tyX1 tyX1_ok inX2_bundle_X1 (List.mem_of_getElem? (i := 1) rfl) (List.mem_of_getElem? (i := 2) rfl) (List.mem_of_getElem? (i := 3) rfl) rfl (fun j hj => by rcases (show j = 0 ∨ j = 1 ∨ j = 2 ∨ j = 3 ∨ j = 4 ∨ j = 5 ∨ j = 6 ∨ j = 7 ∨ j = 8 ∨ j = 9 ∨ j = 10 ∨ j = 11 ∨ j = 12 ∨ j = 13 ∨ j = 14 ∨ j = 15 by omega) with rfl | rfl | rfl | rfl | rfl | rfl | rfl | rfl | rfl | rfl | rfl | rfl | rfl | rfl | rfl | rfl <;> rfl) (Nat.le_of_ble_eq_true rfl) (Nat.le_of_ble_eq_true rfl) dX2_bundle_1 (fun q1 => ?_)
  refine zz_show (ws' := [(x0, .inr (2, [xheap, .ref n0, .null, xt, .int xmodule, xdeclared, xscopeOf, xplaceOf, .int xcount, xaround, .int xscopes, .int xbadKind, .int xbadPlace, xbits, xdirect, xall])), (n0, .inr (6, [nheap, ntable, nparent, nname, nchild, nsibling, .int (nI N9), nwords, nbuiltin, nkinds, narity, nletters, .int ninput, .int ndata, .int nset, .int nblank])), (q1, .inr (1, [.null, .int 0, .int 0, .int 0, .null, .null, .null, .null, .int 0, .null, .null, .null, .null, .int 0, .int 0, .int 0]))]) rfl ?_
  refine zz_dup X dX2_bundle_4 rfl ?_
  refine zz_aload_n X 1 dX2_bundle_5 rfl rfl ?_
  refine zz_iload_n X 2 dX2_bundle_6 rfl rfl ?_
  refine zz_aload_n X 0 dX2_bundle_7 rfl rfl ?_
  refine zz_get X 0 1 rfl rfl (by decide) inX2_bundle_X2 rfl (List.mem_of_getElem? (i := 4) rfl) rfl dX2_bundle_8 ?_
  refine zz_get X 1 6 rfl rfl (by decide) inX2_bundle_X6 rfl (List.mem_of_getElem? (i := 5) rfl) rfl dX2_bundle_11 ?_
  refine zz_callIv X (rest := [.ref q1, .ref x0]) (As := [.ref dr, .int 0, .int (nI N9)]) (kX1_init0 hE l D cA q1 dr N9 hN9 hao) 3 gX2_bundle_X1_init (List.mem_of_getElem? (i := 3) rfl) (List.mem_of_getElem? (i := 12) rfl) (List.mem_of_getElem? (i := 13) rfl) rfl rfl (by decide +kernel) [2] [0, 1] [(x0, .inr (2, [xheap, .ref n0, .null, xt, .int xmodule, xdeclared, xscopeOf, xplaceOf, .int xcount, xaround, .int xscopes, .int xbadKind, .int xbadPlace, xbits, xdirect, xall])), (n0, .inr (6, [nheap, ntable, nparent, nname, nchild, nsibling, .int (nI N9), nwords, nbuiltin, nkinds, narity, nletters, .int ninput, .int ndata, .int nset, .int nblank]))] rfl rfl (by decide) rfl (by decide) (by decide) ⟨Nat.le_of_ble_eq_true rfl, Nat.le_of_ble_eq_true rfl⟩ rfl rfl rfl (Nat.le_of_ble_eq_true rfl) dX2_bundle_14 (Nat.le_of_ble_eq_true rfl) (Nat.le_of_ble_eq_true rfl) (fun u8 hw7 => ?_)
  obtain ⟨nq12, nq23, nq34, nq45, nq56⟩ := u8
  refine zz_show (ws' := [(x0, .inr (2, [xheap, .ref n0, .null, xt, .int xmodule, xdeclared, xscopeOf, xplaceOf, .int xcount, xaround, .int xscopes, .int xbadKind, .int xbadPlace, xbits, xdirect, xall])), (n0, .inr (6, [nheap, ntable, nparent, nname, nchild, nsibling, .int (nI N9), nwords, nbuiltin, nkinds, narity, nletters, .int ninput, .int ndata, .int nset, .int nblank])), (q1, .inr (1, [.ref nq12, .int 0, .int 0, .int 0, .ref nq23, .ref nq34, .ref nq45, .ref nq56, .int 1, .null, .null, .null, .null, .int 0, .int (-1), .int (-1)])), (nq12, .inl (cA 5, 0, .inr (.inr (.inr (.inr (fun _ => none)))))), (nq23, .inl (cA 1, 0, .inl (fun _ => 0))), (nq34, .inl (cA 1, 0, .inl (fun _ => 0))), (nq45, .inl (cA 1, N9, .inl (fun _ => 0))), (nq56, .inl (cA 1, N9, .inl (fun _ => 0)))]) rfl ?_
  refine zz_put X 0 2 rfl rfl (by decide) inX2_bundle_X2 rfl (List.mem_of_getElem? (i := 6) rfl) tyX2 tyX2_ok nmX2 rfl (ty := (.object "PolicyHouse$Bundle")) rfl rfl rfl (Nat.le_of_ble_eq_true rfl) dX2_bundle_17 [(x0, .inr (2, [xheap, .ref n0, .ref q1, xt, .int xmodule, xdeclared, xscopeOf, xplaceOf, .int xcount, xaround, .int xscopes, .int xbadKind, .int xbadPlace, xbits, xdirect, xall])), (n0, .inr (6, [nheap, ntable, nparent, nname, nchild, nsibling, .int (nI N9), nwords, nbuiltin, nkinds, narity, nletters, .int ninput, .int ndata, .int nset, .int nblank])), (q1, .inr (1, [.ref nq12, .int 0, .int 0, .int 0, .ref nq23, .ref nq34, .ref nq45, .ref nq56, .int 1, .null, .null, .null, .null, .int 0, .int (-1), .int (-1)])), (nq12, .inl (cA 5, 0, .inr (.inr (.inr (.inr (fun _ => none)))))), (nq23, .inl (cA 1, 0, .inl (fun _ => 0))), (nq34, .inl (cA 1, 0, .inl (fun _ => 0))), (nq45, .inl (cA 1, N9, .inl (fun _ => 0))), (nq56, .inl (cA 1, N9, .inl (fun _ => 0)))] rfl ?_
  refine zz_aload_n X 0 dX2_bundle_20 rfl rfl ?_
  refine zz_callVv X (rest := []) (As := []) (kX2_gather0 hE l D cA x0 q1 xheap (.ref n0) xt xmodule xdeclared xscopeOf xplaceOf xcount xaround xscopes xbadKind xbadPlace xbits xdirect xall (.ref nq12) (.ref nq23) (.ref nq34) (.ref nq45) (.ref nq56) 1 (.null) (.null) (.null) (.null) (-1) (-1)) 0 gX2_bundle_X2_gather rfl (by decide +kernel) [0, 2] [1, 3, 4, 5, 6, 7] [(n0, .inr (6, [nheap, ntable, nparent, nname, nchild, nsibling, .int (nI N9), nwords, nbuiltin, nkinds, narity, nletters, .int ninput, .int ndata, .int nset, .int nblank])), (nq12, .inl (cA 5, 0, .inr (.inr (.inr (.inr (fun _ => none)))))), (nq23, .inl (cA 1, 0, .inl (fun _ => 0))), (nq34, .inl (cA 1, 0, .inl (fun _ => 0))), (nq45, .inl (cA 1, N9, .inl (fun _ => 0))), (nq56, .inl (cA 1, N9, .inl (fun _ => 0)))] rfl rfl (by decide) rfl (by decide) (by decide) ⟨Nat.le_of_ble_eq_true rfl, Nat.le_of_ble_eq_true rfl⟩ 0 rfl rfl rfl rfl rfl (Nat.le_of_ble_eq_true rfl) dX2_bundle_21 (Nat.le_of_ble_eq_true rfl) (Nat.le_of_ble_eq_true rfl) (fun _ hw9 => ?_)
  refine zz_show (ws' := [(n0, .inr (6, [nheap, ntable, nparent, nname, nchild, nsibling, .int (nI N9), nwords, nbuiltin, nkinds, narity, nletters, .int ninput, .int ndata, .int nset, .int nblank])), (nq12, .inl (cA 5, 0, .inr (.inr (.inr (.inr (fun _ => none)))))), (nq23, .inl (cA 1, 0, .inl (fun _ => 0))), (nq34, .inl (cA 1, 0, .inl (fun _ => 0))), (nq45, .inl (cA 1, N9, .inl (fun _ => 0))), (nq56, .inl (cA 1, N9, .inl (fun _ => 0))), (x0, .inr (2, [xheap, .ref n0, .ref q1, xt, .int xmodule, xdeclared, xscopeOf, xplaceOf, .int xcount, xaround, .int xscopes, .int xbadKind, .int xbadPlace, xbits, xdirect, xall])), (q1, .inr (1, [.ref nq12, .int 0, .int 0, .int 0, .ref nq23, .ref nq34, .ref nq45, .ref nq56, .int 0, .null, .null, .null, .null, .int 0, .int (-1), .int (-1)]))]) rfl ?_
  refine zz_aload_n X 0 dX2_bundle_24 rfl rfl ?_
  refine zz_callVv X (rest := []) (As := []) (kX2_findClash0 hE l D cA x0 q1 xheap (.ref n0) xt xmodule xdeclared xscopeOf xplaceOf xcount xaround xscopes xbadKind xbadPlace xbits xdirect xall (.ref nq12) (.ref nq23) (.ref nq34) (.ref nq45) (.ref nq56) 0 (.null) (.null) (.null) (.null) (-1) (-1)) 0 gX2_bundle_X2_findClash rfl (by decide +kernel) [6, 7] [0, 1, 2, 3, 4, 5] [(n0, .inr (6, [nheap, ntable, nparent, nname, nchild, nsibling, .int (nI N9), nwords, nbuiltin, nkinds, narity, nletters, .int ninput, .int ndata, .int nset, .int nblank])), (nq12, .inl (cA 5, 0, .inr (.inr (.inr (.inr (fun _ => none)))))), (nq23, .inl (cA 1, 0, .inl (fun _ => 0))), (nq34, .inl (cA 1, 0, .inl (fun _ => 0))), (nq45, .inl (cA 1, N9, .inl (fun _ => 0))), (nq56, .inl (cA 1, N9, .inl (fun _ => 0)))] rfl rfl (by decide) rfl (by decide) (by decide) ⟨Nat.le_of_ble_eq_true rfl, Nat.le_of_ble_eq_true rfl⟩ 0 rfl rfl rfl rfl rfl (Nat.le_of_ble_eq_true rfl) dX2_bundle_25 (Nat.le_of_ble_eq_true rfl) (Nat.le_of_ble_eq_true rfl) (fun _ hw10 => ?_)
  refine zz_show (ws' := [(n0, .inr (6, [nheap, ntable, nparent, nname, nchild, nsibling, .int (nI N9), nwords, nbuiltin, nkinds, narity, nletters, .int ninput, .int ndata, .int nset, .int nblank])), (nq12, .inl (cA 5, 0, .inr (.inr (.inr (.inr (fun _ => none)))))), (nq23, .inl (cA 1, 0, .inl (fun _ => 0))), (nq34, .inl (cA 1, 0, .inl (fun _ => 0))), (nq45, .inl (cA 1, N9, .inl (fun _ => 0))), (nq56, .inl (cA 1, N9, .inl (fun _ => 0))), (x0, .inr (2, [xheap, .ref n0, .ref q1, xt, .int xmodule, xdeclared, xscopeOf, xplaceOf, .int xcount, xaround, .int xscopes, .int xbadKind, .int xbadPlace, xbits, xdirect, xall])), (q1, .inr (1, [.ref nq12, .int 0, .int 0, .int 0, .ref nq23, .ref nq34, .ref nq45, .ref nq56, .int 0, .null, .null, .null, .null, .int 0, .int (-1), .int (-1)]))]) rfl ?_
  refine zz_iconst X 0 dX2_bundle_28 rfl ?_
  refine zz_istore_n X [(3, .int 0), (0, .ref x0), (1, .ref dr), (2, .int 0)] dX2_bundle_29 rfl (by decide) rfl ?_
  refine zz_iload_n X 0 dX2_bundle_30 rfl rfl ?_
  refine zz_aload_n X 1 dX2_bundle_31 rfl rfl ?_
  refine zz_get X 6 2 rfl rfl (by decide) inX2_bundle_X2 rfl (List.mem_of_getElem? (i := 6) rfl) rfl dX2_bundle_32 ?_
  refine zz_get X 7 3 rfl rfl (by decide) inX2_bundle_X1 rfl (List.mem_of_getElem? (i := 7) rfl) rfl dX2_bundle_35 ?_
  refine zz_icmp_ge X 88 dX2_bundle_38 (by decide) (fun _ => ?_) (fun h => absurd (by decide) h)
  refine zz_aload_n X 1 dX2_bundle_88 rfl rfl ?_
  refine zz_get X 6 2 rfl rfl (by decide) inX2_bundle_X2 rfl (List.mem_of_getElem? (i := 6) rfl) rfl dX2_bundle_89 ?_
  refine zz_get X 7 13 rfl rfl (by decide) inX2_bundle_X1 rfl (List.mem_of_getElem? (i := 8) rfl) rfl dX2_bundle_92 ?_
  refine zz_if_ne X 106 dX2_bundle_95 (by decide) (fun h => absurd (by decide) h) (fun _ => ?_)
  refine zz_aload_n X 1 dX2_bundle_98 rfl rfl ?_
  refine zz_callVv X (rest := []) (As := []) (kX2_findReads0 hE l D cA x0 q1 xheap (.ref n0) xt xmodule xdeclared xscopeOf xplaceOf xcount xaround xscopes xbadKind xbadPlace xbits xdirect xall (.ref nq12) (.ref nq23) (.ref nq34) (.ref nq45) (.ref nq56) (.null) (.null) (.null) (-1) (-1)) 0 gX2_bundle_X2_findReads rfl (by decide +kernel) [6, 7] [0, 1, 2, 3, 4, 5] [(n0, .inr (6, [nheap, ntable, nparent, nname, nchild, nsibling, .int (nI N9), nwords, nbuiltin, nkinds, narity, nletters, .int ninput, .int ndata, .int nset, .int nblank])), (nq12, .inl (cA 5, 0, .inr (.inr (.inr (.inr (fun _ => none)))))), (nq23, .inl (cA 1, 0, .inl (fun _ => 0))), (nq34, .inl (cA 1, 0, .inl (fun _ => 0))), (nq45, .inl (cA 1, N9, .inl (fun _ => 0))), (nq56, .inl (cA 1, N9, .inl (fun _ => 0)))] rfl rfl (by decide) rfl (by decide) (by decide) ⟨Nat.le_of_ble_eq_true rfl, Nat.le_of_ble_eq_true rfl⟩ 0 rfl rfl rfl rfl rfl (Nat.le_of_ble_eq_true rfl) dX2_bundle_99 (Nat.le_of_ble_eq_true rfl) (Nat.le_of_ble_eq_true rfl) (fun u13 hw12 => ?_)
  obtain ⟨nq111, rfl⟩ : ∃ z, z = u13 := ⟨_, rfl⟩
  refine zz_show (ws' := [(n0, .inr (6, [nheap, ntable, nparent, nname, nchild, nsibling, .int (nI N9), nwords, nbuiltin, nkinds, narity, nletters, .int ninput, .int ndata, .int nset, .int nblank])), (nq12, .inl (cA 5, 0, .inr (.inr (.inr (.inr (fun _ => none)))))), (nq23, .inl (cA 1, 0, .inl (fun _ => 0))), (nq34, .inl (cA 1, 0, .inl (fun _ => 0))), (nq45, .inl (cA 1, N9, .inl (fun _ => 0))), (nq56, .inl (cA 1, N9, .inl (fun _ => 0))), (x0, .inr (2, [xheap, .ref n0, .ref q1, xt, .int xmodule, xdeclared, xscopeOf, xplaceOf, .int xcount, xaround, .int xscopes, .int xbadKind, .int xbadPlace, xbits, xdirect, xall])), (q1, .inr (1, [.ref nq12, .int 0, .int 0, .int 0, .ref nq23, .ref nq34, .ref nq45, .ref nq56, .int 0, .ref nq111, .null, .null, .null, .int 0, .int (-1), .int (-1)])), (nq111, .inl (cA 1, 0, .inl (fun _ => 0)))]) rfl ?_
  refine zz_aload_n X 1 dX2_bundle_102 rfl rfl ?_
  refine zz_callVv X (rest := []) (As := []) (kX2_findDepth0 hE l D cA x0 q1 xheap (.ref n0) xt xmodule xdeclared xscopeOf xplaceOf xcount xaround xscopes xbadKind xbadPlace xbits xdirect xall (.ref nq12) (.ref nq23) (.ref nq34) (.ref nq45) (.ref nq56) 0 (.ref nq111) (.null) (.null) (-1) (-1)) 0 gX2_bundle_X2_findDepth rfl (by decide +kernel) [6, 7] [0, 1, 2, 3, 4, 5, 8] [(n0, .inr (6, [nheap, ntable, nparent, nname, nchild, nsibling, .int (nI N9), nwords, nbuiltin, nkinds, narity, nletters, .int ninput, .int ndata, .int nset, .int nblank])), (nq12, .inl (cA 5, 0, .inr (.inr (.inr (.inr (fun _ => none)))))), (nq23, .inl (cA 1, 0, .inl (fun _ => 0))), (nq34, .inl (cA 1, 0, .inl (fun _ => 0))), (nq45, .inl (cA 1, N9, .inl (fun _ => 0))), (nq56, .inl (cA 1, N9, .inl (fun _ => 0))), (nq111, .inl (cA 1, 0, .inl (fun _ => 0)))] rfl rfl (by decide) rfl (by decide) (by decide) ⟨Nat.le_of_ble_eq_true rfl, Nat.le_of_ble_eq_true rfl⟩ 0 rfl rfl rfl rfl rfl (Nat.le_of_ble_eq_true rfl) dX2_bundle_103 (Nat.le_of_ble_eq_true rfl) (Nat.le_of_ble_eq_true rfl) (fun u17 hw16 => ?_)
  obtain ⟨nq114, nq215⟩ := u17
  refine zz_show (ws' := [(n0, .inr (6, [nheap, ntable, nparent, nname, nchild, nsibling, .int (nI N9), nwords, nbuiltin, nkinds, narity, nletters, .int ninput, .int ndata, .int nset, .int nblank])), (nq12, .inl (cA 5, 0, .inr (.inr (.inr (.inr (fun _ => none)))))), (nq23, .inl (cA 1, 0, .inl (fun _ => 0))), (nq34, .inl (cA 1, 0, .inl (fun _ => 0))), (nq45, .inl (cA 1, N9, .inl (fun _ => 0))), (nq56, .inl (cA 1, N9, .inl (fun _ => 0))), (nq111, .inl (cA 1, 0, .inl (fun _ => 0))), (x0, .inr (2, [xheap, .ref n0, .ref q1, xt, .int xmodule, xdeclared, xscopeOf, xplaceOf, .int xcount, xaround, .int xscopes, .int xbadKind, .int xbadPlace, xbits, xdirect, xall])), (q1, .inr (1, [.ref nq12, .int 0, .int 0, .int 0, .ref nq23, .ref nq34, .ref nq45, .ref nq56, .int 0, .ref nq111, .ref nq114, .null, .null, .int 0, .int (-1), .int (-1)])), (nq114, .inl (cA 1, 0, .inl (fun _ => 0))), (nq215, .inl (cA 1, 0, .inl (fun _ => 0)))]) rfl ?_
  refine zz_aload_n X 1 dX2_bundle_106 rfl rfl ?_
  refine zz_get X 7 2 rfl rfl (by decide) inX2_bundle_X2 rfl (List.mem_of_getElem? (i := 6) rfl) rfl dX2_bundle_107 ?_
  exact zz_aret (r := some q1) X hr (Or.inl ⟨_, rfl⟩) ((nq12, nq23, nq34, nq45, nq56, nq111, q1, nq114, nq215)) [7, 0, 1, 2, 3, 4, 5, 6, 8, 9, 10] (by decide) rfl rfl (Nat.le_of_ble_eq_true rfl) (Nat.le_of_ble_eq_true rfl) (rfl) dX2_bundle_110

set_option maxHeartbeats 4000000 in
set_option maxRecDepth 100000 in
/-- Arrays.copyOf of one, to one -/
theorem kJ7_copyOf1 {E : zEn} (hE : zOk E) (l : Launch) (D : va_G) (cA : Nat → ClassId) (q0 : Nat) (f : Nat → Int32) (hcn : ∀ (A : Nat → Prop) (U : State) (H : Heap), E A U H → va_Nw (.castable "[I" "java/lang/Cloneable") U) : zMq E l yJ7_copyOf_59c91 wsJ7_copyOf_59c91 ({ frames := 1, cells := 1, slots := 1, locals := 14 }) D vwCl (zT cA) [.ref q0, .int 1] [(q0, .inl (cA 1, 1, .inl f))] (S := Nat) (fun (r : Option Nat) (u : Nat) => (r = (some u))) (fun (u : Nat) => [(q0, .inl (cA 1, 1, .inl f)), (u, .inl (cA 1, 1, .inl f))]) := by
  refine zz_enterq (cc := cJ7_copyOf_59c91) (lv := [(0, .ref q0), (1, .int 1)]) hE 3 (by decide) rfl (Nat.le_of_ble_eq_true rfl) rfl ?_
  intro p e s m args below meth c X hr hin
  refine zz_iload_n X 1 dJ7_copyOf_59c91_0 rfl rfl ?_
  refine zz_aload_n X 0 dJ7_copyOf_59c91_1 rfl rfl ?_
  refine zz_alen X 0 1 rfl rfl (1) rfl dJ7_copyOf_59c91_2 ?_
  refine zz_icmp_ne X 14 dJ7_copyOf_59c91_3 (by decide) (fun h => absurd (by decide) h) (fun _ => ?_)
  refine zz_aload_n X 0 dJ7_copyOf_59c91_6 rfl rfl ?_
  refine zz_cloneI X 0 1 rfl rfl (List.mem_of_getElem? (i := 1) rfl) (List.mem_of_getElem? (i := 2) rfl) (List.mem_of_getElem? (i := 3) rfl) (List.mem_of_getElem? (i := 4) rfl) (List.mem_of_getElem? (i := 5) rfl) hcn (Nat.le_of_ble_eq_true rfl) (Nat.le_of_ble_eq_true rfl) (Nat.le_of_ble_eq_true rfl) (Nat.le_of_ble_eq_true rfl) dJ7_copyOf_59c91_7 (fun q1 => ?_)
  refine zz_show (ws' := [(q0, .inl (cA 1, 1, .inl f)), (q1, .inl (cA 1, 1, .inl f))]) rfl ?_
  refine zz_castI X 1 1 rfl rfl (List.mem_of_getElem? (i := 6) rfl) dJ7_copyOf_59c91_10 ?_
  exact zz_aret (r := some q1) X hr (Or.inr ⟨_, rfl⟩) (q1) [0, 1] (by decide) rfl rfl (Nat.le_of_ble_eq_true rfl) (Nat.le_of_ble_eq_true rfl) (rfl) dJ7_copyOf_59c91_13

set_option maxHeartbeats 4000000 in
set_option maxRecDepth 100000 in
/-- Arrays.copyOf of none -/
theorem kJ7_copyOf0 {E : zEn} (hE : zOk E) (l : Launch) (D : va_G) (cA : Nat → ClassId) (q0 : Nat) (f : Nat → Int32) (hcn : ∀ (A : Nat → Prop) (U : State) (H : Heap), E A U H → va_Nw (.castable "[I" "java/lang/Cloneable") U) : zMq E l yJ7_copyOf_59c91 wsJ7_copyOf_59c91 ({ frames := 1, cells := 1, slots := 0, locals := 60 }) D vwCl (zT cA) [.ref q0, .int 0] [(q0, .inl (cA 1, 80000, .inl f))] (S := Nat) (fun (r : Option Nat) (u : Nat) => (r = (some u))) (fun (u : Nat) => [(q0, .inl (cA 1, 80000, .inl f)), (u, .inl (cA 1, 0, .inl (va_cpy f (fun _ => 0) 0 0 0)))]) := by
  refine zz_enterq (cc := cJ7_copyOf_59c91) (lv := [(0, .ref q0), (1, .int 0)]) hE 3 (by decide) rfl (Nat.le_of_ble_eq_true rfl) rfl ?_
  intro p e s m args below meth c X hr hin
  refine zz_iload_n X 1 dJ7_copyOf_59c91_0 rfl rfl ?_
  refine zz_aload_n X 0 dJ7_copyOf_59c91_1 rfl rfl ?_
  refine zz_alen X 0 1 rfl rfl (80000) rfl dJ7_copyOf_59c91_2 ?_
  refine zz_icmp_ne X 14 dJ7_copyOf_59c91_3 (by decide) (fun _ => ?_) (fun h => absurd h (by decide))
  refine zz_iload_n X 1 dJ7_copyOf_59c91_14 rfl rfl ?_
  refine zz_newaI X 1 rfl 0 (List.mem_of_getElem? (i := 7) rfl) (by decide) (by decide) (Nat.le_of_ble_eq_true rfl) (Nat.le_of_ble_eq_true rfl) (Nat.le_of_ble_eq_true rfl) dJ7_copyOf_59c91_15 (fun q1 => ?_)
  refine zz_show (ws' := [(q0, .inl (cA 1, 80000, .inl f)), (q1, .inl (cA 1, 0, .inl (fun _ => 0)))]) rfl ?_
  refine zz_astore_n X [(2, .ref q1), (0, .ref q0), (1, .int 0)] dJ7_copyOf_59c91_17 rfl (by decide) rfl ?_
  refine zz_aload_n X 1 dJ7_copyOf_59c91_18 rfl rfl ?_
  refine zz_iconst X 0 dJ7_copyOf_59c91_19 rfl ?_
  refine zz_aload_n X 0 dJ7_copyOf_59c91_20 rfl rfl ?_
  refine zz_iconst X 0 dJ7_copyOf_59c91_21 rfl ?_
  refine zz_aload_n X 1 dJ7_copyOf_59c91_22 rfl rfl ?_
  refine zz_alen X 0 1 rfl rfl (80000) rfl dJ7_copyOf_59c91_23 ?_
  refine zz_iload_n X 2 dJ7_copyOf_59c91_24 rfl rfl ?_
  refine zz_mmin X (0) (List.mem_of_getElem? (i := 8) rfl) (List.mem_of_getElem? (i := 9) rfl) (List.mem_of_getElem? (i := 10) rfl) (List.mem_of_getElem? (i := 11) rfl) (Nat.le_of_ble_eq_true rfl) (Nat.le_of_ble_eq_true rfl) (Nat.le_of_ble_eq_true rfl) (Nat.le_of_ble_eq_true rfl) dJ7_copyOf_59c91_25 (by decide) ?_
  refine zz_copyi X 0 1 1 1 (List.mem_of_getElem? (i := 12) rfl) (List.mem_of_getElem? (i := 13) rfl) (List.mem_of_getElem? (i := 14) rfl) (List.mem_of_getElem? (i := 15) rfl) rfl rfl rfl rfl rfl (by decide) (by decide) (by decide) 0 0 0 (by decide) (by decide) (by decide) (Nat.le_of_ble_eq_true rfl) (Nat.le_of_ble_eq_true rfl) (fun _ => rfl)  (Nat.le_of_ble_eq_true rfl) (Nat.le_of_ble_eq_true rfl) dJ7_copyOf_59c91_28 [(q0, .inl (cA 1, 80000, .inl f)), (q1, .inl (cA 1, 0, .inl (va_cpy f (fun _ => 0) 0 0 0)))] rfl ?_
  refine zz_aload_n X 0 dJ7_copyOf_59c91_31 rfl rfl ?_
  exact zz_aret (r := some q1) X hr (Or.inr ⟨_, rfl⟩) (q1) [0, 1] (by decide) rfl rfl (Nat.le_of_ble_eq_true rfl) (Nat.le_of_ble_eq_true rfl) (rfl) dJ7_copyOf_59c91_32

set_option maxHeartbeats 4000000 in
set_option maxRecDepth 100000 in
/-- finish of no modules -/
theorem kX3_finish0 {E : zEn} (hE : zOk E) (l : Launch) (D : va_G) (cA : Nat → ClassId) (k0 : Nat) (u0 : Nat) (kheap : Value) (knames : Value) (kchecker : Value) (kb : Value) (kt : Value) (kcode : Value) (ksize : Int32) (kregisters : Int32) (kowner : Int32) (kknown : Int32) (kscope : Int32) (kbadKind : Int32) (kbadPlace : Int32) (kops : Value) (kused : Int32) (umods : Value) (ucount : Int32) (urule : Value) (upart : Value) (unodeRule : Value) (uinner : Value) (uwords : Int32) (ureads : Value) (urank : Value) (ubranch : Value) (ucode : Value) (umodule : Int32) (uplace : Int32) : zMv E l yX3_finish wsX3_finish ({ frames := 0, cells := 0, slots := 0, locals := 0 }) D vwCl (zT cA) [.ref k0, .ref u0] [(k0, .inr (3, [kheap, knames, kchecker, kb, kt, kcode, .int ksize, .int kregisters, .int kowner, .int kknown, .int kscope, .int kbadKind, .int kbadPlace, kops, .int kused])), (u0, .inr (1, [umods, .int ucount, .int 0, .int 0, urule, upart, unodeRule, uinner, .int uwords, ureads, urank, ubranch, ucode, .int 0, .int umodule, .int uplace]))] (S := Unit) (fun (u : Unit) => (True)) (fun (u : Unit) => [(k0, .inr (3, [kheap, knames, kchecker, .ref u0, kt, kcode, .int ksize, .int kregisters, .int kowner, .int kknown, .int kscope, .int kbadKind, .int kbadPlace, kops, .int kused])), (u0, .inr (1, [umods, .int ucount, .int 0, .int 0, urule, upart, unodeRule, uinner, .int uwords, ureads, urank, ubranch, ucode, .int 0, .int umodule, .int uplace]))]) := by
  refine zz_enterv (cc := cX3_finish) (lv := [(0, .ref k0), (1, .ref u0)]) hE 6 (by decide) rfl (Nat.le_of_ble_eq_true rfl) rfl ?_
  intro p e s m args below meth c X hr hin
  refine zz_aload_n X 0 dX3_finish_0 rfl rfl ?_
  refine zz_aload_n X 1 dX3_finish_1 rfl rfl ?_
  refine zz_put X 0 3 rfl rfl (by decide) inX3_finish_X3 rfl (List.mem_of_getElem? (i := 1) rfl) tyX3 tyX3_ok nmX3 rfl (ty := (.object "PolicyHouse$Bundle")) rfl rfl rfl (Nat.le_of_ble_eq_true rfl) dX3_finish_2 [(k0, .inr (3, [kheap, knames, kchecker, .ref u0, kt, kcode, .int ksize, .int kregisters, .int kowner, .int kknown, .int kscope, .int kbadKind, .int kbadPlace, kops, .int kused])), (u0, .inr (1, [umods, .int ucount, .int 0, .int 0, urule, upart, unodeRule, uinner, .int uwords, ureads, urank, ubranch, ucode, .int 0, .int umodule, .int uplace]))] rfl ?_
  refine zz_bipush X 8 dX3_finish_5 rfl ?_
  refine zz_istore_n X [(2, .int 8), (0, .ref k0), (1, .ref u0)] dX3_finish_7 rfl (by decide) rfl ?_
  refine zz_iload_n X 0 dX3_finish_8 rfl rfl ?_
  refine zz_bipush X 9 dX3_finish_9 rfl ?_
  refine zz_icmp_gt X 187 dX3_finish_11 (by decide) (fun h => absurd h (by decide)) (fun _ => ?_)
  refine zz_iconst X 0 dX3_finish_14 rfl ?_
  refine zz_istore_n X [(3, .int 0), (2, .int 8), (0, .ref k0), (1, .ref u0)] dX3_finish_15 rfl (by decide) rfl ?_
  refine zz_iload_n X 0 dX3_finish_16 rfl rfl ?_
  refine zz_aload_n X 2 dX3_finish_17 rfl rfl ?_
  refine zz_get X 0 3 rfl rfl (by decide) inX3_finish_X3 rfl (List.mem_of_getElem? (i := 1) rfl) rfl dX3_finish_18 ?_
  refine zz_get X 1 2 rfl rfl (by decide) inX3_finish_X1 rfl (List.mem_of_getElem? (i := 2) rfl) rfl dX3_finish_21 ?_
  refine zz_icmp_ge X 181 dX3_finish_24 (by decide) (fun _ => ?_) (fun h => absurd (by decide) h)
  refine zz_iinc X 1 (9) [(2, .int 9), (3, .int 0), (0, .ref k0), (1, .ref u0)] dX3_finish_181 rfl (by decide) (by decide) rfl ?_
  refine zz_goto X 8 dX3_finish_184 (by decide) ?_
  refine zz_iload_n X 0 dX3_finish_8 rfl rfl ?_
  refine zz_bipush X 9 dX3_finish_9 rfl ?_
  refine zz_icmp_gt X 187 dX3_finish_11 (by decide) (fun h => absurd h (by decide)) (fun _ => ?_)
  refine zz_iconst X 0 dX3_finish_14 rfl ?_
  refine zz_istore_n X [(3, .int 0), (2, .int 9), (0, .ref k0), (1, .ref u0)] dX3_finish_15 rfl (by decide) rfl ?_
  refine zz_iload_n X 0 dX3_finish_16 rfl rfl ?_
  refine zz_aload_n X 2 dX3_finish_17 rfl rfl ?_
  refine zz_get X 0 3 rfl rfl (by decide) inX3_finish_X3 rfl (List.mem_of_getElem? (i := 1) rfl) rfl dX3_finish_18 ?_
  refine zz_get X 1 2 rfl rfl (by decide) inX3_finish_X1 rfl (List.mem_of_getElem? (i := 2) rfl) rfl dX3_finish_21 ?_
  refine zz_icmp_ge X 181 dX3_finish_24 (by decide) (fun _ => ?_) (fun h => absurd (by decide) h)
  refine zz_iinc X 1 (10) [(2, .int 10), (3, .int 0), (0, .ref k0), (1, .ref u0)] dX3_finish_181 rfl (by decide) (by decide) rfl ?_
  refine zz_goto X 8 dX3_finish_184 (by decide) ?_
  refine zz_iload_n X 0 dX3_finish_8 rfl rfl ?_
  refine zz_bipush X 9 dX3_finish_9 rfl ?_
  refine zz_icmp_gt X 187 dX3_finish_11 (by decide) (fun _ => ?_) (fun h => absurd (by decide) h)
  exact zz_vret X hr (()) [0, 1] (by decide) rfl rfl (Nat.le_of_ble_eq_true rfl) (Nat.le_of_ble_eq_true rfl) (trivial) dX3_finish_187

set_option maxHeartbeats 4000000 in
set_option maxRecDepth 100000 in
/-- encode of no modules -/
theorem kX3_encode0 {E : zEn} (hE : zOk E) (l : Launch) (D : va_G) (cA : Nat → ClassId) (k0 : Nat) (u0 : Nat) (kheap : Value) (knames : Value) (kchecker : Value) (kt : Value) (kcode : Nat) (ksize : Int32) (kregisters : Int32) (kowner : Int32) (kknown : Int32) (kscope : Int32) (kbadKind : Int32) (kbadPlace : Int32) (kops : Value) (kused : Int32) (fk : Nat → Int32) (umods : Value) (ucount : Int32) (urule : Value) (upart : Value) (unodeRule : Value) (uinner : Value) (uwords : Int32) (ureads : Value) (urank : Value) (ubranch : Value) (ucode : Value) (umodule : Int32) (uplace : Int32) (hcn : ∀ (A : Nat → Prop) (U : State) (H : Heap), E A U H → va_Nw (.castable "[I" "java/lang/Cloneable") U) : zMv E l yX3_encode wsX3_encode ({ frames := 2, cells := 3, slots := 2, locals := 82 }) D vwCl (zT cA) [.ref k0] [(k0, .inr (3, [kheap, knames, kchecker, .ref u0, kt, .ref kcode, .int ksize, .int kregisters, .int kowner, .int kknown, .int kscope, .int kbadKind, .int kbadPlace, kops, .int kused])), (u0, .inr (1, [umods, .int ucount, .int 0, .int 0, urule, upart, unodeRule, uinner, .int uwords, ureads, urank, ubranch, ucode, .int 0, .int umodule, .int uplace])), (kcode, .inl (cA 1, 80000, .inl fk))] (S := Nat × Nat × Nat) (fun (u : Nat × Nat × Nat) => (True)) (fun (u : Nat × Nat × Nat) => [(k0, .inr (3, [kheap, knames, kchecker, .ref u0, kt, .ref kcode, .int 0, .int kregisters, .int kowner, .int kknown, .int kscope, .int kbadKind, .int kbadPlace, kops, .int kused])), (u0, .inr (1, [umods, .int ucount, .int 0, .int 0, urule, upart, unodeRule, uinner, .int uwords, ureads, urank, .ref u.2.1, .ref u.2.2, .int 0, .int umodule, .int uplace])), (kcode, .inl (cA 1, 80000, .inl fk)), (u.1, .inl (cA 1, 1, .inl ((fun _ => 0)))), (u.2.1, .inl (cA 1, 1, .inl ((fun _ => 0)))), (u.2.2, .inl (cA 1, 0, .inl (va_cpy fk (fun _ => 0) 0 0 0)))]) := by
  refine zz_enterv (cc := cX3_encode) (lv := [(0, .ref k0)]) hE 9 (by decide) rfl (Nat.le_of_ble_eq_true rfl) rfl ?_
  intro p e s m args below meth c X hr hin
  refine zz_aload_n X 0 dX3_encode_0 rfl rfl ?_
  refine zz_iconst X 0 dX3_encode_1 rfl ?_
  refine zz_put X 0 6 rfl rfl (by decide) inX3_encode_X3 rfl (List.mem_of_getElem? (i := 1) rfl) tyX3 tyX3_ok nmX3 rfl (ty := .int) rfl rfl rfl (Nat.le_of_ble_eq_true rfl) dX3_encode_2 [(k0, .inr (3, [kheap, knames, kchecker, .ref u0, kt, .ref kcode, .int 0, .int kregisters, .int kowner, .int kknown, .int kscope, .int kbadKind, .int kbadPlace, kops, .int kused])), (u0, .inr (1, [umods, .int ucount, .int 0, .int 0, urule, upart, unodeRule, uinner, .int uwords, ureads, urank, ubranch, ucode, .int 0, .int umodule, .int uplace])), (kcode, .inl (cA 1, 80000, .inl fk))] rfl ?_
  refine zz_aload_n X 0 dX3_encode_5 rfl rfl ?_
  refine zz_get X 0 3 rfl rfl (by decide) inX3_encode_X3 rfl (List.mem_of_getElem? (i := 2) rfl) rfl dX3_encode_6 ?_
  refine zz_get X 1 3 rfl rfl (by decide) inX3_encode_X1 rfl (List.mem_of_getElem? (i := 3) rfl) rfl dX3_encode_9 ?_
  refine zz_bipush X 9 dX3_encode_12 rfl ?_
  refine zz_imul X (0) dX3_encode_14 (by decide) ?_
  refine zz_iconst X 1 dX3_encode_15 rfl ?_
  refine zz_iadd X (1) dX3_encode_16 (by decide) ?_
  refine zz_newaI X 1 rfl 1 (List.mem_of_getElem? (i := 4) rfl) (by decide) (by decide) (Nat.le_of_ble_eq_true rfl) (Nat.le_of_ble_eq_true rfl) (Nat.le_of_ble_eq_true rfl) dX3_encode_17 (fun q1 => ?_)
  refine zz_show (ws' := [(k0, .inr (3, [kheap, knames, kchecker, .ref u0, kt, .ref kcode, .int 0, .int kregisters, .int kowner, .int kknown, .int kscope, .int kbadKind, .int kbadPlace, kops, .int kused])), (u0, .inr (1, [umods, .int ucount, .int 0, .int 0, urule, upart, unodeRule, uinner, .int uwords, ureads, urank, ubranch, ucode, .int 0, .int umodule, .int uplace])), (kcode, .inl (cA 1, 80000, .inl fk)), (q1, .inl (cA 1, 1, .inl (fun _ => 0)))]) rfl ?_
  refine zz_astore_n X [(1, .ref q1), (0, .ref k0)] dX3_encode_19 rfl (by decide) rfl ?_
  refine zz_iconst X 0 dX3_encode_20 rfl ?_
  refine zz_istore_n X [(2, .int 0), (1, .ref q1), (0, .ref k0)] dX3_encode_21 rfl (by decide) rfl ?_
  refine zz_iconst X 0 dX3_encode_22 rfl ?_
  refine zz_istore_n X [(3, .int 0), (2, .int 0), (1, .ref q1), (0, .ref k0)] dX3_encode_23 rfl (by decide) rfl ?_
  refine zz_iload_n X 0 dX3_encode_24 rfl rfl ?_
  refine zz_aload_n X 3 dX3_encode_25 rfl rfl ?_
  refine zz_get X 0 3 rfl rfl (by decide) inX3_encode_X3 rfl (List.mem_of_getElem? (i := 2) rfl) rfl dX3_encode_26 ?_
  refine zz_get X 1 3 rfl rfl (by decide) inX3_encode_X1 rfl (List.mem_of_getElem? (i := 3) rfl) rfl dX3_encode_29 ?_
  refine zz_icmp_ge X 287 dX3_encode_32 (by decide) (fun _ => ?_) (fun h => absurd (by decide) h)
  refine zz_aload_n X 3 dX3_encode_287 rfl rfl ?_
  refine zz_get X 0 3 rfl rfl (by decide) inX3_encode_X3 rfl (List.mem_of_getElem? (i := 2) rfl) rfl dX3_encode_288 ?_
  refine zz_aload_n X 2 dX3_encode_291 rfl rfl ?_
  refine zz_iload_n X 1 dX3_encode_292 rfl rfl ?_
  refine zz_iconst X 1 dX3_encode_293 rfl ?_
  refine zz_iadd X (1) dX3_encode_294 (by decide) ?_
  refine zz_callSq X (rest := [.ref u0]) (As := [.ref q1, .int 1]) (kJ7_copyOf1 hE l D cA q1 (fun _ => 0) hcn) 2 gX3_encode_J7_copyOf_59c91 rfl (by decide +kernel) [3] [0, 1, 2] [(k0, .inr (3, [kheap, knames, kchecker, .ref u0, kt, .ref kcode, .int 0, .int kregisters, .int kowner, .int kknown, .int kscope, .int kbadKind, .int kbadPlace, kops, .int kused])), (u0, .inr (1, [umods, .int ucount, .int 0, .int 0, urule, upart, unodeRule, uinner, .int uwords, ureads, urank, ubranch, ucode, .int 0, .int umodule, .int uplace])), (kcode, .inl (cA 1, 80000, .inl fk))] rfl rfl (by decide) rfl (by decide) (by decide) ⟨Nat.le_of_ble_eq_true rfl, Nat.le_of_ble_eq_true rfl⟩ rfl rfl rfl (Nat.le_of_ble_eq_true rfl) dX3_encode_295 (Nat.le_of_ble_eq_true rfl) (Nat.le_of_ble_eq_true rfl) (fun r3 u5 hw4 => ?_)
  obtain ⟨nq12, rfl⟩ : ∃ z, z = u5 := ⟨_, rfl⟩
  obtain rfl := hw4
  refine zz_show (ws' := [(k0, .inr (3, [kheap, knames, kchecker, .ref u0, kt, .ref kcode, .int 0, .int kregisters, .int kowner, .int kknown, .int kscope, .int kbadKind, .int kbadPlace, kops, .int kused])), (u0, .inr (1, [umods, .int ucount, .int 0, .int 0, urule, upart, unodeRule, uinner, .int uwords, ureads, urank, ubranch, ucode, .int 0, .int umodule, .int uplace])), (kcode, .inl (cA 1, 80000, .inl fk)), (q1, .inl (cA 1, 1, .inl ((fun _ => 0)))), (nq12, .inl (cA 1, 1, .inl ((fun _ => 0))))]) rfl ?_
  refine zz_put X 1 11 rfl rfl (by decide) inX3_encode_X1 rfl (List.mem_of_getElem? (i := 17) rfl) tyX1 tyX1_ok nmX1 rfl (ty := (.array .int)) rfl rfl rfl (Nat.le_of_ble_eq_true rfl) dX3_encode_298 [(k0, .inr (3, [kheap, knames, kchecker, .ref u0, kt, .ref kcode, .int 0, .int kregisters, .int kowner, .int kknown, .int kscope, .int kbadKind, .int kbadPlace, kops, .int kused])), (u0, .inr (1, [umods, .int ucount, .int 0, .int 0, urule, upart, unodeRule, uinner, .int uwords, ureads, urank, .ref nq12, ucode, .int 0, .int umodule, .int uplace])), (kcode, .inl (cA 1, 80000, .inl fk)), (q1, .inl (cA 1, 1, .inl ((fun _ => 0)))), (nq12, .inl (cA 1, 1, .inl ((fun _ => 0))))] rfl ?_
  refine zz_aload_n X 3 dX3_encode_301 rfl rfl ?_
  refine zz_get X 0 3 rfl rfl (by decide) inX3_encode_X3 rfl (List.mem_of_getElem? (i := 2) rfl) rfl dX3_encode_302 ?_
  refine zz_aload_n X 3 dX3_encode_305 rfl rfl ?_
  refine zz_get X 0 5 rfl rfl (by decide) inX3_encode_X3 rfl (List.mem_of_getElem? (i := 18) rfl) rfl dX3_encode_306 ?_
  refine zz_aload_n X 3 dX3_encode_309 rfl rfl ?_
  refine zz_get X 0 6 rfl rfl (by decide) inX3_encode_X3 rfl (List.mem_of_getElem? (i := 1) rfl) rfl dX3_encode_310 ?_
  refine zz_callSq X (rest := [.ref u0]) (As := [.ref kcode, .int 0]) (kJ7_copyOf0 hE l D cA kcode fk hcn) 2 gX3_encode_J7_copyOf_59c91 rfl (by decide +kernel) [2] [0, 1, 3, 4] [(k0, .inr (3, [kheap, knames, kchecker, .ref u0, kt, .ref kcode, .int 0, .int kregisters, .int kowner, .int kknown, .int kscope, .int kbadKind, .int kbadPlace, kops, .int kused])), (u0, .inr (1, [umods, .int ucount, .int 0, .int 0, urule, upart, unodeRule, uinner, .int uwords, ureads, urank, .ref nq12, ucode, .int 0, .int umodule, .int uplace])), (q1, .inl (cA 1, 1, .inl ((fun _ => 0)))), (nq12, .inl (cA 1, 1, .inl ((fun _ => 0))))] rfl rfl (by decide) rfl (by decide) (by decide) ⟨Nat.le_of_ble_eq_true rfl, Nat.le_of_ble_eq_true rfl⟩ rfl rfl rfl (Nat.le_of_ble_eq_true rfl) dX3_encode_313 (Nat.le_of_ble_eq_true rfl) (Nat.le_of_ble_eq_true rfl) (fun r7 u9 hw8 => ?_)
  obtain ⟨nq16, rfl⟩ : ∃ z, z = u9 := ⟨_, rfl⟩
  obtain rfl := hw8
  refine zz_show (ws' := [(k0, .inr (3, [kheap, knames, kchecker, .ref u0, kt, .ref kcode, .int 0, .int kregisters, .int kowner, .int kknown, .int kscope, .int kbadKind, .int kbadPlace, kops, .int kused])), (u0, .inr (1, [umods, .int ucount, .int 0, .int 0, urule, upart, unodeRule, uinner, .int uwords, ureads, urank, .ref nq12, ucode, .int 0, .int umodule, .int uplace])), (q1, .inl (cA 1, 1, .inl ((fun _ => 0)))), (nq12, .inl (cA 1, 1, .inl ((fun _ => 0)))), (kcode, .inl (cA 1, 80000, .inl fk)), (nq16, .inl (cA 1, 0, .inl (va_cpy fk (fun _ => 0) 0 0 0)))]) rfl ?_
  refine zz_put X 1 12 rfl rfl (by decide) inX3_encode_X1 rfl (List.mem_of_getElem? (i := 19) rfl) tyX1 tyX1_ok nmX1 rfl (ty := (.array .int)) rfl rfl rfl (Nat.le_of_ble_eq_true rfl) dX3_encode_316 [(k0, .inr (3, [kheap, knames, kchecker, .ref u0, kt, .ref kcode, .int 0, .int kregisters, .int kowner, .int kknown, .int kscope, .int kbadKind, .int kbadPlace, kops, .int kused])), (u0, .inr (1, [umods, .int ucount, .int 0, .int 0, urule, upart, unodeRule, uinner, .int uwords, ureads, urank, .ref nq12, .ref nq16, .int 0, .int umodule, .int uplace])), (q1, .inl (cA 1, 1, .inl ((fun _ => 0)))), (nq12, .inl (cA 1, 1, .inl ((fun _ => 0)))), (kcode, .inl (cA 1, 80000, .inl fk)), (nq16, .inl (cA 1, 0, .inl (va_cpy fk (fun _ => 0) 0 0 0)))] rfl ?_
  exact zz_vret X hr ((q1, nq12, nq16)) [0, 1, 4, 2, 3, 5] (by decide) rfl rfl (Nat.le_of_ble_eq_true rfl) (Nat.le_of_ble_eq_true rfl) (trivial) dX3_encode_319
