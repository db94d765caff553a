set_option maxHeartbeats 4000000 in
set_option maxRecDepth 100000 in
/-- put -/
theorem kX13_put_1 {E : zEn} (hE : zOk E) (l : Launch) (D : va_G) (cA : Nat → ClassId) (K : Nat → Nat) (V : Nat → Nat) (x1 : Nat) (x2 : Int32) (f1 : List Value) (x3 : Nat) (hss : zSS E K V) (hf1_n : f1.length = 23) (hf1_9 : f1[9]? = some (.int 0)) (hf1_8 : f1[8]? = some (.ref x3)) : zMv E l yX13_put zwX13_put ({ frames := 0, cells := 0, slots := 0, locals := 0 }) D vwCl (zT cA) [.ref x1, .int x2] [(x1, .inr (13, f1)), (x3, .inl (cA 1, 6000, .inl (fun _ => 0)))] (S := Unit) (fun (u : Unit) => (True)) (fun (u : Unit) => [(x1, .inr (13, ((((f1.set 9 (.int 1)).set 9 (.int 2)).set 9 (.int 3)).set 9 (.int 4)))), (x3, .inl (cA 1, 6000, .inl (upd (upd (upd (upd (fun _ => 0) 0 ((((x2).toUInt32 >>> ((24 : Int32).toUInt32 &&& Int32.toUInt32 31)).toInt32) &&& 255)) 1 ((((x2).toUInt32 >>> ((16 : Int32).toUInt32 &&& Int32.toUInt32 31)).toInt32) &&& 255)) 2 ((((x2).toUInt32 >>> ((8 : Int32).toUInt32 &&& Int32.toUInt32 31)).toInt32) &&& 255)) 3 ((((x2).toUInt32 >>> ((0 : Int32).toUInt32 &&& Int32.toUInt32 31)).toInt32) &&& 255))))]) := by
  refine zz_enterv (cc := cX13_put) (lv := [(0, .ref x1), (1, .int x2)]) hE 3 (by decide) rfl (Nat.le_of_ble_eq_true rfl) rfl ?_
  intro p e s m args below meth c X hr hin
  refine zz_bipush X 24 dX13_put_0 rfl ?_
  refine zz_istore_n X [(2, .int 24), (0, .ref x1), (1, .int x2)] dX13_put_2 rfl (by decide) rfl ?_
  refine zz_iload_n X 0 dX13_put_3 rfl rfl ?_
  refine zz_if_lt X 49 dX13_put_4 (by decide) (fun h => absurd h (by decide)) (fun _ => ?_)
  refine zz_aload_n X 1 dX13_put_7 rfl rfl ?_
  refine zz_get X 0 9 rfl rfl (by decide) (fun w h => List.mem_cons_of_mem _ (zf_X13 w h)) rfl (List.mem_cons_of_mem _ zm_302) hf1_9 dX13_put_8 ?_
  refine zz_sipush X 6000 dX13_put_11 rfl ?_
  refine zz_icmp_ge X 49 dX13_put_14 (by decide) (fun h => absurd h (by decide)) (fun _ => ?_)
  refine zz_aload_n X 1 dX13_put_17 rfl rfl ?_
  refine zz_get X 0 8 rfl rfl (by decide) (fun w h => List.mem_cons_of_mem _ (zf_X13 w h)) rfl (List.mem_cons_of_mem _ zm_301) hf1_8 dX13_put_18 ?_
  refine zz_aload_n X 1 dX13_put_21 rfl rfl ?_
  refine zz_get X 0 9 rfl rfl (by decide) (fun w h => List.mem_cons_of_mem _ (zf_X13 w h)) rfl (List.mem_cons_of_mem _ zm_302) hf1_9 dX13_put_22 ?_
  refine zz_iload_n X 2 dX13_put_25 rfl rfl ?_
  refine zz_iload_n X 0 dX13_put_26 rfl rfl ?_
  refine zz_iushr X (((x2).toUInt32 >>> ((24 : Int32).toUInt32 &&& Int32.toUInt32 31)).toInt32) dX13_put_27 rfl ?_
  refine zz_sipush X 255 dX13_put_28 rfl ?_
  refine zz_iand X (((((x2).toUInt32 >>> ((24 : Int32).toUInt32 &&& Int32.toUInt32 31)).toInt32) &&& 255)) dX13_put_31 rfl ?_
  refine zz_iast X 1 1 rfl rfl (vp_in_nI (n := 0) (by decide) (by decide)) 0 (by decide) dX13_put_32 [(x1, .inr (13, f1)), (x3, .inl (cA 1, 6000, .inl (upd (fun _ => 0) 0 ((((x2).toUInt32 >>> ((24 : Int32).toUInt32 &&& Int32.toUInt32 31)).toInt32) &&& 255))))] rfl ?_
  refine zz_aload_n X 1 dX13_put_33 rfl rfl ?_
  refine zz_dup X dX13_put_34 rfl ?_
  refine zz_get X 0 9 rfl rfl (by decide) (fun w h => List.mem_cons_of_mem _ (zf_X13 w h)) rfl (List.mem_cons_of_mem _ zm_302) hf1_9 dX13_put_35 ?_
  refine zz_iconst X 1 dX13_put_38 rfl ?_
  refine zz_iadd X (1) dX13_put_39 (by decide) ?_
  refine zz_put X 0 9 rfl rfl (by decide) (fun w h => List.mem_cons_of_mem _ (zf_X13 w h)) rfl (List.mem_cons_of_mem _ zm_302) tyX13 tyX13_ok nmX13 rfl (ty := .int) rfl rfl rfl (zq_lt hf1_n (by decide) (by simp only [List.length_set])) dX13_put_40 [(x1, .inr (13, (f1.set 9 (.int 1)))), (x3, .inl (cA 1, 6000, .inl (upd (fun _ => 0) 0 ((((x2).toUInt32 >>> ((24 : Int32).toUInt32 &&& Int32.toUInt32 31)).toInt32) &&& 255))))] rfl ?_
  refine zz_iinc X 0 (16) [(2, .int 16), (0, .ref x1), (1, .int x2)] dX13_put_43 rfl (by decide) (by decide) rfl ?_
  refine zz_goto X 3 dX13_put_46 (by decide) ?_
  refine zz_iload_n X 0 dX13_put_3 rfl rfl ?_
  refine zz_if_lt X 49 dX13_put_4 (by decide) (fun h => absurd h (by decide)) (fun _ => ?_)
  refine zz_aload_n X 1 dX13_put_7 rfl rfl ?_
  refine zz_get X 0 9 rfl rfl (by decide) (fun w h => List.mem_cons_of_mem _ (zf_X13 w h)) rfl (List.mem_cons_of_mem _ zm_302) (zq_same (zq_lt hf1_n (by decide) (by simp only [List.length_set]))) dX13_put_8 ?_
  refine zz_sipush X 6000 dX13_put_11 rfl ?_
  refine zz_icmp_ge X 49 dX13_put_14 (by decide) (fun h => absurd h (by decide)) (fun _ => ?_)
  refine zz_aload_n X 1 dX13_put_17 rfl rfl ?_
  refine zz_get X 0 8 rfl rfl (by decide) (fun w h => List.mem_cons_of_mem _ (zf_X13 w h)) rfl (List.mem_cons_of_mem _ zm_301) (zq_oth (by decide) (hf1_8)) dX13_put_18 ?_
  refine zz_aload_n X 1 dX13_put_21 rfl rfl ?_
  refine zz_get X 0 9 rfl rfl (by decide) (fun w h => List.mem_cons_of_mem _ (zf_X13 w h)) rfl (List.mem_cons_of_mem _ zm_302) (zq_same (zq_lt hf1_n (by decide) (by simp only [List.length_set]))) dX13_put_22 ?_
  refine zz_iload_n X 2 dX13_put_25 rfl rfl ?_
  refine zz_iload_n X 0 dX13_put_26 rfl rfl ?_
  refine zz_iushr X (((x2).toUInt32 >>> ((16 : Int32).toUInt32 &&& Int32.toUInt32 31)).toInt32) dX13_put_27 rfl ?_
  refine zz_sipush X 255 dX13_put_28 rfl ?_
  refine zz_iand X (((((x2).toUInt32 >>> ((16 : Int32).toUInt32 &&& Int32.toUInt32 31)).toInt32) &&& 255)) dX13_put_31 rfl ?_
  refine zz_iast X 1 1 rfl rfl (vp_in_nI (n := 1) (by decide) (by decide)) 1 (by decide) dX13_put_32 [(x1, .inr (13, (f1.set 9 (.int 1)))), (x3, .inl (cA 1, 6000, .inl (upd (upd (fun _ => 0) 0 ((((x2).toUInt32 >>> ((24 : Int32).toUInt32 &&& Int32.toUInt32 31)).toInt32) &&& 255)) 1 ((((x2).toUInt32 >>> ((16 : Int32).toUInt32 &&& Int32.toUInt32 31)).toInt32) &&& 255))))] rfl ?_
  refine zz_aload_n X 1 dX13_put_33 rfl rfl ?_
  refine zz_dup X dX13_put_34 rfl ?_
  refine zz_get X 0 9 rfl rfl (by decide) (fun w h => List.mem_cons_of_mem _ (zf_X13 w h)) rfl (List.mem_cons_of_mem _ zm_302) (zq_same (zq_lt hf1_n (by decide) (by simp only [List.length_set]))) dX13_put_35 ?_
  refine zz_iconst X 1 dX13_put_38 rfl ?_
  refine zz_iadd X (2) dX13_put_39 (by decide) ?_
  refine zz_put X 0 9 rfl rfl (by decide) (fun w h => List.mem_cons_of_mem _ (zf_X13 w h)) rfl (List.mem_cons_of_mem _ zm_302) tyX13 tyX13_ok nmX13 rfl (ty := .int) rfl rfl rfl (zq_lt hf1_n (by decide) (by simp only [List.length_set])) dX13_put_40 [(x1, .inr (13, ((f1.set 9 (.int 1)).set 9 (.int 2)))), (x3, .inl (cA 1, 6000, .inl (upd (upd (fun _ => 0) 0 ((((x2).toUInt32 >>> ((24 : Int32).toUInt32 &&& Int32.toUInt32 31)).toInt32) &&& 255)) 1 ((((x2).toUInt32 >>> ((16 : Int32).toUInt32 &&& Int32.toUInt32 31)).toInt32) &&& 255))))] rfl ?_
  refine zz_iinc X 0 (8) [(2, .int 8), (0, .ref x1), (1, .int x2)] dX13_put_43 rfl (by decide) (by decide) rfl ?_
  refine zz_goto X 3 dX13_put_46 (by decide) ?_
  refine zz_iload_n X 0 dX13_put_3 rfl rfl ?_
  refine zz_if_lt X 49 dX13_put_4 (by decide) (fun h => absurd h (by decide)) (fun _ => ?_)
  refine zz_aload_n X 1 dX13_put_7 rfl rfl ?_
  refine zz_get X 0 9 rfl rfl (by decide) (fun w h => List.mem_cons_of_mem _ (zf_X13 w h)) rfl (List.mem_cons_of_mem _ zm_302) (zq_same (zq_lt hf1_n (by decide) (by simp only [List.length_set]))) dX13_put_8 ?_
  refine zz_sipush X 6000 dX13_put_11 rfl ?_
  refine zz_icmp_ge X 49 dX13_put_14 (by decide) (fun h => absurd h (by decide)) (fun _ => ?_)
  refine zz_aload_n X 1 dX13_put_17 rfl rfl ?_
  refine zz_get X 0 8 rfl rfl (by decide) (fun w h => List.mem_cons_of_mem _ (zf_X13 w h)) rfl (List.mem_cons_of_mem _ zm_301) (zq_oth (by decide) (zq_oth (by decide) (hf1_8))) dX13_put_18 ?_
  refine zz_aload_n X 1 dX13_put_21 rfl rfl ?_
  refine zz_get X 0 9 rfl rfl (by decide) (fun w h => List.mem_cons_of_mem _ (zf_X13 w h)) rfl (List.mem_cons_of_mem _ zm_302) (zq_same (zq_lt hf1_n (by decide) (by simp only [List.length_set]))) dX13_put_22 ?_
  refine zz_iload_n X 2 dX13_put_25 rfl rfl ?_
  refine zz_iload_n X 0 dX13_put_26 rfl rfl ?_
  refine zz_iushr X (((x2).toUInt32 >>> ((8 : Int32).toUInt32 &&& Int32.toUInt32 31)).toInt32) dX13_put_27 rfl ?_
  refine zz_sipush X 255 dX13_put_28 rfl ?_
  refine zz_iand X (((((x2).toUInt32 >>> ((8 : Int32).toUInt32 &&& Int32.toUInt32 31)).toInt32) &&& 255)) dX13_put_31 rfl ?_
  refine zz_iast X 1 1 rfl rfl (vp_in_nI (n := 2) (by decide) (by decide)) 2 (by decide) dX13_put_32 [(x1, .inr (13, ((f1.set 9 (.int 1)).set 9 (.int 2)))), (x3, .inl (cA 1, 6000, .inl (upd (upd (upd (fun _ => 0) 0 ((((x2).toUInt32 >>> ((24 : Int32).toUInt32 &&& Int32.toUInt32 31)).toInt32) &&& 255)) 1 ((((x2).toUInt32 >>> ((16 : Int32).toUInt32 &&& Int32.toUInt32 31)).toInt32) &&& 255)) 2 ((((x2).toUInt32 >>> ((8 : Int32).toUInt32 &&& Int32.toUInt32 31)).toInt32) &&& 255))))] rfl ?_
  refine zz_aload_n X 1 dX13_put_33 rfl rfl ?_
  refine zz_dup X dX13_put_34 rfl ?_
  refine zz_get X 0 9 rfl rfl (by decide) (fun w h => List.mem_cons_of_mem _ (zf_X13 w h)) rfl (List.mem_cons_of_mem _ zm_302) (zq_same (zq_lt hf1_n (by decide) (by simp only [List.length_set]))) dX13_put_35 ?_
  refine zz_iconst X 1 dX13_put_38 rfl ?_
  refine zz_iadd X (3) dX13_put_39 (by decide) ?_
  refine zz_put X 0 9 rfl rfl (by decide) (fun w h => List.mem_cons_of_mem _ (zf_X13 w h)) rfl (List.mem_cons_of_mem _ zm_302) tyX13 tyX13_ok nmX13 rfl (ty := .int) rfl rfl rfl (zq_lt hf1_n (by decide) (by simp only [List.length_set])) dX13_put_40 [(x1, .inr (13, (((f1.set 9 (.int 1)).set 9 (.int 2)).set 9 (.int 3)))), (x3, .inl (cA 1, 6000, .inl (upd (upd (upd (fun _ => 0) 0 ((((x2).toUInt32 >>> ((24 : Int32).toUInt32 &&& Int32.toUInt32 31)).toInt32) &&& 255)) 1 ((((x2).toUInt32 >>> ((16 : Int32).toUInt32 &&& Int32.toUInt32 31)).toInt32) &&& 255)) 2 ((((x2).toUInt32 >>> ((8 : Int32).toUInt32 &&& Int32.toUInt32 31)).toInt32) &&& 255))))] rfl ?_
  refine zz_iinc X 0 (0) [(2, .int 0), (0, .ref x1), (1, .int x2)] dX13_put_43 rfl (by decide) (by decide) rfl ?_
  refine zz_goto X 3 dX13_put_46 (by decide) ?_
  refine zz_iload_n X 0 dX13_put_3 rfl rfl ?_
  refine zz_if_lt X 49 dX13_put_4 (by decide) (fun h => absurd h (by decide)) (fun _ => ?_)
  refine zz_aload_n X 1 dX13_put_7 rfl rfl ?_
  refine zz_get X 0 9 rfl rfl (by decide) (fun w h => List.mem_cons_of_mem _ (zf_X13 w h)) rfl (List.mem_cons_of_mem _ zm_302) (zq_same (zq_lt hf1_n (by decide) (by simp only [List.length_set]))) dX13_put_8 ?_
  refine zz_sipush X 6000 dX13_put_11 rfl ?_
  refine zz_icmp_ge X 49 dX13_put_14 (by decide) (fun h => absurd h (by decide)) (fun _ => ?_)
  refine zz_aload_n X 1 dX13_put_17 rfl rfl ?_
  refine zz_get X 0 8 rfl rfl (by decide) (fun w h => List.mem_cons_of_mem _ (zf_X13 w h)) rfl (List.mem_cons_of_mem _ zm_301) (zq_oth (by decide) (zq_oth (by decide) (zq_oth (by decide) (hf1_8)))) dX13_put_18 ?_
  refine zz_aload_n X 1 dX13_put_21 rfl rfl ?_
  refine zz_get X 0 9 rfl rfl (by decide) (fun w h => List.mem_cons_of_mem _ (zf_X13 w h)) rfl (List.mem_cons_of_mem _ zm_302) (zq_same (zq_lt hf1_n (by decide) (by simp only [List.length_set]))) dX13_put_22 ?_
  refine zz_iload_n X 2 dX13_put_25 rfl rfl ?_
  refine zz_iload_n X 0 dX13_put_26 rfl rfl ?_
  refine zz_iushr X (((x2).toUInt32 >>> ((0 : Int32).toUInt32 &&& Int32.toUInt32 31)).toInt32) dX13_put_27 rfl ?_
  refine zz_sipush X 255 dX13_put_28 rfl ?_
  refine zz_iand X (((((x2).toUInt32 >>> ((0 : Int32).toUInt32 &&& Int32.toUInt32 31)).toInt32) &&& 255)) dX13_put_31 rfl ?_
  refine zz_iast X 1 1 rfl rfl (vp_in_nI (n := 3) (by decide) (by decide)) 3 (by decide) dX13_put_32 [(x1, .inr (13, (((f1.set 9 (.int 1)).set 9 (.int 2)).set 9 (.int 3)))), (x3, .inl (cA 1, 6000, .inl (upd (upd (upd (upd (fun _ => 0) 0 ((((x2).toUInt32 >>> ((24 : Int32).toUInt32 &&& Int32.toUInt32 31)).toInt32) &&& 255)) 1 ((((x2).toUInt32 >>> ((16 : Int32).toUInt32 &&& Int32.toUInt32 31)).toInt32) &&& 255)) 2 ((((x2).toUInt32 >>> ((8 : Int32).toUInt32 &&& Int32.toUInt32 31)).toInt32) &&& 255)) 3 ((((x2).toUInt32 >>> ((0 : Int32).toUInt32 &&& Int32.toUInt32 31)).toInt32) &&& 255))))] rfl ?_
  refine zz_aload_n X 1 dX13_put_33 rfl rfl ?_
  refine zz_dup X dX13_put_34 rfl ?_
  refine zz_get X 0 9 rfl rfl (by decide) (fun w h => List.mem_cons_of_mem _ (zf_X13 w h)) rfl (List.mem_cons_of_mem _ zm_302) (zq_same (zq_lt hf1_n (by decide) (by simp only [List.length_set]))) dX13_put_35 ?_
  refine zz_iconst X 1 dX13_put_38 rfl ?_
  refine zz_iadd X (4) dX13_put_39 (by decide) ?_
  refine zz_put X 0 9 rfl rfl (by decide) (fun w h => List.mem_cons_of_mem _ (zf_X13 w h)) rfl (List.mem_cons_of_mem _ zm_302) tyX13 tyX13_ok nmX13 rfl (ty := .int) rfl rfl rfl (zq_lt hf1_n (by decide) (by simp only [List.length_set])) dX13_put_40 [(x1, .inr (13, ((((f1.set 9 (.int 1)).set 9 (.int 2)).set 9 (.int 3)).set 9 (.int 4)))), (x3, .inl (cA 1, 6000, .inl (upd (upd (upd (upd (fun _ => 0) 0 ((((x2).toUInt32 >>> ((24 : Int32).toUInt32 &&& Int32.toUInt32 31)).toInt32) &&& 255)) 1 ((((x2).toUInt32 >>> ((16 : Int32).toUInt32 &&& Int32.toUInt32 31)).toInt32) &&& 255)) 2 ((((x2).toUInt32 >>> ((8 : Int32).toUInt32 &&& Int32.toUInt32 31)).toInt32) &&& 255)) 3 ((((x2).toUInt32 >>> ((0 : Int32).toUInt32 &&& Int32.toUInt32 31)).toInt32) &&& 255))))] rfl ?_
  refine zz_iinc X 0 ((-8)) [(2, .int (-8)), (0, .ref x1), (1, .int x2)] dX13_put_43 rfl (by decide) (by decide) rfl ?_
  refine zz_goto X 3 dX13_put_46 (by decide) ?_
  refine zz_iload_n X 0 dX13_put_3 rfl rfl ?_
  refine zz_if_lt X 49 dX13_put_4 (by decide) (fun _ => ?_) (fun h => absurd (by decide) h)
  exact zz_vret X hr (()) [0, 1] (by decide) rfl rfl (Nat.le_of_ble_eq_true rfl) (Nat.le_of_ble_eq_true rfl) (trivial) dX13_put_49

set_option maxHeartbeats 4000000 in
set_option maxRecDepth 100000 in
/-- put -/
theorem kX13_put_2 {E : zEn} (hE : zOk E) (l : Launch) (D : va_G) (cA : Nat → ClassId) (K : Nat → Nat) (V : Nat → Nat) (x1 : Nat) (x2 : Int32) (f1 : List Value) (x3 : Nat) (f2 : Nat → Int32) (hss : zSS E K V) (hf1_n : f1.length = 23) (hf1_9 : f1[9]? = some (.int 4)) (hf1_8 : f1[8]? = some (.ref x3)) : zMv E l yX13_put zwX13_put ({ frames := 0, cells := 0, slots := 0, locals := 0 }) D vwCl (zT cA) [.ref x1, .int x2] [(x1, .inr (13, f1)), (x3, .inl (cA 1, 6000, .inl f2))] (S := Unit) (fun (u : Unit) => (True)) (fun (u : Unit) => [(x1, .inr (13, ((((f1.set 9 (.int 5)).set 9 (.int 6)).set 9 (.int 7)).set 9 (.int 8)))), (x3, .inl (cA 1, 6000, .inl (upd (upd (upd (upd f2 4 ((((x2).toUInt32 >>> ((24 : Int32).toUInt32 &&& Int32.toUInt32 31)).toInt32) &&& 255)) 5 ((((x2).toUInt32 >>> ((16 : Int32).toUInt32 &&& Int32.toUInt32 31)).toInt32) &&& 255)) 6 ((((x2).toUInt32 >>> ((8 : Int32).toUInt32 &&& Int32.toUInt32 31)).toInt32) &&& 255)) 7 ((((x2).toUInt32 >>> ((0 : Int32).toUInt32 &&& Int32.toUInt32 31)).toInt32) &&& 255))))]) := by
  refine zz_enterv (cc := cX13_put) (lv := [(0, .ref x1), (1, .int x2)]) hE 3 (by decide) rfl (Nat.le_of_ble_eq_true rfl) rfl ?_
  intro p e s m args below meth c X hr hin
  refine zz_bipush X 24 dX13_put_0 rfl ?_
  refine zz_istore_n X [(2, .int 24), (0, .ref x1), (1, .int x2)] dX13_put_2 rfl (by decide) rfl ?_
  refine zz_iload_n X 0 dX13_put_3 rfl rfl ?_
  refine zz_if_lt X 49 dX13_put_4 (by decide) (fun h => absurd h (by decide)) (fun _ => ?_)
  refine zz_aload_n X 1 dX13_put_7 rfl rfl ?_
  refine zz_get X 0 9 rfl rfl (by decide) (fun w h => List.mem_cons_of_mem _ (zf_X13 w h)) rfl (List.mem_cons_of_mem _ zm_302) hf1_9 dX13_put_8 ?_
  refine zz_sipush X 6000 dX13_put_11 rfl ?_
  refine zz_icmp_ge X 49 dX13_put_14 (by decide) (fun h => absurd h (by decide)) (fun _ => ?_)
  refine zz_aload_n X 1 dX13_put_17 rfl rfl ?_
  refine zz_get X 0 8 rfl rfl (by decide) (fun w h => List.mem_cons_of_mem _ (zf_X13 w h)) rfl (List.mem_cons_of_mem _ zm_301) hf1_8 dX13_put_18 ?_
  refine zz_aload_n X 1 dX13_put_21 rfl rfl ?_
  refine zz_get X 0 9 rfl rfl (by decide) (fun w h => List.mem_cons_of_mem _ (zf_X13 w h)) rfl (List.mem_cons_of_mem _ zm_302) hf1_9 dX13_put_22 ?_
  refine zz_iload_n X 2 dX13_put_25 rfl rfl ?_
  refine zz_iload_n X 0 dX13_put_26 rfl rfl ?_
  refine zz_iushr X (((x2).toUInt32 >>> ((24 : Int32).toUInt32 &&& Int32.toUInt32 31)).toInt32) dX13_put_27 rfl ?_
  refine zz_sipush X 255 dX13_put_28 rfl ?_
  refine zz_iand X (((((x2).toUInt32 >>> ((24 : Int32).toUInt32 &&& Int32.toUInt32 31)).toInt32) &&& 255)) dX13_put_31 rfl ?_
  refine zz_iast X 1 1 rfl rfl (vp_in_nI (n := 4) (by decide) (by decide)) 4 (by decide) dX13_put_32 [(x1, .inr (13, f1)), (x3, .inl (cA 1, 6000, .inl (upd f2 4 ((((x2).toUInt32 >>> ((24 : Int32).toUInt32 &&& Int32.toUInt32 31)).toInt32) &&& 255))))] rfl ?_
  refine zz_aload_n X 1 dX13_put_33 rfl rfl ?_
  refine zz_dup X dX13_put_34 rfl ?_
  refine zz_get X 0 9 rfl rfl (by decide) (fun w h => List.mem_cons_of_mem _ (zf_X13 w h)) rfl (List.mem_cons_of_mem _ zm_302) hf1_9 dX13_put_35 ?_
  refine zz_iconst X 1 dX13_put_38 rfl ?_
  refine zz_iadd X (5) dX13_put_39 (by decide) ?_
  refine zz_put X 0 9 rfl rfl (by decide) (fun w h => List.mem_cons_of_mem _ (zf_X13 w h)) rfl (List.mem_cons_of_mem _ zm_302) tyX13 tyX13_ok nmX13 rfl (ty := .int) rfl rfl rfl (zq_lt hf1_n (by decide) (by simp only [List.length_set])) dX13_put_40 [(x1, .inr (13, (f1.set 9 (.int 5)))), (x3, .inl (cA 1, 6000, .inl (upd f2 4 ((((x2).toUInt32 >>> ((24 : Int32).toUInt32 &&& Int32.toUInt32 31)).toInt32) &&& 255))))] rfl ?_
  refine zz_iinc X 0 (16) [(2, .int 16), (0, .ref x1), (1, .int x2)] dX13_put_43 rfl (by decide) (by decide) rfl ?_
  refine zz_goto X 3 dX13_put_46 (by decide) ?_
  refine zz_iload_n X 0 dX13_put_3 rfl rfl ?_
  refine zz_if_lt X 49 dX13_put_4 (by decide) (fun h => absurd h (by decide)) (fun _ => ?_)
  refine zz_aload_n X 1 dX13_put_7 rfl rfl ?_
  refine zz_get X 0 9 rfl rfl (by decide) (fun w h => List.mem_cons_of_mem _ (zf_X13 w h)) rfl (List.mem_cons_of_mem _ zm_302) (zq_same (zq_lt hf1_n (by decide) (by simp only [List.length_set]))) dX13_put_8 ?_
  refine zz_sipush X 6000 dX13_put_11 rfl ?_
  refine zz_icmp_ge X 49 dX13_put_14 (by decide) (fun h => absurd h (by decide)) (fun _ => ?_)
  refine zz_aload_n X 1 dX13_put_17 rfl rfl ?_
  refine zz_get X 0 8 rfl rfl (by decide) (fun w h => List.mem_cons_of_mem _ (zf_X13 w h)) rfl (List.mem_cons_of_mem _ zm_301) (zq_oth (by decide) (hf1_8)) dX13_put_18 ?_
  refine zz_aload_n X 1 dX13_put_21 rfl rfl ?_
  refine zz_get X 0 9 rfl rfl (by decide) (fun w h => List.mem_cons_of_mem _ (zf_X13 w h)) rfl (List.mem_cons_of_mem _ zm_302) (zq_same (zq_lt hf1_n (by decide) (by simp only [List.length_set]))) dX13_put_22 ?_
  refine zz_iload_n X 2 dX13_put_25 rfl rfl ?_
  refine zz_iload_n X 0 dX13_put_26 rfl rfl ?_
  refine zz_iushr X (((x2).toUInt32 >>> ((16 : Int32).toUInt32 &&& Int32.toUInt32 31)).toInt32) dX13_put_27 rfl ?_
  refine zz_sipush X 255 dX13_put_28 rfl ?_
  refine zz_iand X (((((x2).toUInt32 >>> ((16 : Int32).toUInt32 &&& Int32.toUInt32 31)).toInt32) &&& 255)) dX13_put_31 rfl ?_
  refine zz_iast X 1 1 rfl rfl (vp_in_nI (n := 5) (by decide) (by decide)) 5 (by decide) dX13_put_32 [(x1, .inr (13, (f1.set 9 (.int 5)))), (x3, .inl (cA 1, 6000, .inl (upd (upd f2 4 ((((x2).toUInt32 >>> ((24 : Int32).toUInt32 &&& Int32.toUInt32 31)).toInt32) &&& 255)) 5 ((((x2).toUInt32 >>> ((16 : Int32).toUInt32 &&& Int32.toUInt32 31)).toInt32) &&& 255))))] rfl ?_
  refine zz_aload_n X 1 dX13_put_33 rfl rfl ?_
  refine zz_dup X dX13_put_34 rfl ?_
  refine zz_get X 0 9 rfl rfl (by decide) (fun w h => List.mem_cons_of_mem _ (zf_X13 w h)) rfl (List.mem_cons_of_mem _ zm_302) (zq_same (zq_lt hf1_n (by decide) (by simp only [List.length_set]))) dX13_put_35 ?_
  refine zz_iconst X 1 dX13_put_38 rfl ?_
  refine zz_iadd X (6) dX13_put_39 (by decide) ?_
  refine zz_put X 0 9 rfl rfl (by decide) (fun w h => List.mem_cons_of_mem _ (zf_X13 w h)) rfl (List.mem_cons_of_mem _ zm_302) tyX13 tyX13_ok nmX13 rfl (ty := .int) rfl rfl rfl (zq_lt hf1_n (by decide) (by simp only [List.length_set])) dX13_put_40 [(x1, .inr (13, ((f1.set 9 (.int 5)).set 9 (.int 6)))), (x3, .inl (cA 1, 6000, .inl (upd (upd f2 4 ((((x2).toUInt32 >>> ((24 : Int32).toUInt32 &&& Int32.toUInt32 31)).toInt32) &&& 255)) 5 ((((x2).toUInt32 >>> ((16 : Int32).toUInt32 &&& Int32.toUInt32 31)).toInt32) &&& 255))))] rfl ?_
  refine zz_iinc X 0 (8) [(2, .int 8), (0, .ref x1), (1, .int x2)] dX13_put_43 rfl (by decide) (by decide) rfl ?_
  refine zz_goto X 3 dX13_put_46 (by decide) ?_
  refine zz_iload_n X 0 dX13_put_3 rfl rfl ?_
  refine zz_if_lt X 49 dX13_put_4 (by decide) (fun h => absurd h (by decide)) (fun _ => ?_)
  refine zz_aload_n X 1 dX13_put_7 rfl rfl ?_
  refine zz_get X 0 9 rfl rfl (by decide) (fun w h => List.mem_cons_of_mem _ (zf_X13 w h)) rfl (List.mem_cons_of_mem _ zm_302) (zq_same (zq_lt hf1_n (by decide) (by simp only [List.length_set]))) dX13_put_8 ?_
  refine zz_sipush X 6000 dX13_put_11 rfl ?_
  refine zz_icmp_ge X 49 dX13_put_14 (by decide) (fun h => absurd h (by decide)) (fun _ => ?_)
  refine zz_aload_n X 1 dX13_put_17 rfl rfl ?_
  refine zz_get X 0 8 rfl rfl (by decide) (fun w h => List.mem_cons_of_mem _ (zf_X13 w h)) rfl (List.mem_cons_of_mem _ zm_301) (zq_oth (by decide) (zq_oth (by decide) (hf1_8))) dX13_put_18 ?_
  refine zz_aload_n X 1 dX13_put_21 rfl rfl ?_
  refine zz_get X 0 9 rfl rfl (by decide) (fun w h => List.mem_cons_of_mem _ (zf_X13 w h)) rfl (List.mem_cons_of_mem _ zm_302) (zq_same (zq_lt hf1_n (by decide) (by simp only [List.length_set]))) dX13_put_22 ?_
  refine zz_iload_n X 2 dX13_put_25 rfl rfl ?_
  refine zz_iload_n X 0 dX13_put_26 rfl rfl ?_
  refine zz_iushr X (((x2).toUInt32 >>> ((8 : Int32).toUInt32 &&& Int32.toUInt32 31)).toInt32) dX13_put_27 rfl ?_
  refine zz_sipush X 255 dX13_put_28 rfl ?_
  refine zz_iand X (((((x2).toUInt32 >>> ((8 : Int32).toUInt32 &&& Int32.toUInt32 31)).toInt32) &&& 255)) dX13_put_31 rfl ?_
  refine zz_iast X 1 1 rfl rfl (vp_in_nI (n := 6) (by decide) (by decide)) 6 (by decide) dX13_put_32 [(x1, .inr (13, ((f1.set 9 (.int 5)).set 9 (.int 6)))), (x3, .inl (cA 1, 6000, .inl (upd (upd (upd f2 4 ((((x2).toUInt32 >>> ((24 : Int32).toUInt32 &&& Int32.toUInt32 31)).toInt32) &&& 255)) 5 ((((x2).toUInt32 >>> ((16 : Int32).toUInt32 &&& Int32.toUInt32 31)).toInt32) &&& 255)) 6 ((((x2).toUInt32 >>> ((8 : Int32).toUInt32 &&& Int32.toUInt32 31)).toInt32) &&& 255))))] rfl ?_
  refine zz_aload_n X 1 dX13_put_33 rfl rfl ?_
  refine zz_dup X dX13_put_34 rfl ?_
  refine zz_get X 0 9 rfl rfl (by decide) (fun w h => List.mem_cons_of_mem _ (zf_X13 w h)) rfl (List.mem_cons_of_mem _ zm_302) (zq_same (zq_lt hf1_n (by decide) (by simp only [List.length_set]))) dX13_put_35 ?_
  refine zz_iconst X 1 dX13_put_38 rfl ?_
  refine zz_iadd X (7) dX13_put_39 (by decide) ?_
  refine zz_put X 0 9 rfl rfl (by decide) (fun w h => List.mem_cons_of_mem _ (zf_X13 w h)) rfl (List.mem_cons_of_mem _ zm_302) tyX13 tyX13_ok nmX13 rfl (ty := .int) rfl rfl rfl (zq_lt hf1_n (by decide) (by simp only [List.length_set])) dX13_put_40 [(x1, .inr (13, (((f1.set 9 (.int 5)).set 9 (.int 6)).set 9 (.int 7)))), (x3, .inl (cA 1, 6000, .inl (upd (upd (upd f2 4 ((((x2).toUInt32 >>> ((24 : Int32).toUInt32 &&& Int32.toUInt32 31)).toInt32) &&& 255)) 5 ((((x2).toUInt32 >>> ((16 : Int32).toUInt32 &&& Int32.toUInt32 31)).toInt32) &&& 255)) 6 ((((x2).toUInt32 >>> ((8 : Int32).toUInt32 &&& Int32.toUInt32 31)).toInt32) &&& 255))))] rfl ?_
  refine zz_iinc X 0 (0) [(2, .int 0), (0, .ref x1), (1, .int x2)] dX13_put_43 rfl (by decide) (by decide) rfl ?_
  refine zz_goto X 3 dX13_put_46 (by decide) ?_
  refine zz_iload_n X 0 dX13_put_3 rfl rfl ?_
  refine zz_if_lt X 49 dX13_put_4 (by decide) (fun h => absurd h (by decide)) (fun _ => ?_)
  refine zz_aload_n X 1 dX13_put_7 rfl rfl ?_
  refine zz_get X 0 9 rfl rfl (by decide) (fun w h => List.mem_cons_of_mem _ (zf_X13 w h)) rfl (List.mem_cons_of_mem _ zm_302) (zq_same (zq_lt hf1_n (by decide) (by simp only [List.length_set]))) dX13_put_8 ?_
  refine zz_sipush X 6000 dX13_put_11 rfl ?_
  refine zz_icmp_ge X 49 dX13_put_14 (by decide) (fun h => absurd h (by decide)) (fun _ => ?_)
  refine zz_aload_n X 1 dX13_put_17 rfl rfl ?_
  refine zz_get X 0 8 rfl rfl (by decide) (fun w h => List.mem_cons_of_mem _ (zf_X13 w h)) rfl (List.mem_cons_of_mem _ zm_301) (zq_oth (by decide) (zq_oth (by decide) (zq_oth (by decide) (hf1_8)))) dX13_put_18 ?_
  refine zz_aload_n X 1 dX13_put_21 rfl rfl ?_
  refine zz_get X 0 9 rfl rfl (by decide) (fun w h => List.mem_cons_of_mem _ (zf_X13 w h)) rfl (List.mem_cons_of_mem _ zm_302) (zq_same (zq_lt hf1_n (by decide) (by simp only [List.length_set]))) dX13_put_22 ?_
  refine zz_iload_n X 2 dX13_put_25 rfl rfl ?_
  refine zz_iload_n X 0 dX13_put_26 rfl rfl ?_
  refine zz_iushr X (((x2).toUInt32 >>> ((0 : Int32).toUInt32 &&& Int32.toUInt32 31)).toInt32) dX13_put_27 rfl ?_
  refine zz_sipush X 255 dX13_put_28 rfl ?_
  refine zz_iand X (((((x2).toUInt32 >>> ((0 : Int32).toUInt32 &&& Int32.toUInt32 31)).toInt32) &&& 255)) dX13_put_31 rfl ?_
  refine zz_iast X 1 1 rfl rfl (vp_in_nI (n := 7) (by decide) (by decide)) 7 (by decide) dX13_put_32 [(x1, .inr (13, (((f1.set 9 (.int 5)).set 9 (.int 6)).set 9 (.int 7)))), (x3, .inl (cA 1, 6000, .inl (upd (upd (upd (upd f2 4 ((((x2).toUInt32 >>> ((24 : Int32).toUInt32 &&& Int32.toUInt32 31)).toInt32) &&& 255)) 5 ((((x2).toUInt32 >>> ((16 : Int32).toUInt32 &&& Int32.toUInt32 31)).toInt32) &&& 255)) 6 ((((x2).toUInt32 >>> ((8 : Int32).toUInt32 &&& Int32.toUInt32 31)).toInt32) &&& 255)) 7 ((((x2).toUInt32 >>> ((0 : Int32).toUInt32 &&& Int32.toUInt32 31)).toInt32) &&& 255))))] rfl ?_
  refine zz_aload_n X 1 dX13_put_33 rfl rfl ?_
  refine zz_dup X dX13_put_34 rfl ?_
  refine zz_get X 0 9 rfl rfl (by decide) (fun w h => List.mem_cons_of_mem _ (zf_X13 w h)) rfl (List.mem_cons_of_mem _ zm_302) (zq_same (zq_lt hf1_n (by decide) (by simp only [List.length_set]))) dX13_put_35 ?_
  refine zz_iconst X 1 dX13_put_38 rfl ?_
  refine zz_iadd X (8) dX13_put_39 (by decide) ?_
  refine zz_put X 0 9 rfl rfl (by decide) (fun w h => List.mem_cons_of_mem _ (zf_X13 w h)) rfl (List.mem_cons_of_mem _ zm_302) tyX13 tyX13_ok nmX13 rfl (ty := .int) rfl rfl rfl (zq_lt hf1_n (by decide) (by simp only [List.length_set])) dX13_put_40 [(x1, .inr (13, ((((f1.set 9 (.int 5)).set 9 (.int 6)).set 9 (.int 7)).set 9 (.int 8)))), (x3, .inl (cA 1, 6000, .inl (upd (upd (upd (upd f2 4 ((((x2).toUInt32 >>> ((24 : Int32).toUInt32 &&& Int32.toUInt32 31)).toInt32) &&& 255)) 5 ((((x2).toUInt32 >>> ((16 : Int32).toUInt32 &&& Int32.toUInt32 31)).toInt32) &&& 255)) 6 ((((x2).toUInt32 >>> ((8 : Int32).toUInt32 &&& Int32.toUInt32 31)).toInt32) &&& 255)) 7 ((((x2).toUInt32 >>> ((0 : Int32).toUInt32 &&& Int32.toUInt32 31)).toInt32) &&& 255))))] rfl ?_
  refine zz_iinc X 0 ((-8)) [(2, .int (-8)), (0, .ref x1), (1, .int x2)] dX13_put_43 rfl (by decide) (by decide) rfl ?_
  refine zz_goto X 3 dX13_put_46 (by decide) ?_
  refine zz_iload_n X 0 dX13_put_3 rfl rfl ?_
  refine zz_if_lt X 49 dX13_put_4 (by decide) (fun _ => ?_) (fun h => absurd (by decide) h)
  exact zz_vret X hr (()) [0, 1] (by decide) rfl rfl (Nat.le_of_ble_eq_true rfl) (Nat.le_of_ble_eq_true rfl) (trivial) dX13_put_49

set_option maxHeartbeats 4000000 in
set_option maxRecDepth 100000 in
/-- put -/
theorem kX13_put_3 {E : zEn} (hE : zOk E) (l : Launch) (D : va_G) (cA : Nat → ClassId) (K : Nat → Nat) (V : Nat → Nat) (x1 : Nat) (x2 : Int32) (f1 : List Value) (x3 : Nat) (f2 : Nat → Int32) (hss : zSS E K V) (hf1_n : f1.length = 23) (hf1_9 : f1[9]? = some (.int 8)) (hf1_8 : f1[8]? = some (.ref x3)) : zMv E l yX13_put zwX13_put ({ frames := 0, cells := 0, slots := 0, locals := 0 }) D vwCl (zT cA) [.ref x1, .int x2] [(x1, .inr (13, f1)), (x3, .inl (cA 1, 6000, .inl f2))] (S := Unit) (fun (u : Unit) => (True)) (fun (u : Unit) => [(x1, .inr (13, ((((f1.set 9 (.int 9)).set 9 (.int 10)).set 9 (.int 11)).set 9 (.int 12)))), (x3, .inl (cA 1, 6000, .inl (upd (upd (upd (upd f2 8 ((((x2).toUInt32 >>> ((24 : Int32).toUInt32 &&& Int32.toUInt32 31)).toInt32) &&& 255)) 9 ((((x2).toUInt32 >>> ((16 : Int32).toUInt32 &&& Int32.toUInt32 31)).toInt32) &&& 255)) 10 ((((x2).toUInt32 >>> ((8 : Int32).toUInt32 &&& Int32.toUInt32 31)).toInt32) &&& 255)) 11 ((((x2).toUInt32 >>> ((0 : Int32).toUInt32 &&& Int32.toUInt32 31)).toInt32) &&& 255))))]) := by
  refine zz_enterv (cc := cX13_put) (lv := [(0, .ref x1), (1, .int x2)]) hE 3 (by decide) rfl (Nat.le_of_ble_eq_true rfl) rfl ?_
  intro p e s m args below meth c X hr hin
  refine zz_bipush X 24 dX13_put_0 rfl ?_
  refine zz_istore_n X [(2, .int 24), (0, .ref x1), (1, .int x2)] dX13_put_2 rfl (by decide) rfl ?_
  refine zz_iload_n X 0 dX13_put_3 rfl rfl ?_
  refine zz_if_lt X 49 dX13_put_4 (by decide) (fun h => absurd h (by decide)) (fun _ => ?_)
  refine zz_aload_n X 1 dX13_put_7 rfl rfl ?_
  refine zz_get X 0 9 rfl rfl (by decide) (fun w h => List.mem_cons_of_mem _ (zf_X13 w h)) rfl (List.mem_cons_of_mem _ zm_302) hf1_9 dX13_put_8 ?_
  refine zz_sipush X 6000 dX13_put_11 rfl ?_
  refine zz_icmp_ge X 49 dX13_put_14 (by decide) (fun h => absurd h (by decide)) (fun _ => ?_)
  refine zz_aload_n X 1 dX13_put_17 rfl rfl ?_
  refine zz_get X 0 8 rfl rfl (by decide) (fun w h => List.mem_cons_of_mem _ (zf_X13 w h)) rfl (List.mem_cons_of_mem _ zm_301) hf1_8 dX13_put_18 ?_
  refine zz_aload_n X 1 dX13_put_21 rfl rfl ?_
  refine zz_get X 0 9 rfl rfl (by decide) (fun w h => List.mem_cons_of_mem _ (zf_X13 w h)) rfl (List.mem_cons_of_mem _ zm_302) hf1_9 dX13_put_22 ?_
  refine zz_iload_n X 2 dX13_put_25 rfl rfl ?_
  refine zz_iload_n X 0 dX13_put_26 rfl rfl ?_
  refine zz_iushr X (((x2).toUInt32 >>> ((24 : Int32).toUInt32 &&& Int32.toUInt32 31)).toInt32) dX13_put_27 rfl ?_
  refine zz_sipush X 255 dX13_put_28 rfl ?_
  refine zz_iand X (((((x2).toUInt32 >>> ((24 : Int32).toUInt32 &&& Int32.toUInt32 31)).toInt32) &&& 255)) dX13_put_31 rfl ?_
  refine zz_iast X 1 1 rfl rfl (vp_in_nI (n := 8) (by decide) (by decide)) 8 (by decide) dX13_put_32 [(x1, .inr (13, f1)), (x3, .inl (cA 1, 6000, .inl (upd f2 8 ((((x2).toUInt32 >>> ((24 : Int32).toUInt32 &&& Int32.toUInt32 31)).toInt32) &&& 255))))] rfl ?_
  refine zz_aload_n X 1 dX13_put_33 rfl rfl ?_
  refine zz_dup X dX13_put_34 rfl ?_
  refine zz_get X 0 9 rfl rfl (by decide) (fun w h => List.mem_cons_of_mem _ (zf_X13 w h)) rfl (List.mem_cons_of_mem _ zm_302) hf1_9 dX13_put_35 ?_
  refine zz_iconst X 1 dX13_put_38 rfl ?_
  refine zz_iadd X (9) dX13_put_39 (by decide) ?_
  refine zz_put X 0 9 rfl rfl (by decide) (fun w h => List.mem_cons_of_mem _ (zf_X13 w h)) rfl (List.mem_cons_of_mem _ zm_302) tyX13 tyX13_ok nmX13 rfl (ty := .int) rfl rfl rfl (zq_lt hf1_n (by decide) (by simp only [List.length_set])) dX13_put_40 [(x1, .inr (13, (f1.set 9 (.int 9)))), (x3, .inl (cA 1, 6000, .inl (upd f2 8 ((((x2).toUInt32 >>> ((24 : Int32).toUInt32 &&& Int32.toUInt32 31)).toInt32) &&& 255))))] rfl ?_
  refine zz_iinc X 0 (16) [(2, .int 16), (0, .ref x1), (1, .int x2)] dX13_put_43 rfl (by decide) (by decide) rfl ?_
  refine zz_goto X 3 dX13_put_46 (by decide) ?_
  refine zz_iload_n X 0 dX13_put_3 rfl rfl ?_
  refine zz_if_lt X 49 dX13_put_4 (by decide) (fun h => absurd h (by decide)) (fun _ => ?_)
  refine zz_aload_n X 1 dX13_put_7 rfl rfl ?_
  refine zz_get X 0 9 rfl rfl (by decide) (fun w h => List.mem_cons_of_mem _ (zf_X13 w h)) rfl (List.mem_cons_of_mem _ zm_302) (zq_same (zq_lt hf1_n (by decide) (by simp only [List.length_set]))) dX13_put_8 ?_
  refine zz_sipush X 6000 dX13_put_11 rfl ?_
  refine zz_icmp_ge X 49 dX13_put_14 (by decide) (fun h => absurd h (by decide)) (fun _ => ?_)
  refine zz_aload_n X 1 dX13_put_17 rfl rfl ?_
  refine zz_get X 0 8 rfl rfl (by decide) (fun w h => List.mem_cons_of_mem _ (zf_X13 w h)) rfl (List.mem_cons_of_mem _ zm_301) (zq_oth (by decide) (hf1_8)) dX13_put_18 ?_
  refine zz_aload_n X 1 dX13_put_21 rfl rfl ?_
  refine zz_get X 0 9 rfl rfl (by decide) (fun w h => List.mem_cons_of_mem _ (zf_X13 w h)) rfl (List.mem_cons_of_mem _ zm_302) (zq_same (zq_lt hf1_n (by decide) (by simp only [List.length_set]))) dX13_put_22 ?_
  refine zz_iload_n X 2 dX13_put_25 rfl rfl ?_
  refine zz_iload_n X 0 dX13_put_26 rfl rfl ?_
  refine zz_iushr X (((x2).toUInt32 >>> ((16 : Int32).toUInt32 &&& Int32.toUInt32 31)).toInt32) dX13_put_27 rfl ?_
  refine zz_sipush X 255 dX13_put_28 rfl ?_
  refine zz_iand X (((((x2).toUInt32 >>> ((16 : Int32).toUInt32 &&& Int32.toUInt32 31)).toInt32) &&& 255)) dX13_put_31 rfl ?_
  refine zz_iast X 1 1 rfl rfl (vp_in_nI (n := 9) (by decide) (by decide)) 9 (by decide) dX13_put_32 [(x1, .inr (13, (f1.set 9 (.int 9)))), (x3, .inl (cA 1, 6000, .inl (upd (upd f2 8 ((((x2).toUInt32 >>> ((24 : Int32).toUInt32 &&& Int32.toUInt32 31)).toInt32) &&& 255)) 9 ((((x2).toUInt32 >>> ((16 : Int32).toUInt32 &&& Int32.toUInt32 31)).toInt32) &&& 255))))] rfl ?_
  refine zz_aload_n X 1 dX13_put_33 rfl rfl ?_
  refine zz_dup X dX13_put_34 rfl ?_
  refine zz_get X 0 9 rfl rfl (by decide) (fun w h => List.mem_cons_of_mem _ (zf_X13 w h)) rfl (List.mem_cons_of_mem _ zm_302) (zq_same (zq_lt hf1_n (by decide) (by simp only [List.length_set]))) dX13_put_35 ?_
  refine zz_iconst X 1 dX13_put_38 rfl ?_
  refine zz_iadd X (10) dX13_put_39 (by decide) ?_
  refine zz_put X 0 9 rfl rfl (by decide) (fun w h => List.mem_cons_of_mem _ (zf_X13 w h)) rfl (List.mem_cons_of_mem _ zm_302) tyX13 tyX13_ok nmX13 rfl (ty := .int) rfl rfl rfl (zq_lt hf1_n (by decide) (by simp only [List.length_set])) dX13_put_40 [(x1, .inr (13, ((f1.set 9 (.int 9)).set 9 (.int 10)))), (x3, .inl (cA 1, 6000, .inl (upd (upd f2 8 ((((x2).toUInt32 >>> ((24 : Int32).toUInt32 &&& Int32.toUInt32 31)).toInt32) &&& 255)) 9 ((((x2).toUInt32 >>> ((16 : Int32).toUInt32 &&& Int32.toUInt32 31)).toInt32) &&& 255))))] rfl ?_
  refine zz_iinc X 0 (8) [(2, .int 8), (0, .ref x1), (1, .int x2)] dX13_put_43 rfl (by decide) (by decide) rfl ?_
  refine zz_goto X 3 dX13_put_46 (by decide) ?_
  refine zz_iload_n X 0 dX13_put_3 rfl rfl ?_
  refine zz_if_lt X 49 dX13_put_4 (by decide) (fun h => absurd h (by decide)) (fun _ => ?_)
  refine zz_aload_n X 1 dX13_put_7 rfl rfl ?_
  refine zz_get X 0 9 rfl rfl (by decide) (fun w h => List.mem_cons_of_mem _ (zf_X13 w h)) rfl (List.mem_cons_of_mem _ zm_302) (zq_same (zq_lt hf1_n (by decide) (by simp only [List.length_set]))) dX13_put_8 ?_
  refine zz_sipush X 6000 dX13_put_11 rfl ?_
  refine zz_icmp_ge X 49 dX13_put_14 (by decide) (fun h => absurd h (by decide)) (fun _ => ?_)
  refine zz_aload_n X 1 dX13_put_17 rfl rfl ?_
  refine zz_get X 0 8 rfl rfl (by decide) (fun w h => List.mem_cons_of_mem _ (zf_X13 w h)) rfl (List.mem_cons_of_mem _ zm_301) (zq_oth (by decide) (zq_oth (by decide) (hf1_8))) dX13_put_18 ?_
  refine zz_aload_n X 1 dX13_put_21 rfl rfl ?_
  refine zz_get X 0 9 rfl rfl (by decide) (fun w h => List.mem_cons_of_mem _ (zf_X13 w h)) rfl (List.mem_cons_of_mem _ zm_302) (zq_same (zq_lt hf1_n (by decide) (by simp only [List.length_set]))) dX13_put_22 ?_
  refine zz_iload_n X 2 dX13_put_25 rfl rfl ?_
  refine zz_iload_n X 0 dX13_put_26 rfl rfl ?_
  refine zz_iushr X (((x2).toUInt32 >>> ((8 : Int32).toUInt32 &&& Int32.toUInt32 31)).toInt32) dX13_put_27 rfl ?_
  refine zz_sipush X 255 dX13_put_28 rfl ?_
  refine zz_iand X (((((x2).toUInt32 >>> ((8 : Int32).toUInt32 &&& Int32.toUInt32 31)).toInt32) &&& 255)) dX13_put_31 rfl ?_
  refine zz_iast X 1 1 rfl rfl (vp_in_nI (n := 10) (by decide) (by decide)) 10 (by decide) dX13_put_32 [(x1, .inr (13, ((f1.set 9 (.int 9)).set 9 (.int 10)))), (x3, .inl (cA 1, 6000, .inl (upd (upd (upd f2 8 ((((x2).toUInt32 >>> ((24 : Int32).toUInt32 &&& Int32.toUInt32 31)).toInt32) &&& 255)) 9 ((((x2).toUInt32 >>> ((16 : Int32).toUInt32 &&& Int32.toUInt32 31)).toInt32) &&& 255)) 10 ((((x2).toUInt32 >>> ((8 : Int32).toUInt32 &&& Int32.toUInt32 31)).toInt32) &&& 255))))] rfl ?_
  refine zz_aload_n X 1 dX13_put_33 rfl rfl ?_
  refine zz_dup X dX13_put_34 rfl ?_
  refine zz_get X 0 9 rfl rfl (by decide) (fun w h => List.mem_cons_of_mem _ (zf_X13 w h)) rfl (List.mem_cons_of_mem _ zm_302) (zq_same (zq_lt hf1_n (by decide) (by simp only [List.length_set]))) dX13_put_35 ?_
  refine zz_iconst X 1 dX13_put_38 rfl ?_
  refine zz_iadd X (11) dX13_put_39 (by decide) ?_
  refine zz_put X 0 9 rfl rfl (by decide) (fun w h => List.mem_cons_of_mem _ (zf_X13 w h)) rfl (List.mem_cons_of_mem _ zm_302) tyX13 tyX13_ok nmX13 rfl (ty := .int) rfl rfl rfl (zq_lt hf1_n (by decide) (by simp only [List.length_set])) dX13_put_40 [(x1, .inr (13, (((f1.set 9 (.int 9)).set 9 (.int 10)).set 9 (.int 11)))), (x3, .inl (cA 1, 6000, .inl (upd (upd (upd f2 8 ((((x2).toUInt32 >>> ((24 : Int32).toUInt32 &&& Int32.toUInt32 31)).toInt32) &&& 255)) 9 ((((x2).toUInt32 >>> ((16 : Int32).toUInt32 &&& Int32.toUInt32 31)).toInt32) &&& 255)) 10 ((((x2).toUInt32 >>> ((8 : Int32).toUInt32 &&& Int32.toUInt32 31)).toInt32) &&& 255))))] rfl ?_
  refine zz_iinc X 0 (0) [(2, .int 0), (0, .ref x1), (1, .int x2)] dX13_put_43 rfl (by decide) (by decide) rfl ?_
  refine zz_goto X 3 dX13_put_46 (by decide) ?_
  refine zz_iload_n X 0 dX13_put_3 rfl rfl ?_
  refine zz_if_lt X 49 dX13_put_4 (by decide) (fun h => absurd h (by decide)) (fun _ => ?_)
  refine zz_aload_n X 1 dX13_put_7 rfl rfl ?_
  refine zz_get X 0 9 rfl rfl (by decide) (fun w h => List.mem_cons_of_mem _ (zf_X13 w h)) rfl (List.mem_cons_of_mem _ zm_302) (zq_same (zq_lt hf1_n (by decide) (by simp only [List.length_set]))) dX13_put_8 ?_
  refine zz_sipush X 6000 dX13_put_11 rfl ?_
  refine zz_icmp_ge X 49 dX13_put_14 (by decide) (fun h => absurd h (by decide)) (fun _ => ?_)
  refine zz_aload_n X 1 dX13_put_17 rfl rfl ?_
  refine zz_get X 0 8 rfl rfl (by decide) (fun w h => List.mem_cons_of_mem _ (zf_X13 w h)) rfl (List.mem_cons_of_mem _ zm_301) (zq_oth (by decide) (zq_oth (by decide) (zq_oth (by decide) (hf1_8)))) dX13_put_18 ?_
  refine zz_aload_n X 1 dX13_put_21 rfl rfl ?_
  refine zz_get X 0 9 rfl rfl (by decide) (fun w h => List.mem_cons_of_mem _ (zf_X13 w h)) rfl (List.mem_cons_of_mem _ zm_302) (zq_same (zq_lt hf1_n (by decide) (by simp only [List.length_set]))) dX13_put_22 ?_
  refine zz_iload_n X 2 dX13_put_25 rfl rfl ?_
  refine zz_iload_n X 0 dX13_put_26 rfl rfl ?_
  refine zz_iushr X (((x2).toUInt32 >>> ((0 : Int32).toUInt32 &&& Int32.toUInt32 31)).toInt32) dX13_put_27 rfl ?_
  refine zz_sipush X 255 dX13_put_28 rfl ?_
  refine zz_iand X (((((x2).toUInt32 >>> ((0 : Int32).toUInt32 &&& Int32.toUInt32 31)).toInt32) &&& 255)) dX13_put_31 rfl ?_
  refine zz_iast X 1 1 rfl rfl (vp_in_nI (n := 11) (by decide) (by decide)) 11 (by decide) dX13_put_32 [(x1, .inr (13, (((f1.set 9 (.int 9)).set 9 (.int 10)).set 9 (.int 11)))), (x3, .inl (cA 1, 6000, .inl (upd (upd (upd (upd f2 8 ((((x2).toUInt32 >>> ((24 : Int32).toUInt32 &&& Int32.toUInt32 31)).toInt32) &&& 255)) 9 ((((x2).toUInt32 >>> ((16 : Int32).toUInt32 &&& Int32.toUInt32 31)).toInt32) &&& 255)) 10 ((((x2).toUInt32 >>> ((8 : Int32).toUInt32 &&& Int32.toUInt32 31)).toInt32) &&& 255)) 11 ((((x2).toUInt32 >>> ((0 : Int32).toUInt32 &&& Int32.toUInt32 31)).toInt32) &&& 255))))] rfl ?_
  refine zz_aload_n X 1 dX13_put_33 rfl rfl ?_
  refine zz_dup X dX13_put_34 rfl ?_
  refine zz_get X 0 9 rfl rfl (by decide) (fun w h => List.mem_cons_of_mem _ (zf_X13 w h)) rfl (List.mem_cons_of_mem _ zm_302) (zq_same (zq_lt hf1_n (by decide) (by simp only [List.length_set]))) dX13_put_35 ?_
  refine zz_iconst X 1 dX13_put_38 rfl ?_
  refine zz_iadd X (12) dX13_put_39 (by decide) ?_
  refine zz_put X 0 9 rfl rfl (by decide) (fun w h => List.mem_cons_of_mem _ (zf_X13 w h)) rfl (List.mem_cons_of_mem _ zm_302) tyX13 tyX13_ok nmX13 rfl (ty := .int) rfl rfl rfl (zq_lt hf1_n (by decide) (by simp only [List.length_set])) dX13_put_40 [(x1, .inr (13, ((((f1.set 9 (.int 9)).set 9 (.int 10)).set 9 (.int 11)).set 9 (.int 12)))), (x3, .inl (cA 1, 6000, .inl (upd (upd (upd (upd f2 8 ((((x2).toUInt32 >>> ((24 : Int32).toUInt32 &&& Int32.toUInt32 31)).toInt32) &&& 255)) 9 ((((x2).toUInt32 >>> ((16 : Int32).toUInt32 &&& Int32.toUInt32 31)).toInt32) &&& 255)) 10 ((((x2).toUInt32 >>> ((8 : Int32).toUInt32 &&& Int32.toUInt32 31)).toInt32) &&& 255)) 11 ((((x2).toUInt32 >>> ((0 : Int32).toUInt32 &&& Int32.toUInt32 31)).toInt32) &&& 255))))] rfl ?_
  refine zz_iinc X 0 ((-8)) [(2, .int (-8)), (0, .ref x1), (1, .int x2)] dX13_put_43 rfl (by decide) (by decide) rfl ?_
  refine zz_goto X 3 dX13_put_46 (by decide) ?_
  refine zz_iload_n X 0 dX13_put_3 rfl rfl ?_
  refine zz_if_lt X 49 dX13_put_4 (by decide) (fun _ => ?_) (fun h => absurd (by decide) h)
  exact zz_vret X hr (()) [0, 1] (by decide) rfl rfl (Nat.le_of_ble_eq_true rfl) (Nat.le_of_ble_eq_true rfl) (trivial) dX13_put_49

set_option maxHeartbeats 4000000 in
set_option maxRecDepth 100000 in
/-- put -/
theorem kX13_put_4 {E : zEn} (hE : zOk E) (l : Launch) (D : va_G) (cA : Nat → ClassId) (K : Nat → Nat) (V : Nat → Nat) (x1 : Nat) (x2 : Int32) (f1 : List Value) (x3 : Nat) (f2 : Nat → Int32) (hss : zSS E K V) (hf1_n : f1.length = 23) (hf1_9 : f1[9]? = some (.int 12)) (hf1_8 : f1[8]? = some (.ref x3)) : zMv E l yX13_put zwX13_put ({ frames := 0, cells := 0, slots := 0, locals := 0 }) D vwCl (zT cA) [.ref x1, .int x2] [(x1, .inr (13, f1)), (x3, .inl (cA 1, 6000, .inl f2))] (S := Unit) (fun (u : Unit) => (True)) (fun (u : Unit) => [(x1, .inr (13, ((((f1.set 9 (.int 13)).set 9 (.int 14)).set 9 (.int 15)).set 9 (.int 16)))), (x3, .inl (cA 1, 6000, .inl (upd (upd (upd (upd f2 12 ((((x2).toUInt32 >>> ((24 : Int32).toUInt32 &&& Int32.toUInt32 31)).toInt32) &&& 255)) 13 ((((x2).toUInt32 >>> ((16 : Int32).toUInt32 &&& Int32.toUInt32 31)).toInt32) &&& 255)) 14 ((((x2).toUInt32 >>> ((8 : Int32).toUInt32 &&& Int32.toUInt32 31)).toInt32) &&& 255)) 15 ((((x2).toUInt32 >>> ((0 : Int32).toUInt32 &&& Int32.toUInt32 31)).toInt32) &&& 255))))]) := by
  refine zz_enterv (cc := cX13_put) (lv := [(0, .ref x1), (1, .int x2)]) hE 3 (by decide) rfl (Nat.le_of_ble_eq_true rfl) rfl ?_
  intro p e s m args below meth c X hr hin
  refine zz_bipush X 24 dX13_put_0 rfl ?_
  refine zz_istore_n X [(2, .int 24), (0, .ref x1), (1, .int x2)] dX13_put_2 rfl (by decide) rfl ?_
  refine zz_iload_n X 0 dX13_put_3 rfl rfl ?_
  refine zz_if_lt X 49 dX13_put_4 (by decide) (fun h => absurd h (by decide)) (fun _ => ?_)
  refine zz_aload_n X 1 dX13_put_7 rfl rfl ?_
  refine zz_get X 0 9 rfl rfl (by decide) (fun w h => List.mem_cons_of_mem _ (zf_X13 w h)) rfl (List.mem_cons_of_mem _ zm_302) hf1_9 dX13_put_8 ?_
  refine zz_sipush X 6000 dX13_put_11 rfl ?_
  refine zz_icmp_ge X 49 dX13_put_14 (by decide) (fun h => absurd h (by decide)) (fun _ => ?_)
  refine zz_aload_n X 1 dX13_put_17 rfl rfl ?_
  refine zz_get X 0 8 rfl rfl (by decide) (fun w h => List.mem_cons_of_mem _ (zf_X13 w h)) rfl (List.mem_cons_of_mem _ zm_301) hf1_8 dX13_put_18 ?_
  refine zz_aload_n X 1 dX13_put_21 rfl rfl ?_
  refine zz_get X 0 9 rfl rfl (by decide) (fun w h => List.mem_cons_of_mem _ (zf_X13 w h)) rfl (List.mem_cons_of_mem _ zm_302) hf1_9 dX13_put_22 ?_
  refine zz_iload_n X 2 dX13_put_25 rfl rfl ?_
  refine zz_iload_n X 0 dX13_put_26 rfl rfl ?_
  refine zz_iushr X (((x2).toUInt32 >>> ((24 : Int32).toUInt32 &&& Int32.toUInt32 31)).toInt32) dX13_put_27 rfl ?_
  refine zz_sipush X 255 dX13_put_28 rfl ?_
  refine zz_iand X (((((x2).toUInt32 >>> ((24 : Int32).toUInt32 &&& Int32.toUInt32 31)).toInt32) &&& 255)) dX13_put_31 rfl ?_
  refine zz_iast X 1 1 rfl rfl (vp_in_nI (n := 12) (by decide) (by decide)) 12 (by decide) dX13_put_32 [(x1, .inr (13, f1)), (x3, .inl (cA 1, 6000, .inl (upd f2 12 ((((x2).toUInt32 >>> ((24 : Int32).toUInt32 &&& Int32.toUInt32 31)).toInt32) &&& 255))))] rfl ?_
  refine zz_aload_n X 1 dX13_put_33 rfl rfl ?_
  refine zz_dup X dX13_put_34 rfl ?_
  refine zz_get X 0 9 rfl rfl (by decide) (fun w h => List.mem_cons_of_mem _ (zf_X13 w h)) rfl (List.mem_cons_of_mem _ zm_302) hf1_9 dX13_put_35 ?_
  refine zz_iconst X 1 dX13_put_38 rfl ?_
  refine zz_iadd X (13) dX13_put_39 (by decide) ?_
  refine zz_put X 0 9 rfl rfl (by decide) (fun w h => List.mem_cons_of_mem _ (zf_X13 w h)) rfl (List.mem_cons_of_mem _ zm_302) tyX13 tyX13_ok nmX13 rfl (ty := .int) rfl rfl rfl (zq_lt hf1_n (by decide) (by simp only [List.length_set])) dX13_put_40 [(x1, .inr (13, (f1.set 9 (.int 13)))), (x3, .inl (cA 1, 6000, .inl (upd f2 12 ((((x2).toUInt32 >>> ((24 : Int32).toUInt32 &&& Int32.toUInt32 31)).toInt32) &&& 255))))] rfl ?_
  refine zz_iinc X 0 (16) [(2, .int 16), (0, .ref x1), (1, .int x2)] dX13_put_43 rfl (by decide) (by decide) rfl ?_
  refine zz_goto X 3 dX13_put_46 (by decide) ?_
  refine zz_iload_n X 0 dX13_put_3 rfl rfl ?_
  refine zz_if_lt X 49 dX13_put_4 (by decide) (fun h => absurd h (by decide)) (fun _ => ?_)
  refine zz_aload_n X 1 dX13_put_7 rfl rfl ?_
  refine zz_get X 0 9 rfl rfl (by decide) (fun w h => List.mem_cons_of_mem _ (zf_X13 w h)) rfl (List.mem_cons_of_mem _ zm_302) (zq_same (zq_lt hf1_n (by decide) (by simp only [List.length_set]))) dX13_put_8 ?_
  refine zz_sipush X 6000 dX13_put_11 rfl ?_
  refine zz_icmp_ge X 49 dX13_put_14 (by decide) (fun h => absurd h (by decide)) (fun _ => ?_)
  refine zz_aload_n X 1 dX13_put_17 rfl rfl ?_
  refine zz_get X 0 8 rfl rfl (by decide) (fun w h => List.mem_cons_of_mem _ (zf_X13 w h)) rfl (List.mem_cons_of_mem _ zm_301) (zq_oth (by decide) (hf1_8)) dX13_put_18 ?_
  refine zz_aload_n X 1 dX13_put_21 rfl rfl ?_
  refine zz_get X 0 9 rfl rfl (by decide) (fun w h => List.mem_cons_of_mem _ (zf_X13 w h)) rfl (List.mem_cons_of_mem _ zm_302) (zq_same (zq_lt hf1_n (by decide) (by simp only [List.length_set]))) dX13_put_22 ?_
  refine zz_iload_n X 2 dX13_put_25 rfl rfl ?_
  refine zz_iload_n X 0 dX13_put_26 rfl rfl ?_
  refine zz_iushr X (((x2).toUInt32 >>> ((16 : Int32).toUInt32 &&& Int32.toUInt32 31)).toInt32) dX13_put_27 rfl ?_
  refine zz_sipush X 255 dX13_put_28 rfl ?_
  refine zz_iand X (((((x2).toUInt32 >>> ((16 : Int32).toUInt32 &&& Int32.toUInt32 31)).toInt32) &&& 255)) dX13_put_31 rfl ?_
  refine zz_iast X 1 1 rfl rfl (vp_in_nI (n := 13) (by decide) (by decide)) 13 (by decide) dX13_put_32 [(x1, .inr (13, (f1.set 9 (.int 13)))), (x3, .inl (cA 1, 6000, .inl (upd (upd f2 12 ((((x2).toUInt32 >>> ((24 : Int32).toUInt32 &&& Int32.toUInt32 31)).toInt32) &&& 255)) 13 ((((x2).toUInt32 >>> ((16 : Int32).toUInt32 &&& Int32.toUInt32 31)).toInt32) &&& 255))))] rfl ?_
  refine zz_aload_n X 1 dX13_put_33 rfl rfl ?_
  refine zz_dup X dX13_put_34 rfl ?_
  refine zz_get X 0 9 rfl rfl (by decide) (fun w h => List.mem_cons_of_mem _ (zf_X13 w h)) rfl (List.mem_cons_of_mem _ zm_302) (zq_same (zq_lt hf1_n (by decide) (by simp only [List.length_set]))) dX13_put_35 ?_
  refine zz_iconst X 1 dX13_put_38 rfl ?_
  refine zz_iadd X (14) dX13_put_39 (by decide) ?_
  refine zz_put X 0 9 rfl rfl (by decide) (fun w h => List.mem_cons_of_mem _ (zf_X13 w h)) rfl (List.mem_cons_of_mem _ zm_302) tyX13 tyX13_ok nmX13 rfl (ty := .int) rfl rfl rfl (zq_lt hf1_n (by decide) (by simp only [List.length_set])) dX13_put_40 [(x1, .inr (13, ((f1.set 9 (.int 13)).set 9 (.int 14)))), (x3, .inl (cA 1, 6000, .inl (upd (upd f2 12 ((((x2).toUInt32 >>> ((24 : Int32).toUInt32 &&& Int32.toUInt32 31)).toInt32) &&& 255)) 13 ((((x2).toUInt32 >>> ((16 : Int32).toUInt32 &&& Int32.toUInt32 31)).toInt32) &&& 255))))] rfl ?_
  refine zz_iinc X 0 (8) [(2, .int 8), (0, .ref x1), (1, .int x2)] dX13_put_43 rfl (by decide) (by decide) rfl ?_
  refine zz_goto X 3 dX13_put_46 (by decide) ?_
  refine zz_iload_n X 0 dX13_put_3 rfl rfl ?_
  refine zz_if_lt X 49 dX13_put_4 (by decide) (fun h => absurd h (by decide)) (fun _ => ?_)
  refine zz_aload_n X 1 dX13_put_7 rfl rfl ?_
  refine zz_get X 0 9 rfl rfl (by decide) (fun w h => List.mem_cons_of_mem _ (zf_X13 w h)) rfl (List.mem_cons_of_mem _ zm_302) (zq_same (zq_lt hf1_n (by decide) (by simp only [List.length_set]))) dX13_put_8 ?_
  refine zz_sipush X 6000 dX13_put_11 rfl ?_
  refine zz_icmp_ge X 49 dX13_put_14 (by decide) (fun h => absurd h (by decide)) (fun _ => ?_)
  refine zz_aload_n X 1 dX13_put_17 rfl rfl ?_
  refine zz_get X 0 8 rfl rfl (by decide) (fun w h => List.mem_cons_of_mem _ (zf_X13 w h)) rfl (List.mem_cons_of_mem _ zm_301) (zq_oth (by decide) (zq_oth (by decide) (hf1_8))) dX13_put_18 ?_
  refine zz_aload_n X 1 dX13_put_21 rfl rfl ?_
  refine zz_get X 0 9 rfl rfl (by decide) (fun w h => List.mem_cons_of_mem _ (zf_X13 w h)) rfl (List.mem_cons_of_mem _ zm_302) (zq_same (zq_lt hf1_n (by decide) (by simp only [List.length_set]))) dX13_put_22 ?_
  refine zz_iload_n X 2 dX13_put_25 rfl rfl ?_
  refine zz_iload_n X 0 dX13_put_26 rfl rfl ?_
  refine zz_iushr X (((x2).toUInt32 >>> ((8 : Int32).toUInt32 &&& Int32.toUInt32 31)).toInt32) dX13_put_27 rfl ?_
  refine zz_sipush X 255 dX13_put_28 rfl ?_
  refine zz_iand X (((((x2).toUInt32 >>> ((8 : Int32).toUInt32 &&& Int32.toUInt32 31)).toInt32) &&& 255)) dX13_put_31 rfl ?_
  refine zz_iast X 1 1 rfl rfl (vp_in_nI (n := 14) (by decide) (by decide)) 14 (by decide) dX13_put_32 [(x1, .inr (13, ((f1.set 9 (.int 13)).set 9 (.int 14)))), (x3, .inl (cA 1, 6000, .inl (upd (upd (upd f2 12 ((((x2).toUInt32 >>> ((24 : Int32).toUInt32 &&& Int32.toUInt32 31)).toInt32) &&& 255)) 13 ((((x2).toUInt32 >>> ((16 : Int32).toUInt32 &&& Int32.toUInt32 31)).toInt32) &&& 255)) 14 ((((x2).toUInt32 >>> ((8 : Int32).toUInt32 &&& Int32.toUInt32 31)).toInt32) &&& 255))))] rfl ?_
  refine zz_aload_n X 1 dX13_put_33 rfl rfl ?_
  refine zz_dup X dX13_put_34 rfl ?_
  refine zz_get X 0 9 rfl rfl (by decide) (fun w h => List.mem_cons_of_mem _ (zf_X13 w h)) rfl (List.mem_cons_of_mem _ zm_302) (zq_same (zq_lt hf1_n (by decide) (by simp only [List.length_set]))) dX13_put_35 ?_
  refine zz_iconst X 1 dX13_put_38 rfl ?_
  refine zz_iadd X (15) dX13_put_39 (by decide) ?_
  refine zz_put X 0 9 rfl rfl (by decide) (fun w h => List.mem_cons_of_mem _ (zf_X13 w h)) rfl (List.mem_cons_of_mem _ zm_302) tyX13 tyX13_ok nmX13 rfl (ty := .int) rfl rfl rfl (zq_lt hf1_n (by decide) (by simp only [List.length_set])) dX13_put_40 [(x1, .inr (13, (((f1.set 9 (.int 13)).set 9 (.int 14)).set 9 (.int 15)))), (x3, .inl (cA 1, 6000, .inl (upd (upd (upd f2 12 ((((x2).toUInt32 >>> ((24 : Int32).toUInt32 &&& Int32.toUInt32 31)).toInt32) &&& 255)) 13 ((((x2).toUInt32 >>> ((16 : Int32).toUInt32 &&& Int32.toUInt32 31)).toInt32) &&& 255)) 14 ((((x2).toUInt32 >>> ((8 : Int32).toUInt32 &&& Int32.toUInt32 31)).toInt32) &&& 255))))] rfl ?_
  refine zz_iinc X 0 (0) [(2, .int 0), (0, .ref x1), (1, .int x2)] dX13_put_43 rfl (by decide) (by decide) rfl ?_
  refine zz_goto X 3 dX13_put_46 (by decide) ?_
  refine zz_iload_n X 0 dX13_put_3 rfl rfl ?_
  refine zz_if_lt X 49 dX13_put_4 (by decide) (fun h => absurd h (by decide)) (fun _ => ?_)
  refine zz_aload_n X 1 dX13_put_7 rfl rfl ?_
  refine zz_get X 0 9 rfl rfl (by decide) (fun w h => List.mem_cons_of_mem _ (zf_X13 w h)) rfl (List.mem_cons_of_mem _ zm_302) (zq_same (zq_lt hf1_n (by decide) (by simp only [List.length_set]))) dX13_put_8 ?_
  refine zz_sipush X 6000 dX13_put_11 rfl ?_
  refine zz_icmp_ge X 49 dX13_put_14 (by decide) (fun h => absurd h (by decide)) (fun _ => ?_)
  refine zz_aload_n X 1 dX13_put_17 rfl rfl ?_
  refine zz_get X 0 8 rfl rfl (by decide) (fun w h => List.mem_cons_of_mem _ (zf_X13 w h)) rfl (List.mem_cons_of_mem _ zm_301) (zq_oth (by decide) (zq_oth (by decide) (zq_oth (by decide) (hf1_8)))) dX13_put_18 ?_
  refine zz_aload_n X 1 dX13_put_21 rfl rfl ?_
  refine zz_get X 0 9 rfl rfl (by decide) (fun w h => List.mem_cons_of_mem _ (zf_X13 w h)) rfl (List.mem_cons_of_mem _ zm_302) (zq_same (zq_lt hf1_n (by decide) (by simp only [List.length_set]))) dX13_put_22 ?_
  refine zz_iload_n X 2 dX13_put_25 rfl rfl ?_
  refine zz_iload_n X 0 dX13_put_26 rfl rfl ?_
  refine zz_iushr X (((x2).toUInt32 >>> ((0 : Int32).toUInt32 &&& Int32.toUInt32 31)).toInt32) dX13_put_27 rfl ?_
  refine zz_sipush X 255 dX13_put_28 rfl ?_
  refine zz_iand X (((((x2).toUInt32 >>> ((0 : Int32).toUInt32 &&& Int32.toUInt32 31)).toInt32) &&& 255)) dX13_put_31 rfl ?_
  refine zz_iast X 1 1 rfl rfl (vp_in_nI (n := 15) (by decide) (by decide)) 15 (by decide) dX13_put_32 [(x1, .inr (13, (((f1.set 9 (.int 13)).set 9 (.int 14)).set 9 (.int 15)))), (x3, .inl (cA 1, 6000, .inl (upd (upd (upd (upd f2 12 ((((x2).toUInt32 >>> ((24 : Int32).toUInt32 &&& Int32.toUInt32 31)).toInt32) &&& 255)) 13 ((((x2).toUInt32 >>> ((16 : Int32).toUInt32 &&& Int32.toUInt32 31)).toInt32) &&& 255)) 14 ((((x2).toUInt32 >>> ((8 : Int32).toUInt32 &&& Int32.toUInt32 31)).toInt32) &&& 255)) 15 ((((x2).toUInt32 >>> ((0 : Int32).toUInt32 &&& Int32.toUInt32 31)).toInt32) &&& 255))))] rfl ?_
  refine zz_aload_n X 1 dX13_put_33 rfl rfl ?_
  refine zz_dup X dX13_put_34 rfl ?_
  refine zz_get X 0 9 rfl rfl (by decide) (fun w h => List.mem_cons_of_mem _ (zf_X13 w h)) rfl (List.mem_cons_of_mem _ zm_302) (zq_same (zq_lt hf1_n (by decide) (by simp only [List.length_set]))) dX13_put_35 ?_
  refine zz_iconst X 1 dX13_put_38 rfl ?_
  refine zz_iadd X (16) dX13_put_39 (by decide) ?_
  refine zz_put X 0 9 rfl rfl (by decide) (fun w h => List.mem_cons_of_mem _ (zf_X13 w h)) rfl (List.mem_cons_of_mem _ zm_302) tyX13 tyX13_ok nmX13 rfl (ty := .int) rfl rfl rfl (zq_lt hf1_n (by decide) (by simp only [List.length_set])) dX13_put_40 [(x1, .inr (13, ((((f1.set 9 (.int 13)).set 9 (.int 14)).set 9 (.int 15)).set 9 (.int 16)))), (x3, .inl (cA 1, 6000, .inl (upd (upd (upd (upd f2 12 ((((x2).toUInt32 >>> ((24 : Int32).toUInt32 &&& Int32.toUInt32 31)).toInt32) &&& 255)) 13 ((((x2).toUInt32 >>> ((16 : Int32).toUInt32 &&& Int32.toUInt32 31)).toInt32) &&& 255)) 14 ((((x2).toUInt32 >>> ((8 : Int32).toUInt32 &&& Int32.toUInt32 31)).toInt32) &&& 255)) 15 ((((x2).toUInt32 >>> ((0 : Int32).toUInt32 &&& Int32.toUInt32 31)).toInt32) &&& 255))))] rfl ?_
  refine zz_iinc X 0 ((-8)) [(2, .int (-8)), (0, .ref x1), (1, .int x2)] dX13_put_43 rfl (by decide) (by decide) rfl ?_
  refine zz_goto X 3 dX13_put_46 (by decide) ?_
  refine zz_iload_n X 0 dX13_put_3 rfl rfl ?_
  refine zz_if_lt X 49 dX13_put_4 (by decide) (fun _ => ?_) (fun h => absurd (by decide) h)
  exact zz_vret X hr (()) [0, 1] (by decide) rfl rfl (Nat.le_of_ble_eq_true rfl) (Nat.le_of_ble_eq_true rfl) (trivial) dX13_put_49

set_option maxHeartbeats 4000000 in
set_option maxRecDepth 100000 in
/-- put -/
theorem kX13_put_5 {E : zEn} (hE : zOk E) (l : Launch) (D : va_G) (cA : Nat → ClassId) (K : Nat → Nat) (V : Nat → Nat) (x1 : Nat) (x2 : Int32) (f1 : List Value) (x3 : Nat) (f2 : Nat → Int32) (hss : zSS E K V) (hf1_n : f1.length = 23) (hf1_9 : f1[9]? = some (.int 16)) (hf1_8 : f1[8]? = some (.ref x3)) : zMv E l yX13_put zwX13_put ({ frames := 0, cells := 0, slots := 0, locals := 0 }) D vwCl (zT cA) [.ref x1, .int x2] [(x1, .inr (13, f1)), (x3, .inl (cA 1, 6000, .inl f2))] (S := Unit) (fun (u : Unit) => (True)) (fun (u : Unit) => [(x1, .inr (13, ((((f1.set 9 (.int 17)).set 9 (.int 18)).set 9 (.int 19)).set 9 (.int 20)))), (x3, .inl (cA 1, 6000, .inl (upd (upd (upd (upd f2 16 ((((x2).toUInt32 >>> ((24 : Int32).toUInt32 &&& Int32.toUInt32 31)).toInt32) &&& 255)) 17 ((((x2).toUInt32 >>> ((16 : Int32).toUInt32 &&& Int32.toUInt32 31)).toInt32) &&& 255)) 18 ((((x2).toUInt32 >>> ((8 : Int32).toUInt32 &&& Int32.toUInt32 31)).toInt32) &&& 255)) 19 ((((x2).toUInt32 >>> ((0 : Int32).toUInt32 &&& Int32.toUInt32 31)).toInt32) &&& 255))))]) := by
  refine zz_enterv (cc := cX13_put) (lv := [(0, .ref x1), (1, .int x2)]) hE 3 (by decide) rfl (Nat.le_of_ble_eq_true rfl) rfl ?_
  intro p e s m args below meth c X hr hin
  refine zz_bipush X 24 dX13_put_0 rfl ?_
  refine zz_istore_n X [(2, .int 24), (0, .ref x1), (1, .int x2)] dX13_put_2 rfl (by decide) rfl ?_
  refine zz_iload_n X 0 dX13_put_3 rfl rfl ?_
  refine zz_if_lt X 49 dX13_put_4 (by decide) (fun h => absurd h (by decide)) (fun _ => ?_)
  refine zz_aload_n X 1 dX13_put_7 rfl rfl ?_
  refine zz_get X 0 9 rfl rfl (by decide) (fun w h => List.mem_cons_of_mem _ (zf_X13 w h)) rfl (List.mem_cons_of_mem _ zm_302) hf1_9 dX13_put_8 ?_
  refine zz_sipush X 6000 dX13_put_11 rfl ?_
  refine zz_icmp_ge X 49 dX13_put_14 (by decide) (fun h => absurd h (by decide)) (fun _ => ?_)
  refine zz_aload_n X 1 dX13_put_17 rfl rfl ?_
  refine zz_get X 0 8 rfl rfl (by decide) (fun w h => List.mem_cons_of_mem _ (zf_X13 w h)) rfl (List.mem_cons_of_mem _ zm_301) hf1_8 dX13_put_18 ?_
  refine zz_aload_n X 1 dX13_put_21 rfl rfl ?_
  refine zz_get X 0 9 rfl rfl (by decide) (fun w h => List.mem_cons_of_mem _ (zf_X13 w h)) rfl (List.mem_cons_of_mem _ zm_302) hf1_9 dX13_put_22 ?_
  refine zz_iload_n X 2 dX13_put_25 rfl rfl ?_
  refine zz_iload_n X 0 dX13_put_26 rfl rfl ?_
  refine zz_iushr X (((x2).toUInt32 >>> ((24 : Int32).toUInt32 &&& Int32.toUInt32 31)).toInt32) dX13_put_27 rfl ?_
  refine zz_sipush X 255 dX13_put_28 rfl ?_
  refine zz_iand X (((((x2).toUInt32 >>> ((24 : Int32).toUInt32 &&& Int32.toUInt32 31)).toInt32) &&& 255)) dX13_put_31 rfl ?_
  refine zz_iast X 1 1 rfl rfl (vp_in_nI (n := 16) (by decide) (by decide)) 16 (by decide) dX13_put_32 [(x1, .inr (13, f1)), (x3, .inl (cA 1, 6000, .inl (upd f2 16 ((((x2).toUInt32 >>> ((24 : Int32).toUInt32 &&& Int32.toUInt32 31)).toInt32) &&& 255))))] rfl ?_
  refine zz_aload_n X 1 dX13_put_33 rfl rfl ?_
  refine zz_dup X dX13_put_34 rfl ?_
  refine zz_get X 0 9 rfl rfl (by decide) (fun w h => List.mem_cons_of_mem _ (zf_X13 w h)) rfl (List.mem_cons_of_mem _ zm_302) hf1_9 dX13_put_35 ?_
  refine zz_iconst X 1 dX13_put_38 rfl ?_
  refine zz_iadd X (17) dX13_put_39 (by decide) ?_
  refine zz_put X 0 9 rfl rfl (by decide) (fun w h => List.mem_cons_of_mem _ (zf_X13 w h)) rfl (List.mem_cons_of_mem _ zm_302) tyX13 tyX13_ok nmX13 rfl (ty := .int) rfl rfl rfl (zq_lt hf1_n (by decide) (by simp only [List.length_set])) dX13_put_40 [(x1, .inr (13, (f1.set 9 (.int 17)))), (x3, .inl (cA 1, 6000, .inl (upd f2 16 ((((x2).toUInt32 >>> ((24 : Int32).toUInt32 &&& Int32.toUInt32 31)).toInt32) &&& 255))))] rfl ?_
  refine zz_iinc X 0 (16) [(2, .int 16), (0, .ref x1), (1, .int x2)] dX13_put_43 rfl (by decide) (by decide) rfl ?_
  refine zz_goto X 3 dX13_put_46 (by decide) ?_
  refine zz_iload_n X 0 dX13_put_3 rfl rfl ?_
  refine zz_if_lt X 49 dX13_put_4 (by decide) (fun h => absurd h (by decide)) (fun _ => ?_)
  refine zz_aload_n X 1 dX13_put_7 rfl rfl ?_
  refine zz_get X 0 9 rfl rfl (by decide) (fun w h => List.mem_cons_of_mem _ (zf_X13 w h)) rfl (List.mem_cons_of_mem _ zm_302) (zq_same (zq_lt hf1_n (by decide) (by simp only [List.length_set]))) dX13_put_8 ?_
  refine zz_sipush X 6000 dX13_put_11 rfl ?_
  refine zz_icmp_ge X 49 dX13_put_14 (by decide) (fun h => absurd h (by decide)) (fun _ => ?_)
  refine zz_aload_n X 1 dX13_put_17 rfl rfl ?_
  refine zz_get X 0 8 rfl rfl (by decide) (fun w h => List.mem_cons_of_mem _ (zf_X13 w h)) rfl (List.mem_cons_of_mem _ zm_301) (zq_oth (by decide) (hf1_8)) dX13_put_18 ?_
  refine zz_aload_n X 1 dX13_put_21 rfl rfl ?_
  refine zz_get X 0 9 rfl rfl (by decide) (fun w h => List.mem_cons_of_mem _ (zf_X13 w h)) rfl (List.mem_cons_of_mem _ zm_302) (zq_same (zq_lt hf1_n (by decide) (by simp only [List.length_set]))) dX13_put_22 ?_
  refine zz_iload_n X 2 dX13_put_25 rfl rfl ?_
  refine zz_iload_n X 0 dX13_put_26 rfl rfl ?_
  refine zz_iushr X (((x2).toUInt32 >>> ((16 : Int32).toUInt32 &&& Int32.toUInt32 31)).toInt32) dX13_put_27 rfl ?_
  refine zz_sipush X 255 dX13_put_28 rfl ?_
  refine zz_iand X (((((x2).toUInt32 >>> ((16 : Int32).toUInt32 &&& Int32.toUInt32 31)).toInt32) &&& 255)) dX13_put_31 rfl ?_
  refine zz_iast X 1 1 rfl rfl (vp_in_nI (n := 17) (by decide) (by decide)) 17 (by decide) dX13_put_32 [(x1, .inr (13, (f1.set 9 (.int 17)))), (x3, .inl (cA 1, 6000, .inl (upd (upd f2 16 ((((x2).toUInt32 >>> ((24 : Int32).toUInt32 &&& Int32.toUInt32 31)).toInt32) &&& 255)) 17 ((((x2).toUInt32 >>> ((16 : Int32).toUInt32 &&& Int32.toUInt32 31)).toInt32) &&& 255))))] rfl ?_
  refine zz_aload_n X 1 dX13_put_33 rfl rfl ?_
  refine zz_dup X dX13_put_34 rfl ?_
  refine zz_get X 0 9 rfl rfl (by decide) (fun w h => List.mem_cons_of_mem _ (zf_X13 w h)) rfl (List.mem_cons_of_mem _ zm_302) (zq_same (zq_lt hf1_n (by decide) (by simp only [List.length_set]))) dX13_put_35 ?_
  refine zz_iconst X 1 dX13_put_38 rfl ?_
  refine zz_iadd X (18) dX13_put_39 (by decide) ?_
  refine zz_put X 0 9 rfl rfl (by decide) (fun w h => List.mem_cons_of_mem _ (zf_X13 w h)) rfl (List.mem_cons_of_mem _ zm_302) tyX13 tyX13_ok nmX13 rfl (ty := .int) rfl rfl rfl (zq_lt hf1_n (by decide) (by simp only [List.length_set])) dX13_put_40 [(x1, .inr (13, ((f1.set 9 (.int 17)).set 9 (.int 18)))), (x3, .inl (cA 1, 6000, .inl (upd (upd f2 16 ((((x2).toUInt32 >>> ((24 : Int32).toUInt32 &&& Int32.toUInt32 31)).toInt32) &&& 255)) 17 ((((x2).toUInt32 >>> ((16 : Int32).toUInt32 &&& Int32.toUInt32 31)).toInt32) &&& 255))))] rfl ?_
  refine zz_iinc X 0 (8) [(2, .int 8), (0, .ref x1), (1, .int x2)] dX13_put_43 rfl (by decide) (by decide) rfl ?_
  refine zz_goto X 3 dX13_put_46 (by decide) ?_
  refine zz_iload_n X 0 dX13_put_3 rfl rfl ?_
  refine zz_if_lt X 49 dX13_put_4 (by decide) (fun h => absurd h (by decide)) (fun _ => ?_)
  refine zz_aload_n X 1 dX13_put_7 rfl rfl ?_
  refine zz_get X 0 9 rfl rfl (by decide) (fun w h => List.mem_cons_of_mem _ (zf_X13 w h)) rfl (List.mem_cons_of_mem _ zm_302) (zq_same (zq_lt hf1_n (by decide) (by simp only [List.length_set]))) dX13_put_8 ?_
  refine zz_sipush X 6000 dX13_put_11 rfl ?_
  refine zz_icmp_ge X 49 dX13_put_14 (by decide) (fun h => absurd h (by decide)) (fun _ => ?_)
  refine zz_aload_n X 1 dX13_put_17 rfl rfl ?_
  refine zz_get X 0 8 rfl rfl (by decide) (fun w h => List.mem_cons_of_mem _ (zf_X13 w h)) rfl (List.mem_cons_of_mem _ zm_301) (zq_oth (by decide) (zq_oth (by decide) (hf1_8))) dX13_put_18 ?_
  refine zz_aload_n X 1 dX13_put_21 rfl rfl ?_
  refine zz_get X 0 9 rfl rfl (by decide) (fun w h => List.mem_cons_of_mem _ (zf_X13 w h)) rfl (List.mem_cons_of_mem _ zm_302) (zq_same (zq_lt hf1_n (by decide) (by simp only [List.length_set]))) dX13_put_22 ?_
  refine zz_iload_n X 2 dX13_put_25 rfl rfl ?_
  refine zz_iload_n X 0 dX13_put_26 rfl rfl ?_
  refine zz_iushr X (((x2).toUInt32 >>> ((8 : Int32).toUInt32 &&& Int32.toUInt32 31)).toInt32) dX13_put_27 rfl ?_
  refine zz_sipush X 255 dX13_put_28 rfl ?_
  refine zz_iand X (((((x2).toUInt32 >>> ((8 : Int32).toUInt32 &&& Int32.toUInt32 31)).toInt32) &&& 255)) dX13_put_31 rfl ?_
  refine zz_iast X 1 1 rfl rfl (vp_in_nI (n := 18) (by decide) (by decide)) 18 (by decide) dX13_put_32 [(x1, .inr (13, ((f1.set 9 (.int 17)).set 9 (.int 18)))), (x3, .inl (cA 1, 6000, .inl (upd (upd (upd f2 16 ((((x2).toUInt32 >>> ((24 : Int32).toUInt32 &&& Int32.toUInt32 31)).toInt32) &&& 255)) 17 ((((x2).toUInt32 >>> ((16 : Int32).toUInt32 &&& Int32.toUInt32 31)).toInt32) &&& 255)) 18 ((((x2).toUInt32 >>> ((8 : Int32).toUInt32 &&& Int32.toUInt32 31)).toInt32) &&& 255))))] rfl ?_
  refine zz_aload_n X 1 dX13_put_33 rfl rfl ?_
  refine zz_dup X dX13_put_34 rfl ?_
  refine zz_get X 0 9 rfl rfl (by decide) (fun w h => List.mem_cons_of_mem _ (zf_X13 w h)) rfl (List.mem_cons_of_mem _ zm_302) (zq_same (zq_lt hf1_n (by decide) (by simp only [List.length_set]))) dX13_put_35 ?_
  refine zz_iconst X 1 dX13_put_38 rfl ?_
  refine zz_iadd X (19) dX13_put_39 (by decide) ?_
  refine zz_put X 0 9 rfl rfl (by decide) (fun w h => List.mem_cons_of_mem _ (zf_X13 w h)) rfl (List.mem_cons_of_mem _ zm_302) tyX13 tyX13_ok nmX13 rfl (ty := .int) rfl rfl rfl (zq_lt hf1_n (by decide) (by simp only [List.length_set])) dX13_put_40 [(x1, .inr (13, (((f1.set 9 (.int 17)).set 9 (.int 18)).set 9 (.int 19)))), (x3, .inl (cA 1, 6000, .inl (upd (upd (upd f2 16 ((((x2).toUInt32 >>> ((24 : Int32).toUInt32 &&& Int32.toUInt32 31)).toInt32) &&& 255)) 17 ((((x2).toUInt32 >>> ((16 : Int32).toUInt32 &&& Int32.toUInt32 31)).toInt32) &&& 255)) 18 ((((x2).toUInt32 >>> ((8 : Int32).toUInt32 &&& Int32.toUInt32 31)).toInt32) &&& 255))))] rfl ?_
  refine zz_iinc X 0 (0) [(2, .int 0), (0, .ref x1), (1, .int x2)] dX13_put_43 rfl (by decide) (by decide) rfl ?_
  refine zz_goto X 3 dX13_put_46 (by decide) ?_
  refine zz_iload_n X 0 dX13_put_3 rfl rfl ?_
  refine zz_if_lt X 49 dX13_put_4 (by decide) (fun h => absurd h (by decide)) (fun _ => ?_)
  refine zz_aload_n X 1 dX13_put_7 rfl rfl ?_
  refine zz_get X 0 9 rfl rfl (by decide) (fun w h => List.mem_cons_of_mem _ (zf_X13 w h)) rfl (List.mem_cons_of_mem _ zm_302) (zq_same (zq_lt hf1_n (by decide) (by simp only [List.length_set]))) dX13_put_8 ?_
  refine zz_sipush X 6000 dX13_put_11 rfl ?_
  refine zz_icmp_ge X 49 dX13_put_14 (by decide) (fun h => absurd h (by decide)) (fun _ => ?_)
  refine zz_aload_n X 1 dX13_put_17 rfl rfl ?_
  refine zz_get X 0 8 rfl rfl (by decide) (fun w h => List.mem_cons_of_mem _ (zf_X13 w h)) rfl (List.mem_cons_of_mem _ zm_301) (zq_oth (by decide) (zq_oth (by decide) (zq_oth (by decide) (hf1_8)))) dX13_put_18 ?_
  refine zz_aload_n X 1 dX13_put_21 rfl rfl ?_
  refine zz_get X 0 9 rfl rfl (by decide) (fun w h => List.mem_cons_of_mem _ (zf_X13 w h)) rfl (List.mem_cons_of_mem _ zm_302) (zq_same (zq_lt hf1_n (by decide) (by simp only [List.length_set]))) dX13_put_22 ?_
  refine zz_iload_n X 2 dX13_put_25 rfl rfl ?_
  refine zz_iload_n X 0 dX13_put_26 rfl rfl ?_
  refine zz_iushr X (((x2).toUInt32 >>> ((0 : Int32).toUInt32 &&& Int32.toUInt32 31)).toInt32) dX13_put_27 rfl ?_
  refine zz_sipush X 255 dX13_put_28 rfl ?_
  refine zz_iand X (((((x2).toUInt32 >>> ((0 : Int32).toUInt32 &&& Int32.toUInt32 31)).toInt32) &&& 255)) dX13_put_31 rfl ?_
  refine zz_iast X 1 1 rfl rfl (vp_in_nI (n := 19) (by decide) (by decide)) 19 (by decide) dX13_put_32 [(x1, .inr (13, (((f1.set 9 (.int 17)).set 9 (.int 18)).set 9 (.int 19)))), (x3, .inl (cA 1, 6000, .inl (upd (upd (upd (upd f2 16 ((((x2).toUInt32 >>> ((24 : Int32).toUInt32 &&& Int32.toUInt32 31)).toInt32) &&& 255)) 17 ((((x2).toUInt32 >>> ((16 : Int32).toUInt32 &&& Int32.toUInt32 31)).toInt32) &&& 255)) 18 ((((x2).toUInt32 >>> ((8 : Int32).toUInt32 &&& Int32.toUInt32 31)).toInt32) &&& 255)) 19 ((((x2).toUInt32 >>> ((0 : Int32).toUInt32 &&& Int32.toUInt32 31)).toInt32) &&& 255))))] rfl ?_
  refine zz_aload_n X 1 dX13_put_33 rfl rfl ?_
  refine zz_dup X dX13_put_34 rfl ?_
  refine zz_get X 0 9 rfl rfl (by decide) (fun w h => List.mem_cons_of_mem _ (zf_X13 w h)) rfl (List.mem_cons_of_mem _ zm_302) (zq_same (zq_lt hf1_n (by decide) (by simp only [List.length_set]))) dX13_put_35 ?_
  refine zz_iconst X 1 dX13_put_38 rfl ?_
  refine zz_iadd X (20) dX13_put_39 (by decide) ?_
  refine zz_put X 0 9 rfl rfl (by decide) (fun w h => List.mem_cons_of_mem _ (zf_X13 w h)) rfl (List.mem_cons_of_mem _ zm_302) tyX13 tyX13_ok nmX13 rfl (ty := .int) rfl rfl rfl (zq_lt hf1_n (by decide) (by simp only [List.length_set])) dX13_put_40 [(x1, .inr (13, ((((f1.set 9 (.int 17)).set 9 (.int 18)).set 9 (.int 19)).set 9 (.int 20)))), (x3, .inl (cA 1, 6000, .inl (upd (upd (upd (upd f2 16 ((((x2).toUInt32 >>> ((24 : Int32).toUInt32 &&& Int32.toUInt32 31)).toInt32) &&& 255)) 17 ((((x2).toUInt32 >>> ((16 : Int32).toUInt32 &&& Int32.toUInt32 31)).toInt32) &&& 255)) 18 ((((x2).toUInt32 >>> ((8 : Int32).toUInt32 &&& Int32.toUInt32 31)).toInt32) &&& 255)) 19 ((((x2).toUInt32 >>> ((0 : Int32).toUInt32 &&& Int32.toUInt32 31)).toInt32) &&& 255))))] rfl ?_
  refine zz_iinc X 0 ((-8)) [(2, .int (-8)), (0, .ref x1), (1, .int x2)] dX13_put_43 rfl (by decide) (by decide) rfl ?_
  refine zz_goto X 3 dX13_put_46 (by decide) ?_
  refine zz_iload_n X 0 dX13_put_3 rfl rfl ?_
  refine zz_if_lt X 49 dX13_put_4 (by decide) (fun _ => ?_) (fun h => absurd (by decide) h)
  exact zz_vret X hr (()) [0, 1] (by decide) rfl rfl (Nat.le_of_ble_eq_true rfl) (Nat.le_of_ble_eq_true rfl) (trivial) dX13_put_49

set_option maxHeartbeats 4000000 in
set_option maxRecDepth 100000 in
/-- feed -/
theorem kX13_feed_1 {E : zEn} (hE : zOk E) (l : Launch) (D : va_G) (cA : Nat → ClassId) (K : Nat → Nat) (V : Nat → Nat) (x1 : Nat) (x2 : Int32) (x3 : Int32) (x4 : Int32) (x5 : Int32) (x6 : Int32) (f1 : List Value) (x7 : Nat) (hss : zSS E K V) (hf1_n : f1.length = 23) (hf1_9 : f1[9]? = some (.int 0)) (hf1_10 : f1[10]? = some (.int 0)) (hf1_8 : f1[8]? = some (.ref x7)) : zMi E l yX13_feed zwX13_feed ({ frames := 1, cells := 0, slots := 0, locals := 22 }) D vwCl (zT cA) [.ref x1, .int x2, .int x3, .int x4, .int x5, .int x6] [(x1, .inr (13, f1)), (x7, .inl (cA 1, 6000, .inl (fun _ => 0)))] (S := Unit) (fun (r : Int32) (u : Unit) => (r = 1)) (fun (u : Unit) => []) := by
  refine zz_enterz (cc := cX13_feed) (lv := [(0, .ref x1), (1, .int x2), (2, .int x3), (3, .int x4), (4, .int x5), (5, .int x6)]) hE 6 (by decide) rfl (Nat.le_of_ble_eq_true rfl) rfl ?_
  intro p e s m args below meth c X hr hin
  refine zz_aload_n X 0 dX13_feed_0 rfl rfl ?_
  refine zz_get X 0 9 rfl rfl (by decide) (fun w h => List.mem_cons_of_mem _ (zf_X13 w h)) rfl (List.mem_cons_of_mem _ zm_302) hf1_9 dX13_feed_1 ?_
  refine zz_bipush X 20 dX13_feed_4 rfl ?_
  refine zz_iadd X (20) dX13_feed_6 (by decide) ?_
  refine zz_sipush X 6000 dX13_feed_7 rfl ?_
  refine zz_icmp_gt X 23 dX13_feed_10 (by decide) (fun h => absurd h (by decide)) (fun _ => ?_)
  refine zz_aload_n X 0 dX13_feed_13 rfl rfl ?_
  refine zz_get X 0 10 rfl rfl (by decide) (fun w h => List.mem_cons_of_mem _ (zf_X13 w h)) rfl (List.mem_cons_of_mem _ zm_303) hf1_10 dX13_feed_14 ?_
  refine zz_sipush X 512 dX13_feed_17 rfl ?_
  refine zz_icmp_lt X 25 dX13_feed_20 (by decide) (fun _ => ?_) (fun h => absurd (by decide) h)
  refine zz_aload_n X 0 dX13_feed_25 rfl rfl ?_
  refine zz_dup X dX13_feed_26 rfl ?_
  refine zz_get X 0 10 rfl rfl (by decide) (fun w h => List.mem_cons_of_mem _ (zf_X13 w h)) rfl (List.mem_cons_of_mem _ zm_303) hf1_10 dX13_feed_27 ?_
  refine zz_iconst X 1 dX13_feed_30 rfl ?_
  refine zz_iadd X (1) dX13_feed_31 (by decide) ?_
  refine zz_put X 0 10 rfl rfl (by decide) (fun w h => List.mem_cons_of_mem _ (zf_X13 w h)) rfl (List.mem_cons_of_mem _ zm_303) tyX13 tyX13_ok nmX13 rfl (ty := .int) rfl rfl rfl (zq_lt hf1_n (by decide) (by simp only [List.length_set])) dX13_feed_32 [(x1, .inr (13, (f1.set 10 (.int 1)))), (x7, .inl (cA 1, 6000, .inl (fun _ => 0)))] rfl ?_
  refine zz_aload_n X 0 dX13_feed_35 rfl rfl ?_
  refine zz_iload_n X 1 dX13_feed_36 rfl rfl ?_
  refine zz_callVv X (rest := []) (As := [.int x2]) (kX13_put_1 hE l D cA K V x1 x2 (f1.set 10 (.int 1)) x7 hss (zq_len hf1_n (by simp only [List.length_set])) (zq_oth (by decide) (hf1_9)) (zq_oth (by decide) (hf1_8))) 1 (zgV zm_648 zm_649 zm_650 zm_186 zm_647) rfl (by decide +kernel) [0, 1] [] [] rfl rfl (by decide) rfl (by decide) (by decide) ⟨Nat.le_of_ble_eq_true rfl, Nat.le_of_ble_eq_true rfl⟩ 0 rfl rfl rfl rfl rfl (Nat.le_of_ble_eq_true rfl) dX13_feed_37 (Nat.le_of_ble_eq_true rfl) (Nat.le_of_ble_eq_true rfl) (fun _ hw1 => ?_)
  refine zz_show (ws' := [(x1, .inr (13, (((((f1.set 10 (.int 1)).set 9 (.int 1)).set 9 (.int 2)).set 9 (.int 3)).set 9 (.int 4)))), (x7, .inl (cA 1, 6000, .inl (upd (upd (upd (upd (fun _ => 0) 0 ((((x2).toUInt32 >>> ((24 : Int32).toUInt32 &&& Int32.toUInt32 31)).toInt32) &&& 255)) 1 ((((x2).toUInt32 >>> ((16 : Int32).toUInt32 &&& Int32.toUInt32 31)).toInt32) &&& 255)) 2 ((((x2).toUInt32 >>> ((8 : Int32).toUInt32 &&& Int32.toUInt32 31)).toInt32) &&& 255)) 3 ((((x2).toUInt32 >>> ((0 : Int32).toUInt32 &&& Int32.toUInt32 31)).toInt32) &&& 255))))]) rfl ?_
  refine zz_aload_n X 0 dX13_feed_40 rfl rfl ?_
  refine zz_iload_n X 2 dX13_feed_41 rfl rfl ?_
  refine zz_callVv X (rest := []) (As := [.int x3]) (kX13_put_2 hE l D cA K V x1 x3 (((((f1.set 10 (.int 1)).set 9 (.int 1)).set 9 (.int 2)).set 9 (.int 3)).set 9 (.int 4)) x7 (upd (upd (upd (upd (fun _ => 0) 0 ((((x2).toUInt32 >>> ((24 : Int32).toUInt32 &&& Int32.toUInt32 31)).toInt32) &&& 255)) 1 ((((x2).toUInt32 >>> ((16 : Int32).toUInt32 &&& Int32.toUInt32 31)).toInt32) &&& 255)) 2 ((((x2).toUInt32 >>> ((8 : Int32).toUInt32 &&& Int32.toUInt32 31)).toInt32) &&& 255)) 3 ((((x2).toUInt32 >>> ((0 : Int32).toUInt32 &&& Int32.toUInt32 31)).toInt32) &&& 255)) hss (zq_len hf1_n (by simp only [List.length_set])) (zq_same (zq_lt hf1_n (by decide) (by simp only [List.length_set]))) (zq_oth (by decide) (zq_oth (by decide) (zq_oth (by decide) (zq_oth (by decide) (zq_oth (by decide) (hf1_8))))))) 1 (zgV zm_648 zm_649 zm_650 zm_186 zm_647) rfl (by decide +kernel) [0, 1] [] [] rfl rfl (by decide) rfl (by decide) (by decide) ⟨Nat.le_of_ble_eq_true rfl, Nat.le_of_ble_eq_true rfl⟩ 0 rfl rfl rfl rfl rfl (Nat.le_of_ble_eq_true rfl) dX13_feed_42 (Nat.le_of_ble_eq_true rfl) (Nat.le_of_ble_eq_true rfl) (fun _ hw2 => ?_)
  refine zz_show (ws' := [(x1, .inr (13, (((((((((f1.set 10 (.int 1)).set 9 (.int 1)).set 9 (.int 2)).set 9 (.int 3)).set 9 (.int 4)).set 9 (.int 5)).set 9 (.int 6)).set 9 (.int 7)).set 9 (.int 8)))), (x7, .inl (cA 1, 6000, .inl (upd (upd (upd (upd (upd (upd (upd (upd (fun _ => 0) 0 ((((x2).toUInt32 >>> ((24 : Int32).toUInt32 &&& Int32.toUInt32 31)).toInt32) &&& 255)) 1 ((((x2).toUInt32 >>> ((16 : Int32).toUInt32 &&& Int32.toUInt32 31)).toInt32) &&& 255)) 2 ((((x2).toUInt32 >>> ((8 : Int32).toUInt32 &&& Int32.toUInt32 31)).toInt32) &&& 255)) 3 ((((x2).toUInt32 >>> ((0 : Int32).toUInt32 &&& Int32.toUInt32 31)).toInt32) &&& 255)) 4 ((((x3).toUInt32 >>> ((24 : Int32).toUInt32 &&& Int32.toUInt32 31)).toInt32) &&& 255)) 5 ((((x3).toUInt32 >>> ((16 : Int32).toUInt32 &&& Int32.toUInt32 31)).toInt32) &&& 255)) 6 ((((x3).toUInt32 >>> ((8 : Int32).toUInt32 &&& Int32.toUInt32 31)).toInt32) &&& 255)) 7 ((((x3).toUInt32 >>> ((0 : Int32).toUInt32 &&& Int32.toUInt32 31)).toInt32) &&& 255))))]) rfl ?_
  refine zz_aload_n X 0 dX13_feed_45 rfl rfl ?_
  refine zz_iload_n X 3 dX13_feed_46 rfl rfl ?_
  refine zz_callVv X (rest := []) (As := [.int x4]) (kX13_put_3 hE l D cA K V x1 x4 (((((((((f1.set 10 (.int 1)).set 9 (.int 1)).set 9 (.int 2)).set 9 (.int 3)).set 9 (.int 4)).set 9 (.int 5)).set 9 (.int 6)).set 9 (.int 7)).set 9 (.int 8)) x7 (upd (upd (upd (upd (upd (upd (upd (upd (fun _ => 0) 0 ((((x2).toUInt32 >>> ((24 : Int32).toUInt32 &&& Int32.toUInt32 31)).toInt32) &&& 255)) 1 ((((x2).toUInt32 >>> ((16 : Int32).toUInt32 &&& Int32.toUInt32 31)).toInt32) &&& 255)) 2 ((((x2).toUInt32 >>> ((8 : Int32).toUInt32 &&& Int32.toUInt32 31)).toInt32) &&& 255)) 3 ((((x2).toUInt32 >>> ((0 : Int32).toUInt32 &&& Int32.toUInt32 31)).toInt32) &&& 255)) 4 ((((x3).toUInt32 >>> ((24 : Int32).toUInt32 &&& Int32.toUInt32 31)).toInt32) &&& 255)) 5 ((((x3).toUInt32 >>> ((16 : Int32).toUInt32 &&& Int32.toUInt32 31)).toInt32) &&& 255)) 6 ((((x3).toUInt32 >>> ((8 : Int32).toUInt32 &&& Int32.toUInt32 31)).toInt32) &&& 255)) 7 ((((x3).toUInt32 >>> ((0 : Int32).toUInt32 &&& Int32.toUInt32 31)).toInt32) &&& 255)) hss (zq_len hf1_n (by simp only [List.length_set])) (zq_same (zq_lt hf1_n (by decide) (by simp only [List.length_set]))) (zq_oth (by decide) (zq_oth (by decide) (zq_oth (by decide) (zq_oth (by decide) (zq_oth (by decide) (zq_oth (by decide) (zq_oth (by decide) (zq_oth (by decide) (zq_oth (by decide) (hf1_8))))))))))) 1 (zgV zm_648 zm_649 zm_650 zm_186 zm_647) rfl (by decide +kernel) [0, 1] [] [] rfl rfl (by decide) rfl (by decide) (by decide) ⟨Nat.le_of_ble_eq_true rfl, Nat.le_of_ble_eq_true rfl⟩ 0 rfl rfl rfl rfl rfl (Nat.le_of_ble_eq_true rfl) dX13_feed_47 (Nat.le_of_ble_eq_true rfl) (Nat.le_of_ble_eq_true rfl) (fun _ hw3 => ?_)
  refine zz_show (ws' := [(x1, .inr (13, (((((((((((((f1.set 10 (.int 1)).set 9 (.int 1)).set 9 (.int 2)).set 9 (.int 3)).set 9 (.int 4)).set 9 (.int 5)).set 9 (.int 6)).set 9 (.int 7)).set 9 (.int 8)).set 9 (.int 9)).set 9 (.int 10)).set 9 (.int 11)).set 9 (.int 12)))), (x7, .inl (cA 1, 6000, .inl (upd (upd (upd (upd (upd (upd (upd (upd (upd (upd (upd (upd (fun _ => 0) 0 ((((x2).toUInt32 >>> ((24 : Int32).toUInt32 &&& Int32.toUInt32 31)).toInt32) &&& 255)) 1 ((((x2).toUInt32 >>> ((16 : Int32).toUInt32 &&& Int32.toUInt32 31)).toInt32) &&& 255)) 2 ((((x2).toUInt32 >>> ((8 : Int32).toUInt32 &&& Int32.toUInt32 31)).toInt32) &&& 255)) 3 ((((x2).toUInt32 >>> ((0 : Int32).toUInt32 &&& Int32.toUInt32 31)).toInt32) &&& 255)) 4 ((((x3).toUInt32 >>> ((24 : Int32).toUInt32 &&& Int32.toUInt32 31)).toInt32) &&& 255)) 5 ((((x3).toUInt32 >>> ((16 : Int32).toUInt32 &&& Int32.toUInt32 31)).toInt32) &&& 255)) 6 ((((x3).toUInt32 >>> ((8 : Int32).toUInt32 &&& Int32.toUInt32 31)).toInt32) &&& 255)) 7 ((((x3).toUInt32 >>> ((0 : Int32).toUInt32 &&& Int32.toUInt32 31)).toInt32) &&& 255)) 8 ((((x4).toUInt32 >>> ((24 : Int32).toUInt32 &&& Int32.toUInt32 31)).toInt32) &&& 255)) 9 ((((x4).toUInt32 >>> ((16 : Int32).toUInt32 &&& Int32.toUInt32 31)).toInt32) &&& 255)) 10 ((((x4).toUInt32 >>> ((8 : Int32).toUInt32 &&& Int32.toUInt32 31)).toInt32) &&& 255)) 11 ((((x4).toUInt32 >>> ((0 : Int32).toUInt32 &&& Int32.toUInt32 31)).toInt32) &&& 255))))]) rfl ?_
  refine zz_aload_n X 0 dX13_feed_50 rfl rfl ?_
  refine zz_iload X 4 dX13_feed_51 rfl ?_
  refine zz_callVv X (rest := []) (As := [.int x5]) (kX13_put_4 hE l D cA K V x1 x5 (((((((((((((f1.set 10 (.int 1)).set 9 (.int 1)).set 9 (.int 2)).set 9 (.int 3)).set 9 (.int 4)).set 9 (.int 5)).set 9 (.int 6)).set 9 (.int 7)).set 9 (.int 8)).set 9 (.int 9)).set 9 (.int 10)).set 9 (.int 11)).set 9 (.int 12)) x7 (upd (upd (upd (upd (upd (upd (upd (upd (upd (upd (upd (upd (fun _ => 0) 0 ((((x2).toUInt32 >>> ((24 : Int32).toUInt32 &&& Int32.toUInt32 31)).toInt32) &&& 255)) 1 ((((x2).toUInt32 >>> ((16 : Int32).toUInt32 &&& Int32.toUInt32 31)).toInt32) &&& 255)) 2 ((((x2).toUInt32 >>> ((8 : Int32).toUInt32 &&& Int32.toUInt32 31)).toInt32) &&& 255)) 3 ((((x2).toUInt32 >>> ((0 : Int32).toUInt32 &&& Int32.toUInt32 31)).toInt32) &&& 255)) 4 ((((x3).toUInt32 >>> ((24 : Int32).toUInt32 &&& Int32.toUInt32 31)).toInt32) &&& 255)) 5 ((((x3).toUInt32 >>> ((16 : Int32).toUInt32 &&& Int32.toUInt32 31)).toInt32) &&& 255)) 6 ((((x3).toUInt32 >>> ((8 : Int32).toUInt32 &&& Int32.toUInt32 31)).toInt32) &&& 255)) 7 ((((x3).toUInt32 >>> ((0 : Int32).toUInt32 &&& Int32.toUInt32 31)).toInt32) &&& 255)) 8 ((((x4).toUInt32 >>> ((24 : Int32).toUInt32 &&& Int32.toUInt32 31)).toInt32) &&& 255)) 9 ((((x4).toUInt32 >>> ((16 : Int32).toUInt32 &&& Int32.toUInt32 31)).toInt32) &&& 255)) 10 ((((x4).toUInt32 >>> ((8 : Int32).toUInt32 &&& Int32.toUInt32 31)).toInt32) &&& 255)) 11 ((((x4).toUInt32 >>> ((0 : Int32).toUInt32 &&& Int32.toUInt32 31)).toInt32) &&& 255)) hss (zq_len hf1_n (by simp only [List.length_set])) (zq_same (zq_lt hf1_n (by decide) (by simp only [List.length_set]))) (zq_oth (by decide) (zq_oth (by decide) (zq_oth (by decide) (zq_oth (by decide) (zq_oth (by decide) (zq_oth (by decide) (zq_oth (by decide) (zq_oth (by decide) (zq_oth (by decide) (zq_oth (by decide) (zq_oth (by decide) (zq_oth (by decide) (zq_oth (by decide) (hf1_8))))))))))))))) 1 (zgV zm_648 zm_649 zm_650 zm_186 zm_647) rfl (by decide +kernel) [0, 1] [] [] rfl rfl (by decide) rfl (by decide) (by decide) ⟨Nat.le_of_ble_eq_true rfl, Nat.le_of_ble_eq_true rfl⟩ 0 rfl rfl rfl rfl rfl (Nat.le_of_ble_eq_true rfl) dX13_feed_53 (Nat.le_of_ble_eq_true rfl) (Nat.le_of_ble_eq_true rfl) (fun _ hw4 => ?_)
  refine zz_show (ws' := [(x1, .inr (13, (((((((((((((((((f1.set 10 (.int 1)).set 9 (.int 1)).set 9 (.int 2)).set 9 (.int 3)).set 9 (.int 4)).set 9 (.int 5)).set 9 (.int 6)).set 9 (.int 7)).set 9 (.int 8)).set 9 (.int 9)).set 9 (.int 10)).set 9 (.int 11)).set 9 (.int 12)).set 9 (.int 13)).set 9 (.int 14)).set 9 (.int 15)).set 9 (.int 16)))), (x7, .inl (cA 1, 6000, .inl (upd (upd (upd (upd (upd (upd (upd (upd (upd (upd (upd (upd (upd (upd (upd (upd (fun _ => 0) 0 ((((x2).toUInt32 >>> ((24 : Int32).toUInt32 &&& Int32.toUInt32 31)).toInt32) &&& 255)) 1 ((((x2).toUInt32 >>> ((16 : Int32).toUInt32 &&& Int32.toUInt32 31)).toInt32) &&& 255)) 2 ((((x2).toUInt32 >>> ((8 : Int32).toUInt32 &&& Int32.toUInt32 31)).toInt32) &&& 255)) 3 ((((x2).toUInt32 >>> ((0 : Int32).toUInt32 &&& Int32.toUInt32 31)).toInt32) &&& 255)) 4 ((((x3).toUInt32 >>> ((24 : Int32).toUInt32 &&& Int32.toUInt32 31)).toInt32) &&& 255)) 5 ((((x3).toUInt32 >>> ((16 : Int32).toUInt32 &&& Int32.toUInt32 31)).toInt32) &&& 255)) 6 ((((x3).toUInt32 >>> ((8 : Int32).toUInt32 &&& Int32.toUInt32 31)).toInt32) &&& 255)) 7 ((((x3).toUInt32 >>> ((0 : Int32).toUInt32 &&& Int32.toUInt32 31)).toInt32) &&& 255)) 8 ((((x4).toUInt32 >>> ((24 : Int32).toUInt32 &&& Int32.toUInt32 31)).toInt32) &&& 255)) 9 ((((x4).toUInt32 >>> ((16 : Int32).toUInt32 &&& Int32.toUInt32 31)).toInt32) &&& 255)) 10 ((((x4).toUInt32 >>> ((8 : Int32).toUInt32 &&& Int32.toUInt32 31)).toInt32) &&& 255)) 11 ((((x4).toUInt32 >>> ((0 : Int32).toUInt32 &&& Int32.toUInt32 31)).toInt32) &&& 255)) 12 ((((x5).toUInt32 >>> ((24 : Int32).toUInt32 &&& Int32.toUInt32 31)).toInt32) &&& 255)) 13 ((((x5).toUInt32 >>> ((16 : Int32).toUInt32 &&& Int32.toUInt32 31)).toInt32) &&& 255)) 14 ((((x5).toUInt32 >>> ((8 : Int32).toUInt32 &&& Int32.toUInt32 31)).toInt32) &&& 255)) 15 ((((x5).toUInt32 >>> ((0 : Int32).toUInt32 &&& Int32.toUInt32 31)).toInt32) &&& 255))))]) rfl ?_
  refine zz_aload_n X 0 dX13_feed_56 rfl rfl ?_
  refine zz_iload X 5 dX13_feed_57 rfl ?_
  refine zz_callVv X (rest := []) (As := [.int x6]) (kX13_put_5 hE l D cA K V x1 x6 (((((((((((((((((f1.set 10 (.int 1)).set 9 (.int 1)).set 9 (.int 2)).set 9 (.int 3)).set 9 (.int 4)).set 9 (.int 5)).set 9 (.int 6)).set 9 (.int 7)).set 9 (.int 8)).set 9 (.int 9)).set 9 (.int 10)).set 9 (.int 11)).set 9 (.int 12)).set 9 (.int 13)).set 9 (.int 14)).set 9 (.int 15)).set 9 (.int 16)) x7 (upd (upd (upd (upd (upd (upd (upd (upd (upd (upd (upd (upd (upd (upd (upd (upd (fun _ => 0) 0 ((((x2).toUInt32 >>> ((24 : Int32).toUInt32 &&& Int32.toUInt32 31)).toInt32) &&& 255)) 1 ((((x2).toUInt32 >>> ((16 : Int32).toUInt32 &&& Int32.toUInt32 31)).toInt32) &&& 255)) 2 ((((x2).toUInt32 >>> ((8 : Int32).toUInt32 &&& Int32.toUInt32 31)).toInt32) &&& 255)) 3 ((((x2).toUInt32 >>> ((0 : Int32).toUInt32 &&& Int32.toUInt32 31)).toInt32) &&& 255)) 4 ((((x3).toUInt32 >>> ((24 : Int32).toUInt32 &&& Int32.toUInt32 31)).toInt32) &&& 255)) 5 ((((x3).toUInt32 >>> ((16 : Int32).toUInt32 &&& Int32.toUInt32 31)).toInt32) &&& 255)) 6 ((((x3).toUInt32 >>> ((8 : Int32).toUInt32 &&& Int32.toUInt32 31)).toInt32) &&& 255)) 7 ((((x3).toUInt32 >>> ((0 : Int32).toUInt32 &&& Int32.toUInt32 31)).toInt32) &&& 255)) 8 ((((x4).toUInt32 >>> ((24 : Int32).toUInt32 &&& Int32.toUInt32 31)).toInt32) &&& 255)) 9 ((((x4).toUInt32 >>> ((16 : Int32).toUInt32 &&& Int32.toUInt32 31)).toInt32) &&& 255)) 10 ((((x4).toUInt32 >>> ((8 : Int32).toUInt32 &&& Int32.toUInt32 31)).toInt32) &&& 255)) 11 ((((x4).toUInt32 >>> ((0 : Int32).toUInt32 &&& Int32.toUInt32 31)).toInt32) &&& 255)) 12 ((((x5).toUInt32 >>> ((24 : Int32).toUInt32 &&& Int32.toUInt32 31)).toInt32) &&& 255)) 13 ((((x5).toUInt32 >>> ((16 : Int32).toUInt32 &&& Int32.toUInt32 31)).toInt32) &&& 255)) 14 ((((x5).toUInt32 >>> ((8 : Int32).toUInt32 &&& Int32.toUInt32 31)).toInt32) &&& 255)) 15 ((((x5).toUInt32 >>> ((0 : Int32).toUInt32 &&& Int32.toUInt32 31)).toInt32) &&& 255)) hss (zq_len hf1_n (by simp only [List.length_set])) (zq_same (zq_lt hf1_n (by decide) (by simp only [List.length_set]))) (zq_oth (by decide) (zq_oth (by decide) (zq_oth (by decide) (zq_oth (by decide) (zq_oth (by decide) (zq_oth (by decide) (zq_oth (by decide) (zq_oth (by decide) (zq_oth (by decide) (zq_oth (by decide) (zq_oth (by decide) (zq_oth (by decide) (zq_oth (by decide) (zq_oth (by decide) (zq_oth (by decide) (zq_oth (by decide) (zq_oth (by decide) (hf1_8))))))))))))))))))) 1 (zgV zm_648 zm_649 zm_650 zm_186 zm_647) rfl (by decide +kernel) [0, 1] [] [] rfl rfl (by decide) rfl (by decide) (by decide) ⟨Nat.le_of_ble_eq_true rfl, Nat.le_of_ble_eq_true rfl⟩ 0 rfl rfl rfl rfl rfl (Nat.le_of_ble_eq_true rfl) dX13_feed_59 (Nat.le_of_ble_eq_true rfl) (Nat.le_of_ble_eq_true rfl) (fun _ hw5 => ?_)
  refine zz_show (ws' := [(x1, .inr (13, (((((((((((((((((((((f1.set 10 (.int 1)).set 9 (.int 1)).set 9 (.int 2)).set 9 (.int 3)).set 9 (.int 4)).set 9 (.int 5)).set 9 (.int 6)).set 9 (.int 7)).set 9 (.int 8)).set 9 (.int 9)).set 9 (.int 10)).set 9 (.int 11)).set 9 (.int 12)).set 9 (.int 13)).set 9 (.int 14)).set 9 (.int 15)).set 9 (.int 16)).set 9 (.int 17)).set 9 (.int 18)).set 9 (.int 19)).set 9 (.int 20)))), (x7, .inl (cA 1, 6000, .inl (upd (upd (upd (upd (upd (upd (upd (upd (upd (upd (upd (upd (upd (upd (upd (upd (upd (upd (upd (upd (fun _ => 0) 0 ((((x2).toUInt32 >>> ((24 : Int32).toUInt32 &&& Int32.toUInt32 31)).toInt32) &&& 255)) 1 ((((x2).toUInt32 >>> ((16 : Int32).toUInt32 &&& Int32.toUInt32 31)).toInt32) &&& 255)) 2 ((((x2).toUInt32 >>> ((8 : Int32).toUInt32 &&& Int32.toUInt32 31)).toInt32) &&& 255)) 3 ((((x2).toUInt32 >>> ((0 : Int32).toUInt32 &&& Int32.toUInt32 31)).toInt32) &&& 255)) 4 ((((x3).toUInt32 >>> ((24 : Int32).toUInt32 &&& Int32.toUInt32 31)).toInt32) &&& 255)) 5 ((((x3).toUInt32 >>> ((16 : Int32).toUInt32 &&& Int32.toUInt32 31)).toInt32) &&& 255)) 6 ((((x3).toUInt32 >>> ((8 : Int32).toUInt32 &&& Int32.toUInt32 31)).toInt32) &&& 255)) 7 ((((x3).toUInt32 >>> ((0 : Int32).toUInt32 &&& Int32.toUInt32 31)).toInt32) &&& 255)) 8 ((((x4).toUInt32 >>> ((24 : Int32).toUInt32 &&& Int32.toUInt32 31)).toInt32) &&& 255)) 9 ((((x4).toUInt32 >>> ((16 : Int32).toUInt32 &&& Int32.toUInt32 31)).toInt32) &&& 255)) 10 ((((x4).toUInt32 >>> ((8 : Int32).toUInt32 &&& Int32.toUInt32 31)).toInt32) &&& 255)) 11 ((((x4).toUInt32 >>> ((0 : Int32).toUInt32 &&& Int32.toUInt32 31)).toInt32) &&& 255)) 12 ((((x5).toUInt32 >>> ((24 : Int32).toUInt32 &&& Int32.toUInt32 31)).toInt32) &&& 255)) 13 ((((x5).toUInt32 >>> ((16 : Int32).toUInt32 &&& Int32.toUInt32 31)).toInt32) &&& 255)) 14 ((((x5).toUInt32 >>> ((8 : Int32).toUInt32 &&& Int32.toUInt32 31)).toInt32) &&& 255)) 15 ((((x5).toUInt32 >>> ((0 : Int32).toUInt32 &&& Int32.toUInt32 31)).toInt32) &&& 255)) 16 ((((x6).toUInt32 >>> ((24 : Int32).toUInt32 &&& Int32.toUInt32 31)).toInt32) &&& 255)) 17 ((((x6).toUInt32 >>> ((16 : Int32).toUInt32 &&& Int32.toUInt32 31)).toInt32) &&& 255)) 18 ((((x6).toUInt32 >>> ((8 : Int32).toUInt32 &&& Int32.toUInt32 31)).toInt32) &&& 255)) 19 ((((x6).toUInt32 >>> ((0 : Int32).toUInt32 &&& Int32.toUInt32 31)).toInt32) &&& 255))))]) rfl ?_
  refine zz_iconst X 1 dX13_feed_62 rfl ?_
  exact zz_zret X hr (by decide) (()) [] (by decide) rfl rfl (Nat.le_of_ble_eq_true rfl) (Nat.le_of_ble_eq_true rfl) (rfl) dX13_feed_63

set_option maxHeartbeats 4000000 in
set_option maxRecDepth 100000 in
/-- end -/
theorem kX13_end_1 {E : zEn} (hE : zOk E) (l : Launch) (D : va_G) (cA : Nat → ClassId) (K : Nat → Nat) (V : Nat → Nat) (x1 : Nat) (x2 : Int32) (f1 : List Value) (hss : zSS E K V) (hf1_n : f1.length = 23) (hf1_9 : f1[9]? = some (.int 0)) : zMi E l yX13_end zwX13_end ({ frames := 0, cells := 0, slots := 0, locals := 0 }) D vwCl (zT cA) [.ref x1, .int x2] [(x1, .inr (13, f1))] (S := Unit) (fun (r : Int32) (u : Unit) => (r = (if x2 = 0 then 1 else 0 : Int32))) (fun (u : Unit) => []) := by
  refine zz_enterz (cc := cX13_end) (lv := [(0, .ref x1), (1, .int x2)]) hE 2 (by decide) rfl (Nat.le_of_ble_eq_true rfl) rfl ?_
  intro p e s m args below meth c X hr hin
  refine zz_iload_n X 1 dX13_end_0 rfl rfl ?_
  refine zz_if_lt X 12 dX13_end_1 (by decide) (fun c1_1 => ?_) (fun c1_1 => ?_)
  · skip
    refine zz_iconst X 0 dX13_end_12 rfl ?_
    exact zz_zret X hr (by decide) (()) [] (by decide) rfl rfl (Nat.le_of_ble_eq_true rfl) (Nat.le_of_ble_eq_true rfl) ((if_neg (zq_ltne c1_1)).symm) dX13_end_13
  · skip
    refine zz_iload_n X 1 dX13_end_4 rfl rfl ?_
    refine zz_aload_n X 0 dX13_end_5 rfl rfl ?_
    refine zz_get X 0 9 rfl rfl (by decide) (fun w h => List.mem_cons_of_mem _ (zf_X13 w h)) rfl (List.mem_cons_of_mem _ zm_302) hf1_9 dX13_end_6 ?_
    refine zz_icmp_le X 14 dX13_end_9 (by decide) (fun c9_2 => ?_) (fun c9_2 => ?_)
    · skip
      refine zz_aload_n X 0 dX13_end_14 rfl rfl ?_
      refine zz_iload_n X 1 dX13_end_15 rfl rfl ?_
      refine zz_put X 0 9 rfl rfl (by decide) (fun w h => List.mem_cons_of_mem _ (zf_X13 w h)) rfl (List.mem_cons_of_mem _ zm_302) tyX13 tyX13_ok nmX13 rfl (ty := .int) rfl rfl rfl (zq_lt hf1_n (by decide) (by simp only [List.length_set])) dX13_end_16 [(x1, .inr (13, (f1.set 9 (.int x2))))] rfl ?_
      refine zz_iconst X 1 dX13_end_19 rfl ?_
      exact zz_zret X hr (by decide) (()) [] (by decide) rfl rfl (Nat.le_of_ble_eq_true rfl) (Nat.le_of_ble_eq_true rfl) ((if_pos (zq_eq0 (zq_nlt c1_1) c9_2)).symm) dX13_end_20
    · skip
      refine zz_iconst X 0 dX13_end_12 rfl ?_
      exact zz_zret X hr (by decide) (()) [] (by decide) rfl rfl (Nat.le_of_ble_eq_true rfl) (Nat.le_of_ble_eq_true rfl) ((if_neg (zq_gtne (zq_nle c9_2))).symm) dX13_end_13

set_option maxHeartbeats 4000000 in
set_option maxRecDepth 100000 in
/-- emptied -/
theorem kX13_emptied_1 {E : zEn} (hE : zOk E) (l : Launch) (D : va_G) (cA : Nat → ClassId) (K : Nat → Nat) (V : Nat → Nat) (x1 : Nat) (f1 : List Value) (hss : zSS E K V) (hf1_n : f1.length = 23) (hf1_9 : f1[9]? = some (.int 0)) : zMi E l yX13_emptied zwX13_emptied ({ frames := 0, cells := 0, slots := 0, locals := 0 }) D vwCl (zT cA) [.ref x1] [(x1, .inr (13, f1))] (S := Unit) (fun (r : Int32) (u : Unit) => (r = 0)) (fun (u : Unit) => [(x1, .inr (13, (f1.set 9 (.int 0))))]) := by
  refine zz_enteri (cc := cX13_emptied) (lv := [(0, .ref x1)]) hE 2 (by decide) rfl (Nat.le_of_ble_eq_true rfl) rfl ?_
  intro p e s m args below meth c X hr hin
  refine zz_aload_n X 0 dX13_emptied_0 rfl rfl ?_
  refine zz_get X 0 9 rfl rfl (by decide) (fun w h => List.mem_cons_of_mem _ (zf_X13 w h)) rfl (List.mem_cons_of_mem _ zm_302) hf1_9 dX13_emptied_1 ?_
  refine zz_istore_n X [(1, .int 0), (0, .ref x1)] dX13_emptied_4 rfl (by decide) rfl ?_
  refine zz_aload_n X 1 dX13_emptied_5 rfl rfl ?_
  refine zz_iconst X 0 dX13_emptied_6 rfl ?_
  refine zz_put X 0 9 rfl rfl (by decide) (fun w h => List.mem_cons_of_mem _ (zf_X13 w h)) rfl (List.mem_cons_of_mem _ zm_302) tyX13 tyX13_ok nmX13 rfl (ty := .int) rfl rfl rfl (zq_lt hf1_n (by decide) (by simp only [List.length_set])) dX13_emptied_7 [(x1, .inr (13, (f1.set 9 (.int 0))))] rfl ?_
  refine zz_iload_n X 0 dX13_emptied_10 rfl rfl ?_
  exact zz_iret X hr (()) [0] (by decide) rfl rfl (Nat.le_of_ble_eq_true rfl) (Nat.le_of_ble_eq_true rfl) (rfl) dX13_emptied_11

set_option maxHeartbeats 4000000 in
set_option maxRecDepth 100000 in
/-- behindBlanks -/
theorem kX8_behindBlanks_1 {E : zEn} (hE : zOk E) (l : Launch) (D : va_G) (cA : Nat → ClassId) (K : Nat → Nat) (V : Nat → Nat) (x1 : Nat) (x2 : Nat) (f1 : List Value) (hss : zSS E K V) (hf1_n : f1.length = 15) : zMi E l yX8_behindBlanks zwX8_behindBlanks ({ frames := 0, cells := 0, slots := 0, locals := 0 }) D vwCl (zT cA) [.ref x1, .ref x2, .int 0, .int 0] [(x1, .inr (8, f1))] (S := Unit) (fun (r : Int32) (u : Unit) => (r = 0)) (fun (u : Unit) => [(x1, .inr (8, (f1.set 12 (.int 0))))]) := by
  refine zz_enteri (cc := cX8_behindBlanks) (lv := [(0, .ref x1), (1, .ref x2), (2, .int 0), (3, .int 0)]) hE 6 (by decide) rfl (Nat.le_of_ble_eq_true rfl) rfl ?_
  intro p e s m args below meth c X hr hin
  refine zz_iload_n X 2 dX8_behindBlanks_0 rfl rfl ?_
  refine zz_istore X [(4, .int 0), (0, .ref x1), (1, .ref x2), (2, .int 0), (3, .int 0)] dX8_behindBlanks_1 (by decide) rfl ?_
  refine zz_aload_n X 1 dX8_behindBlanks_3 rfl rfl ?_
  refine zz_iconst X 0 dX8_behindBlanks_4 rfl ?_
  refine zz_put X 0 12 rfl rfl (by decide) (fun w h => List.mem_cons_of_mem _ (zf_X8 w h)) rfl (List.mem_cons_of_mem _ zm_29) tyX8 tyX8_ok nmX8 rfl (ty := .int) rfl rfl rfl (zq_lt hf1_n (by decide) (by simp only [List.length_set])) dX8_behindBlanks_5 [(x1, .inr (8, (f1.set 12 (.int 0))))] rfl ?_
  refine zz_iconst X 0 dX8_behindBlanks_8 rfl ?_
  refine zz_istore X [(5, .int 0), (4, .int 0), (0, .ref x1), (1, .ref x2), (2, .int 0), (3, .int 0)] dX8_behindBlanks_9 (by decide) rfl ?_
  refine zz_iload X 1 dX8_behindBlanks_11 rfl ?_
  refine zz_iload_n X 5 dX8_behindBlanks_13 rfl rfl ?_
  refine zz_icmp_ge X 96 dX8_behindBlanks_14 (by decide) (fun _ => ?_) (fun h => absurd (by decide) h)
  refine zz_iload X 1 dX8_behindBlanks_96 rfl ?_
  exact zz_iret X hr (()) [0] (by decide) rfl rfl (Nat.le_of_ble_eq_true rfl) (Nat.le_of_ble_eq_true rfl) (rfl) dX8_behindBlanks_98

set_option maxHeartbeats 4000000 in
set_option maxRecDepth 100000 in
/-- split -/
theorem kX8_split_1 {E : zEn} (hE : zOk E) (l : Launch) (D : va_G) (cA : Nat → ClassId) (K : Nat → Nat) (V : Nat → Nat) (x1 : Nat) (x2 : Nat) (f1 : List Value) (x3 : Nat) (x4 : Nat) (x5 : Nat) (x6 : Nat) (hss : zSS E K V) (hf1_n : f1.length = 15) (hf1_4 : f1[4]? = some (.ref x3)) (hf1_5 : f1[5]? = some (.ref x4)) (hf1_6 : f1[6]? = some (.ref x5)) (hf1_3 : f1[3]? = some (.ref x6)) : zMv E l yX8_split zwX8_split ({ frames := 1, cells := 0, slots := 0, locals := 25 }) D vwCl (zT cA) [.ref x1, .ref x2, .int 0] [(x1, .inr (8, f1)), (x3, .inl (cA 1, 6002, .inl (fun _ => 0))), (x4, .inl (cA 1, 6002, .inl (fun _ => 0))), (x5, .inl (cA 1, 6002, .inl (fun _ => 0))), (x6, .inl (cA 1, 6002, .inl (fun _ => 0)))] (S := Unit) (fun (u : Unit) => (True)) (fun (u : Unit) => [(x1, .inr (8, (((((((f1.set 8 (.int 0)).set 7 (.int (-1))).set 12 (.int 0)).set 8 (.int 1)).set 9 (.int 0)).set 10 (.int 0)).set 11 (.int (-1))))), (x3, .inl (cA 1, 6002, .inl (upd (fun _ => 0) 0 0))), (x4, .inl (cA 1, 6002, .inl (upd (fun _ => 0) 0 0))), (x5, .inl (cA 1, 6002, .inl (upd (fun _ => 0) 0 0))), (x6, .inl (cA 1, 6002, .inl (upd (fun _ => 0) 0 0)))]) := by
  refine zz_enterv (cc := cX8_split) (lv := [(0, .ref x1), (1, .ref x2), (2, .int 0)]) hE 5 (by decide) rfl (Nat.le_of_ble_eq_true rfl) rfl ?_
  intro p e s m args below meth c X hr hin
  refine zz_aload_n X 0 dX8_split_0 rfl rfl ?_
  refine zz_iconst X 0 dX8_split_1 rfl ?_
  refine zz_put X 0 8 rfl rfl (by decide) (fun w h => List.mem_cons_of_mem _ (zf_X8 w h)) rfl (List.mem_cons_of_mem _ zm_25) tyX8 tyX8_ok nmX8 rfl (ty := .int) rfl rfl rfl (zq_lt hf1_n (by decide) (by simp only [List.length_set])) dX8_split_2 [(x1, .inr (8, (f1.set 8 (.int 0)))), (x3, .inl (cA 1, 6002, .inl (fun _ => 0))), (x4, .inl (cA 1, 6002, .inl (fun _ => 0))), (x5, .inl (cA 1, 6002, .inl (fun _ => 0))), (x6, .inl (cA 1, 6002, .inl (fun _ => 0)))] rfl ?_
  refine zz_aload_n X 0 dX8_split_5 rfl rfl ?_
  refine zz_iconst X (-1) dX8_split_6 rfl ?_
  refine zz_put X 0 7 rfl rfl (by decide) (fun w h => List.mem_cons_of_mem _ (zf_X8 w h)) rfl (List.mem_cons_of_mem _ zm_24) tyX8 tyX8_ok nmX8 rfl (ty := .int) rfl rfl rfl (zq_lt hf1_n (by decide) (by simp only [List.length_set])) dX8_split_7 [(x1, .inr (8, ((f1.set 8 (.int 0)).set 7 (.int (-1))))), (x3, .inl (cA 1, 6002, .inl (fun _ => 0))), (x4, .inl (cA 1, 6002, .inl (fun _ => 0))), (x5, .inl (cA 1, 6002, .inl (fun _ => 0))), (x6, .inl (cA 1, 6002, .inl (fun _ => 0)))] rfl ?_
  refine zz_iconst X 0 dX8_split_10 rfl ?_
  refine zz_istore_n X [(3, .int 0), (0, .ref x1), (1, .ref x2), (2, .int 0)] dX8_split_11 rfl (by decide) rfl ?_
  refine zz_iconst X 0 dX8_split_12 rfl ?_
  refine zz_istore X [(4, .int 0), (3, .int 0), (0, .ref x1), (1, .ref x2), (2, .int 0)] dX8_split_13 (by decide) rfl ?_
  refine zz_iload X 0 dX8_split_15 rfl ?_
  refine zz_sipush X 6001 dX8_split_17 rfl ?_
  refine zz_icmp_ge X 123 dX8_split_20 (by decide) (fun h => absurd h (by decide)) (fun _ => ?_)
  refine zz_aload_n X 2 dX8_split_23 rfl rfl ?_
  refine zz_aload_n X 3 dX8_split_24 rfl rfl ?_
  refine zz_iload_n X 1 dX8_split_25 rfl rfl ?_
  refine zz_iload_n X 4 dX8_split_26 rfl rfl ?_
  refine zz_callVi X (rest := []) (As := [.ref x2, .int 0, .int 0]) (kX8_behindBlanks_1 hE l D cA K V x1 x2 ((f1.set 8 (.int 0)).set 7 (.int (-1))) hss (zq_len hf1_n (by simp only [List.length_set]))) 3 (zgV zm_674 zm_675 zm_676 zm_273 zm_673) rfl (by decide +kernel) [0] [1, 2, 3, 4] [(x3, .inl (cA 1, 6002, .inl (fun _ => 0))), (x4, .inl (cA 1, 6002, .inl (fun _ => 0))), (x5, .inl (cA 1, 6002, .inl (fun _ => 0))), (x6, .inl (cA 1, 6002, .inl (fun _ => 0)))] rfl rfl (by decide) rfl (by decide) (by decide) ⟨Nat.le_of_ble_eq_true rfl, Nat.le_of_ble_eq_true rfl⟩ 0 rfl rfl rfl rfl rfl (Nat.le_of_ble_eq_true rfl) dX8_split_27 (Nat.le_of_ble_eq_true rfl) (Nat.le_of_ble_eq_true rfl) (fun r1 _ hw2 => ?_)
  obtain rfl := hw2
  refine zz_show (ws' := [(x3, .inl (cA 1, 6002, .inl (fun _ => 0))), (x4, .inl (cA 1, 6002, .inl (fun _ => 0))), (x5, .inl (cA 1, 6002, .inl (fun _ => 0))), (x6, .inl (cA 1, 6002, .inl (fun _ => 0))), (x1, .inr (8, (((f1.set 8 (.int 0)).set 7 (.int (-1))).set 12 (.int 0))))]) rfl ?_
  refine zz_istore_n X [(3, .int 0), (4, .int 0), (0, .ref x1), (1, .ref x2), (2, .int 0)] dX8_split_30 rfl (by decide) rfl ?_
  refine zz_aload_n X 2 dX8_split_31 rfl rfl ?_
  refine zz_iload X 1 dX8_split_32 rfl ?_
  refine zz_iconst X 1 dX8_split_34 rfl ?_
  refine zz_iadd X (1) dX8_split_35 (by decide) ?_
  refine zz_put X 4 8 rfl rfl (by decide) (fun w h => List.mem_cons_of_mem _ (zf_X8 w h)) rfl (List.mem_cons_of_mem _ zm_25) tyX8 tyX8_ok nmX8 rfl (ty := .int) rfl rfl rfl (zq_lt hf1_n (by decide) (by simp only [List.length_set])) dX8_split_36 [(x3, .inl (cA 1, 6002, .inl (fun _ => 0))), (x4, .inl (cA 1, 6002, .inl (fun _ => 0))), (x5, .inl (cA 1, 6002, .inl (fun _ => 0))), (x6, .inl (cA 1, 6002, .inl (fun _ => 0))), (x1, .inr (8, ((((f1.set 8 (.int 0)).set 7 (.int (-1))).set 12 (.int 0)).set 8 (.int 1))))] rfl ?_
  refine zz_aload_n X 2 dX8_split_39 rfl rfl ?_
  refine zz_get X 4 4 rfl rfl (by decide) (fun w h => List.mem_cons_of_mem _ (zf_X8 w h)) rfl (List.mem_cons_of_mem _ zm_21) (zq_oth (by decide) (zq_oth (by decide) (zq_oth (by decide) (zq_oth (by decide) (hf1_4))))) dX8_split_40 ?_
  refine zz_iload X 1 dX8_split_43 rfl ?_
  refine zz_iload_n X 0 dX8_split_45 rfl rfl ?_
  refine zz_iast X 0 1 rfl rfl (vp_in_nI (n := 0) (by decide) (by decide)) 0 (by decide) dX8_split_46 [(x3, .inl (cA 1, 6002, .inl (upd (fun _ => 0) 0 0))), (x4, .inl (cA 1, 6002, .inl (fun _ => 0))), (x5, .inl (cA 1, 6002, .inl (fun _ => 0))), (x6, .inl (cA 1, 6002, .inl (fun _ => 0))), (x1, .inr (8, ((((f1.set 8 (.int 0)).set 7 (.int (-1))).set 12 (.int 0)).set 8 (.int 1))))] rfl ?_
  refine zz_aload_n X 2 dX8_split_47 rfl rfl ?_
  refine zz_get X 4 5 rfl rfl (by decide) (fun w h => List.mem_cons_of_mem _ (zf_X8 w h)) rfl (List.mem_cons_of_mem _ zm_22) (zq_oth (by decide) (zq_oth (by decide) (zq_oth (by decide) (zq_oth (by decide) (hf1_5))))) dX8_split_48 ?_
  refine zz_iload X 1 dX8_split_51 rfl ?_
  refine zz_aload_n X 2 dX8_split_53 rfl rfl ?_
  refine zz_get X 4 12 rfl rfl (by decide) (fun w h => List.mem_cons_of_mem _ (zf_X8 w h)) rfl (List.mem_cons_of_mem _ zm_29) (zq_oth (by decide) ((zq_same (zq_lt hf1_n (by decide) (by simp only [List.length_set]))))) dX8_split_54 ?_
  refine zz_iast X 1 1 rfl rfl (vp_in_nI (n := 0) (by decide) (by decide)) 0 (by decide) dX8_split_57 [(x3, .inl (cA 1, 6002, .inl (upd (fun _ => 0) 0 0))), (x4, .inl (cA 1, 6002, .inl (upd (fun _ => 0) 0 0))), (x5, .inl (cA 1, 6002, .inl (fun _ => 0))), (x6, .inl (cA 1, 6002, .inl (fun _ => 0))), (x1, .inr (8, ((((f1.set 8 (.int 0)).set 7 (.int (-1))).set 12 (.int 0)).set 8 (.int 1))))] rfl ?_
  refine zz_aload_n X 2 dX8_split_58 rfl rfl ?_
  refine zz_get X 4 6 rfl rfl (by decide) (fun w h => List.mem_cons_of_mem _ (zf_X8 w h)) rfl (List.mem_cons_of_mem _ zm_23) (zq_oth (by decide) (zq_oth (by decide) (zq_oth (by decide) (zq_oth (by decide) (hf1_6))))) dX8_split_59 ?_
  refine zz_iload X 1 dX8_split_62 rfl ?_
  refine zz_iconst X 0 dX8_split_64 rfl ?_
  refine zz_iast X 2 1 rfl rfl (vp_in_nI (n := 0) (by decide) (by decide)) 0 (by decide) dX8_split_65 [(x3, .inl (cA 1, 6002, .inl (upd (fun _ => 0) 0 0))), (x4, .inl (cA 1, 6002, .inl (upd (fun _ => 0) 0 0))), (x5, .inl (cA 1, 6002, .inl (upd (fun _ => 0) 0 0))), (x6, .inl (cA 1, 6002, .inl (fun _ => 0))), (x1, .inr (8, ((((f1.set 8 (.int 0)).set 7 (.int (-1))).set 12 (.int 0)).set 8 (.int 1))))] rfl ?_
  refine zz_aload_n X 2 dX8_split_66 rfl rfl ?_
  refine zz_get X 4 3 rfl rfl (by decide) (fun w h => List.mem_cons_of_mem _ (zf_X8 w h)) rfl (List.mem_cons_of_mem _ zm_20) (zq_oth (by decide) (zq_oth (by decide) (zq_oth (by decide) (zq_oth (by decide) (hf1_3))))) dX8_split_67 ?_
  refine zz_iload X 1 dX8_split_70 rfl ?_
  refine zz_iconst X 0 dX8_split_72 rfl ?_
  refine zz_iast X 3 1 rfl rfl (vp_in_nI (n := 0) (by decide) (by decide)) 0 (by decide) dX8_split_73 [(x3, .inl (cA 1, 6002, .inl (upd (fun _ => 0) 0 0))), (x4, .inl (cA 1, 6002, .inl (upd (fun _ => 0) 0 0))), (x5, .inl (cA 1, 6002, .inl (upd (fun _ => 0) 0 0))), (x6, .inl (cA 1, 6002, .inl (upd (fun _ => 0) 0 0))), (x1, .inr (8, ((((f1.set 8 (.int 0)).set 7 (.int (-1))).set 12 (.int 0)).set 8 (.int 1))))] rfl ?_
  refine zz_iload_n X 0 dX8_split_74 rfl rfl ?_
  refine zz_iload_n X 4 dX8_split_75 rfl rfl ?_
  refine zz_icmp_lt X 82 dX8_split_76 (by decide) (fun h => absurd h (by decide)) (fun _ => ?_)
  refine zz_goto X 123 dX8_split_79 (by decide) ?_
  refine zz_aload_n X 2 dX8_split_123 rfl rfl ?_
  refine zz_iconst X 0 dX8_split_124 rfl ?_
  refine zz_put X 4 9 rfl rfl (by decide) (fun w h => List.mem_cons_of_mem _ (zf_X8 w h)) rfl (List.mem_cons_of_mem _ zm_26) tyX8 tyX8_ok nmX8 rfl (ty := .int) rfl rfl rfl (zq_lt hf1_n (by decide) (by simp only [List.length_set])) dX8_split_125 [(x3, .inl (cA 1, 6002, .inl (upd (fun _ => 0) 0 0))), (x4, .inl (cA 1, 6002, .inl (upd (fun _ => 0) 0 0))), (x5, .inl (cA 1, 6002, .inl (upd (fun _ => 0) 0 0))), (x6, .inl (cA 1, 6002, .inl (upd (fun _ => 0) 0 0))), (x1, .inr (8, (((((f1.set 8 (.int 0)).set 7 (.int (-1))).set 12 (.int 0)).set 8 (.int 1)).set 9 (.int 0))))] rfl ?_
  refine zz_aload_n X 2 dX8_split_128 rfl rfl ?_
  refine zz_iconst X 0 dX8_split_129 rfl ?_
  refine zz_put X 4 10 rfl rfl (by decide) (fun w h => List.mem_cons_of_mem _ (zf_X8 w h)) rfl (List.mem_cons_of_mem _ zm_27) tyX8 tyX8_ok nmX8 rfl (ty := .int) rfl rfl rfl (zq_lt hf1_n (by decide) (by simp only [List.length_set])) dX8_split_130 [(x3, .inl (cA 1, 6002, .inl (upd (fun _ => 0) 0 0))), (x4, .inl (cA 1, 6002, .inl (upd (fun _ => 0) 0 0))), (x5, .inl (cA 1, 6002, .inl (upd (fun _ => 0) 0 0))), (x6, .inl (cA 1, 6002, .inl (upd (fun _ => 0) 0 0))), (x1, .inr (8, ((((((f1.set 8 (.int 0)).set 7 (.int (-1))).set 12 (.int 0)).set 8 (.int 1)).set 9 (.int 0)).set 10 (.int 0))))] rfl ?_
  refine zz_aload_n X 2 dX8_split_133 rfl rfl ?_
  refine zz_iconst X (-1) dX8_split_134 rfl ?_
  refine zz_put X 4 11 rfl rfl (by decide) (fun w h => List.mem_cons_of_mem _ (zf_X8 w h)) rfl (List.mem_cons_of_mem _ zm_28) tyX8 tyX8_ok nmX8 rfl (ty := .int) rfl rfl rfl (zq_lt hf1_n (by decide) (by simp only [List.length_set])) dX8_split_135 [(x3, .inl (cA 1, 6002, .inl (upd (fun _ => 0) 0 0))), (x4, .inl (cA 1, 6002, .inl (upd (fun _ => 0) 0 0))), (x5, .inl (cA 1, 6002, .inl (upd (fun _ => 0) 0 0))), (x6, .inl (cA 1, 6002, .inl (upd (fun _ => 0) 0 0))), (x1, .inr (8, (((((((f1.set 8 (.int 0)).set 7 (.int (-1))).set 12 (.int 0)).set 8 (.int 1)).set 9 (.int 0)).set 10 (.int 0)).set 11 (.int (-1)))))] rfl ?_
  exact zz_vret X hr (()) [4, 0, 1, 2, 3] (by decide) rfl rfl (Nat.le_of_ble_eq_true rfl) (Nat.le_of_ble_eq_true rfl) (trivial) dX8_split_138

set_option maxHeartbeats 4000000 in
set_option maxRecDepth 100000 in
/-- init -/
theorem kX12_init_1 {E : zEn} (hE : zOk E) (l : Launch) (D : va_G) (cA : Nat → ClassId) (K : Nat → Nat) (V : Nat → Nat) (x1 : Nat) (f1 : List Value) (hss : zSS E K V) (hf1_n : f1.length = 15) : zMv E l yX12_init zwX12_init ({ frames := 1, cells := 10, slots := 320, locals := 12 }) D vwCl (zT cA) [.ref x1, .int 32] [(x1, .inr (12, f1))] (S := Nat × Nat × Nat × Nat × Nat × Nat × Nat × Nat × Nat × Nat) (fun (u : Nat × Nat × Nat × Nat × Nat × Nat × Nat × Nat × Nat × Nat) => (True)) (fun (u : Nat × Nat × Nat × Nat × Nat × Nat × Nat × Nat × Nat × Nat) => [(x1, .inr (12, (((((((((((((((f1.set 10 (.int 1)).set 11 (.int 0)).set 12 (.int 0)).set 13 (.int 0)).set 14 (.int 0)).set 0 (.ref u.1)).set 1 (.ref u.2.1)).set 2 (.ref u.2.2.1)).set 3 (.ref u.2.2.2.1)).set 4 (.ref u.2.2.2.2.1)).set 5 (.ref u.2.2.2.2.2.1)).set 6 (.ref u.2.2.2.2.2.2.1)).set 7 (.ref u.2.2.2.2.2.2.2.1)).set 8 (.ref u.2.2.2.2.2.2.2.2.1)).set 9 (.ref u.2.2.2.2.2.2.2.2.2)))), (u.1, .inl (cA 1, 32, .inl (fun _ => 0))), (u.2.1, .inl (cA 1, 32, .inl (fun _ => 0))), (u.2.2.1, .inl (cA 1, 32, .inl (fun _ => 0))), (u.2.2.2.1, .inl (cA 1, 32, .inl (fun _ => 0))), (u.2.2.2.2.1, .inl (cA 1, 32, .inl (fun _ => 0))), (u.2.2.2.2.2.1, .inl (cA 1, 32, .inl (fun _ => 0))), (u.2.2.2.2.2.2.1, .inl (cA 1, 32, .inl (fun _ => 0))), (u.2.2.2.2.2.2.2.1, .inl (cA 1, 32, .inl (fun _ => 0))), (u.2.2.2.2.2.2.2.2.1, .inl (cA 1, 32, .inl (fun _ => 0))), (u.2.2.2.2.2.2.2.2.2, .inl (cA 1, 32, .inl (fun _ => 0)))]) := by
  refine zz_enterv (cc := cX12_init) (lv := [(0, .ref x1), (1, .int 32)]) hE 2 (by decide) rfl (Nat.le_of_ble_eq_true rfl) rfl ?_
  intro p e s m args below meth c X hr hin
  refine zz_aload_n X 0 dX12_init_0 rfl rfl ?_
  refine zz_objInit X (List.mem_cons_of_mem _ zm_684) (List.mem_cons_of_mem _ zm_1) (List.mem_cons_of_mem _ zm_2) dX12_init_1 (Nat.le_of_ble_eq_true rfl) (Nat.le_of_ble_eq_true rfl) ?_
  refine zz_aload_n X 0 dX12_init_4 rfl rfl ?_
  refine zz_iconst X 1 dX12_init_5 rfl ?_
  refine zz_put X 0 10 rfl rfl (by decide) (fun w h => List.mem_cons_of_mem _ (zf_X12 w h)) rfl (List.mem_cons_of_mem _ zm_685) tyX12 tyX12_ok nmX12 rfl (ty := .int) rfl rfl rfl (zq_lt hf1_n (by decide) (by simp only [List.length_set])) dX12_init_6 [(x1, .inr (12, (f1.set 10 (.int 1))))] rfl ?_
  refine zz_aload_n X 0 dX12_init_9 rfl rfl ?_
  refine zz_iconst X 0 dX12_init_10 rfl ?_
  refine zz_put X 0 11 rfl rfl (by decide) (fun w h => List.mem_cons_of_mem _ (zf_X12 w h)) rfl (List.mem_cons_of_mem _ zm_686) tyX12 tyX12_ok nmX12 rfl (ty := .int) rfl rfl rfl (zq_lt hf1_n (by decide) (by simp only [List.length_set])) dX12_init_11 [(x1, .inr (12, ((f1.set 10 (.int 1)).set 11 (.int 0))))] rfl ?_
  refine zz_aload_n X 0 dX12_init_14 rfl rfl ?_
  refine zz_iconst X 0 dX12_init_15 rfl ?_
  refine zz_put X 0 12 rfl rfl (by decide) (fun w h => List.mem_cons_of_mem _ (zf_X12 w h)) rfl (List.mem_cons_of_mem _ zm_687) tyX12 tyX12_ok nmX12 rfl (ty := .int) rfl rfl rfl (zq_lt hf1_n (by decide) (by simp only [List.length_set])) dX12_init_16 [(x1, .inr (12, (((f1.set 10 (.int 1)).set 11 (.int 0)).set 12 (.int 0))))] rfl ?_
  refine zz_aload_n X 0 dX12_init_19 rfl rfl ?_
  refine zz_iconst X 0 dX12_init_20 rfl ?_
  refine zz_put X 0 13 rfl rfl (by decide) (fun w h => List.mem_cons_of_mem _ (zf_X12 w h)) rfl (List.mem_cons_of_mem _ zm_688) tyX12 tyX12_ok nmX12 rfl (ty := .int) rfl rfl rfl (zq_lt hf1_n (by decide) (by simp only [List.length_set])) dX12_init_21 [(x1, .inr (12, ((((f1.set 10 (.int 1)).set 11 (.int 0)).set 12 (.int 0)).set 13 (.int 0))))] rfl ?_
  refine zz_aload_n X 0 dX12_init_24 rfl rfl ?_
  refine zz_iconst X 0 dX12_init_25 rfl ?_
  refine zz_put X 0 14 rfl rfl (by decide) (fun w h => List.mem_cons_of_mem _ (zf_X12 w h)) rfl (List.mem_cons_of_mem _ zm_689) tyX12 tyX12_ok nmX12 rfl (ty := .int) rfl rfl rfl (zq_lt hf1_n (by decide) (by simp only [List.length_set])) dX12_init_26 [(x1, .inr (12, (((((f1.set 10 (.int 1)).set 11 (.int 0)).set 12 (.int 0)).set 13 (.int 0)).set 14 (.int 0))))] rfl ?_
  refine zz_aload_n X 0 dX12_init_29 rfl rfl ?_
  refine zz_iload_n X 1 dX12_init_30 rfl rfl ?_
  refine zz_newaI X 1 rfl 32 (List.mem_cons_of_mem _ zm_9) (by decide) (by decide) (Nat.le_of_ble_eq_true rfl) (Nat.le_of_ble_eq_true rfl) (Nat.le_of_ble_eq_true rfl) dX12_init_31 (fun q1 => ?_)
  refine zz_show (ws' := [(x1, .inr (12, (((((f1.set 10 (.int 1)).set 11 (.int 0)).set 12 (.int 0)).set 13 (.int 0)).set 14 (.int 0)))), (q1, .inl (cA 1, 32, .inl (fun _ => 0)))]) rfl ?_
  refine zz_putF X 0 0 rfl rfl (by decide) (fun w h => List.mem_cons_of_mem _ (zf_X12 w h)) rfl (List.mem_cons_of_mem _ zm_690) tyX12 tyX12_ok nmX12 rfl hin rfl (ty := (.array .int)) rfl rfl rfl (zq_lt hf1_n (by decide) (by simp only [List.length_set])) dX12_init_33 [(x1, .inr (12, ((((((f1.set 10 (.int 1)).set 11 (.int 0)).set 12 (.int 0)).set 13 (.int 0)).set 14 (.int 0)).set 0 (.ref q1)))), (q1, .inl (cA 1, 32, .inl (fun _ => 0)))] rfl ?_
  refine zz_aload_n X 0 dX12_init_36 rfl rfl ?_
  refine zz_iload_n X 1 dX12_init_37 rfl rfl ?_
  refine zz_newaI X 1 rfl 32 (List.mem_cons_of_mem _ zm_9) (by decide) (by decide) (Nat.le_of_ble_eq_true rfl) (Nat.le_of_ble_eq_true rfl) (Nat.le_of_ble_eq_true rfl) dX12_init_38 (fun q2 => ?_)
  refine zz_show (ws' := [(x1, .inr (12, ((((((f1.set 10 (.int 1)).set 11 (.int 0)).set 12 (.int 0)).set 13 (.int 0)).set 14 (.int 0)).set 0 (.ref q1)))), (q1, .inl (cA 1, 32, .inl (fun _ => 0))), (q2, .inl (cA 1, 32, .inl (fun _ => 0)))]) rfl ?_
  refine zz_putF X 0 1 rfl rfl (by decide) (fun w h => List.mem_cons_of_mem _ (zf_X12 w h)) rfl (List.mem_cons_of_mem _ zm_691) tyX12 tyX12_ok nmX12 rfl hin rfl (ty := (.array .int)) rfl rfl rfl (zq_lt hf1_n (by decide) (by simp only [List.length_set])) dX12_init_40 [(x1, .inr (12, (((((((f1.set 10 (.int 1)).set 11 (.int 0)).set 12 (.int 0)).set 13 (.int 0)).set 14 (.int 0)).set 0 (.ref q1)).set 1 (.ref q2)))), (q1, .inl (cA 1, 32, .inl (fun _ => 0))), (q2, .inl (cA 1, 32, .inl (fun _ => 0)))] rfl ?_
  refine zz_aload_n X 0 dX12_init_43 rfl rfl ?_
  refine zz_iload_n X 1 dX12_init_44 rfl rfl ?_
  refine zz_newaI X 1 rfl 32 (List.mem_cons_of_mem _ zm_9) (by decide) (by decide) (Nat.le_of_ble_eq_true rfl) (Nat.le_of_ble_eq_true rfl) (Nat.le_of_ble_eq_true rfl) dX12_init_45 (fun q3 => ?_)
  refine zz_show (ws' := [(x1, .inr (12, (((((((f1.set 10 (.int 1)).set 11 (.int 0)).set 12 (.int 0)).set 13 (.int 0)).set 14 (.int 0)).set 0 (.ref q1)).set 1 (.ref q2)))), (q1, .inl (cA 1, 32, .inl (fun _ => 0))), (q2, .inl (cA 1, 32, .inl (fun _ => 0))), (q3, .inl (cA 1, 32, .inl (fun _ => 0)))]) rfl ?_
  refine zz_putF X 0 2 rfl rfl (by decide) (fun w h => List.mem_cons_of_mem _ (zf_X12 w h)) rfl (List.mem_cons_of_mem _ zm_692) tyX12 tyX12_ok nmX12 rfl hin rfl (ty := (.array .int)) rfl rfl rfl (zq_lt hf1_n (by decide) (by simp only [List.length_set])) dX12_init_47 [(x1, .inr (12, ((((((((f1.set 10 (.int 1)).set 11 (.int 0)).set 12 (.int 0)).set 13 (.int 0)).set 14 (.int 0)).set 0 (.ref q1)).set 1 (.ref q2)).set 2 (.ref q3)))), (q1, .inl (cA 1, 32, .inl (fun _ => 0))), (q2, .inl (cA 1, 32, .inl (fun _ => 0))), (q3, .inl (cA 1, 32, .inl (fun _ => 0)))] rfl ?_
  refine zz_aload_n X 0 dX12_init_50 rfl rfl ?_
  refine zz_iload_n X 1 dX12_init_51 rfl rfl ?_
  refine zz_newaI X 1 rfl 32 (List.mem_cons_of_mem _ zm_9) (by decide) (by decide) (Nat.le_of_ble_eq_true rfl) (Nat.le_of_ble_eq_true rfl) (Nat.le_of_ble_eq_true rfl) dX12_init_52 (fun q4 => ?_)
  refine zz_show (ws' := [(x1, .inr (12, ((((((((f1.set 10 (.int 1)).set 11 (.int 0)).set 12 (.int 0)).set 13 (.int 0)).set 14 (.int 0)).set 0 (.ref q1)).set 1 (.ref q2)).set 2 (.ref q3)))), (q1, .inl (cA 1, 32, .inl (fun _ => 0))), (q2, .inl (cA 1, 32, .inl (fun _ => 0))), (q3, .inl (cA 1, 32, .inl (fun _ => 0))), (q4, .inl (cA 1, 32, .inl (fun _ => 0)))]) rfl ?_
  refine zz_putF X 0 3 rfl rfl (by decide) (fun w h => List.mem_cons_of_mem _ (zf_X12 w h)) rfl (List.mem_cons_of_mem _ zm_693) tyX12 tyX12_ok nmX12 rfl hin rfl (ty := (.array .int)) rfl rfl rfl (zq_lt hf1_n (by decide) (by simp only [List.length_set])) dX12_init_54 [(x1, .inr (12, (((((((((f1.set 10 (.int 1)).set 11 (.int 0)).set 12 (.int 0)).set 13 (.int 0)).set 14 (.int 0)).set 0 (.ref q1)).set 1 (.ref q2)).set 2 (.ref q3)).set 3 (.ref q4)))), (q1, .inl (cA 1, 32, .inl (fun _ => 0))), (q2, .inl (cA 1, 32, .inl (fun _ => 0))), (q3, .inl (cA 1, 32, .inl (fun _ => 0))), (q4, .inl (cA 1, 32, .inl (fun _ => 0)))] rfl ?_
  refine zz_aload_n X 0 dX12_init_57 rfl rfl ?_
  refine zz_iload_n X 1 dX12_init_58 rfl rfl ?_
  refine zz_newaI X 1 rfl 32 (List.mem_cons_of_mem _ zm_9) (by decide) (by decide) (Nat.le_of_ble_eq_true rfl) (Nat.le_of_ble_eq_true rfl) (Nat.le_of_ble_eq_true rfl) dX12_init_59 (fun q5 => ?_)
  refine zz_show (ws' := [(x1, .inr (12, (((((((((f1.set 10 (.int 1)).set 11 (.int 0)).set 12 (.int 0)).set 13 (.int 0)).set 14 (.int 0)).set 0 (.ref q1)).set 1 (.ref q2)).set 2 (.ref q3)).set 3 (.ref q4)))), (q1, .inl (cA 1, 32, .inl (fun _ => 0))), (q2, .inl (cA 1, 32, .inl (fun _ => 0))), (q3, .inl (cA 1, 32, .inl (fun _ => 0))), (q4, .inl (cA 1, 32, .inl (fun _ => 0))), (q5, .inl (cA 1, 32, .inl (fun _ => 0)))]) rfl ?_
  refine zz_putF X 0 4 rfl rfl (by decide) (fun w h => List.mem_cons_of_mem _ (zf_X12 w h)) rfl (List.mem_cons_of_mem _ zm_694) tyX12 tyX12_ok nmX12 rfl hin rfl (ty := (.array .int)) rfl rfl rfl (zq_lt hf1_n (by decide) (by simp only [List.length_set])) dX12_init_61 [(x1, .inr (12, ((((((((((f1.set 10 (.int 1)).set 11 (.int 0)).set 12 (.int 0)).set 13 (.int 0)).set 14 (.int 0)).set 0 (.ref q1)).set 1 (.ref q2)).set 2 (.ref q3)).set 3 (.ref q4)).set 4 (.ref q5)))), (q1, .inl (cA 1, 32, .inl (fun _ => 0))), (q2, .inl (cA 1, 32, .inl (fun _ => 0))), (q3, .inl (cA 1, 32, .inl (fun _ => 0))), (q4, .inl (cA 1, 32, .inl (fun _ => 0))), (q5, .inl (cA 1, 32, .inl (fun _ => 0)))] rfl ?_
  refine zz_aload_n X 0 dX12_init_64 rfl rfl ?_
  refine zz_iload_n X 1 dX12_init_65 rfl rfl ?_
  refine zz_newaI X 1 rfl 32 (List.mem_cons_of_mem _ zm_9) (by decide) (by decide) (Nat.le_of_ble_eq_true rfl) (Nat.le_of_ble_eq_true rfl) (Nat.le_of_ble_eq_true rfl) dX12_init_66 (fun q6 => ?_)
  refine zz_show (ws' := [(x1, .inr (12, ((((((((((f1.set 10 (.int 1)).set 11 (.int 0)).set 12 (.int 0)).set 13 (.int 0)).set 14 (.int 0)).set 0 (.ref q1)).set 1 (.ref q2)).set 2 (.ref q3)).set 3 (.ref q4)).set 4 (.ref q5)))), (q1, .inl (cA 1, 32, .inl (fun _ => 0))), (q2, .inl (cA 1, 32, .inl (fun _ => 0))), (q3, .inl (cA 1, 32, .inl (fun _ => 0))), (q4, .inl (cA 1, 32, .inl (fun _ => 0))), (q5, .inl (cA 1, 32, .inl (fun _ => 0))), (q6, .inl (cA 1, 32, .inl (fun _ => 0)))]) rfl ?_
  refine zz_putF X 0 5 rfl rfl (by decide) (fun w h => List.mem_cons_of_mem _ (zf_X12 w h)) rfl (List.mem_cons_of_mem _ zm_695) tyX12 tyX12_ok nmX12 rfl hin rfl (ty := (.array .int)) rfl rfl rfl (zq_lt hf1_n (by decide) (by simp only [List.length_set])) dX12_init_68 [(x1, .inr (12, (((((((((((f1.set 10 (.int 1)).set 11 (.int 0)).set 12 (.int 0)).set 13 (.int 0)).set 14 (.int 0)).set 0 (.ref q1)).set 1 (.ref q2)).set 2 (.ref q3)).set 3 (.ref q4)).set 4 (.ref q5)).set 5 (.ref q6)))), (q1, .inl (cA 1, 32, .inl (fun _ => 0))), (q2, .inl (cA 1, 32, .inl (fun _ => 0))), (q3, .inl (cA 1, 32, .inl (fun _ => 0))), (q4, .inl (cA 1, 32, .inl (fun _ => 0))), (q5, .inl (cA 1, 32, .inl (fun _ => 0))), (q6, .inl (cA 1, 32, .inl (fun _ => 0)))] rfl ?_
  refine zz_aload_n X 0 dX12_init_71 rfl rfl ?_
  refine zz_iload_n X 1 dX12_init_72 rfl rfl ?_
  refine zz_newaI X 1 rfl 32 (List.mem_cons_of_mem _ zm_9) (by decide) (by decide) (Nat.le_of_ble_eq_true rfl) (Nat.le_of_ble_eq_true rfl) (Nat.le_of_ble_eq_true rfl) dX12_init_73 (fun q7 => ?_)
  refine zz_show (ws' := [(x1, .inr (12, (((((((((((f1.set 10 (.int 1)).set 11 (.int 0)).set 12 (.int 0)).set 13 (.int 0)).set 14 (.int 0)).set 0 (.ref q1)).set 1 (.ref q2)).set 2 (.ref q3)).set 3 (.ref q4)).set 4 (.ref q5)).set 5 (.ref q6)))), (q1, .inl (cA 1, 32, .inl (fun _ => 0))), (q2, .inl (cA 1, 32, .inl (fun _ => 0))), (q3, .inl (cA 1, 32, .inl (fun _ => 0))), (q4, .inl (cA 1, 32, .inl (fun _ => 0))), (q5, .inl (cA 1, 32, .inl (fun _ => 0))), (q6, .inl (cA 1, 32, .inl (fun _ => 0))), (q7, .inl (cA 1, 32, .inl (fun _ => 0)))]) rfl ?_
  refine zz_putF X 0 6 rfl rfl (by decide) (fun w h => List.mem_cons_of_mem _ (zf_X12 w h)) rfl (List.mem_cons_of_mem _ zm_696) tyX12 tyX12_ok nmX12 rfl hin rfl (ty := (.array .int)) rfl rfl rfl (zq_lt hf1_n (by decide) (by simp only [List.length_set])) dX12_init_75 [(x1, .inr (12, ((((((((((((f1.set 10 (.int 1)).set 11 (.int 0)).set 12 (.int 0)).set 13 (.int 0)).set 14 (.int 0)).set 0 (.ref q1)).set 1 (.ref q2)).set 2 (.ref q3)).set 3 (.ref q4)).set 4 (.ref q5)).set 5 (.ref q6)).set 6 (.ref q7)))), (q1, .inl (cA 1, 32, .inl (fun _ => 0))), (q2, .inl (cA 1, 32, .inl (fun _ => 0))), (q3, .inl (cA 1, 32, .inl (fun _ => 0))), (q4, .inl (cA 1, 32, .inl (fun _ => 0))), (q5, .inl (cA 1, 32, .inl (fun _ => 0))), (q6, .inl (cA 1, 32, .inl (fun _ => 0))), (q7, .inl (cA 1, 32, .inl (fun _ => 0)))] rfl ?_
  refine zz_aload_n X 0 dX12_init_78 rfl rfl ?_
  refine zz_iload_n X 1 dX12_init_79 rfl rfl ?_
  refine zz_newaI X 1 rfl 32 (List.mem_cons_of_mem _ zm_9) (by decide) (by decide) (Nat.le_of_ble_eq_true rfl) (Nat.le_of_ble_eq_true rfl) (Nat.le_of_ble_eq_true rfl) dX12_init_80 (fun q8 => ?_)
  refine zz_show (ws' := [(x1, .inr (12, ((((((((((((f1.set 10 (.int 1)).set 11 (.int 0)).set 12 (.int 0)).set 13 (.int 0)).set 14 (.int 0)).set 0 (.ref q1)).set 1 (.ref q2)).set 2 (.ref q3)).set 3 (.ref q4)).set 4 (.ref q5)).set 5 (.ref q6)).set 6 (.ref q7)))), (q1, .inl (cA 1, 32, .inl (fun _ => 0))), (q2, .inl (cA 1, 32, .inl (fun _ => 0))), (q3, .inl (cA 1, 32, .inl (fun _ => 0))), (q4, .inl (cA 1, 32, .inl (fun _ => 0))), (q5, .inl (cA 1, 32, .inl (fun _ => 0))), (q6, .inl (cA 1, 32, .inl (fun _ => 0))), (q7, .inl (cA 1, 32, .inl (fun _ => 0))), (q8, .inl (cA 1, 32, .inl (fun _ => 0)))]) rfl ?_
  refine zz_putF X 0 7 rfl rfl (by decide) (fun w h => List.mem_cons_of_mem _ (zf_X12 w h)) rfl (List.mem_cons_of_mem _ zm_697) tyX12 tyX12_ok nmX12 rfl hin rfl (ty := (.array .int)) rfl rfl rfl (zq_lt hf1_n (by decide) (by simp only [List.length_set])) dX12_init_82 [(x1, .inr (12, (((((((((((((f1.set 10 (.int 1)).set 11 (.int 0)).set 12 (.int 0)).set 13 (.int 0)).set 14 (.int 0)).set 0 (.ref q1)).set 1 (.ref q2)).set 2 (.ref q3)).set 3 (.ref q4)).set 4 (.ref q5)).set 5 (.ref q6)).set 6 (.ref q7)).set 7 (.ref q8)))), (q1, .inl (cA 1, 32, .inl (fun _ => 0))), (q2, .inl (cA 1, 32, .inl (fun _ => 0))), (q3, .inl (cA 1, 32, .inl (fun _ => 0))), (q4, .inl (cA 1, 32, .inl (fun _ => 0))), (q5, .inl (cA 1, 32, .inl (fun _ => 0))), (q6, .inl (cA 1, 32, .inl (fun _ => 0))), (q7, .inl (cA 1, 32, .inl (fun _ => 0))), (q8, .inl (cA 1, 32, .inl (fun _ => 0)))] rfl ?_
  refine zz_aload_n X 0 dX12_init_85 rfl rfl ?_
  refine zz_iload_n X 1 dX12_init_86 rfl rfl ?_
  refine zz_newaI X 1 rfl 32 (List.mem_cons_of_mem _ zm_9) (by decide) (by decide) (Nat.le_of_ble_eq_true rfl) (Nat.le_of_ble_eq_true rfl) (Nat.le_of_ble_eq_true rfl) dX12_init_87 (fun q9 => ?_)
  refine zz_show (ws' := [(x1, .inr (12, (((((((((((((f1.set 10 (.int 1)).set 11 (.int 0)).set 12 (.int 0)).set 13 (.int 0)).set 14 (.int 0)).set 0 (.ref q1)).set 1 (.ref q2)).set 2 (.ref q3)).set 3 (.ref q4)).set 4 (.ref q5)).set 5 (.ref q6)).set 6 (.ref q7)).set 7 (.ref q8)))), (q1, .inl (cA 1, 32, .inl (fun _ => 0))), (q2, .inl (cA 1, 32, .inl (fun _ => 0))), (q3, .inl (cA 1, 32, .inl (fun _ => 0))), (q4, .inl (cA 1, 32, .inl (fun _ => 0))), (q5, .inl (cA 1, 32, .inl (fun _ => 0))), (q6, .inl (cA 1, 32, .inl (fun _ => 0))), (q7, .inl (cA 1, 32, .inl (fun _ => 0))), (q8, .inl (cA 1, 32, .inl (fun _ => 0))), (q9, .inl (cA 1, 32, .inl (fun _ => 0)))]) rfl ?_
  refine zz_putF X 0 8 rfl rfl (by decide) (fun w h => List.mem_cons_of_mem _ (zf_X12 w h)) rfl (List.mem_cons_of_mem _ zm_698) tyX12 tyX12_ok nmX12 rfl hin rfl (ty := (.array .int)) rfl rfl rfl (zq_lt hf1_n (by decide) (by simp only [List.length_set])) dX12_init_89 [(x1, .inr (12, ((((((((((((((f1.set 10 (.int 1)).set 11 (.int 0)).set 12 (.int 0)).set 13 (.int 0)).set 14 (.int 0)).set 0 (.ref q1)).set 1 (.ref q2)).set 2 (.ref q3)).set 3 (.ref q4)).set 4 (.ref q5)).set 5 (.ref q6)).set 6 (.ref q7)).set 7 (.ref q8)).set 8 (.ref q9)))), (q1, .inl (cA 1, 32, .inl (fun _ => 0))), (q2, .inl (cA 1, 32, .inl (fun _ => 0))), (q3, .inl (cA 1, 32, .inl (fun _ => 0))), (q4, .inl (cA 1, 32, .inl (fun _ => 0))), (q5, .inl (cA 1, 32, .inl (fun _ => 0))), (q6, .inl (cA 1, 32, .inl (fun _ => 0))), (q7, .inl (cA 1, 32, .inl (fun _ => 0))), (q8, .inl (cA 1, 32, .inl (fun _ => 0))), (q9, .inl (cA 1, 32, .inl (fun _ => 0)))] rfl ?_
  refine zz_aload_n X 0 dX12_init_92 rfl rfl ?_
  refine zz_iload_n X 1 dX12_init_93 rfl rfl ?_
  refine zz_newaI X 1 rfl 32 (List.mem_cons_of_mem _ zm_9) (by decide) (by decide) (Nat.le_of_ble_eq_true rfl) (Nat.le_of_ble_eq_true rfl) (Nat.le_of_ble_eq_true rfl) dX12_init_94 (fun q10 => ?_)
  refine zz_show (ws' := [(x1, .inr (12, ((((((((((((((f1.set 10 (.int 1)).set 11 (.int 0)).set 12 (.int 0)).set 13 (.int 0)).set 14 (.int 0)).set 0 (.ref q1)).set 1 (.ref q2)).set 2 (.ref q3)).set 3 (.ref q4)).set 4 (.ref q5)).set 5 (.ref q6)).set 6 (.ref q7)).set 7 (.ref q8)).set 8 (.ref q9)))), (q1, .inl (cA 1, 32, .inl (fun _ => 0))), (q2, .inl (cA 1, 32, .inl (fun _ => 0))), (q3, .inl (cA 1, 32, .inl (fun _ => 0))), (q4, .inl (cA 1, 32, .inl (fun _ => 0))), (q5, .inl (cA 1, 32, .inl (fun _ => 0))), (q6, .inl (cA 1, 32, .inl (fun _ => 0))), (q7, .inl (cA 1, 32, .inl (fun _ => 0))), (q8, .inl (cA 1, 32, .inl (fun _ => 0))), (q9, .inl (cA 1, 32, .inl (fun _ => 0))), (q10, .inl (cA 1, 32, .inl (fun _ => 0)))]) rfl ?_
  refine zz_putF X 0 9 rfl rfl (by decide) (fun w h => List.mem_cons_of_mem _ (zf_X12 w h)) rfl (List.mem_cons_of_mem _ zm_699) tyX12 tyX12_ok nmX12 rfl hin rfl (ty := (.array .int)) rfl rfl rfl (zq_lt hf1_n (by decide) (by simp only [List.length_set])) dX12_init_96 [(x1, .inr (12, (((((((((((((((f1.set 10 (.int 1)).set 11 (.int 0)).set 12 (.int 0)).set 13 (.int 0)).set 14 (.int 0)).set 0 (.ref q1)).set 1 (.ref q2)).set 2 (.ref q3)).set 3 (.ref q4)).set 4 (.ref q5)).set 5 (.ref q6)).set 6 (.ref q7)).set 7 (.ref q8)).set 8 (.ref q9)).set 9 (.ref q10)))), (q1, .inl (cA 1, 32, .inl (fun _ => 0))), (q2, .inl (cA 1, 32, .inl (fun _ => 0))), (q3, .inl (cA 1, 32, .inl (fun _ => 0))), (q4, .inl (cA 1, 32, .inl (fun _ => 0))), (q5, .inl (cA 1, 32, .inl (fun _ => 0))), (q6, .inl (cA 1, 32, .inl (fun _ => 0))), (q7, .inl (cA 1, 32, .inl (fun _ => 0))), (q8, .inl (cA 1, 32, .inl (fun _ => 0))), (q9, .inl (cA 1, 32, .inl (fun _ => 0))), (q10, .inl (cA 1, 32, .inl (fun _ => 0)))] rfl ?_
  exact zz_vret X hr ((q1, q2, q3, q4, q5, q6, q7, q8, q9, q10)) [0, 1, 2, 3, 4, 5, 6, 7, 8, 9, 10] (by decide) rfl rfl (Nat.le_of_ble_eq_true rfl) (Nat.le_of_ble_eq_true rfl) (trivial) dX12_init_99

set_option maxHeartbeats 4000000 in
set_option maxRecDepth 100000 in
/-- is -/
theorem kX8_is_1 {E : zEn} (hE : zOk E) (l : Launch) (D : va_G) (cA : Nat → ClassId) (K : Nat → Nat) (V : Nat → Nat) (x1 : Nat) (f1 : List Value) (x2 : Nat) (hss : zSS E K V) (hf1_n : f1.length = 15) (hf1_11 : f1[11]? = some (.int (-1))) (hf1_3 : f1[3]? = some (.ref x2)) (hf1_9 : f1[9]? = some (.int 0)) : zMi E l yX8_is zwX8_is ({ frames := 0, cells := 0, slots := 0, locals := 0 }) D vwCl (zT cA) [.ref x1, .int 5] [(x1, .inr (8, f1)), (x2, .inl (cA 1, 6002, .inl (upd (fun _ => 0) 0 0)))] (S := Unit) (fun (r : Int32) (u : Unit) => (r = 0)) (fun (u : Unit) => [(x1, .inr (8, f1)), (x2, .inl (cA 1, 6002, .inl (upd (fun _ => 0) 0 0)))]) := by
  refine zz_enterz (cc := cX8_is) (lv := [(0, .ref x1), (1, .int 5)]) hE 2 (by decide) rfl (Nat.le_of_ble_eq_true rfl) rfl ?_
  intro p e s m args below meth c X hr hin
  refine zz_aload_n X 0 dX8_is_0 rfl rfl ?_
  refine zz_get X 0 11 rfl rfl (by decide) (fun w h => List.mem_cons_of_mem _ (zf_X8 w h)) rfl (List.mem_cons_of_mem _ zm_28) hf1_11 dX8_is_1 ?_
  refine zz_if_ge X 24 dX8_is_4 (by decide) (fun h => absurd h (by decide)) (fun _ => ?_)
  refine zz_aload_n X 0 dX8_is_7 rfl rfl ?_
  refine zz_get X 0 3 rfl rfl (by decide) (fun w h => List.mem_cons_of_mem _ (zf_X8 w h)) rfl (List.mem_cons_of_mem _ zm_20) hf1_3 dX8_is_8 ?_
  refine zz_aload_n X 0 dX8_is_11 rfl rfl ?_
  refine zz_get X 0 9 rfl rfl (by decide) (fun w h => List.mem_cons_of_mem _ (zf_X8 w h)) rfl (List.mem_cons_of_mem _ zm_26) hf1_9 dX8_is_12 ?_
  refine zz_iald X 1 1 rfl rfl (vp_in_nI (n := 0) (by decide) (by decide)) (0) rfl dX8_is_15 ?_
  refine zz_iload_n X 1 dX8_is_16 rfl rfl ?_
  refine zz_icmp_ne X 24 dX8_is_17 (by decide) (fun _ => ?_) (fun h => absurd h (by decide))
  refine zz_iconst X 0 dX8_is_24 rfl ?_
  exact zz_zret X hr (by decide) (()) [0, 1] (by decide) rfl rfl (Nat.le_of_ble_eq_true rfl) (Nat.le_of_ble_eq_true rfl) (rfl) dX8_is_25

set_option maxHeartbeats 4000000 in
set_option maxRecDepth 100000 in
/-- fail -/
theorem kX8_fail_1 {E : zEn} (hE : zOk E) (l : Launch) (D : va_G) (cA : Nat → ClassId) (K : Nat → Nat) (V : Nat → Nat) (x1 : Nat) (f1 : List Value) (x2 : Nat) (hss : zSS E K V) (hf1_n : f1.length = 15) (hf1_11 : f1[11]? = some (.int (-1))) (hf1_4 : f1[4]? = some (.ref x2)) (hf1_9 : f1[9]? = some (.int 0)) : zMv E l yX8_fail zwX8_fail ({ frames := 0, cells := 0, slots := 0, locals := 0 }) D vwCl (zT cA) [.ref x1] [(x1, .inr (8, f1)), (x2, .inl (cA 1, 6002, .inl (upd (fun _ => 0) 0 0)))] (S := Unit) (fun (u : Unit) => (True)) (fun (u : Unit) => [(x1, .inr (8, (f1.set 11 (.int 0)))), (x2, .inl (cA 1, 6002, .inl (upd (fun _ => 0) 0 0)))]) := by
  refine zz_enterv (cc := cX8_fail) (lv := [(0, .ref x1)]) hE 1 (by decide) rfl (Nat.le_of_ble_eq_true rfl) rfl ?_
  intro p e s m args below meth c X hr hin
  refine zz_aload_n X 0 dX8_fail_0 rfl rfl ?_
  refine zz_get X 0 11 rfl rfl (by decide) (fun w h => List.mem_cons_of_mem _ (zf_X8 w h)) rfl (List.mem_cons_of_mem _ zm_28) hf1_11 dX8_fail_1 ?_
  refine zz_if_ge X 20 dX8_fail_4 (by decide) (fun h => absurd h (by decide)) (fun _ => ?_)
  refine zz_aload_n X 0 dX8_fail_7 rfl rfl ?_
  refine zz_aload_n X 0 dX8_fail_8 rfl rfl ?_
  refine zz_get X 0 4 rfl rfl (by decide) (fun w h => List.mem_cons_of_mem _ (zf_X8 w h)) rfl (List.mem_cons_of_mem _ zm_21) hf1_4 dX8_fail_9 ?_
  refine zz_aload_n X 0 dX8_fail_12 rfl rfl ?_
  refine zz_get X 0 9 rfl rfl (by decide) (fun w h => List.mem_cons_of_mem _ (zf_X8 w h)) rfl (List.mem_cons_of_mem _ zm_26) hf1_9 dX8_fail_13 ?_
  refine zz_iald X 1 1 rfl rfl (vp_in_nI (n := 0) (by decide) (by decide)) (0) rfl dX8_fail_16 ?_
  refine zz_put X 0 11 rfl rfl (by decide) (fun w h => List.mem_cons_of_mem _ (zf_X8 w h)) rfl (List.mem_cons_of_mem _ zm_28) tyX8 tyX8_ok nmX8 rfl (ty := .int) rfl rfl rfl (zq_lt hf1_n (by decide) (by simp only [List.length_set])) dX8_fail_17 [(x1, .inr (8, (f1.set 11 (.int 0)))), (x2, .inl (cA 1, 6002, .inl (upd (fun _ => 0) 0 0)))] rfl ?_
  exact zz_vret X hr (()) [0, 1] (by decide) rfl rfl (Nat.le_of_ble_eq_true rfl) (Nat.le_of_ble_eq_true rfl) (trivial) dX8_fail_20

set_option maxHeartbeats 4000000 in
set_option maxRecDepth 100000 in
/-- need -/
theorem kX8_need_1 {E : zEn} (hE : zOk E) (l : Launch) (D : va_G) (cA : Nat → ClassId) (K : Nat → Nat) (V : Nat → Nat) (x1 : Nat) (f1 : List Value) (x2 : Nat) (x3 : Nat) (hss : zSS E K V) (hf1_n : f1.length = 15) (hf1_11 : f1[11]? = some (.int (-1))) (hf1_3 : f1[3]? = some (.ref x2)) (hf1_9 : f1[9]? = some (.int 0)) (hf1_4 : f1[4]? = some (.ref x3)) : zMv E l yX8_need zwX8_need ({ frames := 1, cells := 0, slots := 0, locals := 21 }) D vwCl (zT cA) [.ref x1, .int 5] [(x1, .inr (8, f1)), (x2, .inl (cA 1, 6002, .inl (upd (fun _ => 0) 0 0))), (x3, .inl (cA 1, 6002, .inl (upd (fun _ => 0) 0 0)))] (S := Unit) (fun (u : Unit) => (True)) (fun (u : Unit) => [(x1, .inr (8, (f1.set 11 (.int 0)))), (x2, .inl (cA 1, 6002, .inl (upd (fun _ => 0) 0 0))), (x3, .inl (cA 1, 6002, .inl (upd (fun _ => 0) 0 0)))]) := by
  refine zz_enterv (cc := cX8_need) (lv := [(0, .ref x1), (1, .int 5)]) hE 2 (by decide) rfl (Nat.le_of_ble_eq_true rfl) rfl ?_
  intro p e s m args below meth c X hr hin
  refine zz_aload_n X 0 dX8_need_0 rfl rfl ?_
  refine zz_iload_n X 1 dX8_need_1 rfl rfl ?_
  refine zz_callVi X (rest := []) (As := [.int 5]) (kX8_is_1 hE l D cA K V x1 f1 x2 hss (zq_len hf1_n (by simp only [List.length_set])) hf1_11 hf1_3 hf1_9) 1 (zgV zm_704 zm_705 zm_706 zm_273 zm_703) rfl (by decide +kernel) [0, 1] [2] [(x3, .inl (cA 1, 6002, .inl (upd (fun _ => 0) 0 0)))] rfl rfl (by decide) rfl (by decide) (by decide) ⟨Nat.le_of_ble_eq_true rfl, Nat.le_of_ble_eq_true rfl⟩ 0 rfl rfl rfl rfl rfl (Nat.le_of_ble_eq_true rfl) dX8_need_2 (Nat.le_of_ble_eq_true rfl) (Nat.le_of_ble_eq_true rfl) (fun r1 _ hw2 => ?_)
  obtain rfl := hw2
  refine zz_show (ws' := [(x3, .inl (cA 1, 6002, .inl (upd (fun _ => 0) 0 0))), (x1, .inr (8, f1)), (x2, .inl (cA 1, 6002, .inl (upd (fun _ => 0) 0 0)))]) rfl ?_
  refine zz_if_eq X 15 dX8_need_5 (by decide) (fun _ => ?_) (fun h => absurd (by decide) h)
  refine zz_aload_n X 0 dX8_need_15 rfl rfl ?_
  refine zz_callVv X (rest := []) (As := []) (kX8_fail_1 hE l D cA K V x1 f1 x3 hss (zq_len hf1_n (by simp only [List.length_set])) hf1_11 hf1_4 hf1_9) 0 (zgV zm_708 zm_709 zm_710 zm_273 zm_707) rfl (by decide +kernel) [1, 0] [2] [(x2, .inl (cA 1, 6002, .inl (upd (fun _ => 0) 0 0)))] rfl rfl (by decide) rfl (by decide) (by decide) ⟨Nat.le_of_ble_eq_true rfl, Nat.le_of_ble_eq_true rfl⟩ 0 rfl rfl rfl rfl rfl (Nat.le_of_ble_eq_true rfl) dX8_need_16 (Nat.le_of_ble_eq_true rfl) (Nat.le_of_ble_eq_true rfl) (fun _ hw3 => ?_)
  refine zz_show (ws' := [(x2, .inl (cA 1, 6002, .inl (upd (fun _ => 0) 0 0))), (x1, .inr (8, (f1.set 11 (.int 0)))), (x3, .inl (cA 1, 6002, .inl (upd (fun _ => 0) 0 0)))]) rfl ?_
  exact zz_vret X hr (()) [1, 0, 2] (by decide) rfl rfl (Nat.le_of_ble_eq_true rfl) (Nat.le_of_ble_eq_true rfl) (trivial) dX8_need_19

set_option maxHeartbeats 4000000 in
set_option maxRecDepth 100000 in
/-- add -/
theorem kX12_add_1 {E : zEn} (hE : zOk E) (l : Launch) (D : va_G) (cA : Nat → ClassId) (K : Nat → Nat) (V : Nat → Nat) (x1 : Nat) (f1 : List Value) (x2 : Nat) (x3 : Nat) (hss : zSS E K V) (hf1_n : f1.length = 15) (hf1_10 : f1[10]? = some (.int 1)) (hf1_0 : f1[0]? = some (.ref x2)) (hf1_1 : f1[1]? = some (.ref x3)) : zMi E l yX12_add zwX12_add ({ frames := 0, cells := 0, slots := 0, locals := 0 }) D vwCl (zT cA) [.ref x1, .int 6, .int 0] [(x1, .inr (12, f1)), (x2, .inl (cA 1, 32, .inl (fun _ => 0))), (x3, .inl (cA 1, 32, .inl (fun _ => 0)))] (S := Unit) (fun (r : Int32) (u : Unit) => (r = 1)) (fun (u : Unit) => [(x1, .inr (12, (f1.set 10 (.int 2)))), (x2, .inl (cA 1, 32, .inl (upd (fun _ => 0) 1 6))), (x3, .inl (cA 1, 32, .inl (upd (fun _ => 0) 1 0)))]) := by
  refine zz_enteri (cc := cX12_add) (lv := [(0, .ref x1), (1, .int 6), (2, .int 0)]) hE 4 (by decide) rfl (Nat.le_of_ble_eq_true rfl) rfl ?_
  intro p e s m args below meth c X hr hin
  refine zz_aload_n X 0 dX12_add_0 rfl rfl ?_
  refine zz_get X 0 10 rfl rfl (by decide) (fun w h => List.mem_cons_of_mem _ (zf_X12 w h)) rfl (List.mem_cons_of_mem _ zm_685) hf1_10 dX12_add_1 ?_
  refine zz_aload_n X 0 dX12_add_4 rfl rfl ?_
  refine zz_get X 0 0 rfl rfl (by decide) (fun w h => List.mem_cons_of_mem _ (zf_X12 w h)) rfl (List.mem_cons_of_mem _ zm_690) hf1_0 dX12_add_5 ?_
  refine zz_alen X 1 1 rfl rfl (32) rfl dX12_add_8 ?_
  refine zz_icmp_lt X 14 dX12_add_9 (by decide) (fun _ => ?_) (fun h => absurd (by decide) h)
  refine zz_aload_n X 0 dX12_add_14 rfl rfl ?_
  refine zz_get X 0 10 rfl rfl (by decide) (fun w h => List.mem_cons_of_mem _ (zf_X12 w h)) rfl (List.mem_cons_of_mem _ zm_685) hf1_10 dX12_add_15 ?_
  refine zz_istore_n X [(3, .int 1), (0, .ref x1), (1, .int 6), (2, .int 0)] dX12_add_18 rfl (by decide) rfl ?_
  refine zz_aload_n X 1 dX12_add_19 rfl rfl ?_
  refine zz_dup X dX12_add_20 rfl ?_
  refine zz_get X 0 10 rfl rfl (by decide) (fun w h => List.mem_cons_of_mem _ (zf_X12 w h)) rfl (List.mem_cons_of_mem _ zm_685) hf1_10 dX12_add_21 ?_
  refine zz_iconst X 1 dX12_add_24 rfl ?_
  refine zz_iadd X (2) dX12_add_25 (by decide) ?_
  refine zz_put X 0 10 rfl rfl (by decide) (fun w h => List.mem_cons_of_mem _ (zf_X12 w h)) rfl (List.mem_cons_of_mem _ zm_685) tyX12 tyX12_ok nmX12 rfl (ty := .int) rfl rfl rfl (zq_lt hf1_n (by decide) (by simp only [List.length_set])) dX12_add_26 [(x1, .inr (12, (f1.set 10 (.int 2)))), (x2, .inl (cA 1, 32, .inl (fun _ => 0))), (x3, .inl (cA 1, 32, .inl (fun _ => 0)))] rfl ?_
  refine zz_aload_n X 1 dX12_add_29 rfl rfl ?_
  refine zz_get X 0 0 rfl rfl (by decide) (fun w h => List.mem_cons_of_mem _ (zf_X12 w h)) rfl (List.mem_cons_of_mem _ zm_690) (zq_oth (by decide) (hf1_0)) dX12_add_30 ?_
  refine zz_iload_n X 0 dX12_add_33 rfl rfl ?_
  refine zz_iload_n X 2 dX12_add_34 rfl rfl ?_
  refine zz_iast X 1 1 rfl rfl (vp_in_nI (n := 1) (by decide) (by decide)) 1 (by decide) dX12_add_35 [(x1, .inr (12, (f1.set 10 (.int 2)))), (x2, .inl (cA 1, 32, .inl (upd (fun _ => 0) 1 6))), (x3, .inl (cA 1, 32, .inl (fun _ => 0)))] rfl ?_
  refine zz_aload_n X 1 dX12_add_36 rfl rfl ?_
  refine zz_get X 0 1 rfl rfl (by decide) (fun w h => List.mem_cons_of_mem _ (zf_X12 w h)) rfl (List.mem_cons_of_mem _ zm_691) (zq_oth (by decide) (hf1_1)) dX12_add_37 ?_
  refine zz_iload_n X 0 dX12_add_40 rfl rfl ?_
  refine zz_iload_n X 3 dX12_add_41 rfl rfl ?_
  refine zz_iast X 2 1 rfl rfl (vp_in_nI (n := 1) (by decide) (by decide)) 1 (by decide) dX12_add_42 [(x1, .inr (12, (f1.set 10 (.int 2)))), (x2, .inl (cA 1, 32, .inl (upd (fun _ => 0) 1 6))), (x3, .inl (cA 1, 32, .inl (upd (fun _ => 0) 1 0)))] rfl ?_
  refine zz_iload_n X 0 dX12_add_43 rfl rfl ?_
  exact zz_iret X hr (()) [0, 1, 2] (by decide) rfl rfl (Nat.le_of_ble_eq_true rfl) (Nat.le_of_ble_eq_true rfl) (rfl) dX12_add_44

set_option maxHeartbeats 4000000 in
set_option maxRecDepth 100000 in
/-- node -/
theorem kX8_node_1 {E : zEn} (hE : zOk E) (l : Launch) (D : va_G) (cA : Nat → ClassId) (K : Nat → Nat) (V : Nat → Nat) (x1 : Nat) (f1 : List Value) (x2 : Nat) (x3 : Nat) (f2 : List Value) (x4 : Nat) (x5 : Nat) (hss : zSS E K V) (hf1_n : f1.length = 15) (hf1_14 : f1[14]? = some (.ref x2)) (hf1_4 : f1[4]? = some (.ref x3)) (hf1_9 : f1[9]? = some (.int 0)) (hf2_n : f2.length = 15) (hf2_10 : f2[10]? = some (.int 1)) (hf2_0 : f2[0]? = some (.ref x4)) (hf2_1 : f2[1]? = some (.ref x5)) : zMi E l yX8_node zwX8_node ({ frames := 1, cells := 0, slots := 0, locals := 23 }) D vwCl (zT cA) [.ref x1, .int 6] [(x1, .inr (8, f1)), (x3, .inl (cA 1, 6002, .inl (upd (fun _ => 0) 0 0))), (x2, .inr (12, f2)), (x4, .inl (cA 1, 32, .inl (fun _ => 0))), (x5, .inl (cA 1, 32, .inl (fun _ => 0)))] (S := Unit) (fun (r : Int32) (u : Unit) => (r = 1)) (fun (u : Unit) => [(x1, .inr (8, f1)), (x3, .inl (cA 1, 6002, .inl (upd (fun _ => 0) 0 0))), (x2, .inr (12, (f2.set 10 (.int 2)))), (x4, .inl (cA 1, 32, .inl (upd (fun _ => 0) 1 6))), (x5, .inl (cA 1, 32, .inl (upd (fun _ => 0) 1 0)))]) := by
  refine zz_enteri (cc := cX8_node) (lv := [(0, .ref x1), (1, .int 6)]) hE 2 (by decide) rfl (Nat.le_of_ble_eq_true rfl) rfl ?_
  intro p e s m args below meth c X hr hin
  refine zz_aload_n X 0 dX8_node_0 rfl rfl ?_
  refine zz_get X 0 14 rfl rfl (by decide) (fun w h => List.mem_cons_of_mem _ (zf_X8 w h)) rfl (List.mem_cons_of_mem _ zm_31) hf1_14 dX8_node_1 ?_
  refine zz_iload_n X 1 dX8_node_4 rfl rfl ?_
  refine zz_aload_n X 0 dX8_node_5 rfl rfl ?_
  refine zz_get X 0 4 rfl rfl (by decide) (fun w h => List.mem_cons_of_mem _ (zf_X8 w h)) rfl (List.mem_cons_of_mem _ zm_21) hf1_4 dX8_node_6 ?_
  refine zz_aload_n X 0 dX8_node_9 rfl rfl ?_
  refine zz_get X 0 9 rfl rfl (by decide) (fun w h => List.mem_cons_of_mem _ (zf_X8 w h)) rfl (List.mem_cons_of_mem _ zm_26) hf1_9 dX8_node_10 ?_
  refine zz_iald X 1 1 rfl rfl (vp_in_nI (n := 0) (by decide) (by decide)) (0) rfl dX8_node_13 ?_
  refine zz_callVi X (rest := []) (As := [.int 6, .int 0]) (kX12_add_1 hE l D cA K V x2 f2 x4 x5 hss (zq_len hf2_n (by simp only [List.length_set])) hf2_10 hf2_0 hf2_1) 2 (zgV zm_716 zm_717 zm_718 zm_681 zm_715) rfl (by decide +kernel) [2, 3, 4] [0, 1] [(x1, .inr (8, f1)), (x3, .inl (cA 1, 6002, .inl (upd (fun _ => 0) 0 0)))] rfl rfl (by decide) rfl (by decide) (by decide) ⟨Nat.le_of_ble_eq_true rfl, Nat.le_of_ble_eq_true rfl⟩ 0 rfl rfl rfl rfl rfl (Nat.le_of_ble_eq_true rfl) dX8_node_14 (Nat.le_of_ble_eq_true rfl) (Nat.le_of_ble_eq_true rfl) (fun r1 _ hw2 => ?_)
  obtain rfl := hw2
  refine zz_show (ws' := [(x1, .inr (8, f1)), (x3, .inl (cA 1, 6002, .inl (upd (fun _ => 0) 0 0))), (x2, .inr (12, (f2.set 10 (.int 2)))), (x4, .inl (cA 1, 32, .inl (upd (fun _ => 0) 1 6))), (x5, .inl (cA 1, 32, .inl (upd (fun _ => 0) 1 0)))]) rfl ?_
  exact zz_iret X hr (()) [0, 1, 2, 3, 4] (by decide) rfl rfl (Nat.le_of_ble_eq_true rfl) (Nat.le_of_ble_eq_true rfl) (rfl) dX8_node_17

set_option maxHeartbeats 4000000 in
set_option maxRecDepth 100000 in
/-- add -/
theorem kX12_add_2 {E : zEn} (hE : zOk E) (l : Launch) (D : va_G) (cA : Nat → ClassId) (K : Nat → Nat) (V : Nat → Nat) (x1 : Nat) (f1 : List Value) (x2 : Nat) (x3 : Nat) (hss : zSS E K V) (hf1_n : f1.length = 15) (hf1_10 : f1[10]? = some (.int 2)) (hf1_0 : f1[0]? = some (.ref x2)) (hf1_1 : f1[1]? = some (.ref x3)) : zMi E l yX12_add zwX12_add ({ frames := 0, cells := 0, slots := 0, locals := 0 }) D vwCl (zT cA) [.ref x1, .int 6, .int 0] [(x1, .inr (12, f1)), (x2, .inl (cA 1, 32, .inl (upd (fun _ => 0) 1 6))), (x3, .inl (cA 1, 32, .inl (upd (fun _ => 0) 1 0)))] (S := Unit) (fun (r : Int32) (u : Unit) => (r = 2)) (fun (u : Unit) => [(x1, .inr (12, (f1.set 10 (.int 3)))), (x2, .inl (cA 1, 32, .inl (upd (upd (fun _ => 0) 1 6) 2 6))), (x3, .inl (cA 1, 32, .inl (upd (upd (fun _ => 0) 1 0) 2 0)))]) := by
  refine zz_enteri (cc := cX12_add) (lv := [(0, .ref x1), (1, .int 6), (2, .int 0)]) hE 4 (by decide) rfl (Nat.le_of_ble_eq_true rfl) rfl ?_
  intro p e s m args below meth c X hr hin
  refine zz_aload_n X 0 dX12_add_0 rfl rfl ?_
  refine zz_get X 0 10 rfl rfl (by decide) (fun w h => List.mem_cons_of_mem _ (zf_X12 w h)) rfl (List.mem_cons_of_mem _ zm_685) hf1_10 dX12_add_1 ?_
  refine zz_aload_n X 0 dX12_add_4 rfl rfl ?_
  refine zz_get X 0 0 rfl rfl (by decide) (fun w h => List.mem_cons_of_mem _ (zf_X12 w h)) rfl (List.mem_cons_of_mem _ zm_690) hf1_0 dX12_add_5 ?_
  refine zz_alen X 1 1 rfl rfl (32) rfl dX12_add_8 ?_
  refine zz_icmp_lt X 14 dX12_add_9 (by decide) (fun _ => ?_) (fun h => absurd (by decide) h)
  refine zz_aload_n X 0 dX12_add_14 rfl rfl ?_
  refine zz_get X 0 10 rfl rfl (by decide) (fun w h => List.mem_cons_of_mem _ (zf_X12 w h)) rfl (List.mem_cons_of_mem _ zm_685) hf1_10 dX12_add_15 ?_
  refine zz_istore_n X [(3, .int 2), (0, .ref x1), (1, .int 6), (2, .int 0)] dX12_add_18 rfl (by decide) rfl ?_
  refine zz_aload_n X 1 dX12_add_19 rfl rfl ?_
  refine zz_dup X dX12_add_20 rfl ?_
  refine zz_get X 0 10 rfl rfl (by decide) (fun w h => List.mem_cons_of_mem _ (zf_X12 w h)) rfl (List.mem_cons_of_mem _ zm_685) hf1_10 dX12_add_21 ?_
  refine zz_iconst X 1 dX12_add_24 rfl ?_
  refine zz_iadd X (3) dX12_add_25 (by decide) ?_
  refine zz_put X 0 10 rfl rfl (by decide) (fun w h => List.mem_cons_of_mem _ (zf_X12 w h)) rfl (List.mem_cons_of_mem _ zm_685) tyX12 tyX12_ok nmX12 rfl (ty := .int) rfl rfl rfl (zq_lt hf1_n (by decide) (by simp only [List.length_set])) dX12_add_26 [(x1, .inr (12, (f1.set 10 (.int 3)))), (x2, .inl (cA 1, 32, .inl (upd (fun _ => 0) 1 6))), (x3, .inl (cA 1, 32, .inl (upd (fun _ => 0) 1 0)))] rfl ?_
  refine zz_aload_n X 1 dX12_add_29 rfl rfl ?_
  refine zz_get X 0 0 rfl rfl (by decide) (fun w h => List.mem_cons_of_mem _ (zf_X12 w h)) rfl (List.mem_cons_of_mem _ zm_690) (zq_oth (by decide) (hf1_0)) dX12_add_30 ?_
  refine zz_iload_n X 0 dX12_add_33 rfl rfl ?_
  refine zz_iload_n X 2 dX12_add_34 rfl rfl ?_
  refine zz_iast X 1 1 rfl rfl (vp_in_nI (n := 2) (by decide) (by decide)) 2 (by decide) dX12_add_35 [(x1, .inr (12, (f1.set 10 (.int 3)))), (x2, .inl (cA 1, 32, .inl (upd (upd (fun _ => 0) 1 6) 2 6))), (x3, .inl (cA 1, 32, .inl (upd (fun _ => 0) 1 0)))] rfl ?_
  refine zz_aload_n X 1 dX12_add_36 rfl rfl ?_
  refine zz_get X 0 1 rfl rfl (by decide) (fun w h => List.mem_cons_of_mem _ (zf_X12 w h)) rfl (List.mem_cons_of_mem _ zm_691) (zq_oth (by decide) (hf1_1)) dX12_add_37 ?_
  refine zz_iload_n X 0 dX12_add_40 rfl rfl ?_
  refine zz_iload_n X 3 dX12_add_41 rfl rfl ?_
  refine zz_iast X 2 1 rfl rfl (vp_in_nI (n := 2) (by decide) (by decide)) 2 (by decide) dX12_add_42 [(x1, .inr (12, (f1.set 10 (.int 3)))), (x2, .inl (cA 1, 32, .inl (upd (upd (fun _ => 0) 1 6) 2 6))), (x3, .inl (cA 1, 32, .inl (upd (upd (fun _ => 0) 1 0) 2 0)))] rfl ?_
  refine zz_iload_n X 0 dX12_add_43 rfl rfl ?_
  exact zz_iret X hr (()) [0, 1, 2] (by decide) rfl rfl (Nat.le_of_ble_eq_true rfl) (Nat.le_of_ble_eq_true rfl) (rfl) dX12_add_44

set_option maxHeartbeats 4000000 in
set_option maxRecDepth 100000 in
/-- node -/
theorem kX8_node_2 {E : zEn} (hE : zOk E) (l : Launch) (D : va_G) (cA : Nat → ClassId) (K : Nat → Nat) (V : Nat → Nat) (x1 : Nat) (f1 : List Value) (x2 : Nat) (x3 : Nat) (f2 : List Value) (x4 : Nat) (x5 : Nat) (hss : zSS E K V) (hf1_n : f1.length = 15) (hf1_14 : f1[14]? = some (.ref x2)) (hf1_4 : f1[4]? = some (.ref x3)) (hf1_9 : f1[9]? = some (.int 0)) (hf2_n : f2.length = 15) (hf2_10 : f2[10]? = some (.int 2)) (hf2_0 : f2[0]? = some (.ref x4)) (hf2_1 : f2[1]? = some (.ref x5)) : zMi E l yX8_node zwX8_node ({ frames := 1, cells := 0, slots := 0, locals := 23 }) D vwCl (zT cA) [.ref x1, .int 6] [(x1, .inr (8, f1)), (x3, .inl (cA 1, 6002, .inl (upd (fun _ => 0) 0 0))), (x2, .inr (12, f2)), (x4, .inl (cA 1, 32, .inl (upd (fun _ => 0) 1 6))), (x5, .inl (cA 1, 32, .inl (upd (fun _ => 0) 1 0)))] (S := Unit) (fun (r : Int32) (u : Unit) => (r = 2)) (fun (u : Unit) => [(x1, .inr (8, f1)), (x3, .inl (cA 1, 6002, .inl (upd (fun _ => 0) 0 0))), (x2, .inr (12, (f2.set 10 (.int 3)))), (x4, .inl (cA 1, 32, .inl (upd (upd (fun _ => 0) 1 6) 2 6))), (x5, .inl (cA 1, 32, .inl (upd (upd (fun _ => 0) 1 0) 2 0)))]) := by
  refine zz_enteri (cc := cX8_node) (lv := [(0, .ref x1), (1, .int 6)]) hE 2 (by decide) rfl (Nat.le_of_ble_eq_true rfl) rfl ?_
  intro p e s m args below meth c X hr hin
  refine zz_aload_n X 0 dX8_node_0 rfl rfl ?_
  refine zz_get X 0 14 rfl rfl (by decide) (fun w h => List.mem_cons_of_mem _ (zf_X8 w h)) rfl (List.mem_cons_of_mem _ zm_31) hf1_14 dX8_node_1 ?_
  refine zz_iload_n X 1 dX8_node_4 rfl rfl ?_
  refine zz_aload_n X 0 dX8_node_5 rfl rfl ?_
  refine zz_get X 0 4 rfl rfl (by decide) (fun w h => List.mem_cons_of_mem _ (zf_X8 w h)) rfl (List.mem_cons_of_mem _ zm_21) hf1_4 dX8_node_6 ?_
  refine zz_aload_n X 0 dX8_node_9 rfl rfl ?_
  refine zz_get X 0 9 rfl rfl (by decide) (fun w h => List.mem_cons_of_mem _ (zf_X8 w h)) rfl (List.mem_cons_of_mem _ zm_26) hf1_9 dX8_node_10 ?_
  refine zz_iald X 1 1 rfl rfl (vp_in_nI (n := 0) (by decide) (by decide)) (0) rfl dX8_node_13 ?_
  refine zz_callVi X (rest := []) (As := [.int 6, .int 0]) (kX12_add_2 hE l D cA K V x2 f2 x4 x5 hss (zq_len hf2_n (by simp only [List.length_set])) hf2_10 hf2_0 hf2_1) 2 (zgV zm_716 zm_717 zm_718 zm_681 zm_715) rfl (by decide +kernel) [2, 3, 4] [0, 1] [(x1, .inr (8, f1)), (x3, .inl (cA 1, 6002, .inl (upd (fun _ => 0) 0 0)))] rfl rfl (by decide) rfl (by decide) (by decide) ⟨Nat.le_of_ble_eq_true rfl, Nat.le_of_ble_eq_true rfl⟩ 0 rfl rfl rfl rfl rfl (Nat.le_of_ble_eq_true rfl) dX8_node_14 (Nat.le_of_ble_eq_true rfl) (Nat.le_of_ble_eq_true rfl) (fun r1 _ hw2 => ?_)
  obtain rfl := hw2
  refine zz_show (ws' := [(x1, .inr (8, f1)), (x3, .inl (cA 1, 6002, .inl (upd (fun _ => 0) 0 0))), (x2, .inr (12, (f2.set 10 (.int 3)))), (x4, .inl (cA 1, 32, .inl (upd (upd (fun _ => 0) 1 6) 2 6))), (x5, .inl (cA 1, 32, .inl (upd (upd (fun _ => 0) 1 0) 2 0)))]) rfl ?_
  exact zz_iret X hr (()) [0, 1, 2, 3, 4] (by decide) rfl rfl (Nat.le_of_ble_eq_true rfl) (Nat.le_of_ble_eq_true rfl) (rfl) dX8_node_17

set_option maxHeartbeats 4000000 in
set_option maxRecDepth 100000 in
/-- is -/
theorem kX8_is_2 {E : zEn} (hE : zOk E) (l : Launch) (D : va_G) (cA : Nat → ClassId) (K : Nat → Nat) (V : Nat → Nat) (x1 : Nat) (f1 : List Value) (hss : zSS E K V) (hf1_n : f1.length = 15) (hf1_11 : f1[11]? = some (.int 0)) : zMi E l yX8_is zwX8_is ({ frames := 0, cells := 0, slots := 0, locals := 0 }) D vwCl (zT cA) [.ref x1, .int 1] [(x1, .inr (8, f1))] (S := Unit) (fun (r : Int32) (u : Unit) => (r = 0)) (fun (u : Unit) => [(x1, .inr (8, f1))]) := by
  refine zz_enterz (cc := cX8_is) (lv := [(0, .ref x1), (1, .int 1)]) hE 2 (by decide) rfl (Nat.le_of_ble_eq_true rfl) rfl ?_
  intro p e s m args below meth c X hr hin
  refine zz_aload_n X 0 dX8_is_0 rfl rfl ?_
  refine zz_get X 0 11 rfl rfl (by decide) (fun w h => List.mem_cons_of_mem _ (zf_X8 w h)) rfl (List.mem_cons_of_mem _ zm_28) hf1_11 dX8_is_1 ?_
  refine zz_if_ge X 24 dX8_is_4 (by decide) (fun _ => ?_) (fun h => absurd (by decide) h)
  refine zz_iconst X 0 dX8_is_24 rfl ?_
  exact zz_zret X hr (by decide) (()) [0] (by decide) rfl rfl (Nat.le_of_ble_eq_true rfl) (Nat.le_of_ble_eq_true rfl) (rfl) dX8_is_25

set_option maxHeartbeats 4000000 in
set_option maxRecDepth 100000 in
/-- fail -/
theorem kX8_fail_2 {E : zEn} (hE : zOk E) (l : Launch) (D : va_G) (cA : Nat → ClassId) (K : Nat → Nat) (V : Nat → Nat) (x1 : Nat) (f1 : List Value) (hss : zSS E K V) (hf1_n : f1.length = 15) (hf1_11 : f1[11]? = some (.int 0)) : zMv E l yX8_fail zwX8_fail ({ frames := 0, cells := 0, slots := 0, locals := 0 }) D vwCl (zT cA) [.ref x1] [(x1, .inr (8, f1))] (S := Unit) (fun (u : Unit) => (True)) (fun (u : Unit) => [(x1, .inr (8, f1))]) := by
  refine zz_enterv (cc := cX8_fail) (lv := [(0, .ref x1)]) hE 1 (by decide) rfl (Nat.le_of_ble_eq_true rfl) rfl ?_
  intro p e s m args below meth c X hr hin
  refine zz_aload_n X 0 dX8_fail_0 rfl rfl ?_
  refine zz_get X 0 11 rfl rfl (by decide) (fun w h => List.mem_cons_of_mem _ (zf_X8 w h)) rfl (List.mem_cons_of_mem _ zm_28) hf1_11 dX8_fail_1 ?_
  refine zz_if_ge X 20 dX8_fail_4 (by decide) (fun _ => ?_) (fun h => absurd (by decide) h)
  exact zz_vret X hr (()) [0] (by decide) rfl rfl (Nat.le_of_ble_eq_true rfl) (Nat.le_of_ble_eq_true rfl) (trivial) dX8_fail_20

set_option maxHeartbeats 4000000 in
set_option maxRecDepth 100000 in
/-- take -/
theorem kX8_take_1 {E : zEn} (hE : zOk E) (l : Launch) (D : va_G) (cA : Nat → ClassId) (K : Nat → Nat) (V : Nat → Nat) (x1 : Nat) (f1 : List Value) (hss : zSS E K V) (hf1_n : f1.length = 15) (hf1_11 : f1[11]? = some (.int 0)) : zMv E l yX8_take zwX8_take ({ frames := 0, cells := 0, slots := 0, locals := 0 }) D vwCl (zT cA) [.ref x1] [(x1, .inr (8, f1))] (S := Unit) (fun (u : Unit) => (True)) (fun (u : Unit) => [(x1, .inr (8, f1))]) := by
  refine zz_enterv (cc := cX8_take) (lv := [(0, .ref x1)]) hE 1 (by decide) rfl (Nat.le_of_ble_eq_true rfl) rfl ?_
  intro p e s m args below meth c X hr hin
  refine zz_aload_n X 0 dX8_take_0 rfl rfl ?_
  refine zz_get X 0 11 rfl rfl (by decide) (fun w h => List.mem_cons_of_mem _ (zf_X8 w h)) rfl (List.mem_cons_of_mem _ zm_28) hf1_11 dX8_take_1 ?_
  refine zz_if_lt X 8 dX8_take_4 (by decide) (fun h => absurd h (by decide)) (fun _ => ?_)
  exact zz_vret X hr (()) [0] (by decide) rfl rfl (Nat.le_of_ble_eq_true rfl) (Nat.le_of_ble_eq_true rfl) (trivial) dX8_take_7

set_option maxHeartbeats 4000000 in
set_option maxRecDepth 100000 in
/-- plainName -/
theorem kX8_plainName_1 {E : zEn} (hE : zOk E) (l : Launch) (D : va_G) (cA : Nat → ClassId) (K : Nat → Nat) (V : Nat → Nat) (x1 : Nat) (f1 : List Value) (x2 : Nat) (hss : zSS E K V) (hf1_n : f1.length = 15) (hf1_11 : f1[11]? = some (.int 0)) (hf1_6 : f1[6]? = some (.ref x2)) (hf1_9 : f1[9]? = some (.int 0)) : zMi E l yX8_plainName zwX8_plainName ({ frames := 1, cells := 0, slots := 0, locals := 21 }) D vwCl (zT cA) [.ref x1] [(x1, .inr (8, f1)), (x2, .inl (cA 1, 6002, .inl (upd (fun _ => 0) 0 0)))] (S := Unit) (fun (r : Int32) (u : Unit) => (r = 0)) (fun (u : Unit) => [(x1, .inr (8, f1)), (x2, .inl (cA 1, 6002, .inl (upd (fun _ => 0) 0 0)))]) := by
  refine zz_enteri (cc := cX8_plainName) (lv := [(0, .ref x1)]) hE 2 (by decide) rfl (Nat.le_of_ble_eq_true rfl) rfl ?_
  intro p e s m args below meth c X hr hin
  refine zz_aload_n X 0 dX8_plainName_0 rfl rfl ?_
  refine zz_iconst X 1 dX8_plainName_1 rfl ?_
  refine zz_callVi X (rest := []) (As := [.int 1]) (kX8_is_2 hE l D cA K V x1 f1 hss (zq_len hf1_n (by simp only [List.length_set])) hf1_11) 1 (zgV zm_704 zm_705 zm_706 zm_273 zm_703) rfl (by decide +kernel) [0] [1] [(x2, .inl (cA 1, 6002, .inl (upd (fun _ => 0) 0 0)))] rfl rfl (by decide) rfl (by decide) (by decide) ⟨Nat.le_of_ble_eq_true rfl, Nat.le_of_ble_eq_true rfl⟩ 0 rfl rfl rfl rfl rfl (Nat.le_of_ble_eq_true rfl) dX8_plainName_2 (Nat.le_of_ble_eq_true rfl) (Nat.le_of_ble_eq_true rfl) (fun r1 _ hw2 => ?_)
  obtain rfl := hw2
  refine zz_show (ws' := [(x2, .inl (cA 1, 6002, .inl (upd (fun _ => 0) 0 0))), (x1, .inr (8, f1))]) rfl ?_
  refine zz_if_eq X 15 dX8_plainName_5 (by decide) (fun _ => ?_) (fun h => absurd (by decide) h)
  refine zz_aload_n X 0 dX8_plainName_15 rfl rfl ?_
  refine zz_callVv X (rest := []) (As := []) (kX8_fail_2 hE l D cA K V x1 f1 hss (zq_len hf1_n (by simp only [List.length_set])) hf1_11) 0 (zgV zm_708 zm_709 zm_710 zm_273 zm_707) rfl (by decide +kernel) [1] [0] [(x2, .inl (cA 1, 6002, .inl (upd (fun _ => 0) 0 0)))] rfl rfl (by decide) rfl (by decide) (by decide) ⟨Nat.le_of_ble_eq_true rfl, Nat.le_of_ble_eq_true rfl⟩ 0 rfl rfl rfl rfl rfl (Nat.le_of_ble_eq_true rfl) dX8_plainName_16 (Nat.le_of_ble_eq_true rfl) (Nat.le_of_ble_eq_true rfl) (fun _ hw3 => ?_)
  refine zz_show (ws' := [(x2, .inl (cA 1, 6002, .inl (upd (fun _ => 0) 0 0))), (x1, .inr (8, f1))]) rfl ?_
  refine zz_aload_n X 0 dX8_plainName_19 rfl rfl ?_
  refine zz_get X 1 6 rfl rfl (by decide) (fun w h => List.mem_cons_of_mem _ (zf_X8 w h)) rfl (List.mem_cons_of_mem _ zm_23) hf1_6 dX8_plainName_20 ?_
  refine zz_aload_n X 0 dX8_plainName_23 rfl rfl ?_
  refine zz_get X 1 9 rfl rfl (by decide) (fun w h => List.mem_cons_of_mem _ (zf_X8 w h)) rfl (List.mem_cons_of_mem _ zm_26) hf1_9 dX8_plainName_24 ?_
  refine zz_iald X 0 1 rfl rfl (vp_in_nI (n := 0) (by decide) (by decide)) (0) rfl dX8_plainName_27 ?_
  refine zz_istore_n X [(1, .int 0), (0, .ref x1)] dX8_plainName_28 rfl (by decide) rfl ?_
  refine zz_aload_n X 1 dX8_plainName_29 rfl rfl ?_
  refine zz_callVv X (rest := []) (As := []) (kX8_take_1 hE l D cA K V x1 f1 hss (zq_len hf1_n (by simp only [List.length_set])) hf1_11) 0 (zgV zm_725 zm_726 zm_727 zm_273 zm_724) rfl (by decide +kernel) [1] [0] [(x2, .inl (cA 1, 6002, .inl (upd (fun _ => 0) 0 0)))] rfl rfl (by decide) rfl (by decide) (by decide) ⟨Nat.le_of_ble_eq_true rfl, Nat.le_of_ble_eq_true rfl⟩ 0 rfl rfl rfl rfl rfl (Nat.le_of_ble_eq_true rfl) dX8_plainName_30 (Nat.le_of_ble_eq_true rfl) (Nat.le_of_ble_eq_true rfl) (fun _ hw4 => ?_)
  refine zz_show (ws' := [(x2, .inl (cA 1, 6002, .inl (upd (fun _ => 0) 0 0))), (x1, .inr (8, f1))]) rfl ?_
  refine zz_iload_n X 0 dX8_plainName_33 rfl rfl ?_
  exact zz_iret X hr (()) [1, 0] (by decide) rfl rfl (Nat.le_of_ble_eq_true rfl) (Nat.le_of_ble_eq_true rfl) (rfl) dX8_plainName_34

set_option maxHeartbeats 4000000 in
set_option maxRecDepth 100000 in
/-- append -/
theorem kX12_append_1 {E : zEn} (hE : zOk E) (l : Launch) (D : va_G) (cA : Nat → ClassId) (K : Nat → Nat) (V : Nat → Nat) (x1 : Nat) (f1 : List Value) (x2 : Nat) (x3 : Nat) (hss : zSS E K V) (hf1_n : f1.length = 15) (hf1_5 : f1[5]? = some (.ref x2)) (hf1_7 : f1[7]? = some (.ref x3)) : zMv E l yX12_append zwX12_append ({ frames := 0, cells := 0, slots := 0, locals := 0 }) D vwCl (zT cA) [.ref x1, .int 1, .int 2] [(x1, .inr (12, f1)), (x2, .inl (cA 1, 32, .inl (fun _ => 0))), (x3, .inl (cA 1, 32, .inl (fun _ => 0)))] (S := Unit) (fun (u : Unit) => (True)) (fun (u : Unit) => [(x1, .inr (12, f1)), (x2, .inl (cA 1, 32, .inl (upd (fun _ => 0) 1 2))), (x3, .inl (cA 1, 32, .inl (upd (fun _ => 0) 1 2)))]) := by
  refine zz_enterv (cc := cX12_append) (lv := [(0, .ref x1), (1, .int 1), (2, .int 2)]) hE 3 (by decide) rfl (Nat.le_of_ble_eq_true rfl) rfl ?_
  intro p e s m args below meth c X hr hin
  refine zz_iload_n X 2 dX12_append_0 rfl rfl ?_
  refine zz_if_ne X 5 dX12_append_1 (by decide) (fun _ => ?_) (fun h => absurd h (by decide))
  refine zz_aload_n X 0 dX12_append_5 rfl rfl ?_
  refine zz_get X 0 5 rfl rfl (by decide) (fun w h => List.mem_cons_of_mem _ (zf_X12 w h)) rfl (List.mem_cons_of_mem _ zm_695) hf1_5 dX12_append_6 ?_
  refine zz_iload_n X 1 dX12_append_9 rfl rfl ?_
  refine zz_iald X 1 1 rfl rfl (vp_in_nI (n := 1) (by decide) (by decide)) (0) rfl dX12_append_10 ?_
  refine zz_if_ne X 24 dX12_append_11 (by decide) (fun h => absurd (by decide) h) (fun _ => ?_)
  refine zz_aload_n X 0 dX12_append_14 rfl rfl ?_
  refine zz_get X 0 5 rfl rfl (by decide) (fun w h => List.mem_cons_of_mem _ (zf_X12 w h)) rfl (List.mem_cons_of_mem _ zm_695) hf1_5 dX12_append_15 ?_
  refine zz_iload_n X 1 dX12_append_18 rfl rfl ?_
  refine zz_iload_n X 2 dX12_append_19 rfl rfl ?_
  refine zz_iast X 1 1 rfl rfl (vp_in_nI (n := 1) (by decide) (by decide)) 1 (by decide) dX12_append_20 [(x1, .inr (12, f1)), (x2, .inl (cA 1, 32, .inl (upd (fun _ => 0) 1 2))), (x3, .inl (cA 1, 32, .inl (fun _ => 0)))] rfl ?_
  refine zz_goto X 36 dX12_append_21 (by decide) ?_
  refine zz_aload_n X 0 dX12_append_36 rfl rfl ?_
  refine zz_get X 0 7 rfl rfl (by decide) (fun w h => List.mem_cons_of_mem _ (zf_X12 w h)) rfl (List.mem_cons_of_mem _ zm_697) hf1_7 dX12_append_37 ?_
  refine zz_iload_n X 1 dX12_append_40 rfl rfl ?_
  refine zz_iload_n X 2 dX12_append_41 rfl rfl ?_
  refine zz_iast X 2 1 rfl rfl (vp_in_nI (n := 1) (by decide) (by decide)) 1 (by decide) dX12_append_42 [(x1, .inr (12, f1)), (x2, .inl (cA 1, 32, .inl (upd (fun _ => 0) 1 2))), (x3, .inl (cA 1, 32, .inl (upd (fun _ => 0) 1 2)))] rfl ?_
  exact zz_vret X hr (()) [0, 1, 2] (by decide) rfl rfl (Nat.le_of_ble_eq_true rfl) (Nat.le_of_ble_eq_true rfl) (trivial) dX12_append_43

set_option maxHeartbeats 4000000 in
set_option maxRecDepth 100000 in
/-- path -/
theorem kX8_path_1 {E : zEn} (hE : zOk E) (l : Launch) (D : va_G) (cA : Nat → ClassId) (K : Nat → Nat) (V : Nat → Nat) (x1 : Nat) (f1 : List Value) (x2 : Nat) (x3 : Nat) (x4 : Nat) (f2 : List Value) (x5 : Nat) (x6 : Nat) (x7 : Nat) (x8 : Nat) (x9 : Nat) (hss : zSS E K V) (hf1_n : f1.length = 15) (hf1_14 : f1[14]? = some (.ref x2)) (hf1_4 : f1[4]? = some (.ref x3)) (hf1_9 : f1[9]? = some (.int 0)) (hf1_11 : f1[11]? = some (.int 0)) (hf1_6 : f1[6]? = some (.ref x4)) (hf2_n : f2.length = 15) (hf2_10 : f2[10]? = some (.int 2)) (hf2_0 : f2[0]? = some (.ref x5)) (hf2_1 : f2[1]? = some (.ref x6)) (hf2_2 : f2[2]? = some (.ref x7)) (hf2_5 : f2[5]? = some (.ref x8)) (hf2_7 : f2[7]? = some (.ref x9)) : zMi E l yX8_path zwX8_path ({ frames := 2, cells := 0, slots := 0, locals := 44 }) D vwCl (zT cA) [.ref x1, .int 1, .int 0] [(x1, .inr (8, f1)), (x2, .inr (12, f2)), (x3, .inl (cA 1, 6002, .inl (upd (fun _ => 0) 0 0))), (x5, .inl (cA 1, 32, .inl (upd (fun _ => 0) 1 6))), (x6, .inl (cA 1, 32, .inl (upd (fun _ => 0) 1 0))), (x4, .inl (cA 1, 6002, .inl (upd (fun _ => 0) 0 0))), (x7, .inl (cA 1, 32, .inl (fun _ => 0))), (x8, .inl (cA 1, 32, .inl (fun _ => 0))), (x9, .inl (cA 1, 32, .inl (fun _ => 0)))] (S := Unit) (fun (r : Int32) (u : Unit) => (r = 0)) (fun (u : Unit) => [(x1, .inr (8, f1)), (x2, .inr (12, (f2.set 10 (.int 3)))), (x3, .inl (cA 1, 6002, .inl (upd (fun _ => 0) 0 0))), (x5, .inl (cA 1, 32, .inl (upd (upd (fun _ => 0) 1 6) 2 6))), (x6, .inl (cA 1, 32, .inl (upd (upd (fun _ => 0) 1 0) 2 0))), (x4, .inl (cA 1, 6002, .inl (upd (fun _ => 0) 0 0))), (x7, .inl (cA 1, 32, .inl (upd (fun _ => 0) 2 0))), (x8, .inl (cA 1, 32, .inl (upd (fun _ => 0) 1 2))), (x9, .inl (cA 1, 32, .inl (upd (fun _ => 0) 1 2)))]) := by
  refine zz_enteri (cc := cX8_path) (lv := [(0, .ref x1), (1, .int 1), (2, .int 0)]) hE 6 (by decide) rfl (Nat.le_of_ble_eq_true rfl) rfl ?_
  intro p e s m args below meth c X hr hin
  refine zz_iload_n X 2 dX8_path_0 rfl rfl ?_
  refine zz_istore_n X [(3, .int 0), (0, .ref x1), (1, .int 1), (2, .int 0)] dX8_path_1 rfl (by decide) rfl ?_
  refine zz_iconst X 0 dX8_path_2 rfl ?_
  refine zz_istore X [(4, .int 0), (3, .int 0), (0, .ref x1), (1, .int 1), (2, .int 0)] dX8_path_3 (by decide) rfl ?_
  refine zz_iload X 0 dX8_path_5 rfl ?_
  refine zz_bipush X 6 dX8_path_7 rfl ?_
  refine zz_icmp_ge X 103 dX8_path_9 (by decide) (fun h => absurd h (by decide)) (fun _ => ?_)
  refine zz_aload_n X 2 dX8_path_12 rfl rfl ?_
  refine zz_bipush X 6 dX8_path_13 rfl ?_
  refine zz_callVi X (rest := []) (As := [.int 6]) (kX8_node_2 hE l D cA K V x1 f1 x2 x3 f2 x5 x6 hss (zq_len hf1_n (by simp only [List.length_set])) hf1_14 hf1_4 hf1_9 (zq_len hf2_n (by simp only [List.length_set])) hf2_10 hf2_0 hf2_1) 1 (zgV zm_720 zm_721 zm_722 zm_273 zm_719) rfl (by decide +kernel) [0, 2, 1, 3, 4] [5, 6, 7, 8] [(x4, .inl (cA 1, 6002, .inl (upd (fun _ => 0) 0 0))), (x7, .inl (cA 1, 32, .inl (fun _ => 0))), (x8, .inl (cA 1, 32, .inl (fun _ => 0))), (x9, .inl (cA 1, 32, .inl (fun _ => 0)))] rfl rfl (by decide) rfl (by decide) (by decide) ⟨Nat.le_of_ble_eq_true rfl, Nat.le_of_ble_eq_true rfl⟩ 0 rfl rfl rfl rfl rfl (Nat.le_of_ble_eq_true rfl) dX8_path_15 (Nat.le_of_ble_eq_true rfl) (Nat.le_of_ble_eq_true rfl) (fun r1 _ hw2 => ?_)
  obtain rfl := hw2
  refine zz_show (ws' := [(x4, .inl (cA 1, 6002, .inl (upd (fun _ => 0) 0 0))), (x7, .inl (cA 1, 32, .inl (fun _ => 0))), (x8, .inl (cA 1, 32, .inl (fun _ => 0))), (x9, .inl (cA 1, 32, .inl (fun _ => 0))), (x1, .inr (8, f1)), (x3, .inl (cA 1, 6002, .inl (upd (fun _ => 0) 0 0))), (x2, .inr (12, (f2.set 10 (.int 3)))), (x5, .inl (cA 1, 32, .inl (upd (upd (fun _ => 0) 1 6) 2 6))), (x6, .inl (cA 1, 32, .inl (upd (upd (fun _ => 0) 1 0) 2 0)))]) rfl ?_
  refine zz_istore X [(5, .int 2), (4, .int 0), (3, .int 0), (0, .ref x1), (1, .int 1), (2, .int 0)] dX8_path_18 (by decide) rfl ?_
  refine zz_aload_n X 3 dX8_path_20 rfl rfl ?_
  refine zz_get X 4 14 rfl rfl (by decide) (fun w h => List.mem_cons_of_mem _ (zf_X8 w h)) rfl (List.mem_cons_of_mem _ zm_31) hf1_14 dX8_path_21 ?_
  refine zz_get X 6 2 rfl rfl (by decide) (fun w h => List.mem_cons_of_mem _ (zf_X12 w h)) rfl (List.mem_cons_of_mem _ zm_723) (zq_oth (by decide) (hf2_2)) dX8_path_24 ?_
  refine zz_iload X 0 dX8_path_27 rfl ?_
  refine zz_aload_n X 3 dX8_path_29 rfl rfl ?_
  refine zz_callVi X (rest := [.int 2, .ref x7]) (As := []) (kX8_plainName_1 hE l D cA K V x1 f1 x4 hss (zq_len hf1_n (by simp only [List.length_set])) hf1_11 hf1_6 hf1_9) 0 (zgV zm_729 zm_730 zm_731 zm_273 zm_728) rfl (by decide +kernel) [4, 0] [1, 2, 3, 5, 6, 7, 8] [(x7, .inl (cA 1, 32, .inl (fun _ => 0))), (x8, .inl (cA 1, 32, .inl (fun _ => 0))), (x9, .inl (cA 1, 32, .inl (fun _ => 0))), (x3, .inl (cA 1, 6002, .inl (upd (fun _ => 0) 0 0))), (x2, .inr (12, (f2.set 10 (.int 3)))), (x5, .inl (cA 1, 32, .inl (upd (upd (fun _ => 0) 1 6) 2 6))), (x6, .inl (cA 1, 32, .inl (upd (upd (fun _ => 0) 1 0) 2 0)))] rfl rfl (by decide) rfl (by decide) (by decide) ⟨Nat.le_of_ble_eq_true rfl, Nat.le_of_ble_eq_true rfl⟩ 0 rfl rfl rfl rfl rfl (Nat.le_of_ble_eq_true rfl) dX8_path_30 (Nat.le_of_ble_eq_true rfl) (Nat.le_of_ble_eq_true rfl) (fun r3 _ hw4 => ?_)
  obtain rfl := hw4
  refine zz_show (ws' := [(x7, .inl (cA 1, 32, .inl (fun _ => 0))), (x8, .inl (cA 1, 32, .inl (fun _ => 0))), (x9, .inl (cA 1, 32, .inl (fun _ => 0))), (x3, .inl (cA 1, 6002, .inl (upd (fun _ => 0) 0 0))), (x2, .inr (12, (f2.set 10 (.int 3)))), (x5, .inl (cA 1, 32, .inl (upd (upd (fun _ => 0) 1 6) 2 6))), (x6, .inl (cA 1, 32, .inl (upd (upd (fun _ => 0) 1 0) 2 0))), (x1, .inr (8, f1)), (x4, .inl (cA 1, 6002, .inl (upd (fun _ => 0) 0 0)))]) rfl ?_
  refine zz_iast X 0 1 rfl rfl (vp_in_nI (n := 2) (by decide) (by decide)) 2 (by decide) dX8_path_33 [(x7, .inl (cA 1, 32, .inl (upd (fun _ => 0) 2 0))), (x8, .inl (cA 1, 32, .inl (fun _ => 0))), (x9, .inl (cA 1, 32, .inl (fun _ => 0))), (x3, .inl (cA 1, 6002, .inl (upd (fun _ => 0) 0 0))), (x2, .inr (12, (f2.set 10 (.int 3)))), (x5, .inl (cA 1, 32, .inl (upd (upd (fun _ => 0) 1 6) 2 6))), (x6, .inl (cA 1, 32, .inl (upd (upd (fun _ => 0) 1 0) 2 0))), (x1, .inr (8, f1)), (x4, .inl (cA 1, 6002, .inl (upd (fun _ => 0) 0 0)))] rfl ?_
  refine zz_aload_n X 3 dX8_path_34 rfl rfl ?_
  refine zz_get X 7 14 rfl rfl (by decide) (fun w h => List.mem_cons_of_mem _ (zf_X8 w h)) rfl (List.mem_cons_of_mem _ zm_31) hf1_14 dX8_path_35 ?_
  refine zz_iload_n X 4 dX8_path_38 rfl rfl ?_
  refine zz_iload X 0 dX8_path_39 rfl ?_
  refine zz_callVv X (rest := []) (As := [.int 1, .int 2]) (kX12_append_1 hE l D cA K V x2 (f2.set 10 (.int 3)) x8 x9 hss (zq_len hf2_n (by simp only [List.length_set])) (zq_oth (by decide) (hf2_5)) (zq_oth (by decide) (hf2_7))) 2 (zgV zm_733 zm_734 zm_735 zm_681 zm_732) rfl (by decide +kernel) [4, 1, 2] [0, 3, 5, 6, 7, 8] [(x7, .inl (cA 1, 32, .inl (upd (fun _ => 0) 2 0))), (x3, .inl (cA 1, 6002, .inl (upd (fun _ => 0) 0 0))), (x5, .inl (cA 1, 32, .inl (upd (upd (fun _ => 0) 1 6) 2 6))), (x6, .inl (cA 1, 32, .inl (upd (upd (fun _ => 0) 1 0) 2 0))), (x1, .inr (8, f1)), (x4, .inl (cA 1, 6002, .inl (upd (fun _ => 0) 0 0)))] rfl rfl (by decide) rfl (by decide) (by decide) ⟨Nat.le_of_ble_eq_true rfl, Nat.le_of_ble_eq_true rfl⟩ 0 rfl rfl rfl rfl rfl (Nat.le_of_ble_eq_true rfl) dX8_path_41 (Nat.le_of_ble_eq_true rfl) (Nat.le_of_ble_eq_true rfl) (fun _ hw5 => ?_)
  refine zz_show (ws' := [(x7, .inl (cA 1, 32, .inl (upd (fun _ => 0) 2 0))), (x3, .inl (cA 1, 6002, .inl (upd (fun _ => 0) 0 0))), (x5, .inl (cA 1, 32, .inl (upd (upd (fun _ => 0) 1 6) 2 6))), (x6, .inl (cA 1, 32, .inl (upd (upd (fun _ => 0) 1 0) 2 0))), (x1, .inr (8, f1)), (x4, .inl (cA 1, 6002, .inl (upd (fun _ => 0) 0 0))), (x2, .inr (12, (f2.set 10 (.int 3)))), (x8, .inl (cA 1, 32, .inl (upd (fun _ => 0) 1 2))), (x9, .inl (cA 1, 32, .inl (upd (fun _ => 0) 1 2)))]) rfl ?_
  refine zz_aload_n X 3 dX8_path_44 rfl rfl ?_
  refine zz_get X 4 11 rfl rfl (by decide) (fun w h => List.mem_cons_of_mem _ (zf_X8 w h)) rfl (List.mem_cons_of_mem _ zm_28) hf1_11 dX8_path_45 ?_
  refine zz_if_lt X 53 dX8_path_48 (by decide) (fun h => absurd h (by decide)) (fun _ => ?_)
  refine zz_iconst X 0 dX8_path_51 rfl ?_
  exact zz_iret X hr (()) [4, 6, 1, 2, 3, 5, 0, 7, 8] (by decide) rfl rfl (Nat.le_of_ble_eq_true rfl) (Nat.le_of_ble_eq_true rfl) (rfl) dX8_path_52

set_option maxHeartbeats 4000000 in
set_option maxRecDepth 100000 in
/-- add -/
theorem kX12_add_3 {E : zEn} (hE : zOk E) (l : Launch) (D : va_G) (cA : Nat → ClassId) (K : Nat → Nat) (V : Nat → Nat) (x1 : Nat) (f1 : List Value) (x2 : Nat) (x3 : Nat) (hss : zSS E K V) (hf1_n : f1.length = 15) (hf1_10 : f1[10]? = some (.int 3)) (hf1_0 : f1[0]? = some (.ref x2)) (hf1_1 : f1[1]? = some (.ref x3)) : zMi E l yX12_add zwX12_add ({ frames := 0, cells := 0, slots := 0, locals := 0 }) D vwCl (zT cA) [.ref x1, .int 16, .int 0] [(x1, .inr (12, f1)), (x2, .inl (cA 1, 32, .inl (upd (upd (fun _ => 0) 1 6) 2 6))), (x3, .inl (cA 1, 32, .inl (upd (upd (fun _ => 0) 1 0) 2 0)))] (S := Unit) (fun (r : Int32) (u : Unit) => (r = 3)) (fun (u : Unit) => [(x1, .inr (12, (f1.set 10 (.int 4)))), (x2, .inl (cA 1, 32, .inl (upd (upd (upd (fun _ => 0) 1 6) 2 6) 3 16))), (x3, .inl (cA 1, 32, .inl (upd (upd (upd (fun _ => 0) 1 0) 2 0) 3 0)))]) := by
  refine zz_enteri (cc := cX12_add) (lv := [(0, .ref x1), (1, .int 16), (2, .int 0)]) hE 4 (by decide) rfl (Nat.le_of_ble_eq_true rfl) rfl ?_
  intro p e s m args below meth c X hr hin
  refine zz_aload_n X 0 dX12_add_0 rfl rfl ?_
  refine zz_get X 0 10 rfl rfl (by decide) (fun w h => List.mem_cons_of_mem _ (zf_X12 w h)) rfl (List.mem_cons_of_mem _ zm_685) hf1_10 dX12_add_1 ?_
  refine zz_aload_n X 0 dX12_add_4 rfl rfl ?_
  refine zz_get X 0 0 rfl rfl (by decide) (fun w h => List.mem_cons_of_mem _ (zf_X12 w h)) rfl (List.mem_cons_of_mem _ zm_690) hf1_0 dX12_add_5 ?_
  refine zz_alen X 1 1 rfl rfl (32) rfl dX12_add_8 ?_
  refine zz_icmp_lt X 14 dX12_add_9 (by decide) (fun _ => ?_) (fun h => absurd (by decide) h)
  refine zz_aload_n X 0 dX12_add_14 rfl rfl ?_
  refine zz_get X 0 10 rfl rfl (by decide) (fun w h => List.mem_cons_of_mem _ (zf_X12 w h)) rfl (List.mem_cons_of_mem _ zm_685) hf1_10 dX12_add_15 ?_
  refine zz_istore_n X [(3, .int 3), (0, .ref x1), (1, .int 16), (2, .int 0)] dX12_add_18 rfl (by decide) rfl ?_
  refine zz_aload_n X 1 dX12_add_19 rfl rfl ?_
  refine zz_dup X dX12_add_20 rfl ?_
  refine zz_get X 0 10 rfl rfl (by decide) (fun w h => List.mem_cons_of_mem _ (zf_X12 w h)) rfl (List.mem_cons_of_mem _ zm_685) hf1_10 dX12_add_21 ?_
  refine zz_iconst X 1 dX12_add_24 rfl ?_
  refine zz_iadd X (4) dX12_add_25 (by decide) ?_
  refine zz_put X 0 10 rfl rfl (by decide) (fun w h => List.mem_cons_of_mem _ (zf_X12 w h)) rfl (List.mem_cons_of_mem _ zm_685) tyX12 tyX12_ok nmX12 rfl (ty := .int) rfl rfl rfl (zq_lt hf1_n (by decide) (by simp only [List.length_set])) dX12_add_26 [(x1, .inr (12, (f1.set 10 (.int 4)))), (x2, .inl (cA 1, 32, .inl (upd (upd (fun _ => 0) 1 6) 2 6))), (x3, .inl (cA 1, 32, .inl (upd (upd (fun _ => 0) 1 0) 2 0)))] rfl ?_
  refine zz_aload_n X 1 dX12_add_29 rfl rfl ?_
  refine zz_get X 0 0 rfl rfl (by decide) (fun w h => List.mem_cons_of_mem _ (zf_X12 w h)) rfl (List.mem_cons_of_mem _ zm_690) (zq_oth (by decide) (hf1_0)) dX12_add_30 ?_
  refine zz_iload_n X 0 dX12_add_33 rfl rfl ?_
  refine zz_iload_n X 2 dX12_add_34 rfl rfl ?_
  refine zz_iast X 1 1 rfl rfl (vp_in_nI (n := 3) (by decide) (by decide)) 3 (by decide) dX12_add_35 [(x1, .inr (12, (f1.set 10 (.int 4)))), (x2, .inl (cA 1, 32, .inl (upd (upd (upd (fun _ => 0) 1 6) 2 6) 3 16))), (x3, .inl (cA 1, 32, .inl (upd (upd (fun _ => 0) 1 0) 2 0)))] rfl ?_
  refine zz_aload_n X 1 dX12_add_36 rfl rfl ?_
  refine zz_get X 0 1 rfl rfl (by decide) (fun w h => List.mem_cons_of_mem _ (zf_X12 w h)) rfl (List.mem_cons_of_mem _ zm_691) (zq_oth (by decide) (hf1_1)) dX12_add_37 ?_
  refine zz_iload_n X 0 dX12_add_40 rfl rfl ?_
  refine zz_iload_n X 3 dX12_add_41 rfl rfl ?_
  refine zz_iast X 2 1 rfl rfl (vp_in_nI (n := 3) (by decide) (by decide)) 3 (by decide) dX12_add_42 [(x1, .inr (12, (f1.set 10 (.int 4)))), (x2, .inl (cA 1, 32, .inl (upd (upd (upd (fun _ => 0) 1 6) 2 6) 3 16))), (x3, .inl (cA 1, 32, .inl (upd (upd (upd (fun _ => 0) 1 0) 2 0) 3 0)))] rfl ?_
  refine zz_iload_n X 0 dX12_add_43 rfl rfl ?_
  exact zz_iret X hr (()) [0, 1, 2] (by decide) rfl rfl (Nat.le_of_ble_eq_true rfl) (Nat.le_of_ble_eq_true rfl) (rfl) dX12_add_44

set_option maxHeartbeats 4000000 in
set_option maxRecDepth 100000 in
/-- add -/
theorem kX12_add_4 {E : zEn} (hE : zOk E) (l : Launch) (D : va_G) (cA : Nat → ClassId) (K : Nat → Nat) (V : Nat → Nat) (x1 : Nat) (f1 : List Value) (x2 : Nat) (x3 : Nat) (f2 : Nat → Int32) (hss : zSS E K V) (hf1_n : f1.length = 15) (hf1_10 : f1[10]? = some (.int 4)) (hf1_0 : f1[0]? = some (.ref x2)) (hf1_1 : f1[1]? = some (.ref x3)) : zMi E l yX12_add zwX12_add ({ frames := 0, cells := 0, slots := 0, locals := 0 }) D vwCl (zT cA) [.ref x1, .int 16, .int 0] [(x1, .inr (12, f1)), (x2, .inl (cA 1, 32, .inl f2)), (x3, .inl (cA 1, 32, .inl (upd (upd (upd (fun _ => 0) 1 0) 2 0) 3 0)))] (S := Unit) (fun (r : Int32) (u : Unit) => (r = 4)) (fun (u : Unit) => [(x1, .inr (12, (f1.set 10 (.int 5)))), (x2, .inl (cA 1, 32, .inl (upd f2 4 16))), (x3, .inl (cA 1, 32, .inl (upd (upd (upd (upd (fun _ => 0) 1 0) 2 0) 3 0) 4 0)))]) := by
  refine zz_enteri (cc := cX12_add) (lv := [(0, .ref x1), (1, .int 16), (2, .int 0)]) hE 4 (by decide) rfl (Nat.le_of_ble_eq_true rfl) rfl ?_
  intro p e s m args below meth c X hr hin
  refine zz_aload_n X 0 dX12_add_0 rfl rfl ?_
  refine zz_get X 0 10 rfl rfl (by decide) (fun w h => List.mem_cons_of_mem _ (zf_X12 w h)) rfl (List.mem_cons_of_mem _ zm_685) hf1_10 dX12_add_1 ?_
  refine zz_aload_n X 0 dX12_add_4 rfl rfl ?_
  refine zz_get X 0 0 rfl rfl (by decide) (fun w h => List.mem_cons_of_mem _ (zf_X12 w h)) rfl (List.mem_cons_of_mem _ zm_690) hf1_0 dX12_add_5 ?_
  refine zz_alen X 1 1 rfl rfl (32) rfl dX12_add_8 ?_
  refine zz_icmp_lt X 14 dX12_add_9 (by decide) (fun _ => ?_) (fun h => absurd (by decide) h)
  refine zz_aload_n X 0 dX12_add_14 rfl rfl ?_
  refine zz_get X 0 10 rfl rfl (by decide) (fun w h => List.mem_cons_of_mem _ (zf_X12 w h)) rfl (List.mem_cons_of_mem _ zm_685) hf1_10 dX12_add_15 ?_
  refine zz_istore_n X [(3, .int 4), (0, .ref x1), (1, .int 16), (2, .int 0)] dX12_add_18 rfl (by decide) rfl ?_
  refine zz_aload_n X 1 dX12_add_19 rfl rfl ?_
  refine zz_dup X dX12_add_20 rfl ?_
  refine zz_get X 0 10 rfl rfl (by decide) (fun w h => List.mem_cons_of_mem _ (zf_X12 w h)) rfl (List.mem_cons_of_mem _ zm_685) hf1_10 dX12_add_21 ?_
  refine zz_iconst X 1 dX12_add_24 rfl ?_
  refine zz_iadd X (5) dX12_add_25 (by decide) ?_
  refine zz_put X 0 10 rfl rfl (by decide) (fun w h => List.mem_cons_of_mem _ (zf_X12 w h)) rfl (List.mem_cons_of_mem _ zm_685) tyX12 tyX12_ok nmX12 rfl (ty := .int) rfl rfl rfl (zq_lt hf1_n (by decide) (by simp only [List.length_set])) dX12_add_26 [(x1, .inr (12, (f1.set 10 (.int 5)))), (x2, .inl (cA 1, 32, .inl f2)), (x3, .inl (cA 1, 32, .inl (upd (upd (upd (fun _ => 0) 1 0) 2 0) 3 0)))] rfl ?_
  refine zz_aload_n X 1 dX12_add_29 rfl rfl ?_
  refine zz_get X 0 0 rfl rfl (by decide) (fun w h => List.mem_cons_of_mem _ (zf_X12 w h)) rfl (List.mem_cons_of_mem _ zm_690) (zq_oth (by decide) (hf1_0)) dX12_add_30 ?_
  refine zz_iload_n X 0 dX12_add_33 rfl rfl ?_
  refine zz_iload_n X 2 dX12_add_34 rfl rfl ?_
  refine zz_iast X 1 1 rfl rfl (vp_in_nI (n := 4) (by decide) (by decide)) 4 (by decide) dX12_add_35 [(x1, .inr (12, (f1.set 10 (.int 5)))), (x2, .inl (cA 1, 32, .inl (upd f2 4 16))), (x3, .inl (cA 1, 32, .inl (upd (upd (upd (fun _ => 0) 1 0) 2 0) 3 0)))] rfl ?_
  refine zz_aload_n X 1 dX12_add_36 rfl rfl ?_
  refine zz_get X 0 1 rfl rfl (by decide) (fun w h => List.mem_cons_of_mem _ (zf_X12 w h)) rfl (List.mem_cons_of_mem _ zm_691) (zq_oth (by decide) (hf1_1)) dX12_add_37 ?_
  refine zz_iload_n X 0 dX12_add_40 rfl rfl ?_
  refine zz_iload_n X 3 dX12_add_41 rfl rfl ?_
  refine zz_iast X 2 1 rfl rfl (vp_in_nI (n := 4) (by decide) (by decide)) 4 (by decide) dX12_add_42 [(x1, .inr (12, (f1.set 10 (.int 5)))), (x2, .inl (cA 1, 32, .inl (upd f2 4 16))), (x3, .inl (cA 1, 32, .inl (upd (upd (upd (upd (fun _ => 0) 1 0) 2 0) 3 0) 4 0)))] rfl ?_
  refine zz_iload_n X 0 dX12_add_43 rfl rfl ?_
  exact zz_iret X hr (()) [0, 1, 2] (by decide) rfl rfl (Nat.le_of_ble_eq_true rfl) (Nat.le_of_ble_eq_true rfl) (rfl) dX12_add_44

set_option maxHeartbeats 4000000 in
set_option maxRecDepth 100000 in
/-- is -/
theorem kX8_is_3 {E : zEn} (hE : zOk E) (l : Launch) (D : va_G) (cA : Nat → ClassId) (K : Nat → Nat) (V : Nat → Nat) (x1 : Nat) (f1 : List Value) (hss : zSS E K V) (hf1_n : f1.length = 15) (hf1_11 : f1[11]? = some (.int 0)) : zMi E l yX8_is zwX8_is ({ frames := 0, cells := 0, slots := 0, locals := 0 }) D vwCl (zT cA) [.ref x1, .int 6] [(x1, .inr (8, f1))] (S := Unit) (fun (r : Int32) (u : Unit) => (r = 0)) (fun (u : Unit) => [(x1, .inr (8, f1))]) := by
  refine zz_enterz (cc := cX8_is) (lv := [(0, .ref x1), (1, .int 6)]) hE 2 (by decide) rfl (Nat.le_of_ble_eq_true rfl) rfl ?_
  intro p e s m args below meth c X hr hin
  refine zz_aload_n X 0 dX8_is_0 rfl rfl ?_
  refine zz_get X 0 11 rfl rfl (by decide) (fun w h => List.mem_cons_of_mem _ (zf_X8 w h)) rfl (List.mem_cons_of_mem _ zm_28) hf1_11 dX8_is_1 ?_
  refine zz_if_ge X 24 dX8_is_4 (by decide) (fun _ => ?_) (fun h => absurd (by decide) h)
  refine zz_iconst X 0 dX8_is_24 rfl ?_
  exact zz_zret X hr (by decide) (()) [0] (by decide) rfl rfl (Nat.le_of_ble_eq_true rfl) (Nat.le_of_ble_eq_true rfl) (rfl) dX8_is_25

set_option maxHeartbeats 4000000 in
set_option maxRecDepth 100000 in
/-- readModule -/
theorem kX8_readModule_1 {E : zEn} (hE : zOk E) (l : Launch) (D : va_G) (cA : Nat → ClassId) (K : Nat → Nat) (V : Nat → Nat) (x1 : Nat) (x2 : Nat) (f1 : List Value) (x3 : Nat) (x4 : Nat) (x5 : Nat) (x6 : Nat) (hss : zSS E K V) (hf1_n : f1.length = 15) (hf1_4 : f1[4]? = some (.ref x3)) (hf1_5 : f1[5]? = some (.ref x4)) (hf1_6 : f1[6]? = some (.ref x5)) (hf1_3 : f1[3]? = some (.ref x6)) : zMq E l yX8_readModule zwX8_readModule ({ frames := 3, cells := 11, slots := 335, locals := 69 }) D vwCl (zT cA) [.ref x1, .ref x2, .int 0] [(x1, .inr (8, f1)), (x3, .inl (cA 1, 6002, .inl (fun _ => 0))), (x4, .inl (cA 1, 6002, .inl (fun _ => 0))), (x5, .inl (cA 1, 6002, .inl (fun _ => 0))), (x6, .inl (cA 1, 6002, .inl (fun _ => 0)))] (S := Nat × Nat × Nat × Nat × Nat × Nat × Nat × Nat × Nat × Nat × Nat) (fun (r : Option Nat) (u : Nat × Nat × Nat × Nat × Nat × Nat × Nat × Nat × Nat × Nat × Nat) => (r = none)) (fun (u : Nat × Nat × Nat × Nat × Nat × Nat × Nat × Nat × Nat × Nat × Nat) => [(x1, .inr (8, (((((((((f1.set 8 (.int 0)).set 7 (.int (-1))).set 12 (.int 0)).set 8 (.int 1)).set 9 (.int 0)).set 10 (.int 0)).set 11 (.int (-1))).set 14 (.ref u.1)).set 11 (.int 0)))), (x3, .inl (cA 1, 6002, .inl (upd (fun _ => 0) 0 0))), (x4, .inl (cA 1, 6002, .inl (upd (fun _ => 0) 0 0))), (x5, .inl (cA 1, 6002, .inl (upd (fun _ => 0) 0 0))), (x6, .inl (cA 1, 6002, .inl (upd (fun _ => 0) 0 0))), (u.2.1, .inl (cA 1, 32, .inl (fun _ => 0))), (u.2.2.1, .inl (cA 1, 32, .inl (fun _ => 0))), (u.2.2.2.1, .inl (cA 1, 32, .inl (fun _ => 0))), (u.2.2.2.2.1, .inl (cA 1, 32, .inl (fun _ => 0))), (u.2.2.2.2.2.1, .inl (cA 1, 32, .inl (fun _ => 0))), (u.2.2.2.2.2.2.1, .inl (cA 1, 32, .inl (upd (fun _ => 0) 2 0))), (u.2.2.2.2.2.2.2.1, .inl (cA 1, 32, .inl (upd (fun _ => 0) 1 2))), (u.2.2.2.2.2.2.2.2.1, .inl (cA 1, 32, .inl (upd (fun _ => 0) 1 2))), (u.1, .inr (12, [.ref u.2.2.2.2.2.2.2.2.2.1, .ref u.2.2.2.2.2.2.2.2.2.2, .ref u.2.2.2.2.2.2.1, .ref u.2.1, .ref u.2.2.1, .ref u.2.2.2.2.2.2.2.1, .ref u.2.2.2.1, .ref u.2.2.2.2.2.2.2.2.1, .ref u.2.2.2.2.1, .ref u.2.2.2.2.2.1, .int 5, .int 0, .int 3, .int 0, .int 0])), (u.2.2.2.2.2.2.2.2.2.1, .inl (cA 1, 32, .inl (upd (upd (upd (upd (fun _ => 0) 1 6) 2 6) 3 16) 4 16))), (u.2.2.2.2.2.2.2.2.2.2, .inl (cA 1, 32, .inl (upd (upd (upd (upd (fun _ => 0) 1 0) 2 0) 3 0) 4 0)))]) := by
  refine zz_enterq (cc := cX8_readModule) (lv := [(0, .ref x1), (1, .ref x2), (2, .int 0)]) hE 5 (by decide) rfl (Nat.le_of_ble_eq_true rfl) rfl ?_
  intro p e s m args below meth c X hr hin
  refine zz_aload_n X 0 dX8_readModule_0 rfl rfl ?_
  refine zz_aload_n X 1 dX8_readModule_1 rfl rfl ?_
  refine zz_iload_n X 2 dX8_readModule_2 rfl rfl ?_
  refine zz_callVv X (rest := []) (As := [.ref x2, .int 0]) (kX8_split_1 hE l D cA K V x1 x2 f1 x3 x4 x5 x6 hss (zq_len hf1_n (by simp only [List.length_set])) hf1_4 hf1_5 hf1_6 hf1_3) 2 (zgV zm_678 zm_679 zm_680 zm_273 zm_677) rfl (by decide +kernel) [0, 1, 2, 3, 4] [] [] rfl rfl (by decide) rfl (by decide) (by decide) ⟨Nat.le_of_ble_eq_true rfl, Nat.le_of_ble_eq_true rfl⟩ 0 rfl rfl rfl rfl rfl (Nat.le_of_ble_eq_true rfl) dX8_readModule_3 (Nat.le_of_ble_eq_true rfl) (Nat.le_of_ble_eq_true rfl) (fun _ hw1 => ?_)
  refine zz_show (ws' := [(x1, .inr (8, (((((((f1.set 8 (.int 0)).set 7 (.int (-1))).set 12 (.int 0)).set 8 (.int 1)).set 9 (.int 0)).set 10 (.int 0)).set 11 (.int (-1))))), (x3, .inl (cA 1, 6002, .inl (upd (fun _ => 0) 0 0))), (x4, .inl (cA 1, 6002, .inl (upd (fun _ => 0) 0 0))), (x5, .inl (cA 1, 6002, .inl (upd (fun _ => 0) 0 0))), (x6, .inl (cA 1, 6002, .inl (upd (fun _ => 0) 0 0)))]) rfl ?_
  refine zz_aload_n X 0 dX8_readModule_6 rfl rfl ?_
  refine zz_new X (ci := 12) (fs := [.null, .null, .null, .null, .null, .null, .null, .null, .null, .null, .int 0, .int 0, .int 0, .int 0, .int 0]) tyX12 tyX12_ok (fun w h => List.mem_cons_of_mem _ (zf_X12 w h)) (List.mem_cons_of_mem _ zm_683) (List.mem_cons_of_mem _ zm_682) (List.mem_cons_of_mem _ zm_681) rfl (fun j hj => by rcases (show j = 0 ∨ j = 1 ∨ j = 2 ∨ j = 3 ∨ j = 4 ∨ j = 5 ∨ j = 6 ∨ j = 7 ∨ j = 8 ∨ j = 9 ∨ j = 10 ∨ j = 11 ∨ j = 12 ∨ j = 13 ∨ j = 14 by omega) with rfl | rfl | rfl | rfl | rfl | rfl | rfl | rfl | rfl | rfl | rfl | rfl | rfl | rfl | rfl <;> rfl) (Nat.le_of_ble_eq_true rfl) (Nat.le_of_ble_eq_true rfl) dX8_readModule_7 (fun q2 => ?_)
  refine zz_show (ws' := [(x1, .inr (8, (((((((f1.set 8 (.int 0)).set 7 (.int (-1))).set 12 (.int 0)).set 8 (.int 1)).set 9 (.int 0)).set 10 (.int 0)).set 11 (.int (-1))))), (x3, .inl (cA 1, 6002, .inl (upd (fun _ => 0) 0 0))), (x4, .inl (cA 1, 6002, .inl (upd (fun _ => 0) 0 0))), (x5, .inl (cA 1, 6002, .inl (upd (fun _ => 0) 0 0))), (x6, .inl (cA 1, 6002, .inl (upd (fun _ => 0) 0 0))), (q2, .inr (12, [.null, .null, .null, .null, .null, .null, .null, .null, .null, .null, .int 0, .int 0, .int 0, .int 0, .int 0]))]) rfl ?_
  refine zz_dup X dX8_readModule_10 rfl ?_
  refine zz_iconst X 2 dX8_readModule_11 rfl ?_
  refine zz_iload_n X 2 dX8_readModule_12 rfl rfl ?_
  refine zz_imul X (0) dX8_readModule_13 (by decide) ?_
  refine zz_bipush X 32 dX8_readModule_14 rfl ?_
  refine zz_iadd X (32) dX8_readModule_16 (by decide) ?_
  refine zz_callIv X (rest := [.ref q2, .ref x1]) (As := [.int 32]) (kX12_init_1 hE l D cA K V q2 ([.null, .null, .null, .null, .null, .null, .null, .null, .null, .null, .int 0, .int 0, .int 0, .int 0, .int 0]) hss rfl) 1 (zgI zm_700) (List.mem_cons_of_mem _ zm_681) (List.mem_cons_of_mem _ zm_701) (List.mem_cons_of_mem _ zm_702) rfl rfl (by decide +kernel) [5] [0, 1, 2, 3, 4] [(x1, .inr (8, (((((((f1.set 8 (.int 0)).set 7 (.int (-1))).set 12 (.int 0)).set 8 (.int 1)).set 9 (.int 0)).set 10 (.int 0)).set 11 (.int (-1))))), (x3, .inl (cA 1, 6002, .inl (upd (fun _ => 0) 0 0))), (x4, .inl (cA 1, 6002, .inl (upd (fun _ => 0) 0 0))), (x5, .inl (cA 1, 6002, .inl (upd (fun _ => 0) 0 0))), (x6, .inl (cA 1, 6002, .inl (upd (fun _ => 0) 0 0)))] rfl rfl (by decide) rfl (by decide) (by decide) ⟨Nat.le_of_ble_eq_true rfl, Nat.le_of_ble_eq_true rfl⟩ rfl rfl rfl (Nat.le_of_ble_eq_true rfl) dX8_readModule_17 (Nat.le_of_ble_eq_true rfl) (Nat.le_of_ble_eq_true rfl) (fun uhw13 hw13 => ?_)
  obtain ⟨q3, q4, q5, q6, q7, q8, q9, q10, q11, q12⟩ := uhw13
  refine zz_show (ws' := [(x1, .inr (8, (((((((f1.set 8 (.int 0)).set 7 (.int (-1))).set 12 (.int 0)).set 8 (.int 1)).set 9 (.int 0)).set 10 (.int 0)).set 11 (.int (-1))))), (x3, .inl (cA 1, 6002, .inl (upd (fun _ => 0) 0 0))), (x4, .inl (cA 1, 6002, .inl (upd (fun _ => 0) 0 0))), (x5, .inl (cA 1, 6002, .inl (upd (fun _ => 0) 0 0))), (x6, .inl (cA 1, 6002, .inl (upd (fun _ => 0) 0 0))), (q2, .inr (12, [.ref q3, .ref q4, .ref q5, .ref q6, .ref q7, .ref q8, .ref q9, .ref q10, .ref q11, .ref q12, .int 1, .int 0, .int 0, .int 0, .int 0])), (q3, .inl (cA 1, 32, .inl (fun _ => 0))), (q4, .inl (cA 1, 32, .inl (fun _ => 0))), (q5, .inl (cA 1, 32, .inl (fun _ => 0))), (q6, .inl (cA 1, 32, .inl (fun _ => 0))), (q7, .inl (cA 1, 32, .inl (fun _ => 0))), (q8, .inl (cA 1, 32, .inl (fun _ => 0))), (q9, .inl (cA 1, 32, .inl (fun _ => 0))), (q10, .inl (cA 1, 32, .inl (fun _ => 0))), (q11, .inl (cA 1, 32, .inl (fun _ => 0))), (q12, .inl (cA 1, 32, .inl (fun _ => 0)))]) rfl ?_
  refine zz_put X 0 14 rfl rfl (by decide) (fun w h => List.mem_cons_of_mem _ (zf_X8 w h)) rfl (List.mem_cons_of_mem _ zm_31) tyX8 tyX8_ok nmX8 rfl (ty := (.object "PolicyHouse$Tree")) rfl rfl rfl (zq_lt hf1_n (by decide) (by simp only [List.length_set])) dX8_readModule_20 [(x1, .inr (8, ((((((((f1.set 8 (.int 0)).set 7 (.int (-1))).set 12 (.int 0)).set 8 (.int 1)).set 9 (.int 0)).set 10 (.int 0)).set 11 (.int (-1))).set 14 (.ref q2)))), (x3, .inl (cA 1, 6002, .inl (upd (fun _ => 0) 0 0))), (x4, .inl (cA 1, 6002, .inl (upd (fun _ => 0) 0 0))), (x5, .inl (cA 1, 6002, .inl (upd (fun _ => 0) 0 0))), (x6, .inl (cA 1, 6002, .inl (upd (fun _ => 0) 0 0))), (q2, .inr (12, [.ref q3, .ref q4, .ref q5, .ref q6, .ref q7, .ref q8, .ref q9, .ref q10, .ref q11, .ref q12, .int 1, .int 0, .int 0, .int 0, .int 0])), (q3, .inl (cA 1, 32, .inl (fun _ => 0))), (q4, .inl (cA 1, 32, .inl (fun _ => 0))), (q5, .inl (cA 1, 32, .inl (fun _ => 0))), (q6, .inl (cA 1, 32, .inl (fun _ => 0))), (q7, .inl (cA 1, 32, .inl (fun _ => 0))), (q8, .inl (cA 1, 32, .inl (fun _ => 0))), (q9, .inl (cA 1, 32, .inl (fun _ => 0))), (q10, .inl (cA 1, 32, .inl (fun _ => 0))), (q11, .inl (cA 1, 32, .inl (fun _ => 0))), (q12, .inl (cA 1, 32, .inl (fun _ => 0)))] rfl ?_
  refine zz_aload_n X 0 dX8_readModule_23 rfl rfl ?_
  refine zz_iconst X 5 dX8_readModule_24 rfl ?_
  refine zz_callVv X (rest := []) (As := [.int 5]) (kX8_need_1 hE l D cA K V x1 ((((((((f1.set 8 (.int 0)).set 7 (.int (-1))).set 12 (.int 0)).set 8 (.int 1)).set 9 (.int 0)).set 10 (.int 0)).set 11 (.int (-1))).set 14 (.ref q2)) x6 x3 hss (zq_len hf1_n (by simp only [List.length_set])) (zq_oth (by decide) ((zq_same (zq_lt hf1_n (by decide) (by simp only [List.length_set]))))) (zq_oth (by decide) (zq_oth (by decide) (zq_oth (by decide) (zq_oth (by decide) (zq_oth (by decide) (zq_oth (by decide) (zq_oth (by decide) (zq_oth (by decide) (hf1_3))))))))) (zq_oth (by decide) (zq_oth (by decide) (zq_oth (by decide) ((zq_same (zq_lt hf1_n (by decide) (by simp only [List.length_set]))))))) (zq_oth (by decide) (zq_oth (by decide) (zq_oth (by decide) (zq_oth (by decide) (zq_oth (by decide) (zq_oth (by decide) (zq_oth (by decide) (zq_oth (by decide) (hf1_4)))))))))) 1 (zgV zm_712 zm_713 zm_714 zm_273 zm_711) rfl (by decide +kernel) [0, 4, 1] [2, 3, 5, 6, 7, 8, 9, 10, 11, 12, 13, 14, 15] [(x4, .inl (cA 1, 6002, .inl (upd (fun _ => 0) 0 0))), (x5, .inl (cA 1, 6002, .inl (upd (fun _ => 0) 0 0))), (q2, .inr (12, [.ref q3, .ref q4, .ref q5, .ref q6, .ref q7, .ref q8, .ref q9, .ref q10, .ref q11, .ref q12, .int 1, .int 0, .int 0, .int 0, .int 0])), (q3, .inl (cA 1, 32, .inl (fun _ => 0))), (q4, .inl (cA 1, 32, .inl (fun _ => 0))), (q5, .inl (cA 1, 32, .inl (fun _ => 0))), (q6, .inl (cA 1, 32, .inl (fun _ => 0))), (q7, .inl (cA 1, 32, .inl (fun _ => 0))), (q8, .inl (cA 1, 32, .inl (fun _ => 0))), (q9, .inl (cA 1, 32, .inl (fun _ => 0))), (q10, .inl (cA 1, 32, .inl (fun _ => 0))), (q11, .inl (cA 1, 32, .inl (fun _ => 0))), (q12, .inl (cA 1, 32, .inl (fun _ => 0)))] rfl rfl (by decide) rfl (by decide) (by decide) ⟨Nat.le_of_ble_eq_true rfl, Nat.le_of_ble_eq_true rfl⟩ 0 rfl rfl rfl rfl rfl (Nat.le_of_ble_eq_true rfl) dX8_readModule_25 (Nat.le_of_ble_eq_true rfl) (Nat.le_of_ble_eq_true rfl) (fun _ hw14 => ?_)
  refine zz_show (ws' := [(x4, .inl (cA 1, 6002, .inl (upd (fun _ => 0) 0 0))), (x5, .inl (cA 1, 6002, .inl (upd (fun _ => 0) 0 0))), (q2, .inr (12, [.ref q3, .ref q4, .ref q5, .ref q6, .ref q7, .ref q8, .ref q9, .ref q10, .ref q11, .ref q12, .int 1, .int 0, .int 0, .int 0, .int 0])), (q3, .inl (cA 1, 32, .inl (fun _ => 0))), (q4, .inl (cA 1, 32, .inl (fun _ => 0))), (q5, .inl (cA 1, 32, .inl (fun _ => 0))), (q6, .inl (cA 1, 32, .inl (fun _ => 0))), (q7, .inl (cA 1, 32, .inl (fun _ => 0))), (q8, .inl (cA 1, 32, .inl (fun _ => 0))), (q9, .inl (cA 1, 32, .inl (fun _ => 0))), (q10, .inl (cA 1, 32, .inl (fun _ => 0))), (q11, .inl (cA 1, 32, .inl (fun _ => 0))), (q12, .inl (cA 1, 32, .inl (fun _ => 0))), (x1, .inr (8, (((((((((f1.set 8 (.int 0)).set 7 (.int (-1))).set 12 (.int 0)).set 8 (.int 1)).set 9 (.int 0)).set 10 (.int 0)).set 11 (.int (-1))).set 14 (.ref q2)).set 11 (.int 0)))), (x6, .inl (cA 1, 6002, .inl (upd (fun _ => 0) 0 0))), (x3, .inl (cA 1, 6002, .inl (upd (fun _ => 0) 0 0)))]) rfl ?_
  refine zz_aload_n X 0 dX8_readModule_28 rfl rfl ?_
  refine zz_get X 13 14 rfl rfl (by decide) (fun w h => List.mem_cons_of_mem _ (zf_X8 w h)) rfl (List.mem_cons_of_mem _ zm_31) (zq_oth (by decide) ((zq_same (zq_lt hf1_n (by decide) (by simp only [List.length_set]))))) dX8_readModule_29 ?_
  refine zz_aload_n X 0 dX8_readModule_32 rfl rfl ?_
  refine zz_aload_n X 0 dX8_readModule_33 rfl rfl ?_
  refine zz_bipush X 6 dX8_readModule_34 rfl ?_
  refine zz_callVi X (rest := [.ref x1, .ref q2]) (As := [.int 6]) (kX8_node_1 hE l D cA K V x1 (((((((((f1.set 8 (.int 0)).set 7 (.int (-1))).set 12 (.int 0)).set 8 (.int 1)).set 9 (.int 0)).set 10 (.int 0)).set 11 (.int (-1))).set 14 (.ref q2)).set 11 (.int 0)) q2 x3 ([.ref q3, .ref q4, .ref q5, .ref q6, .ref q7, .ref q8, .ref q9, .ref q10, .ref q11, .ref q12, .int 1, .int 0, .int 0, .int 0, .int 0]) q3 q4 hss (zq_len hf1_n (by simp only [List.length_set])) (zq_oth (by decide) ((zq_same (zq_lt hf1_n (by decide) (by simp only [List.length_set]))))) (zq_oth (by decide) (zq_oth (by decide) (zq_oth (by decide) (zq_oth (by decide) (zq_oth (by decide) (zq_oth (by decide) (zq_oth (by decide) (zq_oth (by decide) (zq_oth (by decide) (hf1_4)))))))))) (zq_oth (by decide) (zq_oth (by decide) (zq_oth (by decide) (zq_oth (by decide) ((zq_same (zq_lt hf1_n (by decide) (by simp only [List.length_set])))))))) rfl rfl rfl rfl) 1 (zgV zm_720 zm_721 zm_722 zm_273 zm_719) rfl (by decide +kernel) [13, 15, 2, 3, 4] [0, 1, 5, 6, 7, 8, 9, 10, 11, 12, 14] [(x4, .inl (cA 1, 6002, .inl (upd (fun _ => 0) 0 0))), (x5, .inl (cA 1, 6002, .inl (upd (fun _ => 0) 0 0))), (q5, .inl (cA 1, 32, .inl (fun _ => 0))), (q6, .inl (cA 1, 32, .inl (fun _ => 0))), (q7, .inl (cA 1, 32, .inl (fun _ => 0))), (q8, .inl (cA 1, 32, .inl (fun _ => 0))), (q9, .inl (cA 1, 32, .inl (fun _ => 0))), (q10, .inl (cA 1, 32, .inl (fun _ => 0))), (q11, .inl (cA 1, 32, .inl (fun _ => 0))), (q12, .inl (cA 1, 32, .inl (fun _ => 0))), (x6, .inl (cA 1, 6002, .inl (upd (fun _ => 0) 0 0)))] rfl rfl (by decide) rfl (by decide) (by decide) ⟨Nat.le_of_ble_eq_true rfl, Nat.le_of_ble_eq_true rfl⟩ 0 rfl rfl rfl rfl rfl (Nat.le_of_ble_eq_true rfl) dX8_readModule_36 (Nat.le_of_ble_eq_true rfl) (Nat.le_of_ble_eq_true rfl) (fun r15 _ hw16 => ?_)
  obtain rfl := hw16
  refine zz_show (ws' := [(x4, .inl (cA 1, 6002, .inl (upd (fun _ => 0) 0 0))), (x5, .inl (cA 1, 6002, .inl (upd (fun _ => 0) 0 0))), (q5, .inl (cA 1, 32, .inl (fun _ => 0))), (q6, .inl (cA 1, 32, .inl (fun _ => 0))), (q7, .inl (cA 1, 32, .inl (fun _ => 0))), (q8, .inl (cA 1, 32, .inl (fun _ => 0))), (q9, .inl (cA 1, 32, .inl (fun _ => 0))), (q10, .inl (cA 1, 32, .inl (fun _ => 0))), (q11, .inl (cA 1, 32, .inl (fun _ => 0))), (q12, .inl (cA 1, 32, .inl (fun _ => 0))), (x6, .inl (cA 1, 6002, .inl (upd (fun _ => 0) 0 0))), (x1, .inr (8, (((((((((f1.set 8 (.int 0)).set 7 (.int (-1))).set 12 (.int 0)).set 8 (.int 1)).set 9 (.int 0)).set 10 (.int 0)).set 11 (.int (-1))).set 14 (.ref q2)).set 11 (.int 0)))), (x3, .inl (cA 1, 6002, .inl (upd (fun _ => 0) 0 0))), (q2, .inr (12, [.ref q3, .ref q4, .ref q5, .ref q6, .ref q7, .ref q8, .ref q9, .ref q10, .ref q11, .ref q12, .int 2, .int 0, .int 0, .int 0, .int 0])), (q3, .inl (cA 1, 32, .inl (upd (fun _ => 0) 1 6))), (q4, .inl (cA 1, 32, .inl (upd (fun _ => 0) 1 0)))]) rfl ?_
  refine zz_iconst X 0 dX8_readModule_39 rfl ?_
  refine zz_callVi X (rest := [.ref q2]) (As := [.int 1, .int 0]) (kX8_path_1 hE l D cA K V x1 (((((((((f1.set 8 (.int 0)).set 7 (.int (-1))).set 12 (.int 0)).set 8 (.int 1)).set 9 (.int 0)).set 10 (.int 0)).set 11 (.int (-1))).set 14 (.ref q2)).set 11 (.int 0)) q2 x3 x5 ([.ref q3, .ref q4, .ref q5, .ref q6, .ref q7, .ref q8, .ref q9, .ref q10, .ref q11, .ref q12, .int 2, .int 0, .int 0, .int 0, .int 0]) q3 q4 q5 q8 q10 hss (zq_len hf1_n (by simp only [List.length_set])) (zq_oth (by decide) ((zq_same (zq_lt hf1_n (by decide) (by simp only [List.length_set]))))) (zq_oth (by decide) (zq_oth (by decide) (zq_oth (by decide) (zq_oth (by decide) (zq_oth (by decide) (zq_oth (by decide) (zq_oth (by decide) (zq_oth (by decide) (zq_oth (by decide) (hf1_4)))))))))) (zq_oth (by decide) (zq_oth (by decide) (zq_oth (by decide) (zq_oth (by decide) ((zq_same (zq_lt hf1_n (by decide) (by simp only [List.length_set])))))))) (zq_same (zq_lt hf1_n (by decide) (by simp only [List.length_set]))) (zq_oth (by decide) (zq_oth (by decide) (zq_oth (by decide) (zq_oth (by decide) (zq_oth (by decide) (zq_oth (by decide) (zq_oth (by decide) (zq_oth (by decide) (zq_oth (by decide) (hf1_6)))))))))) rfl rfl rfl rfl rfl rfl rfl) 2 (zgV zm_737 zm_738 zm_739 zm_273 zm_736) rfl (by decide +kernel) [11, 13, 12, 14, 15, 1, 2, 5, 7] [0, 3, 4, 6, 8, 9, 10] [(x4, .inl (cA 1, 6002, .inl (upd (fun _ => 0) 0 0))), (q6, .inl (cA 1, 32, .inl (fun _ => 0))), (q7, .inl (cA 1, 32, .inl (fun _ => 0))), (q9, .inl (cA 1, 32, .inl (fun _ => 0))), (q11, .inl (cA 1, 32, .inl (fun _ => 0))), (q12, .inl (cA 1, 32, .inl (fun _ => 0))), (x6, .inl (cA 1, 6002, .inl (upd (fun _ => 0) 0 0)))] rfl rfl (by decide) rfl (by decide) (by decide) ⟨Nat.le_of_ble_eq_true rfl, Nat.le_of_ble_eq_true rfl⟩ 0 rfl rfl rfl rfl rfl (Nat.le_of_ble_eq_true rfl) dX8_readModule_40 (Nat.le_of_ble_eq_true rfl) (Nat.le_of_ble_eq_true rfl) (fun r17 _ hw18 => ?_)
  obtain rfl := hw18
  refine zz_show (ws' := [(x4, .inl (cA 1, 6002, .inl (upd (fun _ => 0) 0 0))), (q6, .inl (cA 1, 32, .inl (fun _ => 0))), (q7, .inl (cA 1, 32, .inl (fun _ => 0))), (q9, .inl (cA 1, 32, .inl (fun _ => 0))), (q11, .inl (cA 1, 32, .inl (fun _ => 0))), (q12, .inl (cA 1, 32, .inl (fun _ => 0))), (x6, .inl (cA 1, 6002, .inl (upd (fun _ => 0) 0 0))), (x1, .inr (8, (((((((((f1.set 8 (.int 0)).set 7 (.int (-1))).set 12 (.int 0)).set 8 (.int 1)).set 9 (.int 0)).set 10 (.int 0)).set 11 (.int (-1))).set 14 (.ref q2)).set 11 (.int 0)))), (q2, .inr (12, [.ref q3, .ref q4, .ref q5, .ref q6, .ref q7, .ref q8, .ref q9, .ref q10, .ref q11, .ref q12, .int 3, .int 0, .int 0, .int 0, .int 0])), (x3, .inl (cA 1, 6002, .inl (upd (fun _ => 0) 0 0))), (q3, .inl (cA 1, 32, .inl (upd (upd (fun _ => 0) 1 6) 2 6))), (q4, .inl (cA 1, 32, .inl (upd (upd (fun _ => 0) 1 0) 2 0))), (x5, .inl (cA 1, 6002, .inl (upd (fun _ => 0) 0 0))), (q5, .inl (cA 1, 32, .inl (upd (fun _ => 0) 2 0))), (q8, .inl (cA 1, 32, .inl (upd (fun _ => 0) 1 2))), (q10, .inl (cA 1, 32, .inl (upd (fun _ => 0) 1 2)))]) rfl ?_
  refine zz_put X 8 11 rfl rfl (by decide) (fun w h => List.mem_cons_of_mem _ (zf_X12 w h)) rfl (List.mem_cons_of_mem _ zm_740) tyX12 tyX12_ok nmX12 rfl (ty := .int) rfl rfl rfl (Nat.le_of_ble_eq_true rfl) dX8_readModule_43 [(x4, .inl (cA 1, 6002, .inl (upd (fun _ => 0) 0 0))), (q6, .inl (cA 1, 32, .inl (fun _ => 0))), (q7, .inl (cA 1, 32, .inl (fun _ => 0))), (q9, .inl (cA 1, 32, .inl (fun _ => 0))), (q11, .inl (cA 1, 32, .inl (fun _ => 0))), (q12, .inl (cA 1, 32, .inl (fun _ => 0))), (x6, .inl (cA 1, 6002, .inl (upd (fun _ => 0) 0 0))), (x1, .inr (8, (((((((((f1.set 8 (.int 0)).set 7 (.int (-1))).set 12 (.int 0)).set 8 (.int 1)).set 9 (.int 0)).set 10 (.int 0)).set 11 (.int (-1))).set 14 (.ref q2)).set 11 (.int 0)))), (q2, .inr (12, [.ref q3, .ref q4, .ref q5, .ref q6, .ref q7, .ref q8, .ref q9, .ref q10, .ref q11, .ref q12, .int 3, .int 0, .int 0, .int 0, .int 0])), (x3, .inl (cA 1, 6002, .inl (upd (fun _ => 0) 0 0))), (q3, .inl (cA 1, 32, .inl (upd (upd (fun _ => 0) 1 6) 2 6))), (q4, .inl (cA 1, 32, .inl (upd (upd (fun _ => 0) 1 0) 2 0))), (x5, .inl (cA 1, 6002, .inl (upd (fun _ => 0) 0 0))), (q5, .inl (cA 1, 32, .inl (upd (fun _ => 0) 2 0))), (q8, .inl (cA 1, 32, .inl (upd (fun _ => 0) 1 2))), (q10, .inl (cA 1, 32, .inl (upd (fun _ => 0) 1 2)))] rfl ?_
  refine zz_aload_n X 0 dX8_readModule_46 rfl rfl ?_
  refine zz_get X 7 14 rfl rfl (by decide) (fun w h => List.mem_cons_of_mem _ (zf_X8 w h)) rfl (List.mem_cons_of_mem _ zm_31) (zq_oth (by decide) ((zq_same (zq_lt hf1_n (by decide) (by simp only [List.length_set]))))) dX8_readModule_47 ?_
  refine zz_aload_n X 0 dX8_readModule_50 rfl rfl ?_
  refine zz_get X 7 14 rfl rfl (by decide) (fun w h => List.mem_cons_of_mem _ (zf_X8 w h)) rfl (List.mem_cons_of_mem _ zm_31) (zq_oth (by decide) ((zq_same (zq_lt hf1_n (by decide) (by simp only [List.length_set]))))) dX8_readModule_51 ?_
  refine zz_bipush X 16 dX8_readModule_54 rfl ?_
  refine zz_iconst X 0 dX8_readModule_56 rfl ?_
  refine zz_callVi X (rest := [.ref q2]) (As := [.int 16, .int 0]) (kX12_add_3 hE l D cA K V q2 ([.ref q3, .ref q4, .ref q5, .ref q6, .ref q7, .ref q8, .ref q9, .ref q10, .ref q11, .ref q12, .int 3, .int 0, .int 0, .int 0, .int 0]) q3 q4 hss rfl rfl rfl rfl) 2 (zgV zm_716 zm_717 zm_718 zm_681 zm_715) rfl (by decide +kernel) [8, 10, 11] [0, 1, 2, 3, 4, 5, 6, 7, 9, 12, 13, 14, 15] [(x4, .inl (cA 1, 6002, .inl (upd (fun _ => 0) 0 0))), (q6, .inl (cA 1, 32, .inl (fun _ => 0))), (q7, .inl (cA 1, 32, .inl (fun _ => 0))), (q9, .inl (cA 1, 32, .inl (fun _ => 0))), (q11, .inl (cA 1, 32, .inl (fun _ => 0))), (q12, .inl (cA 1, 32, .inl (fun _ => 0))), (x6, .inl (cA 1, 6002, .inl (upd (fun _ => 0) 0 0))), (x1, .inr (8, (((((((((f1.set 8 (.int 0)).set 7 (.int (-1))).set 12 (.int 0)).set 8 (.int 1)).set 9 (.int 0)).set 10 (.int 0)).set 11 (.int (-1))).set 14 (.ref q2)).set 11 (.int 0)))), (x3, .inl (cA 1, 6002, .inl (upd (fun _ => 0) 0 0))), (x5, .inl (cA 1, 6002, .inl (upd (fun _ => 0) 0 0))), (q5, .inl (cA 1, 32, .inl (upd (fun _ => 0) 2 0))), (q8, .inl (cA 1, 32, .inl (upd (fun _ => 0) 1 2))), (q10, .inl (cA 1, 32, .inl (upd (fun _ => 0) 1 2)))] rfl rfl (by decide) rfl (by decide) (by decide) ⟨Nat.le_of_ble_eq_true rfl, Nat.le_of_ble_eq_true rfl⟩ 0 rfl rfl rfl rfl rfl (Nat.le_of_ble_eq_true rfl) dX8_readModule_57 (Nat.le_of_ble_eq_true rfl) (Nat.le_of_ble_eq_true rfl) (fun r19 _ hw20 => ?_)
  obtain rfl := hw20
  refine zz_show (ws' := [(x4, .inl (cA 1, 6002, .inl (upd (fun _ => 0) 0 0))), (q6, .inl (cA 1, 32, .inl (fun _ => 0))), (q7, .inl (cA 1, 32, .inl (fun _ => 0))), (q9, .inl (cA 1, 32, .inl (fun _ => 0))), (q11, .inl (cA 1, 32, .inl (fun _ => 0))), (q12, .inl (cA 1, 32, .inl (fun _ => 0))), (x6, .inl (cA 1, 6002, .inl (upd (fun _ => 0) 0 0))), (x1, .inr (8, (((((((((f1.set 8 (.int 0)).set 7 (.int (-1))).set 12 (.int 0)).set 8 (.int 1)).set 9 (.int 0)).set 10 (.int 0)).set 11 (.int (-1))).set 14 (.ref q2)).set 11 (.int 0)))), (x3, .inl (cA 1, 6002, .inl (upd (fun _ => 0) 0 0))), (x5, .inl (cA 1, 6002, .inl (upd (fun _ => 0) 0 0))), (q5, .inl (cA 1, 32, .inl (upd (fun _ => 0) 2 0))), (q8, .inl (cA 1, 32, .inl (upd (fun _ => 0) 1 2))), (q10, .inl (cA 1, 32, .inl (upd (fun _ => 0) 1 2))), (q2, .inr (12, [.ref q3, .ref q4, .ref q5, .ref q6, .ref q7, .ref q8, .ref q9, .ref q10, .ref q11, .ref q12, .int 4, .int 0, .int 0, .int 0, .int 0])), (q3, .inl (cA 1, 32, .inl (upd (upd (upd (fun _ => 0) 1 6) 2 6) 3 16))), (q4, .inl (cA 1, 32, .inl (upd (upd (upd (fun _ => 0) 1 0) 2 0) 3 0)))]) rfl ?_
  refine zz_put X 13 12 rfl rfl (by decide) (fun w h => List.mem_cons_of_mem _ (zf_X12 w h)) rfl (List.mem_cons_of_mem _ zm_741) tyX12 tyX12_ok nmX12 rfl (ty := .int) rfl rfl rfl (Nat.le_of_ble_eq_true rfl) dX8_readModule_60 [(x4, .inl (cA 1, 6002, .inl (upd (fun _ => 0) 0 0))), (q6, .inl (cA 1, 32, .inl (fun _ => 0))), (q7, .inl (cA 1, 32, .inl (fun _ => 0))), (q9, .inl (cA 1, 32, .inl (fun _ => 0))), (q11, .inl (cA 1, 32, .inl (fun _ => 0))), (q12, .inl (cA 1, 32, .inl (fun _ => 0))), (x6, .inl (cA 1, 6002, .inl (upd (fun _ => 0) 0 0))), (x1, .inr (8, (((((((((f1.set 8 (.int 0)).set 7 (.int (-1))).set 12 (.int 0)).set 8 (.int 1)).set 9 (.int 0)).set 10 (.int 0)).set 11 (.int (-1))).set 14 (.ref q2)).set 11 (.int 0)))), (x3, .inl (cA 1, 6002, .inl (upd (fun _ => 0) 0 0))), (x5, .inl (cA 1, 6002, .inl (upd (fun _ => 0) 0 0))), (q5, .inl (cA 1, 32, .inl (upd (fun _ => 0) 2 0))), (q8, .inl (cA 1, 32, .inl (upd (fun _ => 0) 1 2))), (q10, .inl (cA 1, 32, .inl (upd (fun _ => 0) 1 2))), (q2, .inr (12, [.ref q3, .ref q4, .ref q5, .ref q6, .ref q7, .ref q8, .ref q9, .ref q10, .ref q11, .ref q12, .int 4, .int 0, .int 3, .int 0, .int 0])), (q3, .inl (cA 1, 32, .inl (upd (upd (upd (fun _ => 0) 1 6) 2 6) 3 16))), (q4, .inl (cA 1, 32, .inl (upd (upd (upd (fun _ => 0) 1 0) 2 0) 3 0)))] rfl ?_
  refine zz_aload_n X 0 dX8_readModule_63 rfl rfl ?_
  refine zz_get X 7 14 rfl rfl (by decide) (fun w h => List.mem_cons_of_mem _ (zf_X8 w h)) rfl (List.mem_cons_of_mem _ zm_31) (zq_oth (by decide) ((zq_same (zq_lt hf1_n (by decide) (by simp only [List.length_set]))))) dX8_readModule_64 ?_
  refine zz_bipush X 16 dX8_readModule_67 rfl ?_
  refine zz_iconst X 0 dX8_readModule_69 rfl ?_
  refine zz_callVi X (rest := []) (As := [.int 16, .int 0]) (kX12_add_4 hE l D cA K V q2 ([.ref q3, .ref q4, .ref q5, .ref q6, .ref q7, .ref q8, .ref q9, .ref q10, .ref q11, .ref q12, .int 4, .int 0, .int 3, .int 0, .int 0]) q3 q4 (upd (upd (upd (fun _ => 0) 1 6) 2 6) 3 16) hss rfl rfl rfl rfl) 2 (zgV zm_716 zm_717 zm_718 zm_681 zm_715) rfl (by decide +kernel) [13, 14, 15] [0, 1, 2, 3, 4, 5, 6, 7, 8, 9, 10, 11, 12] [(x4, .inl (cA 1, 6002, .inl (upd (fun _ => 0) 0 0))), (q6, .inl (cA 1, 32, .inl (fun _ => 0))), (q7, .inl (cA 1, 32, .inl (fun _ => 0))), (q9, .inl (cA 1, 32, .inl (fun _ => 0))), (q11, .inl (cA 1, 32, .inl (fun _ => 0))), (q12, .inl (cA 1, 32, .inl (fun _ => 0))), (x6, .inl (cA 1, 6002, .inl (upd (fun _ => 0) 0 0))), (x1, .inr (8, (((((((((f1.set 8 (.int 0)).set 7 (.int (-1))).set 12 (.int 0)).set 8 (.int 1)).set 9 (.int 0)).set 10 (.int 0)).set 11 (.int (-1))).set 14 (.ref q2)).set 11 (.int 0)))), (x3, .inl (cA 1, 6002, .inl (upd (fun _ => 0) 0 0))), (x5, .inl (cA 1, 6002, .inl (upd (fun _ => 0) 0 0))), (q5, .inl (cA 1, 32, .inl (upd (fun _ => 0) 2 0))), (q8, .inl (cA 1, 32, .inl (upd (fun _ => 0) 1 2))), (q10, .inl (cA 1, 32, .inl (upd (fun _ => 0) 1 2)))] rfl rfl (by decide) rfl (by decide) (by decide) ⟨Nat.le_of_ble_eq_true rfl, Nat.le_of_ble_eq_true rfl⟩ 0 rfl rfl rfl rfl rfl (Nat.le_of_ble_eq_true rfl) dX8_readModule_70 (Nat.le_of_ble_eq_true rfl) (Nat.le_of_ble_eq_true rfl) (fun r21 _ hw22 => ?_)
  obtain rfl := hw22
  refine zz_show (ws' := [(x4, .inl (cA 1, 6002, .inl (upd (fun _ => 0) 0 0))), (q6, .inl (cA 1, 32, .inl (fun _ => 0))), (q7, .inl (cA 1, 32, .inl (fun _ => 0))), (q9, .inl (cA 1, 32, .inl (fun _ => 0))), (q11, .inl (cA 1, 32, .inl (fun _ => 0))), (q12, .inl (cA 1, 32, .inl (fun _ => 0))), (x6, .inl (cA 1, 6002, .inl (upd (fun _ => 0) 0 0))), (x1, .inr (8, (((((((((f1.set 8 (.int 0)).set 7 (.int (-1))).set 12 (.int 0)).set 8 (.int 1)).set 9 (.int 0)).set 10 (.int 0)).set 11 (.int (-1))).set 14 (.ref q2)).set 11 (.int 0)))), (x3, .inl (cA 1, 6002, .inl (upd (fun _ => 0) 0 0))), (x5, .inl (cA 1, 6002, .inl (upd (fun _ => 0) 0 0))), (q5, .inl (cA 1, 32, .inl (upd (fun _ => 0) 2 0))), (q8, .inl (cA 1, 32, .inl (upd (fun _ => 0) 1 2))), (q10, .inl (cA 1, 32, .inl (upd (fun _ => 0) 1 2))), (q2, .inr (12, [.ref q3, .ref q4, .ref q5, .ref q6, .ref q7, .ref q8, .ref q9, .ref q10, .ref q11, .ref q12, .int 5, .int 0, .int 3, .int 0, .int 0])), (q3, .inl (cA 1, 32, .inl (upd (upd (upd (upd (fun _ => 0) 1 6) 2 6) 3 16) 4 16))), (q4, .inl (cA 1, 32, .inl (upd (upd (upd (upd (fun _ => 0) 1 0) 2 0) 3 0) 4 0)))]) rfl ?_
  refine zz_istore_n X [(3, .int 4), (0, .ref x1), (1, .ref x2), (2, .int 0)] dX8_readModule_73 rfl (by decide) rfl ?_
  refine zz_iconst X 0 dX8_readModule_74 rfl ?_
  refine zz_istore X [(4, .int 0), (3, .int 4), (0, .ref x1), (1, .ref x2), (2, .int 0)] dX8_readModule_75 (by decide) rfl ?_
  refine zz_iload X 0 dX8_readModule_77 rfl ?_
  refine zz_bipush X 10 dX8_readModule_79 rfl ?_
  refine zz_icmp_gt X 122 dX8_readModule_81 (by decide) (fun h => absurd h (by decide)) (fun _ => ?_)
  refine zz_aload_n X 2 dX8_readModule_84 rfl rfl ?_
  refine zz_bipush X 6 dX8_readModule_85 rfl ?_
  refine zz_callVi X (rest := []) (As := [.int 6]) (kX8_is_3 hE l D cA K V x1 (((((((((f1.set 8 (.int 0)).set 7 (.int (-1))).set 12 (.int 0)).set 8 (.int 1)).set 9 (.int 0)).set 10 (.int 0)).set 11 (.int (-1))).set 14 (.ref q2)).set 11 (.int 0)) hss (zq_len hf1_n (by simp only [List.length_set])) (zq_same (zq_lt hf1_n (by decide) (by simp only [List.length_set])))) 1 (zgV zm_704 zm_705 zm_706 zm_273 zm_703) rfl (by decide +kernel) [7] [0, 1, 2, 3, 4, 5, 6, 8, 9, 10, 11, 12, 13, 14, 15] [(x4, .inl (cA 1, 6002, .inl (upd (fun _ => 0) 0 0))), (q6, .inl (cA 1, 32, .inl (fun _ => 0))), (q7, .inl (cA 1, 32, .inl (fun _ => 0))), (q9, .inl (cA 1, 32, .inl (fun _ => 0))), (q11, .inl (cA 1, 32, .inl (fun _ => 0))), (q12, .inl (cA 1, 32, .inl (fun _ => 0))), (x6, .inl (cA 1, 6002, .inl (upd (fun _ => 0) 0 0))), (x3, .inl (cA 1, 6002, .inl (upd (fun _ => 0) 0 0))), (x5, .inl (cA 1, 6002, .inl (upd (fun _ => 0) 0 0))), (q5, .inl (cA 1, 32, .inl (upd (fun _ => 0) 2 0))), (q8, .inl (cA 1, 32, .inl (upd (fun _ => 0) 1 2))), (q10, .inl (cA 1, 32, .inl (upd (fun _ => 0) 1 2))), (q2, .inr (12, [.ref q3, .ref q4, .ref q5, .ref q6, .ref q7, .ref q8, .ref q9, .ref q10, .ref q11, .ref q12, .int 5, .int 0, .int 3, .int 0, .int 0])), (q3, .inl (cA 1, 32, .inl (upd (upd (upd (upd (fun _ => 0) 1 6) 2 6) 3 16) 4 16))), (q4, .inl (cA 1, 32, .inl (upd (upd (upd (upd (fun _ => 0) 1 0) 2 0) 3 0) 4 0)))] rfl rfl (by decide) rfl (by decide) (by decide) ⟨Nat.le_of_ble_eq_true rfl, Nat.le_of_ble_eq_true rfl⟩ 0 rfl rfl rfl rfl rfl (Nat.le_of_ble_eq_true rfl) dX8_readModule_87 (Nat.le_of_ble_eq_true rfl) (Nat.le_of_ble_eq_true rfl) (fun r23 _ hw24 => ?_)
  obtain rfl := hw24
  refine zz_show (ws' := [(x4, .inl (cA 1, 6002, .inl (upd (fun _ => 0) 0 0))), (q6, .inl (cA 1, 32, .inl (fun _ => 0))), (q7, .inl (cA 1, 32, .inl (fun _ => 0))), (q9, .inl (cA 1, 32, .inl (fun _ => 0))), (q11, .inl (cA 1, 32, .inl (fun _ => 0))), (q12, .inl (cA 1, 32, .inl (fun _ => 0))), (x6, .inl (cA 1, 6002, .inl (upd (fun _ => 0) 0 0))), (x3, .inl (cA 1, 6002, .inl (upd (fun _ => 0) 0 0))), (x5, .inl (cA 1, 6002, .inl (upd (fun _ => 0) 0 0))), (q5, .inl (cA 1, 32, .inl (upd (fun _ => 0) 2 0))), (q8, .inl (cA 1, 32, .inl (upd (fun _ => 0) 1 2))), (q10, .inl (cA 1, 32, .inl (upd (fun _ => 0) 1 2))), (q2, .inr (12, [.ref q3, .ref q4, .ref q5, .ref q6, .ref q7, .ref q8, .ref q9, .ref q10, .ref q11, .ref q12, .int 5, .int 0, .int 3, .int 0, .int 0])), (q3, .inl (cA 1, 32, .inl (upd (upd (upd (upd (fun _ => 0) 1 6) 2 6) 3 16) 4 16))), (q4, .inl (cA 1, 32, .inl (upd (upd (upd (upd (fun _ => 0) 1 0) 2 0) 3 0) 4 0))), (x1, .inr (8, (((((((((f1.set 8 (.int 0)).set 7 (.int (-1))).set 12 (.int 0)).set 8 (.int 1)).set 9 (.int 0)).set 10 (.int 0)).set 11 (.int (-1))).set 14 (.ref q2)).set 11 (.int 0))))]) rfl ?_
  refine zz_if_eq X 122 dX8_readModule_90 (by decide) (fun _ => ?_) (fun h => absurd (by decide) h)
  refine zz_aload_n X 2 dX8_readModule_122 rfl rfl ?_
  refine zz_get X 15 14 rfl rfl (by decide) (fun w h => List.mem_cons_of_mem _ (zf_X8 w h)) rfl (List.mem_cons_of_mem _ zm_31) (zq_oth (by decide) ((zq_same (zq_lt hf1_n (by decide) (by simp only [List.length_set]))))) dX8_readModule_123 ?_
  refine zz_aload_n X 2 dX8_readModule_126 rfl rfl ?_
  refine zz_get X 15 14 rfl rfl (by decide) (fun w h => List.mem_cons_of_mem _ (zf_X8 w h)) rfl (List.mem_cons_of_mem _ zm_31) (zq_oth (by decide) ((zq_same (zq_lt hf1_n (by decide) (by simp only [List.length_set]))))) dX8_readModule_127 ?_
  refine zz_get X 12 5 rfl rfl (by decide) (fun w h => List.mem_cons_of_mem _ (zf_X12 w h)) rfl (List.mem_cons_of_mem _ zm_742) rfl dX8_readModule_130 ?_
  refine zz_iload_n X 1 dX8_readModule_133 rfl rfl ?_
  refine zz_iald X 10 1 rfl rfl (vp_in_nI (n := 4) (by decide) (by decide)) (0) rfl dX8_readModule_134 ?_
  refine zz_put X 12 13 rfl rfl (by decide) (fun w h => List.mem_cons_of_mem _ (zf_X12 w h)) rfl (List.mem_cons_of_mem _ zm_743) tyX12 tyX12_ok nmX12 rfl (ty := .int) rfl rfl rfl (Nat.le_of_ble_eq_true rfl) dX8_readModule_135 [(x4, .inl (cA 1, 6002, .inl (upd (fun _ => 0) 0 0))), (q6, .inl (cA 1, 32, .inl (fun _ => 0))), (q7, .inl (cA 1, 32, .inl (fun _ => 0))), (q9, .inl (cA 1, 32, .inl (fun _ => 0))), (q11, .inl (cA 1, 32, .inl (fun _ => 0))), (q12, .inl (cA 1, 32, .inl (fun _ => 0))), (x6, .inl (cA 1, 6002, .inl (upd (fun _ => 0) 0 0))), (x3, .inl (cA 1, 6002, .inl (upd (fun _ => 0) 0 0))), (x5, .inl (cA 1, 6002, .inl (upd (fun _ => 0) 0 0))), (q5, .inl (cA 1, 32, .inl (upd (fun _ => 0) 2 0))), (q8, .inl (cA 1, 32, .inl (upd (fun _ => 0) 1 2))), (q10, .inl (cA 1, 32, .inl (upd (fun _ => 0) 1 2))), (q2, .inr (12, [.ref q3, .ref q4, .ref q5, .ref q6, .ref q7, .ref q8, .ref q9, .ref q10, .ref q11, .ref q12, .int 5, .int 0, .int 3, .int 0, .int 0])), (q3, .inl (cA 1, 32, .inl (upd (upd (upd (upd (fun _ => 0) 1 6) 2 6) 3 16) 4 16))), (q4, .inl (cA 1, 32, .inl (upd (upd (upd (upd (fun _ => 0) 1 0) 2 0) 3 0) 4 0))), (x1, .inr (8, (((((((((f1.set 8 (.int 0)).set 7 (.int (-1))).set 12 (.int 0)).set 8 (.int 1)).set 9 (.int 0)).set 10 (.int 0)).set 11 (.int (-1))).set 14 (.ref q2)).set 11 (.int 0))))] rfl ?_
  refine zz_iconst X 0 dX8_readModule_138 rfl ?_
  refine zz_istore X [(4, .int 0), (3, .int 4), (0, .ref x1), (1, .ref x2), (2, .int 0)] dX8_readModule_139 (by decide) rfl ?_
  refine zz_iload X 0 dX8_readModule_141 rfl ?_
  refine zz_bipush X 100 dX8_readModule_143 rfl ?_
  refine zz_icmp_gt X 214 dX8_readModule_145 (by decide) (fun h => absurd h (by decide)) (fun _ => ?_)
  refine zz_aload_n X 2 dX8_readModule_148 rfl rfl ?_
  refine zz_get X 15 11 rfl rfl (by decide) (fun w h => List.mem_cons_of_mem _ (zf_X8 w h)) rfl (List.mem_cons_of_mem _ zm_28) (zq_same (zq_lt hf1_n (by decide) (by simp only [List.length_set]))) dX8_readModule_149 ?_
  refine zz_if_ge X 214 dX8_readModule_152 (by decide) (fun _ => ?_) (fun h => absurd (by decide) h)
  refine zz_aload_n X 2 dX8_readModule_214 rfl rfl ?_
  refine zz_get X 15 11 rfl rfl (by decide) (fun w h => List.mem_cons_of_mem _ (zf_X8 w h)) rfl (List.mem_cons_of_mem _ zm_28) (zq_same (zq_lt hf1_n (by decide) (by simp only [List.length_set]))) dX8_readModule_215 ?_
  refine zz_if_ge X 228 dX8_readModule_218 (by decide) (fun _ => ?_) (fun h => absurd (by decide) h)
  refine zz_null X dX8_readModule_228 ?_
  exact zz_aret (r := none) X hr (Or.inl ⟨_, rfl⟩) ((q2, q6, q7, q9, q11, q12, q5, q8, q10, q3, q4)) [15, 7, 0, 8, 6, 1, 2, 3, 4, 5, 9, 10, 11, 12, 13, 14] (by decide) rfl rfl (Nat.le_of_ble_eq_true rfl) (Nat.le_of_ble_eq_true rfl) (rfl) dX8_readModule_229

set_option maxHeartbeats 4000000 in
set_option maxRecDepth 100000 in
/-- module -/
theorem kX13_module_1 {E : zEn} (hE : zOk E) (l : Launch) (D : va_G) (cA : Nat → ClassId) (K : Nat → Nat) (V : Nat → Nat) (x1 : Nat) (f1 : List Value) (x2 : Nat) (x3 : Nat) (f2 : List Value) (x4 : Nat) (x5 : Nat) (x6 : Nat) (x7 : Nat) (hss : zSS E K V) (hf1_n : f1.length = 23) (hf1_3 : f1[3]? = some (.ref x2)) (hf1_8 : f1[8]? = some (.ref x3)) (hf1_9 : f1[9]? = some (.int 0)) (hf2_n : f2.length = 15) (hf2_4 : f2[4]? = some (.ref x4)) (hf2_5 : f2[5]? = some (.ref x5)) (hf2_6 : f2[6]? = some (.ref x6)) (hf2_3 : f2[3]? = some (.ref x7)) : zMi E l yX13_module zwX13_module ({ frames := 4, cells := 11, slots := 335, locals := 93 }) D vwCl (zT cA) [.ref x1] [(x1, .inr (13, f1)), (x2, .inr (8, f2)), (x4, .inl (cA 1, 6002, .inl (fun _ => 0))), (x5, .inl (cA 1, 6002, .inl (fun _ => 0))), (x6, .inl (cA 1, 6002, .inl (fun _ => 0))), (x7, .inl (cA 1, 6002, .inl (fun _ => 0)))] (S := Unit) (fun (r : Int32) (u : Unit) => (r = (-1))) (fun (u : Unit) => []) := by
  refine zz_enteri (cc := cX13_module) (lv := [(0, .ref x1)]) hE 2 (by decide) rfl (Nat.le_of_ble_eq_true rfl) rfl ?_
  intro p e s m args below meth c X hr hin
  refine zz_aload_n X 0 dX13_module_0 rfl rfl ?_
  refine zz_get X 0 3 rfl rfl (by decide) (fun w h => List.mem_cons_of_mem _ (zf_X13 w h)) rfl (List.mem_cons_of_mem _ zm_279) hf1_3 dX13_module_1 ?_
  refine zz_aload_n X 0 dX13_module_4 rfl rfl ?_
  refine zz_get X 0 8 rfl rfl (by decide) (fun w h => List.mem_cons_of_mem _ (zf_X13 w h)) rfl (List.mem_cons_of_mem _ zm_301) hf1_8 dX13_module_5 ?_
  refine zz_aload_n X 0 dX13_module_8 rfl rfl ?_
  refine zz_callVi X (rest := [.ref x3, .ref x2]) (As := []) (kX13_emptied_1 hE l D cA K V x1 f1 hss (zq_len hf1_n (by simp only [List.length_set])) hf1_9) 0 (zgV zm_670 zm_671 zm_672 zm_186 zm_669) rfl (by decide +kernel) [0] [1, 2, 3, 4, 5] [(x2, .inr (8, f2)), (x4, .inl (cA 1, 6002, .inl (fun _ => 0))), (x5, .inl (cA 1, 6002, .inl (fun _ => 0))), (x6, .inl (cA 1, 6002, .inl (fun _ => 0))), (x7, .inl (cA 1, 6002, .inl (fun _ => 0)))] rfl rfl (by decide) rfl (by decide) (by decide) ⟨Nat.le_of_ble_eq_true rfl, Nat.le_of_ble_eq_true rfl⟩ 0 rfl rfl rfl rfl rfl (Nat.le_of_ble_eq_true rfl) dX13_module_9 (Nat.le_of_ble_eq_true rfl) (Nat.le_of_ble_eq_true rfl) (fun r1 _ hw2 => ?_)
  obtain rfl := hw2
  refine zz_show (ws' := [(x2, .inr (8, f2)), (x4, .inl (cA 1, 6002, .inl (fun _ => 0))), (x5, .inl (cA 1, 6002, .inl (fun _ => 0))), (x6, .inl (cA 1, 6002, .inl (fun _ => 0))), (x7, .inl (cA 1, 6002, .inl (fun _ => 0))), (x1, .inr (13, (f1.set 9 (.int 0))))]) rfl ?_
  refine zz_callVq X (rest := []) (As := [.ref x3, .int 0]) (kX8_readModule_1 hE l D cA K V x2 x3 f2 x4 x5 x6 x7 hss (zq_len hf2_n (by simp only [List.length_set])) hf2_4 hf2_5 hf2_6 hf2_3) 2 (zgV zm_745 zm_746 zm_747 zm_273 zm_744) rfl (by decide +kernel) [0, 1, 2, 3, 4] [5] [(x1, .inr (13, (f1.set 9 (.int 0))))] rfl rfl (by decide) rfl (by decide) (by decide) ⟨Nat.le_of_ble_eq_true rfl, Nat.le_of_ble_eq_true rfl⟩ 0 rfl rfl rfl rfl rfl (Nat.le_of_ble_eq_true rfl) dX13_module_12 (Nat.le_of_ble_eq_true rfl) (Nat.le_of_ble_eq_true rfl) (fun r14 uhw15 hw15 => ?_)
  obtain ⟨q3, q4, q5, q6, q7, q8, q9, q10, q11, q12, q13⟩ := uhw15
  obtain rfl := hw15
  refine zz_show (ws' := [(x1, .inr (13, (f1.set 9 (.int 0)))), (x2, .inr (8, (((((((((f2.set 8 (.int 0)).set 7 (.int (-1))).set 12 (.int 0)).set 8 (.int 1)).set 9 (.int 0)).set 10 (.int 0)).set 11 (.int (-1))).set 14 (.ref q3)).set 11 (.int 0)))), (x4, .inl (cA 1, 6002, .inl (upd (fun _ => 0) 0 0))), (x5, .inl (cA 1, 6002, .inl (upd (fun _ => 0) 0 0))), (x6, .inl (cA 1, 6002, .inl (upd (fun _ => 0) 0 0))), (x7, .inl (cA 1, 6002, .inl (upd (fun _ => 0) 0 0))), (q4, .inl (cA 1, 32, .inl (fun _ => 0))), (q5, .inl (cA 1, 32, .inl (fun _ => 0))), (q6, .inl (cA 1, 32, .inl (fun _ => 0))), (q7, .inl (cA 1, 32, .inl (fun _ => 0))), (q8, .inl (cA 1, 32, .inl (fun _ => 0))), (q9, .inl (cA 1, 32, .inl (upd (fun _ => 0) 2 0))), (q10, .inl (cA 1, 32, .inl (upd (fun _ => 0) 1 2))), (q11, .inl (cA 1, 32, .inl (upd (fun _ => 0) 1 2))), (q3, .inr (12, [.ref q12, .ref q13, .ref q9, .ref q4, .ref q5, .ref q10, .ref q6, .ref q11, .ref q7, .ref q8, .int 5, .int 0, .int 3, .int 0, .int 0])), (q12, .inl (cA 1, 32, .inl (upd (upd (upd (upd (fun _ => 0) 1 6) 2 6) 3 16) 4 16))), (q13, .inl (cA 1, 32, .inl (upd (upd (upd (upd (fun _ => 0) 1 0) 2 0) 3 0) 4 0)))]) rfl ?_
  refine zz_astore_nN X [(1, .null), (0, .ref x1)] dX13_module_15 rfl (by decide) rfl ?_
  refine zz_aload_nN X 0 dX13_module_16 rfl rfl ?_
  refine zz_ifnonnullN X dX13_module_17 ?_
  refine zz_iconst X (-1) dX13_module_20 rfl ?_
  refine zz_aload_n X 1 dX13_module_21 rfl rfl ?_
  refine zz_get X 0 3 rfl rfl (by decide) (fun w h => List.mem_cons_of_mem _ (zf_X13 w h)) rfl (List.mem_cons_of_mem _ zm_279) (zq_oth (by decide) (hf1_3)) dX13_module_22 ?_
  refine zz_get X 1 11 rfl rfl (by decide) (fun w h => List.mem_cons_of_mem _ (zf_X8 w h)) rfl (List.mem_cons_of_mem _ zm_748) (zq_same (zq_lt hf2_n (by decide) (by simp only [List.length_set]))) dX13_module_25 ?_
  refine zz_isub X ((-1)) dX13_module_28 (by decide) ?_
  exact zz_iret X hr (()) [] (by decide) rfl rfl (Nat.le_of_ble_eq_true rfl) (Nat.le_of_ble_eq_true rfl) (rfl) dX13_module_29

set_option maxHeartbeats 4000000 in
set_option maxRecDepth 100000 in
/-- drop -/
theorem kX13_drop_1 {E : zEn} (hE : zOk E) (l : Launch) (D : va_G) (cA : Nat → ClassId) (K : Nat → Nat) (V : Nat → Nat) (x1 : Nat) (f1 : List Value) (hss : zSS E K V) (hf1_n : f1.length = 23) (hf1_12 : f1[12]? = some (.int 0)) : zMi E l yX13_drop zwX13_drop ({ frames := 0, cells := 0, slots := 0, locals := 0 }) D vwCl (zT cA) [.ref x1] [(x1, .inr (13, f1))] (S := Unit) (fun (r : Int32) (u : Unit) => (r = 0)) (fun (u : Unit) => []) := by
  refine zz_enteri (cc := cX13_drop) (lv := [(0, .ref x1)]) hE 2 (by decide) rfl (Nat.le_of_ble_eq_true rfl) rfl ?_
  intro p e s m args below meth c X hr hin
  refine zz_aload_n X 0 dX13_drop_0 rfl rfl ?_
  refine zz_get X 0 12 rfl rfl (by decide) (fun w h => List.mem_cons_of_mem _ (zf_X13 w h)) rfl (List.mem_cons_of_mem _ zm_306) hf1_12 dX13_drop_1 ?_
  refine zz_istore_n X [(1, .int 0), (0, .ref x1)] dX13_drop_4 rfl (by decide) rfl ?_
  refine zz_aload_n X 1 dX13_drop_5 rfl rfl ?_
  refine zz_iconst X 0 dX13_drop_6 rfl ?_
  refine zz_put X 0 12 rfl rfl (by decide) (fun w h => List.mem_cons_of_mem _ (zf_X13 w h)) rfl (List.mem_cons_of_mem _ zm_306) tyX13 tyX13_ok nmX13 rfl (ty := .int) rfl rfl rfl (zq_lt hf1_n (by decide) (by simp only [List.length_set])) dX13_drop_7 [(x1, .inr (13, (f1.set 12 (.int 0))))] rfl ?_
  refine zz_aload_n X 1 dX13_drop_10 rfl rfl ?_
  refine zz_null X dX13_drop_11 ?_
  refine zz_put X 0 13 rfl rfl (by decide) (fun w h => List.mem_cons_of_mem _ (zf_X13 w h)) rfl (List.mem_cons_of_mem _ zm_307) tyX13 tyX13_ok nmX13 rfl (ty := (.object "PolicyHouse$Bundle")) rfl rfl rfl (zq_lt hf1_n (by decide) (by simp only [List.length_set])) dX13_drop_12 [(x1, .inr (13, ((f1.set 12 (.int 0)).set 13 .null)))] rfl ?_
  refine zz_iload_n X 0 dX13_drop_15 rfl rfl ?_
  exact zz_iret X hr (()) [] (by decide) rfl rfl (Nat.le_of_ble_eq_true rfl) (Nat.le_of_ble_eq_true rfl) (rfl) dX13_drop_16

set_option maxHeartbeats 4000000 in
set_option maxRecDepth 100000 in
/-- bundleOfDraft -/
theorem kX13_bundleOfDraft_2 {E : zEn} (hE : zOk E) (l : Launch) (D : va_G) (cA : Nat → ClassId) (K : Nat → Nat) (V : Nat → Nat) (x1 : Nat) (f1 : List Value) (x2 : Nat) (hss : zSS E K V) (hf1_n : f1.length = 23) (hf1_13 : f1[13]? = some (.ref x2)) : zMq E l yX13_bundleOfDraft zwX13_bundleOfDraft ({ frames := 0, cells := 0, slots := 0, locals := 0 }) D vwCl (zT cA) [.ref x1] [(x1, .inr (13, f1))] (S := Unit) (fun (r : Option Nat) (u : Unit) => (r = (some x2))) (fun (u : Unit) => [(x1, .inr (13, f1))]) := by
  refine zz_enterq (cc := cX13_bundleOfDraft) (lv := [(0, .ref x1)]) hE 2 (by decide) rfl (Nat.le_of_ble_eq_true rfl) rfl ?_
  intro p e s m args below meth c X hr hin
  refine zz_aload_n X 0 dX13_bundleOfDraft_0 rfl rfl ?_
  refine zz_get X 0 13 rfl rfl (by decide) (fun w h => List.mem_cons_of_mem _ (zf_X13 w h)) rfl (List.mem_cons_of_mem _ zm_307) hf1_13 dX13_bundleOfDraft_1 ?_
  refine zz_ifnull X dX13_bundleOfDraft_4 ?_
  refine zz_aload_n X 0 dX13_bundleOfDraft_7 rfl rfl ?_
  refine zz_get X 0 13 rfl rfl (by decide) (fun w h => List.mem_cons_of_mem _ (zf_X13 w h)) rfl (List.mem_cons_of_mem _ zm_307) hf1_13 dX13_bundleOfDraft_8 ?_
  exact zz_aret (r := some x2) X hr (Or.inl ⟨_, rfl⟩) (()) [0] (by decide) rfl rfl (Nat.le_of_ble_eq_true rfl) (Nat.le_of_ble_eq_true rfl) (rfl) dX13_bundleOfDraft_11

set_option maxHeartbeats 4000000 in
set_option maxRecDepth 100000 in
/-- find -/
theorem kX13_find_1 {E : zEn} (hE : zOk E) (l : Launch) (D : va_G) (cA : Nat → ClassId) (K : Nat → Nat) (V : Nat → Nat) (x1 : Nat) (f1 : List Value) (x2 : Nat) (f2 : Nat → Int32) (hss : zSS E K V) (hf1_n : f1.length = 23) (hf1_16 : f1[16]? = some (.ref x2)) : zMi E l yX13_find zwX13_find ({ frames := 0, cells := 0, slots := 0, locals := 0 }) D vwCl (zT cA) [.ref x1, .int 0, .int (-1), .int (-1)] [(x1, .inr (13, f1)), (x2, .inl (cA 1, 3, .inl f2))] (S := Unit) (fun (r : Int32) (u : Unit) => (r = 0)) (fun (u : Unit) => [(x1, .inr (13, f1)), (x2, .inl (cA 1, 3, .inl (upd (upd (upd f2 0 0) 1 (-1)) 2 (-1))))]) := by
  refine zz_enteri (cc := cX13_find) (lv := [(0, .ref x1), (1, .int 0), (2, .int (-1)), (3, .int (-1))]) hE 4 (by decide) rfl (Nat.le_of_ble_eq_true rfl) rfl ?_
  intro p e s m args below meth c X hr hin
  refine zz_aload_n X 0 dX13_find_0 rfl rfl ?_
  refine zz_get X 0 16 rfl rfl (by decide) (fun w h => List.mem_cons_of_mem _ (zf_X13 w h)) rfl (List.mem_cons_of_mem _ zm_310) hf1_16 dX13_find_1 ?_
  refine zz_iconst X 0 dX13_find_4 rfl ?_
  refine zz_iload_n X 1 dX13_find_5 rfl rfl ?_
  refine zz_iast X 1 1 rfl rfl (vp_in_nI (n := 0) (by decide) (by decide)) 0 (by decide) dX13_find_6 [(x1, .inr (13, f1)), (x2, .inl (cA 1, 3, .inl (upd f2 0 0)))] rfl ?_
  refine zz_aload_n X 0 dX13_find_7 rfl rfl ?_
  refine zz_get X 0 16 rfl rfl (by decide) (fun w h => List.mem_cons_of_mem _ (zf_X13 w h)) rfl (List.mem_cons_of_mem _ zm_310) hf1_16 dX13_find_8 ?_
  refine zz_iconst X 1 dX13_find_11 rfl ?_
  refine zz_iload_n X 1 dX13_find_12 rfl rfl ?_
  refine zz_if_ne X 20 dX13_find_13 (by decide) (fun h => absurd (by decide) h) (fun _ => ?_)
  refine zz_iconst X (-1) dX13_find_16 rfl ?_
  refine zz_goto X 21 dX13_find_17 (by decide) ?_
  refine zz_iast X 1 1 rfl rfl (vp_in_nI (n := 1) (by decide) (by decide)) 1 (by decide) dX13_find_21 [(x1, .inr (13, f1)), (x2, .inl (cA 1, 3, .inl (upd (upd f2 0 0) 1 (-1))))] rfl ?_
  refine zz_aload_n X 0 dX13_find_22 rfl rfl ?_
  refine zz_get X 0 16 rfl rfl (by decide) (fun w h => List.mem_cons_of_mem _ (zf_X13 w h)) rfl (List.mem_cons_of_mem _ zm_310) hf1_16 dX13_find_23 ?_
  refine zz_iconst X 2 dX13_find_26 rfl ?_
  refine zz_iload_n X 1 dX13_find_27 rfl rfl ?_
  refine zz_if_ne X 35 dX13_find_28 (by decide) (fun h => absurd (by decide) h) (fun _ => ?_)
  refine zz_iconst X (-1) dX13_find_31 rfl ?_
  refine zz_goto X 36 dX13_find_32 (by decide) ?_
  refine zz_iast X 1 1 rfl rfl (vp_in_nI (n := 2) (by decide) (by decide)) 2 (by decide) dX13_find_36 [(x1, .inr (13, f1)), (x2, .inl (cA 1, 3, .inl (upd (upd (upd f2 0 0) 1 (-1)) 2 (-1))))] rfl ?_
  refine zz_iload_n X 1 dX13_find_37 rfl rfl ?_
  exact zz_iret X hr (()) [0, 1] (by decide) rfl rfl (Nat.le_of_ble_eq_true rfl) (Nat.le_of_ble_eq_true rfl) (rfl) dX13_find_38

set_option maxHeartbeats 4000000 in
set_option maxRecDepth 100000 in
/-- check -/
theorem kX13_check_1 {E : zEn} (hE : zOk E) (l : Launch) (D : va_G) (cA : Nat → ClassId) (K : Nat → Nat) (V : Nat → Nat) (x1 : Nat) (f1 : List Value) (x2 : Nat) (x3 : Nat) (f2 : List Value) (f3 : Nat → Int32) (hss : zSS E K V) (hf1_n : f1.length = 23) (hf1_13 : f1[13]? = some (.ref x2)) (hf1_16 : f1[16]? = some (.ref x3)) (hf2_n : f2.length = 16) (hf2_13 : f2[13]? = some (.int 0)) (hf2_14 : f2[14]? = some (.int (-1))) (hf2_15 : f2[15]? = some (.int (-1))) : zMi E l yX13_check zwX13_check ({ frames := 1, cells := 0, slots := 0, locals := 23 }) D vwCl (zT cA) [.ref x1] [(x1, .inr (13, f1)), (x2, .inr (1, f2)), (x3, .inl (cA 1, 3, .inl f3))] (S := Unit) (fun (r : Int32) (u : Unit) => (r = 0)) (fun (u : Unit) => []) := by
  refine zz_enteri (cc := cX13_check) (lv := [(0, .ref x1)]) hE 2 (by decide) rfl (Nat.le_of_ble_eq_true rfl) rfl ?_
  intro p e s m args below meth c X hr hin
  refine zz_aload_n X 0 dX13_check_0 rfl rfl ?_
  refine zz_callVq X (rest := []) (As := []) (kX13_bundleOfDraft_2 hE l D cA K V x1 f1 x2 hss (zq_len hf1_n (by simp only [List.length_set])) hf1_13) 0 (zgV zm_444 zm_445 zm_446 zm_186 zm_443) rfl (by decide +kernel) [0] [1, 2] [(x2, .inr (1, f2)), (x3, .inl (cA 1, 3, .inl f3))] rfl rfl (by decide) rfl (by decide) (by decide) ⟨Nat.le_of_ble_eq_true rfl, Nat.le_of_ble_eq_true rfl⟩ 0 rfl rfl rfl rfl rfl (Nat.le_of_ble_eq_true rfl) dX13_check_1 (Nat.le_of_ble_eq_true rfl) (Nat.le_of_ble_eq_true rfl) (fun r1 _ hw2 => ?_)
  obtain rfl := hw2
  refine zz_show (ws' := [(x2, .inr (1, f2)), (x3, .inl (cA 1, 3, .inl f3)), (x1, .inr (13, f1))]) rfl ?_
  refine zz_astore_n X [(1, .ref x2), (0, .ref x1)] dX13_check_4 rfl (by decide) rfl ?_
  refine zz_aload_n X 1 dX13_check_5 rfl rfl ?_
  refine zz_aload_n X 0 dX13_check_6 rfl rfl ?_
  refine zz_get X 0 13 rfl rfl (by decide) (fun w h => List.mem_cons_of_mem _ (zf_X1 w h)) rfl (List.mem_cons_of_mem _ zm_418) hf2_13 dX13_check_7 ?_
  refine zz_aload_n X 0 dX13_check_10 rfl rfl ?_
  refine zz_get X 0 14 rfl rfl (by decide) (fun w h => List.mem_cons_of_mem _ (zf_X1 w h)) rfl (List.mem_cons_of_mem _ zm_844) hf2_14 dX13_check_11 ?_
  refine zz_aload_n X 0 dX13_check_14 rfl rfl ?_
  refine zz_get X 0 15 rfl rfl (by decide) (fun w h => List.mem_cons_of_mem _ (zf_X1 w h)) rfl (List.mem_cons_of_mem _ zm_845) hf2_15 dX13_check_15 ?_
  refine zz_callVi X (rest := []) (As := [.int 0, .int (-1), .int (-1)]) (kX13_find_1 hE l D cA K V x1 f1 x3 f3 hss (zq_len hf1_n (by simp only [List.length_set])) hf1_16) 3 (zgV zm_847 zm_848 zm_849 zm_186 zm_846) rfl (by decide +kernel) [2, 1] [0] [(x2, .inr (1, f2))] rfl rfl (by decide) rfl (by decide) (by decide) ⟨Nat.le_of_ble_eq_true rfl, Nat.le_of_ble_eq_true rfl⟩ 0 rfl rfl rfl rfl rfl (Nat.le_of_ble_eq_true rfl) dX13_check_18 (Nat.le_of_ble_eq_true rfl) (Nat.le_of_ble_eq_true rfl) (fun r3 _ hw4 => ?_)
  obtain rfl := hw4
  refine zz_show (ws' := [(x2, .inr (1, f2)), (x1, .inr (13, f1)), (x3, .inl (cA 1, 3, .inl (upd (upd (upd f3 0 0) 1 (-1)) 2 (-1))))]) rfl ?_
  exact zz_iret X hr (()) [] (by decide) rfl rfl (Nat.le_of_ble_eq_true rfl) (Nat.le_of_ble_eq_true rfl) (rfl) dX13_check_21

set_option maxHeartbeats 4000000 in
set_option maxRecDepth 100000 in
/-- activate -/
theorem kX13_activate_1 {E : zEn} (hE : zOk E) (l : Launch) (D : va_G) (cA : Nat → ClassId) (K : Nat → Nat) (V : Nat → Nat) (x1 : Nat) (f1 : List Value) (x2 : Nat) (x3 : Nat) (f2 : List Value) (f3 : Nat → Int32) (hss : zSS E K V) (hf1_n : f1.length = 23) (hf1_13 : f1[13]? = some (.ref x2)) (hf1_16 : f1[16]? = some (.ref x3)) (hf2_n : f2.length = 16) (hf2_13 : f2[13]? = some (.int 0)) (hf2_14 : f2[14]? = some (.int (-1))) (hf2_15 : f2[15]? = some (.int (-1))) (hf2_2 : f2[2]? = some (.int 0)) : zMi E l yX13_activate zwX13_activate ({ frames := 1, cells := 0, slots := 0, locals := 23 }) D vwCl (zT cA) [.ref x1] [(x1, .inr (13, f1)), (x2, .inr (1, f2)), (x3, .inl (cA 1, 3, .inl f3))] (S := Unit) (fun (r : Int32) (u : Unit) => (r = 0)) (fun (u : Unit) => []) := by
  refine zz_enteri (cc := cX13_activate) (lv := [(0, .ref x1)]) hE 2 (by decide) rfl (Nat.le_of_ble_eq_true rfl) rfl ?_
  intro p e s m args below meth c X hr hin
  refine zz_aload_n X 0 dX13_activate_0 rfl rfl ?_
  refine zz_callVq X (rest := []) (As := []) (kX13_bundleOfDraft_2 hE l D cA K V x1 f1 x2 hss (zq_len hf1_n (by simp only [List.length_set])) hf1_13) 0 (zgV zm_444 zm_445 zm_446 zm_186 zm_443) rfl (by decide +kernel) [0] [1, 2] [(x2, .inr (1, f2)), (x3, .inl (cA 1, 3, .inl f3))] rfl rfl (by decide) rfl (by decide) (by decide) ⟨Nat.le_of_ble_eq_true rfl, Nat.le_of_ble_eq_true rfl⟩ 0 rfl rfl rfl rfl rfl (Nat.le_of_ble_eq_true rfl) dX13_activate_1 (Nat.le_of_ble_eq_true rfl) (Nat.le_of_ble_eq_true rfl) (fun r1 _ hw2 => ?_)
  obtain rfl := hw2
  refine zz_show (ws' := [(x2, .inr (1, f2)), (x3, .inl (cA 1, 3, .inl f3)), (x1, .inr (13, f1))]) rfl ?_
  refine zz_astore_n X [(1, .ref x2), (0, .ref x1)] dX13_activate_4 rfl (by decide) rfl ?_
  refine zz_aload_n X 1 dX13_activate_5 rfl rfl ?_
  refine zz_aload_n X 0 dX13_activate_6 rfl rfl ?_
  refine zz_get X 0 13 rfl rfl (by decide) (fun w h => List.mem_cons_of_mem _ (zf_X1 w h)) rfl (List.mem_cons_of_mem _ zm_418) hf2_13 dX13_activate_7 ?_
  refine zz_aload_n X 0 dX13_activate_10 rfl rfl ?_
  refine zz_get X 0 14 rfl rfl (by decide) (fun w h => List.mem_cons_of_mem _ (zf_X1 w h)) rfl (List.mem_cons_of_mem _ zm_844) hf2_14 dX13_activate_11 ?_
  refine zz_aload_n X 0 dX13_activate_14 rfl rfl ?_
  refine zz_get X 0 15 rfl rfl (by decide) (fun w h => List.mem_cons_of_mem _ (zf_X1 w h)) rfl (List.mem_cons_of_mem _ zm_845) hf2_15 dX13_activate_15 ?_
  refine zz_callVi X (rest := []) (As := [.int 0, .int (-1), .int (-1)]) (kX13_find_1 hE l D cA K V x1 f1 x3 f3 hss (zq_len hf1_n (by simp only [List.length_set])) hf1_16) 3 (zgV zm_847 zm_848 zm_849 zm_186 zm_846) rfl (by decide +kernel) [2, 1] [0] [(x2, .inr (1, f2))] rfl rfl (by decide) rfl (by decide) (by decide) ⟨Nat.le_of_ble_eq_true rfl, Nat.le_of_ble_eq_true rfl⟩ 0 rfl rfl rfl rfl rfl (Nat.le_of_ble_eq_true rfl) dX13_activate_18 (Nat.le_of_ble_eq_true rfl) (Nat.le_of_ble_eq_true rfl) (fun r3 _ hw4 => ?_)
  obtain rfl := hw4
  refine zz_show (ws' := [(x2, .inr (1, f2)), (x1, .inr (13, f1)), (x3, .inl (cA 1, 3, .inl (upd (upd (upd f3 0 0) 1 (-1)) 2 (-1))))]) rfl ?_
  refine zz_if_eq X 30 dX13_activate_21 (by decide) (fun _ => ?_) (fun h => absurd (by decide) h)
  refine zz_aload_n X 1 dX13_activate_30 rfl rfl ?_
  refine zz_aload_n X 0 dX13_activate_31 rfl rfl ?_
  refine zz_put X 1 14 rfl rfl (by decide) (fun w h => List.mem_cons_of_mem _ (zf_X13 w h)) rfl (List.mem_cons_of_mem _ zm_447) tyX13 tyX13_ok nmX13 rfl (ty := (.object "PolicyHouse$Bundle")) rfl rfl rfl (zq_lt hf1_n (by decide) (by simp only [List.length_set])) dX13_activate_32 [(x2, .inr (1, f2)), (x1, .inr (13, (f1.set 14 (.ref x2)))), (x3, .inl (cA 1, 3, .inl (upd (upd (upd f3 0 0) 1 (-1)) 2 (-1))))] rfl ?_
  refine zz_aload_n X 0 dX13_activate_35 rfl rfl ?_
  refine zz_get X 0 2 rfl rfl (by decide) (fun w h => List.mem_cons_of_mem _ (zf_X1 w h)) rfl (List.mem_cons_of_mem _ zm_907) hf2_2 dX13_activate_36 ?_
  exact zz_iret X hr (()) [] (by decide) rfl rfl (Nat.le_of_ble_eq_true rfl) (Nat.le_of_ble_eq_true rfl) (rfl) dX13_activate_39

set_option maxHeartbeats 4000000 in
set_option maxRecDepth 100000 in
/-- fault -/
theorem kX13_fault_1 {E : zEn} (hE : zOk E) (l : Launch) (D : va_G) (cA : Nat → ClassId) (K : Nat → Nat) (V : Nat → Nat) (x1 : Nat) (x2 : Int32) (f1 : List Value) (x3 : Nat) (f2 : Nat → Int32) (hss : zSS E K V) (hf1_n : f1.length = 23) (hf1_16 : f1[16]? = some (.ref x3)) (hf2_0 : f2 0 = 0) (hf2_1 : f2 1 = (-1)) (hf2_2 : f2 2 = (-1)) : zMi E l yX13_fault zwX13_fault ({ frames := 0, cells := 0, slots := 0, locals := 0 }) D vwCl (zT cA) [.ref x1, .int x2] [(x1, .inr (13, f1)), (x3, .inl (cA 1, 3, .inl f2))] (S := Unit) (fun (r : Int32) (u : Unit) => (r = (if x2 = 0 then 0 else (-1) : Int32))) (fun (u : Unit) => []) := by
  refine zz_enteri (cc := cX13_fault) (lv := [(0, .ref x1), (1, .int x2)]) hE 2 (by decide) rfl (Nat.le_of_ble_eq_true rfl) rfl ?_
  intro p e s m args below meth c X hr hin
  refine zz_iload_n X 1 dX13_fault_0 rfl rfl ?_
  refine zz_if_lt X 9 dX13_fault_1 (by decide) (fun c1_1 => ?_) (fun c1_1 => ?_)
  · skip
    refine zz_iconst X (-1) dX13_fault_9 rfl ?_
    refine zz_goto X 19 dX13_fault_10 (by decide) ?_
    exact zz_iret X hr (()) [] (by decide) rfl rfl (Nat.le_of_ble_eq_true rfl) (Nat.le_of_ble_eq_true rfl) ((if_neg (zq_ltne c1_1)).symm) dX13_fault_19
  · skip
    refine zz_iload_n X 1 dX13_fault_4 rfl rfl ?_
    refine zz_iconst X 2 dX13_fault_5 rfl ?_
    refine zz_icmp_le X 13 dX13_fault_6 (by decide) (fun c6_2 => ?_) (fun c6_2 => ?_)
    · skip
      refine zz_aload_n X 0 dX13_fault_13 rfl rfl ?_
      refine zz_get X 0 16 rfl rfl (by decide) (fun w h => List.mem_cons_of_mem _ (zf_X13 w h)) rfl (List.mem_cons_of_mem _ zm_310) hf1_16 dX13_fault_14 ?_
      refine zz_iload_n X 1 dX13_fault_17 rfl rfl ?_
      by_cases e18_0 : x2 = 0
      · skip
        subst e18_0
        refine zz_iald X 1 1 rfl rfl (vp_in_nI (n := 0) (by decide) (by decide)) (0) hf2_0 dX13_fault_18 ?_
        exact zz_iret X hr (()) [] (by decide) rfl rfl (Nat.le_of_ble_eq_true rfl) (Nat.le_of_ble_eq_true rfl) ((by decide)) dX13_fault_19
      by_cases e18_1 : x2 = 1
      · skip
        subst e18_1
        refine zz_iald X 1 1 rfl rfl (vp_in_nI (n := 1) (by decide) (by decide)) ((-1)) hf2_1 dX13_fault_18 ?_
        exact zz_iret X hr (()) [] (by decide) rfl rfl (Nat.le_of_ble_eq_true rfl) (Nat.le_of_ble_eq_true rfl) ((by decide)) dX13_fault_19
      by_cases e18_2 : x2 = 2
      · skip
        subst e18_2
        refine zz_iald X 1 1 rfl rfl (vp_in_nI (n := 2) (by decide) (by decide)) ((-1)) hf2_2 dX13_fault_18 ?_
        exact zz_iret X hr (()) [] (by decide) rfl rfl (Nat.le_of_ble_eq_true rfl) (Nat.le_of_ble_eq_true rfl) ((by decide)) dX13_fault_19
      exact (zq_no2 (zq_nlt c1_1) c6_2 e18_0 e18_1 e18_2).elim
    · skip
      refine zz_iconst X (-1) dX13_fault_9 rfl ?_
      refine zz_goto X 19 dX13_fault_10 (by decide) ?_
      exact zz_iret X hr (()) [] (by decide) rfl rfl (Nat.le_of_ble_eq_true rfl) (Nat.le_of_ble_eq_true rfl) ((if_neg (zq_gt2ne (zq_nle c6_2))).symm) dX13_fault_19

set_option maxHeartbeats 4000000 in
set_option maxRecDepth 100000 in
/-- skip -/
theorem kX11_skip_1 {E : zEn} (hE : zOk E) (l : Launch) (D : va_G) (cA : Nat → ClassId) (K : Nat → Nat) (V : Nat → Nat) (x1 : Nat) (f1 : List Value) (hss : zSS E K V) (hf1_n : f1.length = 15) (hf1_3 : f1[3]? = some (.int 0)) (hf1_2 : f1[2]? = some (.int 0)) : zMv E l yX11_skip zwX11_skip ({ frames := 0, cells := 0, slots := 0, locals := 0 }) D vwCl (zT cA) [.ref x1] [(x1, .inr (11, f1))] (S := Unit) (fun (u : Unit) => (True)) (fun (u : Unit) => [(x1, .inr (11, f1))]) := by
  refine zz_enterv (cc := cX11_skip) (lv := [(0, .ref x1)]) hE 1 (by decide) rfl (Nat.le_of_ble_eq_true rfl) rfl ?_
  intro p e s m args below meth c X hr hin
  refine zz_aload_n X 0 dX11_skip_0 rfl rfl ?_
  refine zz_get X 0 3 rfl rfl (by decide) (fun w h => List.mem_cons_of_mem _ (zf_X11 w h)) rfl (List.mem_cons_of_mem _ zm_5) hf1_3 dX11_skip_1 ?_
  refine zz_aload_n X 0 dX11_skip_4 rfl rfl ?_
  refine zz_get X 0 2 rfl rfl (by decide) (fun w h => List.mem_cons_of_mem _ (zf_X11 w h)) rfl (List.mem_cons_of_mem _ zm_4) hf1_2 dX11_skip_5 ?_
  refine zz_icmp_ge X 39 dX11_skip_8 (by decide) (fun _ => ?_) (fun h => absurd (by decide) h)
  exact zz_vret X hr (()) [0] (by decide) rfl rfl (Nat.le_of_ble_eq_true rfl) (Nat.le_of_ble_eq_true rfl) (trivial) dX11_skip_39

set_option maxHeartbeats 4000000 in
set_option maxRecDepth 100000 in
/-- fail -/
theorem kX11_fail_1 {E : zEn} (hE : zOk E) (l : Launch) (D : va_G) (cA : Nat → ClassId) (K : Nat → Nat) (V : Nat → Nat) (x1 : Nat) (f1 : List Value) (hss : zSS E K V) (hf1_n : f1.length = 15) (hf1_4 : f1[4]? = some (.int (-1))) : zMv E l yX11_fail zwX11_fail ({ frames := 0, cells := 0, slots := 0, locals := 0 }) D vwCl (zT cA) [.ref x1, .int 0] [(x1, .inr (11, f1))] (S := Unit) (fun (u : Unit) => (True)) (fun (u : Unit) => [(x1, .inr (11, (f1.set 4 (.int 0))))]) := by
  refine zz_enterv (cc := cX11_fail) (lv := [(0, .ref x1), (1, .int 0)]) hE 2 (by decide) rfl (Nat.le_of_ble_eq_true rfl) rfl ?_
  intro p e s m args below meth c X hr hin
  refine zz_aload_n X 0 dX11_fail_0 rfl rfl ?_
  refine zz_get X 0 4 rfl rfl (by decide) (fun w h => List.mem_cons_of_mem _ (zf_X11 w h)) rfl (List.mem_cons_of_mem _ zm_6) hf1_4 dX11_fail_1 ?_
  refine zz_if_ge X 12 dX11_fail_4 (by decide) (fun h => absurd h (by decide)) (fun _ => ?_)
  refine zz_aload_n X 0 dX11_fail_7 rfl rfl ?_
  refine zz_iload_n X 1 dX11_fail_8 rfl rfl ?_
  refine zz_put X 0 4 rfl rfl (by decide) (fun w h => List.mem_cons_of_mem _ (zf_X11 w h)) rfl (List.mem_cons_of_mem _ zm_6) tyX11 tyX11_ok nmX11 rfl (ty := .int) rfl rfl rfl (zq_lt hf1_n (by decide) (by simp only [List.length_set])) dX11_fail_9 [(x1, .inr (11, (f1.set 4 (.int 0))))] rfl ?_
  exact zz_vret X hr (()) [0] (by decide) rfl rfl (Nat.le_of_ble_eq_true rfl) (Nat.le_of_ble_eq_true rfl) (trivial) dX11_fail_12

set_option maxHeartbeats 4000000 in
set_option maxRecDepth 100000 in
/-- readValue -/
theorem kX11_readValue_1 {E : zEn} (hE : zOk E) (l : Launch) (D : va_G) (cA : Nat → ClassId) (K : Nat → Nat) (V : Nat → Nat) (x1 : Nat) (f1 : List Value) (hss : zSS E K V) (hf1_n : f1.length = 15) (hf1_3 : f1[3]? = some (.int 0)) (hf1_2 : f1[2]? = some (.int 0)) (hf1_4 : f1[4]? = some (.int (-1))) : zMi E l yX11_readValue zwX11_readValue ({ frames := 1, cells := 0, slots := 0, locals := 21 }) D vwCl (zT cA) [.ref x1, .int 0] [(x1, .inr (11, f1))] (S := Unit) (fun (r : Int32) (u : Unit) => (r = 1)) (fun (u : Unit) => [(x1, .inr (11, (f1.set 4 (.int 0))))]) := by
  refine zz_enteri (cc := cX11_readValue) (lv := [(0, .ref x1), (1, .int 0)]) hE 4 (by decide) rfl (Nat.le_of_ble_eq_true rfl) rfl ?_
  intro p e s m args below meth c X hr hin
  refine zz_aload_n X 0 dX11_readValue_0 rfl rfl ?_
  refine zz_callVv X (rest := []) (As := []) (kX11_skip_1 hE l D cA K V x1 f1 hss (zq_len hf1_n (by simp only [List.length_set])) hf1_3 hf1_2) 0 (zgV zm_930 zm_931 zm_932 zm_210 zm_929) rfl (by decide +kernel) [0] [] [] rfl rfl (by decide) rfl (by decide) (by decide) ⟨Nat.le_of_ble_eq_true rfl, Nat.le_of_ble_eq_true rfl⟩ 0 rfl rfl rfl rfl rfl (Nat.le_of_ble_eq_true rfl) dX11_readValue_1 (Nat.le_of_ble_eq_true rfl) (Nat.le_of_ble_eq_true rfl) (fun _ hw1 => ?_)
  refine zz_show (ws' := [(x1, .inr (11, f1))]) rfl ?_
  refine zz_aload_n X 0 dX11_readValue_4 rfl rfl ?_
  refine zz_get X 0 4 rfl rfl (by decide) (fun w h => List.mem_cons_of_mem _ (zf_X11 w h)) rfl (List.mem_cons_of_mem _ zm_6) hf1_4 dX11_readValue_5 ?_
  refine zz_if_ge X 22 dX11_readValue_8 (by decide) (fun h => absurd h (by decide)) (fun _ => ?_)
  refine zz_aload_n X 0 dX11_readValue_11 rfl rfl ?_
  refine zz_get X 0 3 rfl rfl (by decide) (fun w h => List.mem_cons_of_mem _ (zf_X11 w h)) rfl (List.mem_cons_of_mem _ zm_5) hf1_3 dX11_readValue_12 ?_
  refine zz_aload_n X 0 dX11_readValue_15 rfl rfl ?_
  refine zz_get X 0 2 rfl rfl (by decide) (fun w h => List.mem_cons_of_mem _ (zf_X11 w h)) rfl (List.mem_cons_of_mem _ zm_4) hf1_2 dX11_readValue_16 ?_
  refine zz_icmp_lt X 32 dX11_readValue_19 (by decide) (fun h => absurd h (by decide)) (fun _ => ?_)
  refine zz_aload_n X 0 dX11_readValue_22 rfl rfl ?_
  refine zz_aload_n X 0 dX11_readValue_23 rfl rfl ?_
  refine zz_get X 0 3 rfl rfl (by decide) (fun w h => List.mem_cons_of_mem _ (zf_X11 w h)) rfl (List.mem_cons_of_mem _ zm_5) hf1_3 dX11_readValue_24 ?_
  refine zz_callVv X (rest := []) (As := [.int 0]) (kX11_fail_1 hE l D cA K V x1 f1 hss (zq_len hf1_n (by simp only [List.length_set])) hf1_4) 1 (zgV zm_934 zm_935 zm_936 zm_210 zm_933) rfl (by decide +kernel) [0] [] [] rfl rfl (by decide) rfl (by decide) (by decide) ⟨Nat.le_of_ble_eq_true rfl, Nat.le_of_ble_eq_true rfl⟩ 0 rfl rfl rfl rfl rfl (Nat.le_of_ble_eq_true rfl) dX11_readValue_27 (Nat.le_of_ble_eq_true rfl) (Nat.le_of_ble_eq_true rfl) (fun _ hw2 => ?_)
  refine zz_show (ws' := [(x1, .inr (11, (f1.set 4 (.int 0))))]) rfl ?_
  refine zz_iconst X 1 dX11_readValue_30 rfl ?_
  exact zz_iret X hr (()) [0] (by decide) rfl rfl (Nat.le_of_ble_eq_true rfl) (Nat.le_of_ble_eq_true rfl) (rfl) dX11_readValue_31

set_option maxHeartbeats 4000000 in
set_option maxRecDepth 100000 in
/-- readJson -/
theorem kX11_readJson_1 {E : zEn} (hE : zOk E) (l : Launch) (D : va_G) (cA : Nat → ClassId) (K : Nat → Nat) (V : Nat → Nat) (x1 : Nat) (x2 : Nat) (f1 : List Value) (hss : zSS E K V) (hf1_n : f1.length = 15) : zMi E l yX11_readJson zwX11_readJson ({ frames := 2, cells := 0, slots := 0, locals := 44 }) D vwCl (zT cA) [.ref x1, .ref x2, .int 0, .int 0] [(x1, .inr (11, f1))] (S := Unit) (fun (r : Int32) (u : Unit) => (r = 0)) (fun (u : Unit) => [(x1, .inr (11, (((((f1.set 1 (.ref x2)).set 3 (.int 0)).set 2 (.int 0)).set 4 (.int (-1))).set 4 (.int 0))))]) := by
  refine zz_enteri (cc := cX11_readJson) (lv := [(0, .ref x1), (1, .ref x2), (2, .int 0), (3, .int 0)]) hE 5 (by decide) rfl (Nat.le_of_ble_eq_true rfl) rfl ?_
  intro p e s m args below meth c X hr hin
  refine zz_aload_n X 0 dX11_readJson_0 rfl rfl ?_
  refine zz_aload_n X 1 dX11_readJson_1 rfl rfl ?_
  refine zz_put X 0 1 rfl rfl (by decide) (fun w h => List.mem_cons_of_mem _ (zf_X11 w h)) rfl (List.mem_cons_of_mem _ zm_3) tyX11 tyX11_ok nmX11 rfl (ty := (.array .int)) rfl rfl rfl (zq_lt hf1_n (by decide) (by simp only [List.length_set])) dX11_readJson_2 [(x1, .inr (11, (f1.set 1 (.ref x2))))] rfl ?_
  refine zz_aload_n X 0 dX11_readJson_5 rfl rfl ?_
  refine zz_iload_n X 2 dX11_readJson_6 rfl rfl ?_
  refine zz_put X 0 3 rfl rfl (by decide) (fun w h => List.mem_cons_of_mem _ (zf_X11 w h)) rfl (List.mem_cons_of_mem _ zm_5) tyX11 tyX11_ok nmX11 rfl (ty := .int) rfl rfl rfl (zq_lt hf1_n (by decide) (by simp only [List.length_set])) dX11_readJson_7 [(x1, .inr (11, ((f1.set 1 (.ref x2)).set 3 (.int 0))))] rfl ?_
  refine zz_aload_n X 0 dX11_readJson_10 rfl rfl ?_
  refine zz_iload_n X 3 dX11_readJson_11 rfl rfl ?_
  refine zz_put X 0 2 rfl rfl (by decide) (fun w h => List.mem_cons_of_mem _ (zf_X11 w h)) rfl (List.mem_cons_of_mem _ zm_4) tyX11 tyX11_ok nmX11 rfl (ty := .int) rfl rfl rfl (zq_lt hf1_n (by decide) (by simp only [List.length_set])) dX11_readJson_12 [(x1, .inr (11, (((f1.set 1 (.ref x2)).set 3 (.int 0)).set 2 (.int 0))))] rfl ?_
  refine zz_aload_n X 0 dX11_readJson_15 rfl rfl ?_
  refine zz_iconst X (-1) dX11_readJson_16 rfl ?_
  refine zz_put X 0 4 rfl rfl (by decide) (fun w h => List.mem_cons_of_mem _ (zf_X11 w h)) rfl (List.mem_cons_of_mem _ zm_6) tyX11 tyX11_ok nmX11 rfl (ty := .int) rfl rfl rfl (zq_lt hf1_n (by decide) (by simp only [List.length_set])) dX11_readJson_17 [(x1, .inr (11, ((((f1.set 1 (.ref x2)).set 3 (.int 0)).set 2 (.int 0)).set 4 (.int (-1)))))] rfl ?_
  refine zz_aload_n X 0 dX11_readJson_20 rfl rfl ?_
  refine zz_iconst X 0 dX11_readJson_21 rfl ?_
  refine zz_callVi X (rest := []) (As := [.int 0]) (kX11_readValue_1 hE l D cA K V x1 ((((f1.set 1 (.ref x2)).set 3 (.int 0)).set 2 (.int 0)).set 4 (.int (-1))) hss (zq_len hf1_n (by simp only [List.length_set])) (zq_oth (by decide) (zq_oth (by decide) ((zq_same (zq_lt hf1_n (by decide) (by simp only [List.length_set])))))) (zq_oth (by decide) ((zq_same (zq_lt hf1_n (by decide) (by simp only [List.length_set]))))) (zq_same (zq_lt hf1_n (by decide) (by simp only [List.length_set])))) 1 (zgV zm_938 zm_939 zm_940 zm_210 zm_937) rfl (by decide +kernel) [0] [] [] rfl rfl (by decide) rfl (by decide) (by decide) ⟨Nat.le_of_ble_eq_true rfl, Nat.le_of_ble_eq_true rfl⟩ 0 rfl rfl rfl rfl rfl (Nat.le_of_ble_eq_true rfl) dX11_readJson_22 (Nat.le_of_ble_eq_true rfl) (Nat.le_of_ble_eq_true rfl) (fun r1 _ hw2 => ?_)
  obtain rfl := hw2
  refine zz_show (ws' := [(x1, .inr (11, (((((f1.set 1 (.ref x2)).set 3 (.int 0)).set 2 (.int 0)).set 4 (.int (-1))).set 4 (.int 0))))]) rfl ?_
  refine zz_istore X [(4, .int 1), (0, .ref x1), (1, .ref x2), (2, .int 0), (3, .int 0)] dX11_readJson_25 (by decide) rfl ?_
  refine zz_aload_n X 1 dX11_readJson_27 rfl rfl ?_
  refine zz_callVv X (rest := []) (As := []) (kX11_skip_1 hE l D cA K V x1 (((((f1.set 1 (.ref x2)).set 3 (.int 0)).set 2 (.int 0)).set 4 (.int (-1))).set 4 (.int 0)) hss (zq_len hf1_n (by simp only [List.length_set])) (zq_oth (by decide) (zq_oth (by decide) (zq_oth (by decide) ((zq_same (zq_lt hf1_n (by decide) (by simp only [List.length_set]))))))) (zq_oth (by decide) (zq_oth (by decide) ((zq_same (zq_lt hf1_n (by decide) (by simp only [List.length_set]))))))) 0 (zgV zm_930 zm_931 zm_932 zm_210 zm_929) rfl (by decide +kernel) [0] [] [] rfl rfl (by decide) rfl (by decide) (by decide) ⟨Nat.le_of_ble_eq_true rfl, Nat.le_of_ble_eq_true rfl⟩ 0 rfl rfl rfl rfl rfl (Nat.le_of_ble_eq_true rfl) dX11_readJson_28 (Nat.le_of_ble_eq_true rfl) (Nat.le_of_ble_eq_true rfl) (fun _ hw3 => ?_)
  refine zz_show (ws' := [(x1, .inr (11, (((((f1.set 1 (.ref x2)).set 3 (.int 0)).set 2 (.int 0)).set 4 (.int (-1))).set 4 (.int 0))))]) rfl ?_
  refine zz_aload_n X 1 dX11_readJson_31 rfl rfl ?_
  refine zz_get X 0 4 rfl rfl (by decide) (fun w h => List.mem_cons_of_mem _ (zf_X11 w h)) rfl (List.mem_cons_of_mem _ zm_6) (zq_same (zq_lt hf1_n (by decide) (by simp only [List.length_set]))) dX11_readJson_32 ?_
  refine zz_if_ge X 57 dX11_readJson_35 (by decide) (fun _ => ?_) (fun h => absurd (by decide) h)
  refine zz_aload_n X 1 dX11_readJson_57 rfl rfl ?_
  refine zz_get X 0 4 rfl rfl (by decide) (fun w h => List.mem_cons_of_mem _ (zf_X11 w h)) rfl (List.mem_cons_of_mem _ zm_6) (zq_same (zq_lt hf1_n (by decide) (by simp only [List.length_set]))) dX11_readJson_58 ?_
  refine zz_if_ge X 69 dX11_readJson_61 (by decide) (fun _ => ?_) (fun h => absurd (by decide) h)
  refine zz_iconst X 0 dX11_readJson_69 rfl ?_
  exact zz_iret X hr (()) [0] (by decide) rfl rfl (Nat.le_of_ble_eq_true rfl) (Nat.le_of_ble_eq_true rfl) (rfl) dX11_readJson_70

set_option maxHeartbeats 4000000 in
set_option maxRecDepth 100000 in
/-- data -/
theorem kX13_data_1 {E : zEn} (hE : zOk E) (l : Launch) (D : va_G) (cA : Nat → ClassId) (K : Nat → Nat) (V : Nat → Nat) (x1 : Nat) (f1 : List Value) (x2 : Nat) (x3 : Nat) (x4 : Nat) (f2 : List Value) (f3 : List Value) (hss : zSS E K V) (hf1_n : f1.length = 23) (hf1_0 : f1[0]? = some (.ref x2)) (hf1_1 : f1[1]? = some (.ref x3)) (hf1_8 : f1[8]? = some (.ref x4)) (hf1_9 : f1[9]? = some (.int 0)) (hf2_n : f2.length = 8) (hf2_5 : f2[5]? = some (.int 258000)) (hf3_n : f3.length = 15) : zMi E l yX13_data zwX13_data ({ frames := 3, cells := 0, slots := 0, locals := 68 }) D vwCl (zT cA) [.ref x1] [(x1, .inr (13, f1)), (x2, .inr (4, f2)), (x3, .inr (11, f3))] (S := Unit) (fun (r : Int32) (u : Unit) => (r = (-1))) (fun (u : Unit) => []) := by
  refine zz_enteri (cc := cX13_data) (lv := [(0, .ref x1)]) hE 3 (by decide) rfl (Nat.le_of_ble_eq_true rfl) rfl ?_
  intro p e s m args below meth c X hr hin
  refine zz_aload_n X 0 dX13_data_0 rfl rfl ?_
  refine zz_get X 0 0 rfl rfl (by decide) (fun w h => List.mem_cons_of_mem _ (zf_X13 w h)) rfl (List.mem_cons_of_mem _ zm_209) hf1_0 dX13_data_1 ?_
  refine zz_get X 1 5 rfl rfl (by decide) (fun w h => List.mem_cons_of_mem _ (zf_X4 w h)) rfl (List.mem_cons_of_mem _ zm_928) hf2_5 dX13_data_4 ?_
  refine zz_istore_n X [(1, .int 258000), (0, .ref x1)] dX13_data_7 rfl (by decide) rfl ?_
  refine zz_aload_n X 1 dX13_data_8 rfl rfl ?_
  refine zz_get X 0 1 rfl rfl (by decide) (fun w h => List.mem_cons_of_mem _ (zf_X13 w h)) rfl (List.mem_cons_of_mem _ zm_216) hf1_1 dX13_data_9 ?_
  refine zz_aload_n X 1 dX13_data_12 rfl rfl ?_
  refine zz_get X 0 8 rfl rfl (by decide) (fun w h => List.mem_cons_of_mem _ (zf_X13 w h)) rfl (List.mem_cons_of_mem _ zm_301) hf1_8 dX13_data_13 ?_
  refine zz_iconst X 0 dX13_data_16 rfl ?_
  refine zz_aload_n X 1 dX13_data_17 rfl rfl ?_
  refine zz_callVi X (rest := [.int 0, .ref x4, .ref x3]) (As := []) (kX13_emptied_1 hE l D cA K V x1 f1 hss (zq_len hf1_n (by simp only [List.length_set])) hf1_9) 0 (zgV zm_670 zm_671 zm_672 zm_186 zm_669) rfl (by decide +kernel) [0] [1, 2] [(x2, .inr (4, f2)), (x3, .inr (11, f3))] rfl rfl (by decide) rfl (by decide) (by decide) ⟨Nat.le_of_ble_eq_true rfl, Nat.le_of_ble_eq_true rfl⟩ 0 rfl rfl rfl rfl rfl (Nat.le_of_ble_eq_true rfl) dX13_data_18 (Nat.le_of_ble_eq_true rfl) (Nat.le_of_ble_eq_true rfl) (fun r1 _ hw2 => ?_)
  obtain rfl := hw2
  refine zz_show (ws' := [(x2, .inr (4, f2)), (x3, .inr (11, f3)), (x1, .inr (13, (f1.set 9 (.int 0))))]) rfl ?_
  refine zz_callVi X (rest := []) (As := [.ref x4, .int 0, .int 0]) (kX11_readJson_1 hE l D cA K V x3 x4 f3 hss (zq_len hf3_n (by simp only [List.length_set]))) 3 (zgV zm_942 zm_943 zm_944 zm_210 zm_941) rfl (by decide +kernel) [1] [0, 2] [(x2, .inr (4, f2)), (x1, .inr (13, (f1.set 9 (.int 0))))] rfl rfl (by decide) rfl (by decide) (by decide) ⟨Nat.le_of_ble_eq_true rfl, Nat.le_of_ble_eq_true rfl⟩ 0 rfl rfl rfl rfl rfl (Nat.le_of_ble_eq_true rfl) dX13_data_21 (Nat.le_of_ble_eq_true rfl) (Nat.le_of_ble_eq_true rfl) (fun r3 _ hw4 => ?_)
  obtain rfl := hw4
  refine zz_show (ws' := [(x2, .inr (4, f2)), (x1, .inr (13, (f1.set 9 (.int 0)))), (x3, .inr (11, (((((f3.set 1 (.ref x4)).set 3 (.int 0)).set 2 (.int 0)).set 4 (.int (-1))).set 4 (.int 0))))]) rfl ?_
  refine zz_istore_n X [(2, .int 0), (1, .int 258000), (0, .ref x1)] dX13_data_24 rfl (by decide) rfl ?_
  refine zz_aload_n X 2 dX13_data_25 rfl rfl ?_
  refine zz_get X 1 0 rfl rfl (by decide) (fun w h => List.mem_cons_of_mem _ (zf_X13 w h)) rfl (List.mem_cons_of_mem _ zm_209) (zq_oth (by decide) (hf1_0)) dX13_data_26 ?_
  refine zz_iload_n X 1 dX13_data_29 rfl rfl ?_
  refine zz_put X 0 5 rfl rfl (by decide) (fun w h => List.mem_cons_of_mem _ (zf_X4 w h)) rfl (List.mem_cons_of_mem _ zm_928) tyX4 tyX4_ok nmX4 rfl (ty := .int) rfl rfl rfl (zq_lt hf2_n (by decide) (by simp only [List.length_set])) dX13_data_30 [(x2, .inr (4, (f2.set 5 (.int 258000)))), (x1, .inr (13, (f1.set 9 (.int 0)))), (x3, .inr (11, (((((f3.set 1 (.ref x4)).set 3 (.int 0)).set 2 (.int 0)).set 4 (.int (-1))).set 4 (.int 0))))] rfl ?_
  refine zz_iload_n X 0 dX13_data_33 rfl rfl ?_
  refine zz_if_gt X 49 dX13_data_34 (by decide) (fun h => absurd h (by decide)) (fun _ => ?_)
  refine zz_iconst X (-1) dX13_data_37 rfl ?_
  refine zz_aload_n X 2 dX13_data_38 rfl rfl ?_
  refine zz_get X 1 1 rfl rfl (by decide) (fun w h => List.mem_cons_of_mem _ (zf_X13 w h)) rfl (List.mem_cons_of_mem _ zm_216) (zq_oth (by decide) (hf1_1)) dX13_data_39 ?_
  refine zz_get X 2 4 rfl rfl (by decide) (fun w h => List.mem_cons_of_mem _ (zf_X11 w h)) rfl (List.mem_cons_of_mem _ zm_945) (zq_same (zq_lt hf3_n (by decide) (by simp only [List.length_set]))) dX13_data_42 ?_
  refine zz_isub X ((-1)) dX13_data_45 (by decide) ?_
  refine zz_goto X 54 dX13_data_46 (by decide) ?_
  exact zz_iret X hr (()) [] (by decide) rfl rfl (Nat.le_of_ble_eq_true rfl) (Nat.le_of_ble_eq_true rfl) (rfl) dX13_data_54

set_option maxHeartbeats 4000000 in
set_option maxRecDepth 100000 in
/-- patch -/
theorem kX13_patch_1 {E : zEn} (hE : zOk E) (l : Launch) (D : va_G) (cA : Nat → ClassId) (K : Nat → Nat) (V : Nat → Nat) (x1 : Nat) (f1 : List Value) (x2 : Nat) (x3 : Nat) (x4 : Nat) (f2 : List Value) (f3 : List Value) (hss : zSS E K V) (hf1_n : f1.length = 23) (hf1_0 : f1[0]? = some (.ref x2)) (hf1_1 : f1[1]? = some (.ref x3)) (hf1_8 : f1[8]? = some (.ref x4)) (hf1_9 : f1[9]? = some (.int 0)) (hf2_n : f2.length = 8) (hf2_5 : f2[5]? = some (.int 258000)) (hf3_n : f3.length = 15) : zMi E l yX13_patch zwX13_patch ({ frames := 3, cells := 0, slots := 0, locals := 68 }) D vwCl (zT cA) [.ref x1] [(x1, .inr (13, f1)), (x2, .inr (4, f2)), (x3, .inr (11, f3))] (S := Unit) (fun (r : Int32) (u : Unit) => (r = (-1))) (fun (u : Unit) => []) := by
  refine zz_enteri (cc := cX13_patch) (lv := [(0, .ref x1)]) hE 4 (by decide) rfl (Nat.le_of_ble_eq_true rfl) rfl ?_
  intro p e s m args below meth c X hr hin
  refine zz_aload_n X 0 dX13_patch_0 rfl rfl ?_
  refine zz_get X 0 0 rfl rfl (by decide) (fun w h => List.mem_cons_of_mem _ (zf_X13 w h)) rfl (List.mem_cons_of_mem _ zm_209) hf1_0 dX13_patch_1 ?_
  refine zz_get X 1 5 rfl rfl (by decide) (fun w h => List.mem_cons_of_mem _ (zf_X4 w h)) rfl (List.mem_cons_of_mem _ zm_928) hf2_5 dX13_patch_4 ?_
  refine zz_istore_n X [(1, .int 258000), (0, .ref x1)] dX13_patch_7 rfl (by decide) rfl ?_
  refine zz_aload_n X 1 dX13_patch_8 rfl rfl ?_
  refine zz_get X 0 1 rfl rfl (by decide) (fun w h => List.mem_cons_of_mem _ (zf_X13 w h)) rfl (List.mem_cons_of_mem _ zm_216) hf1_1 dX13_patch_9 ?_
  refine zz_aload_n X 1 dX13_patch_12 rfl rfl ?_
  refine zz_get X 0 8 rfl rfl (by decide) (fun w h => List.mem_cons_of_mem _ (zf_X13 w h)) rfl (List.mem_cons_of_mem _ zm_301) hf1_8 dX13_patch_13 ?_
  refine zz_iconst X 0 dX13_patch_16 rfl ?_
  refine zz_aload_n X 1 dX13_patch_17 rfl rfl ?_
  refine zz_callVi X (rest := [.int 0, .ref x4, .ref x3]) (As := []) (kX13_emptied_1 hE l D cA K V x1 f1 hss (zq_len hf1_n (by simp only [List.length_set])) hf1_9) 0 (zgV zm_670 zm_671 zm_672 zm_186 zm_669) rfl (by decide +kernel) [0] [1, 2] [(x2, .inr (4, f2)), (x3, .inr (11, f3))] rfl rfl (by decide) rfl (by decide) (by decide) ⟨Nat.le_of_ble_eq_true rfl, Nat.le_of_ble_eq_true rfl⟩ 0 rfl rfl rfl rfl rfl (Nat.le_of_ble_eq_true rfl) dX13_patch_18 (Nat.le_of_ble_eq_true rfl) (Nat.le_of_ble_eq_true rfl) (fun r1 _ hw2 => ?_)
  obtain rfl := hw2
  refine zz_show (ws' := [(x2, .inr (4, f2)), (x3, .inr (11, f3)), (x1, .inr (13, (f1.set 9 (.int 0))))]) rfl ?_
  refine zz_callVi X (rest := []) (As := [.ref x4, .int 0, .int 0]) (kX11_readJson_1 hE l D cA K V x3 x4 f3 hss (zq_len hf3_n (by simp only [List.length_set]))) 3 (zgV zm_942 zm_943 zm_944 zm_210 zm_941) rfl (by decide +kernel) [1] [0, 2] [(x2, .inr (4, f2)), (x1, .inr (13, (f1.set 9 (.int 0))))] rfl rfl (by decide) rfl (by decide) (by decide) ⟨Nat.le_of_ble_eq_true rfl, Nat.le_of_ble_eq_true rfl⟩ 0 rfl rfl rfl rfl rfl (Nat.le_of_ble_eq_true rfl) dX13_patch_21 (Nat.le_of_ble_eq_true rfl) (Nat.le_of_ble_eq_true rfl) (fun r3 _ hw4 => ?_)
  obtain rfl := hw4
  refine zz_show (ws' := [(x2, .inr (4, f2)), (x1, .inr (13, (f1.set 9 (.int 0)))), (x3, .inr (11, (((((f3.set 1 (.ref x4)).set 3 (.int 0)).set 2 (.int 0)).set 4 (.int (-1))).set 4 (.int 0))))]) rfl ?_
  refine zz_istore_n X [(2, .int 0), (1, .int 258000), (0, .ref x1)] dX13_patch_24 rfl (by decide) rfl ?_
  refine zz_iconst X 0 dX13_patch_25 rfl ?_
  refine zz_istore_n X [(3, .int 0), (2, .int 0), (1, .int 258000), (0, .ref x1)] dX13_patch_26 rfl (by decide) rfl ?_
  refine zz_iload_n X 1 dX13_patch_27 rfl rfl ?_
  refine zz_if_le X 60 dX13_patch_28 (by decide) (fun _ => ?_) (fun h => absurd (by decide) h)
  refine zz_aload_n X 3 dX13_patch_60 rfl rfl ?_
  refine zz_get X 1 0 rfl rfl (by decide) (fun w h => List.mem_cons_of_mem _ (zf_X13 w h)) rfl (List.mem_cons_of_mem _ zm_209) (zq_oth (by decide) (hf1_0)) dX13_patch_61 ?_
  refine zz_iload_n X 2 dX13_patch_64 rfl rfl ?_
  refine zz_put X 0 5 rfl rfl (by decide) (fun w h => List.mem_cons_of_mem _ (zf_X4 w h)) rfl (List.mem_cons_of_mem _ zm_928) tyX4 tyX4_ok nmX4 rfl (ty := .int) rfl rfl rfl (zq_lt hf2_n (by decide) (by simp only [List.length_set])) dX13_patch_65 [(x2, .inr (4, (f2.set 5 (.int 258000)))), (x1, .inr (13, (f1.set 9 (.int 0)))), (x3, .inr (11, (((((f3.set 1 (.ref x4)).set 3 (.int 0)).set 2 (.int 0)).set 4 (.int (-1))).set 4 (.int 0))))] rfl ?_
  refine zz_iload_n X 1 dX13_patch_68 rfl rfl ?_
  refine zz_if_gt X 82 dX13_patch_69 (by decide) (fun h => absurd h (by decide)) (fun _ => ?_)
  refine zz_iconst X (-1) dX13_patch_72 rfl ?_
  refine zz_aload_n X 3 dX13_patch_73 rfl rfl ?_
  refine zz_get X 1 1 rfl rfl (by decide) (fun w h => List.mem_cons_of_mem _ (zf_X13 w h)) rfl (List.mem_cons_of_mem _ zm_216) (zq_oth (by decide) (hf1_1)) dX13_patch_74 ?_
  refine zz_get X 2 4 rfl rfl (by decide) (fun w h => List.mem_cons_of_mem _ (zf_X11 w h)) rfl (List.mem_cons_of_mem _ zm_945) (zq_same (zq_lt hf3_n (by decide) (by simp only [List.length_set]))) dX13_patch_77 ?_
  refine zz_isub X ((-1)) dX13_patch_80 (by decide) ?_
  exact zz_iret X hr (()) [] (by decide) rfl rfl (Nat.le_of_ble_eq_true rfl) (Nat.le_of_ble_eq_true rfl) (rfl) dX13_patch_81

set_option maxHeartbeats 4000000 in
set_option maxRecDepth 100000 in
/-- input -/
theorem kX13_input_1 {E : zEn} (hE : zOk E) (l : Launch) (D : va_G) (cA : Nat → ClassId) (K : Nat → Nat) (V : Nat → Nat) (x1 : Nat) (f1 : List Value) (hss : zSS E K V) (hf1_n : f1.length = 23) (hf1_9 : f1[9]? = some (.int 0)) : zMi E l yX13_input zwX13_input ({ frames := 0, cells := 0, slots := 0, locals := 0 }) D vwCl (zT cA) [.ref x1] [(x1, .inr (13, f1))] (S := Unit) (fun (r : Int32) (u : Unit) => (r = 0)) (fun (u : Unit) => []) := by
  refine zz_enteri (cc := cX13_input) (lv := [(0, .ref x1)]) hE 3 (by decide) rfl (Nat.le_of_ble_eq_true rfl) rfl ?_
  intro p e s m args below meth c X hr hin
  refine zz_aload_n X 0 dX13_input_0 rfl rfl ?_
  refine zz_get X 0 9 rfl rfl (by decide) (fun w h => List.mem_cons_of_mem _ (zf_X13 w h)) rfl (List.mem_cons_of_mem _ zm_302) hf1_9 dX13_input_1 ?_
  refine zz_if_ne X 14 dX13_input_4 (by decide) (fun h => absurd (by decide) h) (fun _ => ?_)
  refine zz_aload_n X 0 dX13_input_7 rfl rfl ?_
  refine zz_iconst X 0 dX13_input_8 rfl ?_
  refine zz_put X 0 18 rfl rfl (by decide) (fun w h => List.mem_cons_of_mem _ (zf_X13 w h)) rfl (List.mem_cons_of_mem _ zm_311) tyX13 tyX13_ok nmX13 rfl (ty := .int) rfl rfl rfl (zq_lt hf1_n (by decide) (by simp only [List.length_set])) dX13_input_9 [(x1, .inr (13, (f1.set 18 (.int 0))))] rfl ?_
  refine zz_iconst X 0 dX13_input_12 rfl ?_
  exact zz_iret X hr (()) [] (by decide) rfl rfl (Nat.le_of_ble_eq_true rfl) (Nat.le_of_ble_eq_true rfl) (rfl) dX13_input_13

set_option maxHeartbeats 4000000 in
set_option maxRecDepth 100000 in
/-- add -/
theorem kX12_add_5 {E : zEn} (hE : zOk E) (l : Launch) (D : va_G) (cA : Nat → ClassId) (K : Nat → Nat) (V : Nat → Nat) (x1 : Nat) (f1 : List Value) (x2 : Nat) (x3 : Nat) (hss : zSS E K V) (hf1_n : f1.length = 15) (hf1_10 : f1[10]? = some (.int 1)) (hf1_0 : f1[0]? = some (.ref x2)) (hf1_1 : f1[1]? = some (.ref x3)) : zMi E l yX12_add zwX12_add ({ frames := 0, cells := 0, slots := 0, locals := 0 }) D vwCl (zT cA) [.ref x1, .int 16, .int 0] [(x1, .inr (12, f1)), (x2, .inl (cA 1, 32, .inl (fun _ => 0))), (x3, .inl (cA 1, 32, .inl (fun _ => 0)))] (S := Unit) (fun (r : Int32) (u : Unit) => (r = 1)) (fun (u : Unit) => [(x1, .inr (12, (f1.set 10 (.int 2)))), (x2, .inl (cA 1, 32, .inl (upd (fun _ => 0) 1 16))), (x3, .inl (cA 1, 32, .inl (upd (fun _ => 0) 1 0)))]) := by
  refine zz_enteri (cc := cX12_add) (lv := [(0, .ref x1), (1, .int 16), (2, .int 0)]) hE 4 (by decide) rfl (Nat.le_of_ble_eq_true rfl) rfl ?_
  intro p e s m args below meth c X hr hin
  refine zz_aload_n X 0 dX12_add_0 rfl rfl ?_
  refine zz_get X 0 10 rfl rfl (by decide) (fun w h => List.mem_cons_of_mem _ (zf_X12 w h)) rfl (List.mem_cons_of_mem _ zm_685) hf1_10 dX12_add_1 ?_
  refine zz_aload_n X 0 dX12_add_4 rfl rfl ?_
  refine zz_get X 0 0 rfl rfl (by decide) (fun w h => List.mem_cons_of_mem _ (zf_X12 w h)) rfl (List.mem_cons_of_mem _ zm_690) hf1_0 dX12_add_5 ?_
  refine zz_alen X 1 1 rfl rfl (32) rfl dX12_add_8 ?_
  refine zz_icmp_lt X 14 dX12_add_9 (by decide) (fun _ => ?_) (fun h => absurd (by decide) h)
  refine zz_aload_n X 0 dX12_add_14 rfl rfl ?_
  refine zz_get X 0 10 rfl rfl (by decide) (fun w h => List.mem_cons_of_mem _ (zf_X12 w h)) rfl (List.mem_cons_of_mem _ zm_685) hf1_10 dX12_add_15 ?_
  refine zz_istore_n X [(3, .int 1), (0, .ref x1), (1, .int 16), (2, .int 0)] dX12_add_18 rfl (by decide) rfl ?_
  refine zz_aload_n X 1 dX12_add_19 rfl rfl ?_
  refine zz_dup X dX12_add_20 rfl ?_
  refine zz_get X 0 10 rfl rfl (by decide) (fun w h => List.mem_cons_of_mem _ (zf_X12 w h)) rfl (List.mem_cons_of_mem _ zm_685) hf1_10 dX12_add_21 ?_
  refine zz_iconst X 1 dX12_add_24 rfl ?_
  refine zz_iadd X (2) dX12_add_25 (by decide) ?_
  refine zz_put X 0 10 rfl rfl (by decide) (fun w h => List.mem_cons_of_mem _ (zf_X12 w h)) rfl (List.mem_cons_of_mem _ zm_685) tyX12 tyX12_ok nmX12 rfl (ty := .int) rfl rfl rfl (zq_lt hf1_n (by decide) (by simp only [List.length_set])) dX12_add_26 [(x1, .inr (12, (f1.set 10 (.int 2)))), (x2, .inl (cA 1, 32, .inl (fun _ => 0))), (x3, .inl (cA 1, 32, .inl (fun _ => 0)))] rfl ?_
  refine zz_aload_n X 1 dX12_add_29 rfl rfl ?_
  refine zz_get X 0 0 rfl rfl (by decide) (fun w h => List.mem_cons_of_mem _ (zf_X12 w h)) rfl (List.mem_cons_of_mem _ zm_690) (zq_oth (by decide) (hf1_0)) dX12_add_30 ?_
  refine zz_iload_n X 0 dX12_add_33 rfl rfl ?_
  refine zz_iload_n X 2 dX12_add_34 rfl rfl ?_
  refine zz_iast X 1 1 rfl rfl (vp_in_nI (n := 1) (by decide) (by decide)) 1 (by decide) dX12_add_35 [(x1, .inr (12, (f1.set 10 (.int 2)))), (x2, .inl (cA 1, 32, .inl (upd (fun _ => 0) 1 16))), (x3, .inl (cA 1, 32, .inl (fun _ => 0)))] rfl ?_
  refine zz_aload_n X 1 dX12_add_36 rfl rfl ?_
  refine zz_get X 0 1 rfl rfl (by decide) (fun w h => List.mem_cons_of_mem _ (zf_X12 w h)) rfl (List.mem_cons_of_mem _ zm_691) (zq_oth (by decide) (hf1_1)) dX12_add_37 ?_
  refine zz_iload_n X 0 dX12_add_40 rfl rfl ?_
  refine zz_iload_n X 3 dX12_add_41 rfl rfl ?_
  refine zz_iast X 2 1 rfl rfl (vp_in_nI (n := 1) (by decide) (by decide)) 1 (by decide) dX12_add_42 [(x1, .inr (12, (f1.set 10 (.int 2)))), (x2, .inl (cA 1, 32, .inl (upd (fun _ => 0) 1 16))), (x3, .inl (cA 1, 32, .inl (upd (fun _ => 0) 1 0)))] rfl ?_
  refine zz_iload_n X 0 dX12_add_43 rfl rfl ?_
  exact zz_iret X hr (()) [0, 1, 2] (by decide) rfl rfl (Nat.le_of_ble_eq_true rfl) (Nat.le_of_ble_eq_true rfl) (rfl) dX12_add_44

set_option maxHeartbeats 4000000 in
set_option maxRecDepth 100000 in
/-- node -/
theorem kX8_node_3 {E : zEn} (hE : zOk E) (l : Launch) (D : va_G) (cA : Nat → ClassId) (K : Nat → Nat) (V : Nat → Nat) (x1 : Nat) (f1 : List Value) (x2 : Nat) (x3 : Nat) (f2 : List Value) (x4 : Nat) (x5 : Nat) (hss : zSS E K V) (hf1_n : f1.length = 15) (hf1_14 : f1[14]? = some (.ref x2)) (hf1_4 : f1[4]? = some (.ref x3)) (hf1_9 : f1[9]? = some (.int 0)) (hf2_n : f2.length = 15) (hf2_10 : f2[10]? = some (.int 1)) (hf2_0 : f2[0]? = some (.ref x4)) (hf2_1 : f2[1]? = some (.ref x5)) : zMi E l yX8_node zwX8_node ({ frames := 1, cells := 0, slots := 0, locals := 23 }) D vwCl (zT cA) [.ref x1, .int 16] [(x1, .inr (8, f1)), (x3, .inl (cA 1, 6002, .inl (upd (fun _ => 0) 0 0))), (x2, .inr (12, f2)), (x4, .inl (cA 1, 32, .inl (fun _ => 0))), (x5, .inl (cA 1, 32, .inl (fun _ => 0)))] (S := Unit) (fun (r : Int32) (u : Unit) => (r = 1)) (fun (u : Unit) => [(x1, .inr (8, f1)), (x3, .inl (cA 1, 6002, .inl (upd (fun _ => 0) 0 0))), (x2, .inr (12, (f2.set 10 (.int 2)))), (x4, .inl (cA 1, 32, .inl (upd (fun _ => 0) 1 16))), (x5, .inl (cA 1, 32, .inl (upd (fun _ => 0) 1 0)))]) := by
  refine zz_enteri (cc := cX8_node) (lv := [(0, .ref x1), (1, .int 16)]) hE 2 (by decide) rfl (Nat.le_of_ble_eq_true rfl) rfl ?_
  intro p e s m args below meth c X hr hin
  refine zz_aload_n X 0 dX8_node_0 rfl rfl ?_
  refine zz_get X 0 14 rfl rfl (by decide) (fun w h => List.mem_cons_of_mem _ (zf_X8 w h)) rfl (List.mem_cons_of_mem _ zm_31) hf1_14 dX8_node_1 ?_
  refine zz_iload_n X 1 dX8_node_4 rfl rfl ?_
  refine zz_aload_n X 0 dX8_node_5 rfl rfl ?_
  refine zz_get X 0 4 rfl rfl (by decide) (fun w h => List.mem_cons_of_mem _ (zf_X8 w h)) rfl (List.mem_cons_of_mem _ zm_21) hf1_4 dX8_node_6 ?_
  refine zz_aload_n X 0 dX8_node_9 rfl rfl ?_
  refine zz_get X 0 9 rfl rfl (by decide) (fun w h => List.mem_cons_of_mem _ (zf_X8 w h)) rfl (List.mem_cons_of_mem _ zm_26) hf1_9 dX8_node_10 ?_
  refine zz_iald X 1 1 rfl rfl (vp_in_nI (n := 0) (by decide) (by decide)) (0) rfl dX8_node_13 ?_
  refine zz_callVi X (rest := []) (As := [.int 16, .int 0]) (kX12_add_5 hE l D cA K V x2 f2 x4 x5 hss (zq_len hf2_n (by simp only [List.length_set])) hf2_10 hf2_0 hf2_1) 2 (zgV zm_716 zm_717 zm_718 zm_681 zm_715) rfl (by decide +kernel) [2, 3, 4] [0, 1] [(x1, .inr (8, f1)), (x3, .inl (cA 1, 6002, .inl (upd (fun _ => 0) 0 0)))] rfl rfl (by decide) rfl (by decide) (by decide) ⟨Nat.le_of_ble_eq_true rfl, Nat.le_of_ble_eq_true rfl⟩ 0 rfl rfl rfl rfl rfl (Nat.le_of_ble_eq_true rfl) dX8_node_14 (Nat.le_of_ble_eq_true rfl) (Nat.le_of_ble_eq_true rfl) (fun r1 _ hw2 => ?_)
  obtain rfl := hw2
  refine zz_show (ws' := [(x1, .inr (8, f1)), (x3, .inl (cA 1, 6002, .inl (upd (fun _ => 0) 0 0))), (x2, .inr (12, (f2.set 10 (.int 2)))), (x4, .inl (cA 1, 32, .inl (upd (fun _ => 0) 1 16))), (x5, .inl (cA 1, 32, .inl (upd (fun _ => 0) 1 0)))]) rfl ?_
  exact zz_iret X hr (()) [0, 1, 2, 3, 4] (by decide) rfl rfl (Nat.le_of_ble_eq_true rfl) (Nat.le_of_ble_eq_true rfl) (rfl) dX8_node_17

set_option maxHeartbeats 4000000 in
set_option maxRecDepth 100000 in
/-- is -/
theorem kX8_is_4 {E : zEn} (hE : zOk E) (l : Launch) (D : va_G) (cA : Nat → ClassId) (K : Nat → Nat) (V : Nat → Nat) (x1 : Nat) (f1 : List Value) (x2 : Nat) (hss : zSS E K V) (hf1_n : f1.length = 15) (hf1_11 : f1[11]? = some (.int (-1))) (hf1_3 : f1[3]? = some (.ref x2)) (hf1_9 : f1[9]? = some (.int 0)) : zMi E l yX8_is zwX8_is ({ frames := 0, cells := 0, slots := 0, locals := 0 }) D vwCl (zT cA) [.ref x1, .int 12] [(x1, .inr (8, f1)), (x2, .inl (cA 1, 6002, .inl (upd (fun _ => 0) 0 0)))] (S := Unit) (fun (r : Int32) (u : Unit) => (r = 0)) (fun (u : Unit) => [(x1, .inr (8, f1)), (x2, .inl (cA 1, 6002, .inl (upd (fun _ => 0) 0 0)))]) := by
  refine zz_enterz (cc := cX8_is) (lv := [(0, .ref x1), (1, .int 12)]) hE 2 (by decide) rfl (Nat.le_of_ble_eq_true rfl) rfl ?_
  intro p e s m args below meth c X hr hin
  refine zz_aload_n X 0 dX8_is_0 rfl rfl ?_
  refine zz_get X 0 11 rfl rfl (by decide) (fun w h => List.mem_cons_of_mem _ (zf_X8 w h)) rfl (List.mem_cons_of_mem _ zm_28) hf1_11 dX8_is_1 ?_
  refine zz_if_ge X 24 dX8_is_4 (by decide) (fun h => absurd h (by decide)) (fun _ => ?_)
  refine zz_aload_n X 0 dX8_is_7 rfl rfl ?_
  refine zz_get X 0 3 rfl rfl (by decide) (fun w h => List.mem_cons_of_mem _ (zf_X8 w h)) rfl (List.mem_cons_of_mem _ zm_20) hf1_3 dX8_is_8 ?_
  refine zz_aload_n X 0 dX8_is_11 rfl rfl ?_
  refine zz_get X 0 9 rfl rfl (by decide) (fun w h => List.mem_cons_of_mem _ (zf_X8 w h)) rfl (List.mem_cons_of_mem _ zm_26) hf1_9 dX8_is_12 ?_
  refine zz_iald X 1 1 rfl rfl (vp_in_nI (n := 0) (by decide) (by decide)) (0) rfl dX8_is_15 ?_
  refine zz_iload_n X 1 dX8_is_16 rfl rfl ?_
  refine zz_icmp_ne X 24 dX8_is_17 (by decide) (fun _ => ?_) (fun h => absurd h (by decide))
  refine zz_iconst X 0 dX8_is_24 rfl ?_
  exact zz_zret X hr (by decide) (()) [0, 1] (by decide) rfl rfl (Nat.le_of_ble_eq_true rfl) (Nat.le_of_ble_eq_true rfl) (rfl) dX8_is_25

set_option maxHeartbeats 4000000 in
set_option maxRecDepth 100000 in
/-- is -/
theorem kX8_is_5 {E : zEn} (hE : zOk E) (l : Launch) (D : va_G) (cA : Nat → ClassId) (K : Nat → Nat) (V : Nat → Nat) (x1 : Nat) (f1 : List Value) (x2 : Nat) (hss : zSS E K V) (hf1_n : f1.length = 15) (hf1_11 : f1[11]? = some (.int (-1))) (hf1_3 : f1[3]? = some (.ref x2)) (hf1_9 : f1[9]? = some (.int 0)) : zMi E l yX8_is zwX8_is ({ frames := 0, cells := 0, slots := 0, locals := 0 }) D vwCl (zT cA) [.ref x1, .int 14] [(x1, .inr (8, f1)), (x2, .inl (cA 1, 6002, .inl (upd (fun _ => 0) 0 0)))] (S := Unit) (fun (r : Int32) (u : Unit) => (r = 0)) (fun (u : Unit) => [(x1, .inr (8, f1)), (x2, .inl (cA 1, 6002, .inl (upd (fun _ => 0) 0 0)))]) := by
  refine zz_enterz (cc := cX8_is) (lv := [(0, .ref x1), (1, .int 14)]) hE 2 (by decide) rfl (Nat.le_of_ble_eq_true rfl) rfl ?_
  intro p e s m args below meth c X hr hin
  refine zz_aload_n X 0 dX8_is_0 rfl rfl ?_
  refine zz_get X 0 11 rfl rfl (by decide) (fun w h => List.mem_cons_of_mem _ (zf_X8 w h)) rfl (List.mem_cons_of_mem _ zm_28) hf1_11 dX8_is_1 ?_
  refine zz_if_ge X 24 dX8_is_4 (by decide) (fun h => absurd h (by decide)) (fun _ => ?_)
  refine zz_aload_n X 0 dX8_is_7 rfl rfl ?_
  refine zz_get X 0 3 rfl rfl (by decide) (fun w h => List.mem_cons_of_mem _ (zf_X8 w h)) rfl (List.mem_cons_of_mem _ zm_20) hf1_3 dX8_is_8 ?_
  refine zz_aload_n X 0 dX8_is_11 rfl rfl ?_
  refine zz_get X 0 9 rfl rfl (by decide) (fun w h => List.mem_cons_of_mem _ (zf_X8 w h)) rfl (List.mem_cons_of_mem _ zm_26) hf1_9 dX8_is_12 ?_
  refine zz_iald X 1 1 rfl rfl (vp_in_nI (n := 0) (by decide) (by decide)) (0) rfl dX8_is_15 ?_
  refine zz_iload_n X 1 dX8_is_16 rfl rfl ?_
  refine zz_icmp_ne X 24 dX8_is_17 (by decide) (fun _ => ?_) (fun h => absurd h (by decide))
  refine zz_iconst X 0 dX8_is_24 rfl ?_
  exact zz_zret X hr (by decide) (()) [0, 1] (by decide) rfl rfl (Nat.le_of_ble_eq_true rfl) (Nat.le_of_ble_eq_true rfl) (rfl) dX8_is_25

set_option maxHeartbeats 4000000 in
set_option maxRecDepth 100000 in
/-- is -/
theorem kX8_is_6 {E : zEn} (hE : zOk E) (l : Launch) (D : va_G) (cA : Nat → ClassId) (K : Nat → Nat) (V : Nat → Nat) (x1 : Nat) (f1 : List Value) (x2 : Nat) (hss : zSS E K V) (hf1_n : f1.length = 15) (hf1_11 : f1[11]? = some (.int (-1))) (hf1_3 : f1[3]? = some (.ref x2)) (hf1_9 : f1[9]? = some (.int 0)) : zMi E l yX8_is zwX8_is ({ frames := 0, cells := 0, slots := 0, locals := 0 }) D vwCl (zT cA) [.ref x1, .int 15] [(x1, .inr (8, f1)), (x2, .inl (cA 1, 6002, .inl (upd (fun _ => 0) 0 0)))] (S := Unit) (fun (r : Int32) (u : Unit) => (r = 0)) (fun (u : Unit) => [(x1, .inr (8, f1)), (x2, .inl (cA 1, 6002, .inl (upd (fun _ => 0) 0 0)))]) := by
  refine zz_enterz (cc := cX8_is) (lv := [(0, .ref x1), (1, .int 15)]) hE 2 (by decide) rfl (Nat.le_of_ble_eq_true rfl) rfl ?_
  intro p e s m args below meth c X hr hin
  refine zz_aload_n X 0 dX8_is_0 rfl rfl ?_
  refine zz_get X 0 11 rfl rfl (by decide) (fun w h => List.mem_cons_of_mem _ (zf_X8 w h)) rfl (List.mem_cons_of_mem _ zm_28) hf1_11 dX8_is_1 ?_
  refine zz_if_ge X 24 dX8_is_4 (by decide) (fun h => absurd h (by decide)) (fun _ => ?_)
  refine zz_aload_n X 0 dX8_is_7 rfl rfl ?_
  refine zz_get X 0 3 rfl rfl (by decide) (fun w h => List.mem_cons_of_mem _ (zf_X8 w h)) rfl (List.mem_cons_of_mem _ zm_20) hf1_3 dX8_is_8 ?_
  refine zz_aload_n X 0 dX8_is_11 rfl rfl ?_
  refine zz_get X 0 9 rfl rfl (by decide) (fun w h => List.mem_cons_of_mem _ (zf_X8 w h)) rfl (List.mem_cons_of_mem _ zm_26) hf1_9 dX8_is_12 ?_
  refine zz_iald X 1 1 rfl rfl (vp_in_nI (n := 0) (by decide) (by decide)) (0) rfl dX8_is_15 ?_
  refine zz_iload_n X 1 dX8_is_16 rfl rfl ?_
  refine zz_icmp_ne X 24 dX8_is_17 (by decide) (fun _ => ?_) (fun h => absurd h (by decide))
  refine zz_iconst X 0 dX8_is_24 rfl ?_
  exact zz_zret X hr (by decide) (()) [0, 1] (by decide) rfl rfl (Nat.le_of_ble_eq_true rfl) (Nat.le_of_ble_eq_true rfl) (rfl) dX8_is_25

set_option maxHeartbeats 4000000 in
set_option maxRecDepth 100000 in
/-- add -/
theorem kX12_add_6 {E : zEn} (hE : zOk E) (l : Launch) (D : va_G) (cA : Nat → ClassId) (K : Nat → Nat) (V : Nat → Nat) (x1 : Nat) (f1 : List Value) (x2 : Nat) (x3 : Nat) (hss : zSS E K V) (hf1_n : f1.length = 15) (hf1_10 : f1[10]? = some (.int 2)) (hf1_0 : f1[0]? = some (.ref x2)) (hf1_1 : f1[1]? = some (.ref x3)) : zMi E l yX12_add zwX12_add ({ frames := 0, cells := 0, slots := 0, locals := 0 }) D vwCl (zT cA) [.ref x1, .int 24, .int 0] [(x1, .inr (12, f1)), (x2, .inl (cA 1, 32, .inl (upd (fun _ => 0) 1 16))), (x3, .inl (cA 1, 32, .inl (upd (fun _ => 0) 1 0)))] (S := Unit) (fun (r : Int32) (u : Unit) => (r = 2)) (fun (u : Unit) => [(x1, .inr (12, (f1.set 10 (.int 3)))), (x2, .inl (cA 1, 32, .inl (upd (upd (fun _ => 0) 1 16) 2 24))), (x3, .inl (cA 1, 32, .inl (upd (upd (fun _ => 0) 1 0) 2 0)))]) := by
  refine zz_enteri (cc := cX12_add) (lv := [(0, .ref x1), (1, .int 24), (2, .int 0)]) hE 4 (by decide) rfl (Nat.le_of_ble_eq_true rfl) rfl ?_
  intro p e s m args below meth c X hr hin
  refine zz_aload_n X 0 dX12_add_0 rfl rfl ?_
  refine zz_get X 0 10 rfl rfl (by decide) (fun w h => List.mem_cons_of_mem _ (zf_X12 w h)) rfl (List.mem_cons_of_mem _ zm_685) hf1_10 dX12_add_1 ?_
  refine zz_aload_n X 0 dX12_add_4 rfl rfl ?_
  refine zz_get X 0 0 rfl rfl (by decide) (fun w h => List.mem_cons_of_mem _ (zf_X12 w h)) rfl (List.mem_cons_of_mem _ zm_690) hf1_0 dX12_add_5 ?_
  refine zz_alen X 1 1 rfl rfl (32) rfl dX12_add_8 ?_
  refine zz_icmp_lt X 14 dX12_add_9 (by decide) (fun _ => ?_) (fun h => absurd (by decide) h)
  refine zz_aload_n X 0 dX12_add_14 rfl rfl ?_
  refine zz_get X 0 10 rfl rfl (by decide) (fun w h => List.mem_cons_of_mem _ (zf_X12 w h)) rfl (List.mem_cons_of_mem _ zm_685) hf1_10 dX12_add_15 ?_
  refine zz_istore_n X [(3, .int 2), (0, .ref x1), (1, .int 24), (2, .int 0)] dX12_add_18 rfl (by decide) rfl ?_
  refine zz_aload_n X 1 dX12_add_19 rfl rfl ?_
  refine zz_dup X dX12_add_20 rfl ?_
  refine zz_get X 0 10 rfl rfl (by decide) (fun w h => List.mem_cons_of_mem _ (zf_X12 w h)) rfl (List.mem_cons_of_mem _ zm_685) hf1_10 dX12_add_21 ?_
  refine zz_iconst X 1 dX12_add_24 rfl ?_
  refine zz_iadd X (3) dX12_add_25 (by decide) ?_
  refine zz_put X 0 10 rfl rfl (by decide) (fun w h => List.mem_cons_of_mem _ (zf_X12 w h)) rfl (List.mem_cons_of_mem _ zm_685) tyX12 tyX12_ok nmX12 rfl (ty := .int) rfl rfl rfl (zq_lt hf1_n (by decide) (by simp only [List.length_set])) dX12_add_26 [(x1, .inr (12, (f1.set 10 (.int 3)))), (x2, .inl (cA 1, 32, .inl (upd (fun _ => 0) 1 16))), (x3, .inl (cA 1, 32, .inl (upd (fun _ => 0) 1 0)))] rfl ?_
  refine zz_aload_n X 1 dX12_add_29 rfl rfl ?_
  refine zz_get X 0 0 rfl rfl (by decide) (fun w h => List.mem_cons_of_mem _ (zf_X12 w h)) rfl (List.mem_cons_of_mem _ zm_690) (zq_oth (by decide) (hf1_0)) dX12_add_30 ?_
  refine zz_iload_n X 0 dX12_add_33 rfl rfl ?_
  refine zz_iload_n X 2 dX12_add_34 rfl rfl ?_
  refine zz_iast X 1 1 rfl rfl (vp_in_nI (n := 2) (by decide) (by decide)) 2 (by decide) dX12_add_35 [(x1, .inr (12, (f1.set 10 (.int 3)))), (x2, .inl (cA 1, 32, .inl (upd (upd (fun _ => 0) 1 16) 2 24))), (x3, .inl (cA 1, 32, .inl (upd (fun _ => 0) 1 0)))] rfl ?_
  refine zz_aload_n X 1 dX12_add_36 rfl rfl ?_
  refine zz_get X 0 1 rfl rfl (by decide) (fun w h => List.mem_cons_of_mem _ (zf_X12 w h)) rfl (List.mem_cons_of_mem _ zm_691) (zq_oth (by decide) (hf1_1)) dX12_add_37 ?_
  refine zz_iload_n X 0 dX12_add_40 rfl rfl ?_
  refine zz_iload_n X 3 dX12_add_41 rfl rfl ?_
  refine zz_iast X 2 1 rfl rfl (vp_in_nI (n := 2) (by decide) (by decide)) 2 (by decide) dX12_add_42 [(x1, .inr (12, (f1.set 10 (.int 3)))), (x2, .inl (cA 1, 32, .inl (upd (upd (fun _ => 0) 1 16) 2 24))), (x3, .inl (cA 1, 32, .inl (upd (upd (fun _ => 0) 1 0) 2 0)))] rfl ?_
  refine zz_iload_n X 0 dX12_add_43 rfl rfl ?_
  exact zz_iret X hr (()) [0, 1, 2] (by decide) rfl rfl (Nat.le_of_ble_eq_true rfl) (Nat.le_of_ble_eq_true rfl) (rfl) dX12_add_44

set_option maxHeartbeats 4000000 in
set_option maxRecDepth 100000 in
/-- node -/
theorem kX8_node_4 {E : zEn} (hE : zOk E) (l : Launch) (D : va_G) (cA : Nat → ClassId) (K : Nat → Nat) (V : Nat → Nat) (x1 : Nat) (f1 : List Value) (x2 : Nat) (x3 : Nat) (f2 : List Value) (x4 : Nat) (x5 : Nat) (hss : zSS E K V) (hf1_n : f1.length = 15) (hf1_14 : f1[14]? = some (.ref x2)) (hf1_4 : f1[4]? = some (.ref x3)) (hf1_9 : f1[9]? = some (.int 0)) (hf2_n : f2.length = 15) (hf2_10 : f2[10]? = some (.int 2)) (hf2_0 : f2[0]? = some (.ref x4)) (hf2_1 : f2[1]? = some (.ref x5)) : zMi E l yX8_node zwX8_node ({ frames := 1, cells := 0, slots := 0, locals := 23 }) D vwCl (zT cA) [.ref x1, .int 24] [(x1, .inr (8, f1)), (x3, .inl (cA 1, 6002, .inl (upd (fun _ => 0) 0 0))), (x2, .inr (12, f2)), (x4, .inl (cA 1, 32, .inl (upd (fun _ => 0) 1 16))), (x5, .inl (cA 1, 32, .inl (upd (fun _ => 0) 1 0)))] (S := Unit) (fun (r : Int32) (u : Unit) => (r = 2)) (fun (u : Unit) => [(x1, .inr (8, f1)), (x3, .inl (cA 1, 6002, .inl (upd (fun _ => 0) 0 0))), (x2, .inr (12, (f2.set 10 (.int 3)))), (x4, .inl (cA 1, 32, .inl (upd (upd (fun _ => 0) 1 16) 2 24))), (x5, .inl (cA 1, 32, .inl (upd (upd (fun _ => 0) 1 0) 2 0)))]) := by
  refine zz_enteri (cc := cX8_node) (lv := [(0, .ref x1), (1, .int 24)]) hE 2 (by decide) rfl (Nat.le_of_ble_eq_true rfl) rfl ?_
  intro p e s m args below meth c X hr hin
  refine zz_aload_n X 0 dX8_node_0 rfl rfl ?_
  refine zz_get X 0 14 rfl rfl (by decide) (fun w h => List.mem_cons_of_mem _ (zf_X8 w h)) rfl (List.mem_cons_of_mem _ zm_31) hf1_14 dX8_node_1 ?_
  refine zz_iload_n X 1 dX8_node_4 rfl rfl ?_
  refine zz_aload_n X 0 dX8_node_5 rfl rfl ?_
  refine zz_get X 0 4 rfl rfl (by decide) (fun w h => List.mem_cons_of_mem _ (zf_X8 w h)) rfl (List.mem_cons_of_mem _ zm_21) hf1_4 dX8_node_6 ?_
  refine zz_aload_n X 0 dX8_node_9 rfl rfl ?_
  refine zz_get X 0 9 rfl rfl (by decide) (fun w h => List.mem_cons_of_mem _ (zf_X8 w h)) rfl (List.mem_cons_of_mem _ zm_26) hf1_9 dX8_node_10 ?_
  refine zz_iald X 1 1 rfl rfl (vp_in_nI (n := 0) (by decide) (by decide)) (0) rfl dX8_node_13 ?_
  refine zz_callVi X (rest := []) (As := [.int 24, .int 0]) (kX12_add_6 hE l D cA K V x2 f2 x4 x5 hss (zq_len hf2_n (by simp only [List.length_set])) hf2_10 hf2_0 hf2_1) 2 (zgV zm_716 zm_717 zm_718 zm_681 zm_715) rfl (by decide +kernel) [2, 3, 4] [0, 1] [(x1, .inr (8, f1)), (x3, .inl (cA 1, 6002, .inl (upd (fun _ => 0) 0 0)))] rfl rfl (by decide) rfl (by decide) (by decide) ⟨Nat.le_of_ble_eq_true rfl, Nat.le_of_ble_eq_true rfl⟩ 0 rfl rfl rfl rfl rfl (Nat.le_of_ble_eq_true rfl) dX8_node_14 (Nat.le_of_ble_eq_true rfl) (Nat.le_of_ble_eq_true rfl) (fun r1 _ hw2 => ?_)
  obtain rfl := hw2
  refine zz_show (ws' := [(x1, .inr (8, f1)), (x3, .inl (cA 1, 6002, .inl (upd (fun _ => 0) 0 0))), (x2, .inr (12, (f2.set 10 (.int 3)))), (x4, .inl (cA 1, 32, .inl (upd (upd (fun _ => 0) 1 16) 2 24))), (x5, .inl (cA 1, 32, .inl (upd (upd (fun _ => 0) 1 0) 2 0)))]) rfl ?_
  exact zz_iret X hr (()) [0, 1, 2, 3, 4] (by decide) rfl rfl (Nat.le_of_ble_eq_true rfl) (Nat.le_of_ble_eq_true rfl) (rfl) dX8_node_17

set_option maxHeartbeats 4000000 in
set_option maxRecDepth 100000 in
/-- add -/
theorem kX12_add_7 {E : zEn} (hE : zOk E) (l : Launch) (D : va_G) (cA : Nat → ClassId) (K : Nat → Nat) (V : Nat → Nat) (x1 : Nat) (f1 : List Value) (x2 : Nat) (x3 : Nat) (hss : zSS E K V) (hf1_n : f1.length = 15) (hf1_10 : f1[10]? = some (.int 3)) (hf1_0 : f1[0]? = some (.ref x2)) (hf1_1 : f1[1]? = some (.ref x3)) : zMi E l yX12_add zwX12_add ({ frames := 0, cells := 0, slots := 0, locals := 0 }) D vwCl (zT cA) [.ref x1, .int 14, .int 0] [(x1, .inr (12, f1)), (x2, .inl (cA 1, 32, .inl (upd (upd (fun _ => 0) 1 16) 2 24))), (x3, .inl (cA 1, 32, .inl (upd (upd (fun _ => 0) 1 0) 2 0)))] (S := Unit) (fun (r : Int32) (u : Unit) => (r = 3)) (fun (u : Unit) => [(x1, .inr (12, (f1.set 10 (.int 4)))), (x2, .inl (cA 1, 32, .inl (upd (upd (upd (fun _ => 0) 1 16) 2 24) 3 14))), (x3, .inl (cA 1, 32, .inl (upd (upd (upd (fun _ => 0) 1 0) 2 0) 3 0)))]) := by
  refine zz_enteri (cc := cX12_add) (lv := [(0, .ref x1), (1, .int 14), (2, .int 0)]) hE 4 (by decide) rfl (Nat.le_of_ble_eq_true rfl) rfl ?_
  intro p e s m args below meth c X hr hin
  refine zz_aload_n X 0 dX12_add_0 rfl rfl ?_
  refine zz_get X 0 10 rfl rfl (by decide) (fun w h => List.mem_cons_of_mem _ (zf_X12 w h)) rfl (List.mem_cons_of_mem _ zm_685) hf1_10 dX12_add_1 ?_
  refine zz_aload_n X 0 dX12_add_4 rfl rfl ?_
  refine zz_get X 0 0 rfl rfl (by decide) (fun w h => List.mem_cons_of_mem _ (zf_X12 w h)) rfl (List.mem_cons_of_mem _ zm_690) hf1_0 dX12_add_5 ?_
  refine zz_alen X 1 1 rfl rfl (32) rfl dX12_add_8 ?_
  refine zz_icmp_lt X 14 dX12_add_9 (by decide) (fun _ => ?_) (fun h => absurd (by decide) h)
  refine zz_aload_n X 0 dX12_add_14 rfl rfl ?_
  refine zz_get X 0 10 rfl rfl (by decide) (fun w h => List.mem_cons_of_mem _ (zf_X12 w h)) rfl (List.mem_cons_of_mem _ zm_685) hf1_10 dX12_add_15 ?_
  refine zz_istore_n X [(3, .int 3), (0, .ref x1), (1, .int 14), (2, .int 0)] dX12_add_18 rfl (by decide) rfl ?_
  refine zz_aload_n X 1 dX12_add_19 rfl rfl ?_
  refine zz_dup X dX12_add_20 rfl ?_
  refine zz_get X 0 10 rfl rfl (by decide) (fun w h => List.mem_cons_of_mem _ (zf_X12 w h)) rfl (List.mem_cons_of_mem _ zm_685) hf1_10 dX12_add_21 ?_
  refine zz_iconst X 1 dX12_add_24 rfl ?_
  refine zz_iadd X (4) dX12_add_25 (by decide) ?_
  refine zz_put X 0 10 rfl rfl (by decide) (fun w h => List.mem_cons_of_mem _ (zf_X12 w h)) rfl (List.mem_cons_of_mem _ zm_685) tyX12 tyX12_ok nmX12 rfl (ty := .int) rfl rfl rfl (zq_lt hf1_n (by decide) (by simp only [List.length_set])) dX12_add_26 [(x1, .inr (12, (f1.set 10 (.int 4)))), (x2, .inl (cA 1, 32, .inl (upd (upd (fun _ => 0) 1 16) 2 24))), (x3, .inl (cA 1, 32, .inl (upd (upd (fun _ => 0) 1 0) 2 0)))] rfl ?_
  refine zz_aload_n X 1 dX12_add_29 rfl rfl ?_
  refine zz_get X 0 0 rfl rfl (by decide) (fun w h => List.mem_cons_of_mem _ (zf_X12 w h)) rfl (List.mem_cons_of_mem _ zm_690) (zq_oth (by decide) (hf1_0)) dX12_add_30 ?_
  refine zz_iload_n X 0 dX12_add_33 rfl rfl ?_
  refine zz_iload_n X 2 dX12_add_34 rfl rfl ?_
  refine zz_iast X 1 1 rfl rfl (vp_in_nI (n := 3) (by decide) (by decide)) 3 (by decide) dX12_add_35 [(x1, .inr (12, (f1.set 10 (.int 4)))), (x2, .inl (cA 1, 32, .inl (upd (upd (upd (fun _ => 0) 1 16) 2 24) 3 14))), (x3, .inl (cA 1, 32, .inl (upd (upd (fun _ => 0) 1 0) 2 0)))] rfl ?_
  refine zz_aload_n X 1 dX12_add_36 rfl rfl ?_
  refine zz_get X 0 1 rfl rfl (by decide) (fun w h => List.mem_cons_of_mem _ (zf_X12 w h)) rfl (List.mem_cons_of_mem _ zm_691) (zq_oth (by decide) (hf1_1)) dX12_add_37 ?_
  refine zz_iload_n X 0 dX12_add_40 rfl rfl ?_
  refine zz_iload_n X 3 dX12_add_41 rfl rfl ?_
  refine zz_iast X 2 1 rfl rfl (vp_in_nI (n := 3) (by decide) (by decide)) 3 (by decide) dX12_add_42 [(x1, .inr (12, (f1.set 10 (.int 4)))), (x2, .inl (cA 1, 32, .inl (upd (upd (upd (fun _ => 0) 1 16) 2 24) 3 14))), (x3, .inl (cA 1, 32, .inl (upd (upd (upd (fun _ => 0) 1 0) 2 0) 3 0)))] rfl ?_
  refine zz_iload_n X 0 dX12_add_43 rfl rfl ?_
  exact zz_iret X hr (()) [0, 1, 2] (by decide) rfl rfl (Nat.le_of_ble_eq_true rfl) (Nat.le_of_ble_eq_true rfl) (rfl) dX12_add_44

set_option maxHeartbeats 4000000 in
set_option maxRecDepth 100000 in
/-- node -/
theorem kX8_node_5 {E : zEn} (hE : zOk E) (l : Launch) (D : va_G) (cA : Nat → ClassId) (K : Nat → Nat) (V : Nat → Nat) (x1 : Nat) (f1 : List Value) (x2 : Nat) (x3 : Nat) (f2 : List Value) (x4 : Nat) (x5 : Nat) (hss : zSS E K V) (hf1_n : f1.length = 15) (hf1_14 : f1[14]? = some (.ref x2)) (hf1_4 : f1[4]? = some (.ref x3)) (hf1_9 : f1[9]? = some (.int 0)) (hf2_n : f2.length = 15) (hf2_10 : f2[10]? = some (.int 3)) (hf2_0 : f2[0]? = some (.ref x4)) (hf2_1 : f2[1]? = some (.ref x5)) : zMi E l yX8_node zwX8_node ({ frames := 1, cells := 0, slots := 0, locals := 23 }) D vwCl (zT cA) [.ref x1, .int 14] [(x1, .inr (8, f1)), (x3, .inl (cA 1, 6002, .inl (upd (fun _ => 0) 0 0))), (x2, .inr (12, f2)), (x4, .inl (cA 1, 32, .inl (upd (upd (fun _ => 0) 1 16) 2 24))), (x5, .inl (cA 1, 32, .inl (upd (upd (fun _ => 0) 1 0) 2 0)))] (S := Unit) (fun (r : Int32) (u : Unit) => (r = 3)) (fun (u : Unit) => [(x1, .inr (8, f1)), (x3, .inl (cA 1, 6002, .inl (upd (fun _ => 0) 0 0))), (x2, .inr (12, (f2.set 10 (.int 4)))), (x4, .inl (cA 1, 32, .inl (upd (upd (upd (fun _ => 0) 1 16) 2 24) 3 14))), (x5, .inl (cA 1, 32, .inl (upd (upd (upd (fun _ => 0) 1 0) 2 0) 3 0)))]) := by
  refine zz_enteri (cc := cX8_node) (lv := [(0, .ref x1), (1, .int 14)]) hE 2 (by decide) rfl (Nat.le_of_ble_eq_true rfl) rfl ?_
  intro p e s m args below meth c X hr hin
  refine zz_aload_n X 0 dX8_node_0 rfl rfl ?_
  refine zz_get X 0 14 rfl rfl (by decide) (fun w h => List.mem_cons_of_mem _ (zf_X8 w h)) rfl (List.mem_cons_of_mem _ zm_31) hf1_14 dX8_node_1 ?_
  refine zz_iload_n X 1 dX8_node_4 rfl rfl ?_
  refine zz_aload_n X 0 dX8_node_5 rfl rfl ?_
  refine zz_get X 0 4 rfl rfl (by decide) (fun w h => List.mem_cons_of_mem _ (zf_X8 w h)) rfl (List.mem_cons_of_mem _ zm_21) hf1_4 dX8_node_6 ?_
  refine zz_aload_n X 0 dX8_node_9 rfl rfl ?_
  refine zz_get X 0 9 rfl rfl (by decide) (fun w h => List.mem_cons_of_mem _ (zf_X8 w h)) rfl (List.mem_cons_of_mem _ zm_26) hf1_9 dX8_node_10 ?_
  refine zz_iald X 1 1 rfl rfl (vp_in_nI (n := 0) (by decide) (by decide)) (0) rfl dX8_node_13 ?_
  refine zz_callVi X (rest := []) (As := [.int 14, .int 0]) (kX12_add_7 hE l D cA K V x2 f2 x4 x5 hss (zq_len hf2_n (by simp only [List.length_set])) hf2_10 hf2_0 hf2_1) 2 (zgV zm_716 zm_717 zm_718 zm_681 zm_715) rfl (by decide +kernel) [2, 3, 4] [0, 1] [(x1, .inr (8, f1)), (x3, .inl (cA 1, 6002, .inl (upd (fun _ => 0) 0 0)))] rfl rfl (by decide) rfl (by decide) (by decide) ⟨Nat.le_of_ble_eq_true rfl, Nat.le_of_ble_eq_true rfl⟩ 0 rfl rfl rfl rfl rfl (Nat.le_of_ble_eq_true rfl) dX8_node_14 (Nat.le_of_ble_eq_true rfl) (Nat.le_of_ble_eq_true rfl) (fun r1 _ hw2 => ?_)
  obtain rfl := hw2
  refine zz_show (ws' := [(x1, .inr (8, f1)), (x3, .inl (cA 1, 6002, .inl (upd (fun _ => 0) 0 0))), (x2, .inr (12, (f2.set 10 (.int 4)))), (x4, .inl (cA 1, 32, .inl (upd (upd (upd (fun _ => 0) 1 16) 2 24) 3 14))), (x5, .inl (cA 1, 32, .inl (upd (upd (upd (fun _ => 0) 1 0) 2 0) 3 0)))]) rfl ?_
  exact zz_iret X hr (()) [0, 1, 2, 3, 4] (by decide) rfl rfl (Nat.le_of_ble_eq_true rfl) (Nat.le_of_ble_eq_true rfl) (rfl) dX8_node_17

set_option maxHeartbeats 4000000 in
set_option maxRecDepth 100000 in
/-- is -/
theorem kX8_is_7 {E : zEn} (hE : zOk E) (l : Launch) (D : va_G) (cA : Nat → ClassId) (K : Nat → Nat) (V : Nat → Nat) (x1 : Nat) (f1 : List Value) (x2 : Nat) (hss : zSS E K V) (hf1_n : f1.length = 15) (hf1_11 : f1[11]? = some (.int (-1))) (hf1_3 : f1[3]? = some (.ref x2)) (hf1_9 : f1[9]? = some (.int 0)) : zMi E l yX8_is zwX8_is ({ frames := 0, cells := 0, slots := 0, locals := 0 }) D vwCl (zT cA) [.ref x1, .int 1] [(x1, .inr (8, f1)), (x2, .inl (cA 1, 6002, .inl (upd (fun _ => 0) 0 0)))] (S := Unit) (fun (r : Int32) (u : Unit) => (r = 0)) (fun (u : Unit) => [(x1, .inr (8, f1)), (x2, .inl (cA 1, 6002, .inl (upd (fun _ => 0) 0 0)))]) := by
  refine zz_enterz (cc := cX8_is) (lv := [(0, .ref x1), (1, .int 1)]) hE 2 (by decide) rfl (Nat.le_of_ble_eq_true rfl) rfl ?_
  intro p e s m args below meth c X hr hin
  refine zz_aload_n X 0 dX8_is_0 rfl rfl ?_
  refine zz_get X 0 11 rfl rfl (by decide) (fun w h => List.mem_cons_of_mem _ (zf_X8 w h)) rfl (List.mem_cons_of_mem _ zm_28) hf1_11 dX8_is_1 ?_
  refine zz_if_ge X 24 dX8_is_4 (by decide) (fun h => absurd h (by decide)) (fun _ => ?_)
  refine zz_aload_n X 0 dX8_is_7 rfl rfl ?_
  refine zz_get X 0 3 rfl rfl (by decide) (fun w h => List.mem_cons_of_mem _ (zf_X8 w h)) rfl (List.mem_cons_of_mem _ zm_20) hf1_3 dX8_is_8 ?_
  refine zz_aload_n X 0 dX8_is_11 rfl rfl ?_
  refine zz_get X 0 9 rfl rfl (by decide) (fun w h => List.mem_cons_of_mem _ (zf_X8 w h)) rfl (List.mem_cons_of_mem _ zm_26) hf1_9 dX8_is_12 ?_
  refine zz_iald X 1 1 rfl rfl (vp_in_nI (n := 0) (by decide) (by decide)) (0) rfl dX8_is_15 ?_
  refine zz_iload_n X 1 dX8_is_16 rfl rfl ?_
  refine zz_icmp_ne X 24 dX8_is_17 (by decide) (fun _ => ?_) (fun h => absurd h (by decide))
  refine zz_iconst X 0 dX8_is_24 rfl ?_
  exact zz_zret X hr (by decide) (()) [0, 1] (by decide) rfl rfl (Nat.le_of_ble_eq_true rfl) (Nat.le_of_ble_eq_true rfl) (rfl) dX8_is_25

set_option maxHeartbeats 4000000 in
set_option maxRecDepth 100000 in
/-- is -/
theorem kX8_is_8 {E : zEn} (hE : zOk E) (l : Launch) (D : va_G) (cA : Nat → ClassId) (K : Nat → Nat) (V : Nat → Nat) (x1 : Nat) (f1 : List Value) (x2 : Nat) (hss : zSS E K V) (hf1_n : f1.length = 15) (hf1_11 : f1[11]? = some (.int (-1))) (hf1_3 : f1[3]? = some (.ref x2)) (hf1_9 : f1[9]? = some (.int 0)) : zMi E l yX8_is zwX8_is ({ frames := 0, cells := 0, slots := 0, locals := 0 }) D vwCl (zT cA) [.ref x1, .int 35] [(x1, .inr (8, f1)), (x2, .inl (cA 1, 6002, .inl (upd (fun _ => 0) 0 0)))] (S := Unit) (fun (r : Int32) (u : Unit) => (r = 0)) (fun (u : Unit) => [(x1, .inr (8, f1)), (x2, .inl (cA 1, 6002, .inl (upd (fun _ => 0) 0 0)))]) := by
  refine zz_enterz (cc := cX8_is) (lv := [(0, .ref x1), (1, .int 35)]) hE 2 (by decide) rfl (Nat.le_of_ble_eq_true rfl) rfl ?_
  intro p e s m args below meth c X hr hin
  refine zz_aload_n X 0 dX8_is_0 rfl rfl ?_
  refine zz_get X 0 11 rfl rfl (by decide) (fun w h => List.mem_cons_of_mem _ (zf_X8 w h)) rfl (List.mem_cons_of_mem _ zm_28) hf1_11 dX8_is_1 ?_
  refine zz_if_ge X 24 dX8_is_4 (by decide) (fun h => absurd h (by decide)) (fun _ => ?_)
  refine zz_aload_n X 0 dX8_is_7 rfl rfl ?_
  refine zz_get X 0 3 rfl rfl (by decide) (fun w h => List.mem_cons_of_mem _ (zf_X8 w h)) rfl (List.mem_cons_of_mem _ zm_20) hf1_3 dX8_is_8 ?_
  refine zz_aload_n X 0 dX8_is_11 rfl rfl ?_
  refine zz_get X 0 9 rfl rfl (by decide) (fun w h => List.mem_cons_of_mem _ (zf_X8 w h)) rfl (List.mem_cons_of_mem _ zm_26) hf1_9 dX8_is_12 ?_
  refine zz_iald X 1 1 rfl rfl (vp_in_nI (n := 0) (by decide) (by decide)) (0) rfl dX8_is_15 ?_
  refine zz_iload_n X 1 dX8_is_16 rfl rfl ?_
  refine zz_icmp_ne X 24 dX8_is_17 (by decide) (fun _ => ?_) (fun h => absurd h (by decide))
  refine zz_iconst X 0 dX8_is_24 rfl ?_
  exact zz_zret X hr (by decide) (()) [0, 1] (by decide) rfl rfl (Nat.le_of_ble_eq_true rfl) (Nat.le_of_ble_eq_true rfl) (rfl) dX8_is_25

set_option maxHeartbeats 4000000 in
set_option maxRecDepth 100000 in
/-- is -/
theorem kX8_is_9 {E : zEn} (hE : zOk E) (l : Launch) (D : va_G) (cA : Nat → ClassId) (K : Nat → Nat) (V : Nat → Nat) (x1 : Nat) (f1 : List Value) (x2 : Nat) (hss : zSS E K V) (hf1_n : f1.length = 15) (hf1_11 : f1[11]? = some (.int (-1))) (hf1_3 : f1[3]? = some (.ref x2)) (hf1_9 : f1[9]? = some (.int 0)) : zMi E l yX8_is zwX8_is ({ frames := 0, cells := 0, slots := 0, locals := 0 }) D vwCl (zT cA) [.ref x1, .int 37] [(x1, .inr (8, f1)), (x2, .inl (cA 1, 6002, .inl (upd (fun _ => 0) 0 0)))] (S := Unit) (fun (r : Int32) (u : Unit) => (r = 0)) (fun (u : Unit) => [(x1, .inr (8, f1)), (x2, .inl (cA 1, 6002, .inl (upd (fun _ => 0) 0 0)))]) := by
  refine zz_enterz (cc := cX8_is) (lv := [(0, .ref x1), (1, .int 37)]) hE 2 (by decide) rfl (Nat.le_of_ble_eq_true rfl) rfl ?_
  intro p e s m args below meth c X hr hin
  refine zz_aload_n X 0 dX8_is_0 rfl rfl ?_
  refine zz_get X 0 11 rfl rfl (by decide) (fun w h => List.mem_cons_of_mem _ (zf_X8 w h)) rfl (List.mem_cons_of_mem _ zm_28) hf1_11 dX8_is_1 ?_
  refine zz_if_ge X 24 dX8_is_4 (by decide) (fun h => absurd h (by decide)) (fun _ => ?_)
  refine zz_aload_n X 0 dX8_is_7 rfl rfl ?_
  refine zz_get X 0 3 rfl rfl (by decide) (fun w h => List.mem_cons_of_mem _ (zf_X8 w h)) rfl (List.mem_cons_of_mem _ zm_20) hf1_3 dX8_is_8 ?_
  refine zz_aload_n X 0 dX8_is_11 rfl rfl ?_
  refine zz_get X 0 9 rfl rfl (by decide) (fun w h => List.mem_cons_of_mem _ (zf_X8 w h)) rfl (List.mem_cons_of_mem _ zm_26) hf1_9 dX8_is_12 ?_
  refine zz_iald X 1 1 rfl rfl (vp_in_nI (n := 0) (by decide) (by decide)) (0) rfl dX8_is_15 ?_
  refine zz_iload_n X 1 dX8_is_16 rfl rfl ?_
  refine zz_icmp_ne X 24 dX8_is_17 (by decide) (fun _ => ?_) (fun h => absurd h (by decide))
  refine zz_iconst X 0 dX8_is_24 rfl ?_
  exact zz_zret X hr (by decide) (()) [0, 1] (by decide) rfl rfl (Nat.le_of_ble_eq_true rfl) (Nat.le_of_ble_eq_true rfl) (rfl) dX8_is_25

set_option maxHeartbeats 4000000 in
set_option maxRecDepth 100000 in
/-- is -/
theorem kX8_is_10 {E : zEn} (hE : zOk E) (l : Launch) (D : va_G) (cA : Nat → ClassId) (K : Nat → Nat) (V : Nat → Nat) (x1 : Nat) (f1 : List Value) (x2 : Nat) (hss : zSS E K V) (hf1_n : f1.length = 15) (hf1_11 : f1[11]? = some (.int (-1))) (hf1_3 : f1[3]? = some (.ref x2)) (hf1_9 : f1[9]? = some (.int 0)) : zMi E l yX8_is zwX8_is ({ frames := 0, cells := 0, slots := 0, locals := 0 }) D vwCl (zT cA) [.ref x1, .int 39] [(x1, .inr (8, f1)), (x2, .inl (cA 1, 6002, .inl (upd (fun _ => 0) 0 0)))] (S := Unit) (fun (r : Int32) (u : Unit) => (r = 0)) (fun (u : Unit) => [(x1, .inr (8, f1)), (x2, .inl (cA 1, 6002, .inl (upd (fun _ => 0) 0 0)))]) := by
  refine zz_enterz (cc := cX8_is) (lv := [(0, .ref x1), (1, .int 39)]) hE 2 (by decide) rfl (Nat.le_of_ble_eq_true rfl) rfl ?_
  intro p e s m args below meth c X hr hin
  refine zz_aload_n X 0 dX8_is_0 rfl rfl ?_
  refine zz_get X 0 11 rfl rfl (by decide) (fun w h => List.mem_cons_of_mem _ (zf_X8 w h)) rfl (List.mem_cons_of_mem _ zm_28) hf1_11 dX8_is_1 ?_
  refine zz_if_ge X 24 dX8_is_4 (by decide) (fun h => absurd h (by decide)) (fun _ => ?_)
  refine zz_aload_n X 0 dX8_is_7 rfl rfl ?_
  refine zz_get X 0 3 rfl rfl (by decide) (fun w h => List.mem_cons_of_mem _ (zf_X8 w h)) rfl (List.mem_cons_of_mem _ zm_20) hf1_3 dX8_is_8 ?_
  refine zz_aload_n X 0 dX8_is_11 rfl rfl ?_
  refine zz_get X 0 9 rfl rfl (by decide) (fun w h => List.mem_cons_of_mem _ (zf_X8 w h)) rfl (List.mem_cons_of_mem _ zm_26) hf1_9 dX8_is_12 ?_
  refine zz_iald X 1 1 rfl rfl (vp_in_nI (n := 0) (by decide) (by decide)) (0) rfl dX8_is_15 ?_
  refine zz_iload_n X 1 dX8_is_16 rfl rfl ?_
  refine zz_icmp_ne X 24 dX8_is_17 (by decide) (fun _ => ?_) (fun h => absurd h (by decide))
  refine zz_iconst X 0 dX8_is_24 rfl ?_
  exact zz_zret X hr (by decide) (()) [0, 1] (by decide) rfl rfl (Nat.le_of_ble_eq_true rfl) (Nat.le_of_ble_eq_true rfl) (rfl) dX8_is_25

set_option maxHeartbeats 4000000 in
set_option maxRecDepth 100000 in
/-- add -/
theorem kX12_add_8 {E : zEn} (hE : zOk E) (l : Launch) (D : va_G) (cA : Nat → ClassId) (K : Nat → Nat) (V : Nat → Nat) (x1 : Nat) (f1 : List Value) (x2 : Nat) (x3 : Nat) (f2 : Nat → Int32) (hss : zSS E K V) (hf1_n : f1.length = 15) (hf1_10 : f1[10]? = some (.int 4)) (hf1_0 : f1[0]? = some (.ref x2)) (hf1_1 : f1[1]? = some (.ref x3)) : zMi E l yX12_add zwX12_add ({ frames := 0, cells := 0, slots := 0, locals := 0 }) D vwCl (zT cA) [.ref x1, .int 1, .int 0] [(x1, .inr (12, f1)), (x2, .inl (cA 1, 32, .inl f2)), (x3, .inl (cA 1, 32, .inl (upd (upd (upd (fun _ => 0) 1 0) 2 0) 3 0)))] (S := Unit) (fun (r : Int32) (u : Unit) => (r = 4)) (fun (u : Unit) => [(x1, .inr (12, (f1.set 10 (.int 5)))), (x2, .inl (cA 1, 32, .inl (upd f2 4 1))), (x3, .inl (cA 1, 32, .inl (upd (upd (upd (upd (fun _ => 0) 1 0) 2 0) 3 0) 4 0)))]) := by
  refine zz_enteri (cc := cX12_add) (lv := [(0, .ref x1), (1, .int 1), (2, .int 0)]) hE 4 (by decide) rfl (Nat.le_of_ble_eq_true rfl) rfl ?_
  intro p e s m args below meth c X hr hin
  refine zz_aload_n X 0 dX12_add_0 rfl rfl ?_
  refine zz_get X 0 10 rfl rfl (by decide) (fun w h => List.mem_cons_of_mem _ (zf_X12 w h)) rfl (List.mem_cons_of_mem _ zm_685) hf1_10 dX12_add_1 ?_
  refine zz_aload_n X 0 dX12_add_4 rfl rfl ?_
  refine zz_get X 0 0 rfl rfl (by decide) (fun w h => List.mem_cons_of_mem _ (zf_X12 w h)) rfl (List.mem_cons_of_mem _ zm_690) hf1_0 dX12_add_5 ?_
  refine zz_alen X 1 1 rfl rfl (32) rfl dX12_add_8 ?_
  refine zz_icmp_lt X 14 dX12_add_9 (by decide) (fun _ => ?_) (fun h => absurd (by decide) h)
  refine zz_aload_n X 0 dX12_add_14 rfl rfl ?_
  refine zz_get X 0 10 rfl rfl (by decide) (fun w h => List.mem_cons_of_mem _ (zf_X12 w h)) rfl (List.mem_cons_of_mem _ zm_685) hf1_10 dX12_add_15 ?_
  refine zz_istore_n X [(3, .int 4), (0, .ref x1), (1, .int 1), (2, .int 0)] dX12_add_18 rfl (by decide) rfl ?_
  refine zz_aload_n X 1 dX12_add_19 rfl rfl ?_
  refine zz_dup X dX12_add_20 rfl ?_
  refine zz_get X 0 10 rfl rfl (by decide) (fun w h => List.mem_cons_of_mem _ (zf_X12 w h)) rfl (List.mem_cons_of_mem _ zm_685) hf1_10 dX12_add_21 ?_
  refine zz_iconst X 1 dX12_add_24 rfl ?_
  refine zz_iadd X (5) dX12_add_25 (by decide) ?_
  refine zz_put X 0 10 rfl rfl (by decide) (fun w h => List.mem_cons_of_mem _ (zf_X12 w h)) rfl (List.mem_cons_of_mem _ zm_685) tyX12 tyX12_ok nmX12 rfl (ty := .int) rfl rfl rfl (zq_lt hf1_n (by decide) (by simp only [List.length_set])) dX12_add_26 [(x1, .inr (12, (f1.set 10 (.int 5)))), (x2, .inl (cA 1, 32, .inl f2)), (x3, .inl (cA 1, 32, .inl (upd (upd (upd (fun _ => 0) 1 0) 2 0) 3 0)))] rfl ?_
  refine zz_aload_n X 1 dX12_add_29 rfl rfl ?_
  refine zz_get X 0 0 rfl rfl (by decide) (fun w h => List.mem_cons_of_mem _ (zf_X12 w h)) rfl (List.mem_cons_of_mem _ zm_690) (zq_oth (by decide) (hf1_0)) dX12_add_30 ?_
  refine zz_iload_n X 0 dX12_add_33 rfl rfl ?_
  refine zz_iload_n X 2 dX12_add_34 rfl rfl ?_
  refine zz_iast X 1 1 rfl rfl (vp_in_nI (n := 4) (by decide) (by decide)) 4 (by decide) dX12_add_35 [(x1, .inr (12, (f1.set 10 (.int 5)))), (x2, .inl (cA 1, 32, .inl (upd f2 4 1))), (x3, .inl (cA 1, 32, .inl (upd (upd (upd (fun _ => 0) 1 0) 2 0) 3 0)))] rfl ?_
  refine zz_aload_n X 1 dX12_add_36 rfl rfl ?_
  refine zz_get X 0 1 rfl rfl (by decide) (fun w h => List.mem_cons_of_mem _ (zf_X12 w h)) rfl (List.mem_cons_of_mem _ zm_691) (zq_oth (by decide) (hf1_1)) dX12_add_37 ?_
  refine zz_iload_n X 0 dX12_add_40 rfl rfl ?_
  refine zz_iload_n X 3 dX12_add_41 rfl rfl ?_
  refine zz_iast X 2 1 rfl rfl (vp_in_nI (n := 4) (by decide) (by decide)) 4 (by decide) dX12_add_42 [(x1, .inr (12, (f1.set 10 (.int 5)))), (x2, .inl (cA 1, 32, .inl (upd f2 4 1))), (x3, .inl (cA 1, 32, .inl (upd (upd (upd (upd (fun _ => 0) 1 0) 2 0) 3 0) 4 0)))] rfl ?_
  refine zz_iload_n X 0 dX12_add_43 rfl rfl ?_
  exact zz_iret X hr (()) [0, 1, 2] (by decide) rfl rfl (Nat.le_of_ble_eq_true rfl) (Nat.le_of_ble_eq_true rfl) (rfl) dX12_add_44

set_option maxHeartbeats 4000000 in
set_option maxRecDepth 100000 in
/-- node -/
theorem kX8_node_6 {E : zEn} (hE : zOk E) (l : Launch) (D : va_G) (cA : Nat → ClassId) (K : Nat → Nat) (V : Nat → Nat) (x1 : Nat) (f1 : List Value) (x2 : Nat) (x3 : Nat) (f2 : List Value) (x4 : Nat) (x5 : Nat) (f3 : Nat → Int32) (hss : zSS E K V) (hf1_n : f1.length = 15) (hf1_14 : f1[14]? = some (.ref x2)) (hf1_4 : f1[4]? = some (.ref x3)) (hf1_9 : f1[9]? = some (.int 0)) (hf2_n : f2.length = 15) (hf2_10 : f2[10]? = some (.int 4)) (hf2_0 : f2[0]? = some (.ref x4)) (hf2_1 : f2[1]? = some (.ref x5)) : zMi E l yX8_node zwX8_node ({ frames := 1, cells := 0, slots := 0, locals := 23 }) D vwCl (zT cA) [.ref x1, .int 1] [(x1, .inr (8, f1)), (x3, .inl (cA 1, 6002, .inl (upd (fun _ => 0) 0 0))), (x2, .inr (12, f2)), (x4, .inl (cA 1, 32, .inl f3)), (x5, .inl (cA 1, 32, .inl (upd (upd (upd (fun _ => 0) 1 0) 2 0) 3 0)))] (S := Unit) (fun (r : Int32) (u : Unit) => (r = 4)) (fun (u : Unit) => [(x1, .inr (8, f1)), (x3, .inl (cA 1, 6002, .inl (upd (fun _ => 0) 0 0))), (x2, .inr (12, (f2.set 10 (.int 5)))), (x4, .inl (cA 1, 32, .inl (upd f3 4 1))), (x5, .inl (cA 1, 32, .inl (upd (upd (upd (upd (fun _ => 0) 1 0) 2 0) 3 0) 4 0)))]) := by
  refine zz_enteri (cc := cX8_node) (lv := [(0, .ref x1), (1, .int 1)]) hE 2 (by decide) rfl (Nat.le_of_ble_eq_true rfl) rfl ?_
  intro p e s m args below meth c X hr hin
  refine zz_aload_n X 0 dX8_node_0 rfl rfl ?_
  refine zz_get X 0 14 rfl rfl (by decide) (fun w h => List.mem_cons_of_mem _ (zf_X8 w h)) rfl (List.mem_cons_of_mem _ zm_31) hf1_14 dX8_node_1 ?_
  refine zz_iload_n X 1 dX8_node_4 rfl rfl ?_
  refine zz_aload_n X 0 dX8_node_5 rfl rfl ?_
  refine zz_get X 0 4 rfl rfl (by decide) (fun w h => List.mem_cons_of_mem _ (zf_X8 w h)) rfl (List.mem_cons_of_mem _ zm_21) hf1_4 dX8_node_6 ?_
  refine zz_aload_n X 0 dX8_node_9 rfl rfl ?_
  refine zz_get X 0 9 rfl rfl (by decide) (fun w h => List.mem_cons_of_mem _ (zf_X8 w h)) rfl (List.mem_cons_of_mem _ zm_26) hf1_9 dX8_node_10 ?_
  refine zz_iald X 1 1 rfl rfl (vp_in_nI (n := 0) (by decide) (by decide)) (0) rfl dX8_node_13 ?_
  refine zz_callVi X (rest := []) (As := [.int 1, .int 0]) (kX12_add_8 hE l D cA K V x2 f2 x4 x5 f3 hss (zq_len hf2_n (by simp only [List.length_set])) hf2_10 hf2_0 hf2_1) 2 (zgV zm_716 zm_717 zm_718 zm_681 zm_715) rfl (by decide +kernel) [2, 3, 4] [0, 1] [(x1, .inr (8, f1)), (x3, .inl (cA 1, 6002, .inl (upd (fun _ => 0) 0 0)))] rfl rfl (by decide) rfl (by decide) (by decide) ⟨Nat.le_of_ble_eq_true rfl, Nat.le_of_ble_eq_true rfl⟩ 0 rfl rfl rfl rfl rfl (Nat.le_of_ble_eq_true rfl) dX8_node_14 (Nat.le_of_ble_eq_true rfl) (Nat.le_of_ble_eq_true rfl) (fun r1 _ hw2 => ?_)
  obtain rfl := hw2
  refine zz_show (ws' := [(x1, .inr (8, f1)), (x3, .inl (cA 1, 6002, .inl (upd (fun _ => 0) 0 0))), (x2, .inr (12, (f2.set 10 (.int 5)))), (x4, .inl (cA 1, 32, .inl (upd f3 4 1))), (x5, .inl (cA 1, 32, .inl (upd (upd (upd (upd (fun _ => 0) 1 0) 2 0) 3 0) 4 0)))]) rfl ?_
  exact zz_iret X hr (()) [0, 1, 2, 3, 4] (by decide) rfl rfl (Nat.le_of_ble_eq_true rfl) (Nat.le_of_ble_eq_true rfl) (rfl) dX8_node_17

set_option maxHeartbeats 4000000 in
set_option maxRecDepth 100000 in
/-- is -/
theorem kX8_is_11 {E : zEn} (hE : zOk E) (l : Launch) (D : va_G) (cA : Nat → ClassId) (K : Nat → Nat) (V : Nat → Nat) (x1 : Nat) (f1 : List Value) (x2 : Nat) (hss : zSS E K V) (hf1_n : f1.length = 15) (hf1_11 : f1[11]? = some (.int (-1))) (hf1_3 : f1[3]? = some (.ref x2)) (hf1_9 : f1[9]? = some (.int 0)) : zMi E l yX8_is zwX8_is ({ frames := 0, cells := 0, slots := 0, locals := 0 }) D vwCl (zT cA) [.ref x1, .int 29] [(x1, .inr (8, f1)), (x2, .inl (cA 1, 6002, .inl (upd (fun _ => 0) 0 0)))] (S := Unit) (fun (r : Int32) (u : Unit) => (r = 0)) (fun (u : Unit) => [(x1, .inr (8, f1)), (x2, .inl (cA 1, 6002, .inl (upd (fun _ => 0) 0 0)))]) := by
  refine zz_enterz (cc := cX8_is) (lv := [(0, .ref x1), (1, .int 29)]) hE 2 (by decide) rfl (Nat.le_of_ble_eq_true rfl) rfl ?_
  intro p e s m args below meth c X hr hin
  refine zz_aload_n X 0 dX8_is_0 rfl rfl ?_
  refine zz_get X 0 11 rfl rfl (by decide) (fun w h => List.mem_cons_of_mem _ (zf_X8 w h)) rfl (List.mem_cons_of_mem _ zm_28) hf1_11 dX8_is_1 ?_
  refine zz_if_ge X 24 dX8_is_4 (by decide) (fun h => absurd h (by decide)) (fun _ => ?_)
  refine zz_aload_n X 0 dX8_is_7 rfl rfl ?_
  refine zz_get X 0 3 rfl rfl (by decide) (fun w h => List.mem_cons_of_mem _ (zf_X8 w h)) rfl (List.mem_cons_of_mem _ zm_20) hf1_3 dX8_is_8 ?_
  refine zz_aload_n X 0 dX8_is_11 rfl rfl ?_
  refine zz_get X 0 9 rfl rfl (by decide) (fun w h => List.mem_cons_of_mem _ (zf_X8 w h)) rfl (List.mem_cons_of_mem _ zm_26) hf1_9 dX8_is_12 ?_
  refine zz_iald X 1 1 rfl rfl (vp_in_nI (n := 0) (by decide) (by decide)) (0) rfl dX8_is_15 ?_
  refine zz_iload_n X 1 dX8_is_16 rfl rfl ?_
  refine zz_icmp_ne X 24 dX8_is_17 (by decide) (fun _ => ?_) (fun h => absurd h (by decide))
  refine zz_iconst X 0 dX8_is_24 rfl ?_
  exact zz_zret X hr (by decide) (()) [0, 1] (by decide) rfl rfl (Nat.le_of_ble_eq_true rfl) (Nat.le_of_ble_eq_true rfl) (rfl) dX8_is_25

set_option maxHeartbeats 4000000 in
set_option maxRecDepth 100000 in
/-- is -/
theorem kX8_is_12 {E : zEn} (hE : zOk E) (l : Launch) (D : va_G) (cA : Nat → ClassId) (K : Nat → Nat) (V : Nat → Nat) (x1 : Nat) (f1 : List Value) (x2 : Nat) (hss : zSS E K V) (hf1_n : f1.length = 15) (hf1_11 : f1[11]? = some (.int (-1))) (hf1_3 : f1[3]? = some (.ref x2)) (hf1_9 : f1[9]? = some (.int 0)) : zMi E l yX8_is zwX8_is ({ frames := 0, cells := 0, slots := 0, locals := 0 }) D vwCl (zT cA) [.ref x1, .int 2] [(x1, .inr (8, f1)), (x2, .inl (cA 1, 6002, .inl (upd (fun _ => 0) 0 0)))] (S := Unit) (fun (r : Int32) (u : Unit) => (r = 0)) (fun (u : Unit) => [(x1, .inr (8, f1)), (x2, .inl (cA 1, 6002, .inl (upd (fun _ => 0) 0 0)))]) := by
  refine zz_enterz (cc := cX8_is) (lv := [(0, .ref x1), (1, .int 2)]) hE 2 (by decide) rfl (Nat.le_of_ble_eq_true rfl) rfl ?_
  intro p e s m args below meth c X hr hin
  refine zz_aload_n X 0 dX8_is_0 rfl rfl ?_
  refine zz_get X 0 11 rfl rfl (by decide) (fun w h => List.mem_cons_of_mem _ (zf_X8 w h)) rfl (List.mem_cons_of_mem _ zm_28) hf1_11 dX8_is_1 ?_
  refine zz_if_ge X 24 dX8_is_4 (by decide) (fun h => absurd h (by decide)) (fun _ => ?_)
  refine zz_aload_n X 0 dX8_is_7 rfl rfl ?_
  refine zz_get X 0 3 rfl rfl (by decide) (fun w h => List.mem_cons_of_mem _ (zf_X8 w h)) rfl (List.mem_cons_of_mem _ zm_20) hf1_3 dX8_is_8 ?_
  refine zz_aload_n X 0 dX8_is_11 rfl rfl ?_
  refine zz_get X 0 9 rfl rfl (by decide) (fun w h => List.mem_cons_of_mem _ (zf_X8 w h)) rfl (List.mem_cons_of_mem _ zm_26) hf1_9 dX8_is_12 ?_
  refine zz_iald X 1 1 rfl rfl (vp_in_nI (n := 0) (by decide) (by decide)) (0) rfl dX8_is_15 ?_
  refine zz_iload_n X 1 dX8_is_16 rfl rfl ?_
  refine zz_icmp_ne X 24 dX8_is_17 (by decide) (fun _ => ?_) (fun h => absurd h (by decide))
  refine zz_iconst X 0 dX8_is_24 rfl ?_
  exact zz_zret X hr (by decide) (()) [0, 1] (by decide) rfl rfl (Nat.le_of_ble_eq_true rfl) (Nat.le_of_ble_eq_true rfl) (rfl) dX8_is_25

set_option maxHeartbeats 4000000 in
set_option maxRecDepth 100000 in
/-- is -/
theorem kX8_is_13 {E : zEn} (hE : zOk E) (l : Launch) (D : va_G) (cA : Nat → ClassId) (K : Nat → Nat) (V : Nat → Nat) (x1 : Nat) (f1 : List Value) (x2 : Nat) (hss : zSS E K V) (hf1_n : f1.length = 15) (hf1_11 : f1[11]? = some (.int (-1))) (hf1_3 : f1[3]? = some (.ref x2)) (hf1_9 : f1[9]? = some (.int 0)) : zMi E l yX8_is zwX8_is ({ frames := 0, cells := 0, slots := 0, locals := 0 }) D vwCl (zT cA) [.ref x1, .int 3] [(x1, .inr (8, f1)), (x2, .inl (cA 1, 6002, .inl (upd (fun _ => 0) 0 0)))] (S := Unit) (fun (r : Int32) (u : Unit) => (r = 0)) (fun (u : Unit) => [(x1, .inr (8, f1)), (x2, .inl (cA 1, 6002, .inl (upd (fun _ => 0) 0 0)))]) := by
  refine zz_enterz (cc := cX8_is) (lv := [(0, .ref x1), (1, .int 3)]) hE 2 (by decide) rfl (Nat.le_of_ble_eq_true rfl) rfl ?_
  intro p e s m args below meth c X hr hin
  refine zz_aload_n X 0 dX8_is_0 rfl rfl ?_
  refine zz_get X 0 11 rfl rfl (by decide) (fun w h => List.mem_cons_of_mem _ (zf_X8 w h)) rfl (List.mem_cons_of_mem _ zm_28) hf1_11 dX8_is_1 ?_
  refine zz_if_ge X 24 dX8_is_4 (by decide) (fun h => absurd h (by decide)) (fun _ => ?_)
  refine zz_aload_n X 0 dX8_is_7 rfl rfl ?_
  refine zz_get X 0 3 rfl rfl (by decide) (fun w h => List.mem_cons_of_mem _ (zf_X8 w h)) rfl (List.mem_cons_of_mem _ zm_20) hf1_3 dX8_is_8 ?_
  refine zz_aload_n X 0 dX8_is_11 rfl rfl ?_
  refine zz_get X 0 9 rfl rfl (by decide) (fun w h => List.mem_cons_of_mem _ (zf_X8 w h)) rfl (List.mem_cons_of_mem _ zm_26) hf1_9 dX8_is_12 ?_
  refine zz_iald X 1 1 rfl rfl (vp_in_nI (n := 0) (by decide) (by decide)) (0) rfl dX8_is_15 ?_
  refine zz_iload_n X 1 dX8_is_16 rfl rfl ?_
  refine zz_icmp_ne X 24 dX8_is_17 (by decide) (fun _ => ?_) (fun h => absurd h (by decide))
  refine zz_iconst X 0 dX8_is_24 rfl ?_
  exact zz_zret X hr (by decide) (()) [0, 1] (by decide) rfl rfl (Nat.le_of_ble_eq_true rfl) (Nat.le_of_ble_eq_true rfl) (rfl) dX8_is_25

set_option maxHeartbeats 4000000 in
set_option maxRecDepth 100000 in
/-- is -/
theorem kX8_is_14 {E : zEn} (hE : zOk E) (l : Launch) (D : va_G) (cA : Nat → ClassId) (K : Nat → Nat) (V : Nat → Nat) (x1 : Nat) (f1 : List Value) (x2 : Nat) (hss : zSS E K V) (hf1_n : f1.length = 15) (hf1_11 : f1[11]? = some (.int (-1))) (hf1_3 : f1[3]? = some (.ref x2)) (hf1_9 : f1[9]? = some (.int 0)) : zMi E l yX8_is zwX8_is ({ frames := 0, cells := 0, slots := 0, locals := 0 }) D vwCl (zT cA) [.ref x1, .int 17] [(x1, .inr (8, f1)), (x2, .inl (cA 1, 6002, .inl (upd (fun _ => 0) 0 0)))] (S := Unit) (fun (r : Int32) (u : Unit) => (r = 0)) (fun (u : Unit) => [(x1, .inr (8, f1)), (x2, .inl (cA 1, 6002, .inl (upd (fun _ => 0) 0 0)))]) := by
  refine zz_enterz (cc := cX8_is) (lv := [(0, .ref x1), (1, .int 17)]) hE 2 (by decide) rfl (Nat.le_of_ble_eq_true rfl) rfl ?_
  intro p e s m args below meth c X hr hin
  refine zz_aload_n X 0 dX8_is_0 rfl rfl ?_
  refine zz_get X 0 11 rfl rfl (by decide) (fun w h => List.mem_cons_of_mem _ (zf_X8 w h)) rfl (List.mem_cons_of_mem _ zm_28) hf1_11 dX8_is_1 ?_
  refine zz_if_ge X 24 dX8_is_4 (by decide) (fun h => absurd h (by decide)) (fun _ => ?_)
  refine zz_aload_n X 0 dX8_is_7 rfl rfl ?_
  refine zz_get X 0 3 rfl rfl (by decide) (fun w h => List.mem_cons_of_mem _ (zf_X8 w h)) rfl (List.mem_cons_of_mem _ zm_20) hf1_3 dX8_is_8 ?_
  refine zz_aload_n X 0 dX8_is_11 rfl rfl ?_
  refine zz_get X 0 9 rfl rfl (by decide) (fun w h => List.mem_cons_of_mem _ (zf_X8 w h)) rfl (List.mem_cons_of_mem _ zm_26) hf1_9 dX8_is_12 ?_
  refine zz_iald X 1 1 rfl rfl (vp_in_nI (n := 0) (by decide) (by decide)) (0) rfl dX8_is_15 ?_
  refine zz_iload_n X 1 dX8_is_16 rfl rfl ?_
  refine zz_icmp_ne X 24 dX8_is_17 (by decide) (fun _ => ?_) (fun h => absurd h (by decide))
  refine zz_iconst X 0 dX8_is_24 rfl ?_
  exact zz_zret X hr (by decide) (()) [0, 1] (by decide) rfl rfl (Nat.le_of_ble_eq_true rfl) (Nat.le_of_ble_eq_true rfl) (rfl) dX8_is_25

set_option maxHeartbeats 4000000 in
set_option maxRecDepth 100000 in
/-- is -/
theorem kX8_is_15 {E : zEn} (hE : zOk E) (l : Launch) (D : va_G) (cA : Nat → ClassId) (K : Nat → Nat) (V : Nat → Nat) (x1 : Nat) (f1 : List Value) (x2 : Nat) (hss : zSS E K V) (hf1_n : f1.length = 15) (hf1_11 : f1[11]? = some (.int (-1))) (hf1_3 : f1[3]? = some (.ref x2)) (hf1_9 : f1[9]? = some (.int 0)) : zMi E l yX8_is zwX8_is ({ frames := 0, cells := 0, slots := 0, locals := 0 }) D vwCl (zT cA) [.ref x1, .int 18] [(x1, .inr (8, f1)), (x2, .inl (cA 1, 6002, .inl (upd (fun _ => 0) 0 0)))] (S := Unit) (fun (r : Int32) (u : Unit) => (r = 0)) (fun (u : Unit) => [(x1, .inr (8, f1)), (x2, .inl (cA 1, 6002, .inl (upd (fun _ => 0) 0 0)))]) := by
  refine zz_enterz (cc := cX8_is) (lv := [(0, .ref x1), (1, .int 18)]) hE 2 (by decide) rfl (Nat.le_of_ble_eq_true rfl) rfl ?_
  intro p e s m args below meth c X hr hin
  refine zz_aload_n X 0 dX8_is_0 rfl rfl ?_
  refine zz_get X 0 11 rfl rfl (by decide) (fun w h => List.mem_cons_of_mem _ (zf_X8 w h)) rfl (List.mem_cons_of_mem _ zm_28) hf1_11 dX8_is_1 ?_
  refine zz_if_ge X 24 dX8_is_4 (by decide) (fun h => absurd h (by decide)) (fun _ => ?_)
  refine zz_aload_n X 0 dX8_is_7 rfl rfl ?_
  refine zz_get X 0 3 rfl rfl (by decide) (fun w h => List.mem_cons_of_mem _ (zf_X8 w h)) rfl (List.mem_cons_of_mem _ zm_20) hf1_3 dX8_is_8 ?_
  refine zz_aload_n X 0 dX8_is_11 rfl rfl ?_
  refine zz_get X 0 9 rfl rfl (by decide) (fun w h => List.mem_cons_of_mem _ (zf_X8 w h)) rfl (List.mem_cons_of_mem _ zm_26) hf1_9 dX8_is_12 ?_
  refine zz_iald X 1 1 rfl rfl (vp_in_nI (n := 0) (by decide) (by decide)) (0) rfl dX8_is_15 ?_
  refine zz_iload_n X 1 dX8_is_16 rfl rfl ?_
  refine zz_icmp_ne X 24 dX8_is_17 (by decide) (fun _ => ?_) (fun h => absurd h (by decide))
  refine zz_iconst X 0 dX8_is_24 rfl ?_
  exact zz_zret X hr (by decide) (()) [0, 1] (by decide) rfl rfl (Nat.le_of_ble_eq_true rfl) (Nat.le_of_ble_eq_true rfl) (rfl) dX8_is_25

set_option maxHeartbeats 4000000 in
set_option maxRecDepth 100000 in
/-- is -/
theorem kX8_is_16 {E : zEn} (hE : zOk E) (l : Launch) (D : va_G) (cA : Nat → ClassId) (K : Nat → Nat) (V : Nat → Nat) (x1 : Nat) (f1 : List Value) (x2 : Nat) (hss : zSS E K V) (hf1_n : f1.length = 15) (hf1_11 : f1[11]? = some (.int (-1))) (hf1_3 : f1[3]? = some (.ref x2)) (hf1_9 : f1[9]? = some (.int 0)) : zMi E l yX8_is zwX8_is ({ frames := 0, cells := 0, slots := 0, locals := 0 }) D vwCl (zT cA) [.ref x1, .int 19] [(x1, .inr (8, f1)), (x2, .inl (cA 1, 6002, .inl (upd (fun _ => 0) 0 0)))] (S := Unit) (fun (r : Int32) (u : Unit) => (r = 0)) (fun (u : Unit) => [(x1, .inr (8, f1)), (x2, .inl (cA 1, 6002, .inl (upd (fun _ => 0) 0 0)))]) := by
  refine zz_enterz (cc := cX8_is) (lv := [(0, .ref x1), (1, .int 19)]) hE 2 (by decide) rfl (Nat.le_of_ble_eq_true rfl) rfl ?_
  intro p e s m args below meth c X hr hin
  refine zz_aload_n X 0 dX8_is_0 rfl rfl ?_
  refine zz_get X 0 11 rfl rfl (by decide) (fun w h => List.mem_cons_of_mem _ (zf_X8 w h)) rfl (List.mem_cons_of_mem _ zm_28) hf1_11 dX8_is_1 ?_
  refine zz_if_ge X 24 dX8_is_4 (by decide) (fun h => absurd h (by decide)) (fun _ => ?_)
  refine zz_aload_n X 0 dX8_is_7 rfl rfl ?_
  refine zz_get X 0 3 rfl rfl (by decide) (fun w h => List.mem_cons_of_mem _ (zf_X8 w h)) rfl (List.mem_cons_of_mem _ zm_20) hf1_3 dX8_is_8 ?_
  refine zz_aload_n X 0 dX8_is_11 rfl rfl ?_
  refine zz_get X 0 9 rfl rfl (by decide) (fun w h => List.mem_cons_of_mem _ (zf_X8 w h)) rfl (List.mem_cons_of_mem _ zm_26) hf1_9 dX8_is_12 ?_
  refine zz_iald X 1 1 rfl rfl (vp_in_nI (n := 0) (by decide) (by decide)) (0) rfl dX8_is_15 ?_
  refine zz_iload_n X 1 dX8_is_16 rfl rfl ?_
  refine zz_icmp_ne X 24 dX8_is_17 (by decide) (fun _ => ?_) (fun h => absurd h (by decide))
  refine zz_iconst X 0 dX8_is_24 rfl ?_
  exact zz_zret X hr (by decide) (()) [0, 1] (by decide) rfl rfl (Nat.le_of_ble_eq_true rfl) (Nat.le_of_ble_eq_true rfl) (rfl) dX8_is_25

set_option maxHeartbeats 4000000 in
set_option maxRecDepth 100000 in
/-- readScalar -/
theorem kX8_readScalar_1 {E : zEn} (hE : zOk E) (l : Launch) (D : va_G) (cA : Nat → ClassId) (K : Nat → Nat) (V : Nat → Nat) (x1 : Nat) (f1 : List Value) (x2 : Nat) (x3 : Nat) (x4 : Nat) (f2 : List Value) (x5 : Nat) (x6 : Nat) (x7 : Nat) (f3 : Nat → Int32) (hss : zSS E K V) (hf1_n : f1.length = 15) (hf1_14 : f1[14]? = some (.ref x2)) (hf1_4 : f1[4]? = some (.ref x3)) (hf1_9 : f1[9]? = some (.int 0)) (hf1_11 : f1[11]? = some (.int (-1))) (hf1_3 : f1[3]? = some (.ref x4)) (hf2_n : f2.length = 15) (hf2_10 : f2[10]? = some (.int 4)) (hf2_0 : f2[0]? = some (.ref x5)) (hf2_1 : f2[1]? = some (.ref x6)) (hf2_2 : f2[2]? = some (.ref x7)) : zMi E l yX8_readScalar zwX8_readScalar ({ frames := 2, cells := 0, slots := 0, locals := 44 }) D vwCl (zT cA) [.ref x1] [(x1, .inr (8, f1)), (x2, .inr (12, f2)), (x3, .inl (cA 1, 6002, .inl (upd (fun _ => 0) 0 0))), (x5, .inl (cA 1, 32, .inl f3)), (x6, .inl (cA 1, 32, .inl (upd (upd (upd (fun _ => 0) 1 0) 2 0) 3 0))), (x7, .inl (cA 1, 32, .inl (fun _ => 0))), (x4, .inl (cA 1, 6002, .inl (upd (fun _ => 0) 0 0)))] (S := Unit) (fun (r : Int32) (u : Unit) => (r = 4)) (fun (u : Unit) => [(x1, .inr (8, (f1.set 11 (.int 0)))), (x2, .inr (12, (f2.set 10 (.int 5)))), (x3, .inl (cA 1, 6002, .inl (upd (fun _ => 0) 0 0))), (x5, .inl (cA 1, 32, .inl (upd f3 4 1))), (x6, .inl (cA 1, 32, .inl (upd (upd (upd (upd (fun _ => 0) 1 0) 2 0) 3 0) 4 0))), (x7, .inl (cA 1, 32, .inl (upd (fun _ => 0) 4 1))), (x4, .inl (cA 1, 6002, .inl (upd (fun _ => 0) 0 0)))]) := by
  refine zz_enteri (cc := cX8_readScalar) (lv := [(0, .ref x1)]) hE 3 (by decide) rfl (Nat.le_of_ble_eq_true rfl) rfl ?_
  intro p e s m args below meth c X hr hin
  refine zz_aload_n X 0 dX8_readScalar_0 rfl rfl ?_
  refine zz_iconst X 1 dX8_readScalar_1 rfl ?_
  refine zz_callVi X (rest := []) (As := [.int 1]) (kX8_node_6 hE l D cA K V x1 f1 x2 x3 f2 x5 x6 f3 hss (zq_len hf1_n (by simp only [List.length_set])) hf1_14 hf1_4 hf1_9 (zq_len hf2_n (by simp only [List.length_set])) hf2_10 hf2_0 hf2_1) 1 (zgV zm_720 zm_721 zm_722 zm_273 zm_719) rfl (by decide +kernel) [0, 2, 1, 3, 4] [5, 6] [(x7, .inl (cA 1, 32, .inl (fun _ => 0))), (x4, .inl (cA 1, 6002, .inl (upd (fun _ => 0) 0 0)))] rfl rfl (by decide) rfl (by decide) (by decide) ⟨Nat.le_of_ble_eq_true rfl, Nat.le_of_ble_eq_true rfl⟩ 0 rfl rfl rfl rfl rfl (Nat.le_of_ble_eq_true rfl) dX8_readScalar_2 (Nat.le_of_ble_eq_true rfl) (Nat.le_of_ble_eq_true rfl) (fun r1 _ hw2 => ?_)
  obtain rfl := hw2
  refine zz_show (ws' := [(x7, .inl (cA 1, 32, .inl (fun _ => 0))), (x4, .inl (cA 1, 6002, .inl (upd (fun _ => 0) 0 0))), (x1, .inr (8, f1)), (x3, .inl (cA 1, 6002, .inl (upd (fun _ => 0) 0 0))), (x2, .inr (12, (f2.set 10 (.int 5)))), (x5, .inl (cA 1, 32, .inl (upd f3 4 1))), (x6, .inl (cA 1, 32, .inl (upd (upd (upd (upd (fun _ => 0) 1 0) 2 0) 3 0) 4 0)))]) rfl ?_
  refine zz_istore_n X [(1, .int 4), (0, .ref x1)] dX8_readScalar_5 rfl (by decide) rfl ?_
  refine zz_aload_n X 1 dX8_readScalar_6 rfl rfl ?_
  refine zz_get X 2 14 rfl rfl (by decide) (fun w h => List.mem_cons_of_mem _ (zf_X8 w h)) rfl (List.mem_cons_of_mem _ zm_31) hf1_14 dX8_readScalar_7 ?_
  refine zz_get X 4 2 rfl rfl (by decide) (fun w h => List.mem_cons_of_mem _ (zf_X12 w h)) rfl (List.mem_cons_of_mem _ zm_723) (zq_oth (by decide) (hf2_2)) dX8_readScalar_10 ?_
  refine zz_iload_n X 0 dX8_readScalar_13 rfl rfl ?_
  refine zz_iconst X 1 dX8_readScalar_14 rfl ?_
  refine zz_iast X 0 1 rfl rfl (vp_in_nI (n := 4) (by decide) (by decide)) 4 (by decide) dX8_readScalar_15 [(x7, .inl (cA 1, 32, .inl (upd (fun _ => 0) 4 1))), (x4, .inl (cA 1, 6002, .inl (upd (fun _ => 0) 0 0))), (x1, .inr (8, f1)), (x3, .inl (cA 1, 6002, .inl (upd (fun _ => 0) 0 0))), (x2, .inr (12, (f2.set 10 (.int 5)))), (x5, .inl (cA 1, 32, .inl (upd f3 4 1))), (x6, .inl (cA 1, 32, .inl (upd (upd (upd (upd (fun _ => 0) 1 0) 2 0) 3 0) 4 0)))] rfl ?_
  refine zz_aload_n X 1 dX8_readScalar_16 rfl rfl ?_
  refine zz_bipush X 29 dX8_readScalar_17 rfl ?_
  refine zz_callVi X (rest := []) (As := [.int 29]) (kX8_is_11 hE l D cA K V x1 f1 x4 hss (zq_len hf1_n (by simp only [List.length_set])) hf1_11 hf1_3 hf1_9) 1 (zgV zm_704 zm_705 zm_706 zm_273 zm_703) rfl (by decide +kernel) [2, 1] [0, 3, 4, 5, 6] [(x7, .inl (cA 1, 32, .inl (upd (fun _ => 0) 4 1))), (x3, .inl (cA 1, 6002, .inl (upd (fun _ => 0) 0 0))), (x2, .inr (12, (f2.set 10 (.int 5)))), (x5, .inl (cA 1, 32, .inl (upd f3 4 1))), (x6, .inl (cA 1, 32, .inl (upd (upd (upd (upd (fun _ => 0) 1 0) 2 0) 3 0) 4 0)))] rfl rfl (by decide) rfl (by decide) (by decide) ⟨Nat.le_of_ble_eq_true rfl, Nat.le_of_ble_eq_true rfl⟩ 0 rfl rfl rfl rfl rfl (Nat.le_of_ble_eq_true rfl) dX8_readScalar_19 (Nat.le_of_ble_eq_true rfl) (Nat.le_of_ble_eq_true rfl) (fun r3 _ hw4 => ?_)
  obtain rfl := hw4
  refine zz_show (ws' := [(x7, .inl (cA 1, 32, .inl (upd (fun _ => 0) 4 1))), (x3, .inl (cA 1, 6002, .inl (upd (fun _ => 0) 0 0))), (x2, .inr (12, (f2.set 10 (.int 5)))), (x5, .inl (cA 1, 32, .inl (upd f3 4 1))), (x6, .inl (cA 1, 32, .inl (upd (upd (upd (upd (fun _ => 0) 1 0) 2 0) 3 0) 4 0))), (x1, .inr (8, f1)), (x4, .inl (cA 1, 6002, .inl (upd (fun _ => 0) 0 0)))]) rfl ?_
  refine zz_if_eq X 120 dX8_readScalar_22 (by decide) (fun _ => ?_) (fun h => absurd (by decide) h)
  refine zz_aload_n X 1 dX8_readScalar_120 rfl rfl ?_
  refine zz_iconst X 2 dX8_readScalar_121 rfl ?_
  refine zz_callVi X (rest := []) (As := [.int 2]) (kX8_is_12 hE l D cA K V x1 f1 x4 hss (zq_len hf1_n (by simp only [List.length_set])) hf1_11 hf1_3 hf1_9) 1 (zgV zm_704 zm_705 zm_706 zm_273 zm_703) rfl (by decide +kernel) [5, 6] [0, 1, 2, 3, 4] [(x7, .inl (cA 1, 32, .inl (upd (fun _ => 0) 4 1))), (x3, .inl (cA 1, 6002, .inl (upd (fun _ => 0) 0 0))), (x2, .inr (12, (f2.set 10 (.int 5)))), (x5, .inl (cA 1, 32, .inl (upd f3 4 1))), (x6, .inl (cA 1, 32, .inl (upd (upd (upd (upd (fun _ => 0) 1 0) 2 0) 3 0) 4 0)))] rfl rfl (by decide) rfl (by decide) (by decide) ⟨Nat.le_of_ble_eq_true rfl, Nat.le_of_ble_eq_true rfl⟩ 0 rfl rfl rfl rfl rfl (Nat.le_of_ble_eq_true rfl) dX8_readScalar_122 (Nat.le_of_ble_eq_true rfl) (Nat.le_of_ble_eq_true rfl) (fun r5 _ hw6 => ?_)
  obtain rfl := hw6
  refine zz_show (ws' := [(x7, .inl (cA 1, 32, .inl (upd (fun _ => 0) 4 1))), (x3, .inl (cA 1, 6002, .inl (upd (fun _ => 0) 0 0))), (x2, .inr (12, (f2.set 10 (.int 5)))), (x5, .inl (cA 1, 32, .inl (upd f3 4 1))), (x6, .inl (cA 1, 32, .inl (upd (upd (upd (upd (fun _ => 0) 1 0) 2 0) 3 0) 4 0))), (x1, .inr (8, f1)), (x4, .inl (cA 1, 6002, .inl (upd (fun _ => 0) 0 0)))]) rfl ?_
  refine zz_if_ne X 136 dX8_readScalar_125 (by decide) (fun h => absurd (by decide) h) (fun _ => ?_)
  refine zz_aload_n X 1 dX8_readScalar_128 rfl rfl ?_
  refine zz_iconst X 3 dX8_readScalar_129 rfl ?_
  refine zz_callVi X (rest := []) (As := [.int 3]) (kX8_is_13 hE l D cA K V x1 f1 x4 hss (zq_len hf1_n (by simp only [List.length_set])) hf1_11 hf1_3 hf1_9) 1 (zgV zm_704 zm_705 zm_706 zm_273 zm_703) rfl (by decide +kernel) [5, 6] [0, 1, 2, 3, 4] [(x7, .inl (cA 1, 32, .inl (upd (fun _ => 0) 4 1))), (x3, .inl (cA 1, 6002, .inl (upd (fun _ => 0) 0 0))), (x2, .inr (12, (f2.set 10 (.int 5)))), (x5, .inl (cA 1, 32, .inl (upd f3 4 1))), (x6, .inl (cA 1, 32, .inl (upd (upd (upd (upd (fun _ => 0) 1 0) 2 0) 3 0) 4 0)))] rfl rfl (by decide) rfl (by decide) (by decide) ⟨Nat.le_of_ble_eq_true rfl, Nat.le_of_ble_eq_true rfl⟩ 0 rfl rfl rfl rfl rfl (Nat.le_of_ble_eq_true rfl) dX8_readScalar_130 (Nat.le_of_ble_eq_true rfl) (Nat.le_of_ble_eq_true rfl) (fun r7 _ hw8 => ?_)
  obtain rfl := hw8
  refine zz_show (ws' := [(x7, .inl (cA 1, 32, .inl (upd (fun _ => 0) 4 1))), (x3, .inl (cA 1, 6002, .inl (upd (fun _ => 0) 0 0))), (x2, .inr (12, (f2.set 10 (.int 5)))), (x5, .inl (cA 1, 32, .inl (upd f3 4 1))), (x6, .inl (cA 1, 32, .inl (upd (upd (upd (upd (fun _ => 0) 1 0) 2 0) 3 0) 4 0))), (x1, .inr (8, f1)), (x4, .inl (cA 1, 6002, .inl (upd (fun _ => 0) 0 0)))]) rfl ?_
  refine zz_if_eq X 161 dX8_readScalar_133 (by decide) (fun _ => ?_) (fun h => absurd (by decide) h)
  refine zz_aload_n X 1 dX8_readScalar_161 rfl rfl ?_
  refine zz_bipush X 17 dX8_readScalar_162 rfl ?_
  refine zz_callVi X (rest := []) (As := [.int 17]) (kX8_is_14 hE l D cA K V x1 f1 x4 hss (zq_len hf1_n (by simp only [List.length_set])) hf1_11 hf1_3 hf1_9) 1 (zgV zm_704 zm_705 zm_706 zm_273 zm_703) rfl (by decide +kernel) [5, 6] [0, 1, 2, 3, 4] [(x7, .inl (cA 1, 32, .inl (upd (fun _ => 0) 4 1))), (x3, .inl (cA 1, 6002, .inl (upd (fun _ => 0) 0 0))), (x2, .inr (12, (f2.set 10 (.int 5)))), (x5, .inl (cA 1, 32, .inl (upd f3 4 1))), (x6, .inl (cA 1, 32, .inl (upd (upd (upd (upd (fun _ => 0) 1 0) 2 0) 3 0) 4 0)))] rfl rfl (by decide) rfl (by decide) (by decide) ⟨Nat.le_of_ble_eq_true rfl, Nat.le_of_ble_eq_true rfl⟩ 0 rfl rfl rfl rfl rfl (Nat.le_of_ble_eq_true rfl) dX8_readScalar_164 (Nat.le_of_ble_eq_true rfl) (Nat.le_of_ble_eq_true rfl) (fun r9 _ hw10 => ?_)
  obtain rfl := hw10
  refine zz_show (ws' := [(x7, .inl (cA 1, 32, .inl (upd (fun _ => 0) 4 1))), (x3, .inl (cA 1, 6002, .inl (upd (fun _ => 0) 0 0))), (x2, .inr (12, (f2.set 10 (.int 5)))), (x5, .inl (cA 1, 32, .inl (upd f3 4 1))), (x6, .inl (cA 1, 32, .inl (upd (upd (upd (upd (fun _ => 0) 1 0) 2 0) 3 0) 4 0))), (x1, .inr (8, f1)), (x4, .inl (cA 1, 6002, .inl (upd (fun _ => 0) 0 0)))]) rfl ?_
  refine zz_if_ne X 188 dX8_readScalar_167 (by decide) (fun h => absurd (by decide) h) (fun _ => ?_)
  refine zz_aload_n X 1 dX8_readScalar_170 rfl rfl ?_
  refine zz_bipush X 18 dX8_readScalar_171 rfl ?_
  refine zz_callVi X (rest := []) (As := [.int 18]) (kX8_is_15 hE l D cA K V x1 f1 x4 hss (zq_len hf1_n (by simp only [List.length_set])) hf1_11 hf1_3 hf1_9) 1 (zgV zm_704 zm_705 zm_706 zm_273 zm_703) rfl (by decide +kernel) [5, 6] [0, 1, 2, 3, 4] [(x7, .inl (cA 1, 32, .inl (upd (fun _ => 0) 4 1))), (x3, .inl (cA 1, 6002, .inl (upd (fun _ => 0) 0 0))), (x2, .inr (12, (f2.set 10 (.int 5)))), (x5, .inl (cA 1, 32, .inl (upd f3 4 1))), (x6, .inl (cA 1, 32, .inl (upd (upd (upd (upd (fun _ => 0) 1 0) 2 0) 3 0) 4 0)))] rfl rfl (by decide) rfl (by decide) (by decide) ⟨Nat.le_of_ble_eq_true rfl, Nat.le_of_ble_eq_true rfl⟩ 0 rfl rfl rfl rfl rfl (Nat.le_of_ble_eq_true rfl) dX8_readScalar_173 (Nat.le_of_ble_eq_true rfl) (Nat.le_of_ble_eq_true rfl) (fun r11 _ hw12 => ?_)
  obtain rfl := hw12
  refine zz_show (ws' := [(x7, .inl (cA 1, 32, .inl (upd (fun _ => 0) 4 1))), (x3, .inl (cA 1, 6002, .inl (upd (fun _ => 0) 0 0))), (x2, .inr (12, (f2.set 10 (.int 5)))), (x5, .inl (cA 1, 32, .inl (upd f3 4 1))), (x6, .inl (cA 1, 32, .inl (upd (upd (upd (upd (fun _ => 0) 1 0) 2 0) 3 0) 4 0))), (x1, .inr (8, f1)), (x4, .inl (cA 1, 6002, .inl (upd (fun _ => 0) 0 0)))]) rfl ?_
  refine zz_if_ne X 188 dX8_readScalar_176 (by decide) (fun h => absurd (by decide) h) (fun _ => ?_)
  refine zz_aload_n X 1 dX8_readScalar_179 rfl rfl ?_
  refine zz_bipush X 19 dX8_readScalar_180 rfl ?_
  refine zz_callVi X (rest := []) (As := [.int 19]) (kX8_is_16 hE l D cA K V x1 f1 x4 hss (zq_len hf1_n (by simp only [List.length_set])) hf1_11 hf1_3 hf1_9) 1 (zgV zm_704 zm_705 zm_706 zm_273 zm_703) rfl (by decide +kernel) [5, 6] [0, 1, 2, 3, 4] [(x7, .inl (cA 1, 32, .inl (upd (fun _ => 0) 4 1))), (x3, .inl (cA 1, 6002, .inl (upd (fun _ => 0) 0 0))), (x2, .inr (12, (f2.set 10 (.int 5)))), (x5, .inl (cA 1, 32, .inl (upd f3 4 1))), (x6, .inl (cA 1, 32, .inl (upd (upd (upd (upd (fun _ => 0) 1 0) 2 0) 3 0) 4 0)))] rfl rfl (by decide) rfl (by decide) (by decide) ⟨Nat.le_of_ble_eq_true rfl, Nat.le_of_ble_eq_true rfl⟩ 0 rfl rfl rfl rfl rfl (Nat.le_of_ble_eq_true rfl) dX8_readScalar_182 (Nat.le_of_ble_eq_true rfl) (Nat.le_of_ble_eq_true rfl) (fun r13 _ hw14 => ?_)
  obtain rfl := hw14
  refine zz_show (ws' := [(x7, .inl (cA 1, 32, .inl (upd (fun _ => 0) 4 1))), (x3, .inl (cA 1, 6002, .inl (upd (fun _ => 0) 0 0))), (x2, .inr (12, (f2.set 10 (.int 5)))), (x5, .inl (cA 1, 32, .inl (upd f3 4 1))), (x6, .inl (cA 1, 32, .inl (upd (upd (upd (upd (fun _ => 0) 1 0) 2 0) 3 0) 4 0))), (x1, .inr (8, f1)), (x4, .inl (cA 1, 6002, .inl (upd (fun _ => 0) 0 0)))]) rfl ?_
  refine zz_if_eq X 231 dX8_readScalar_185 (by decide) (fun _ => ?_) (fun h => absurd (by decide) h)
  refine zz_aload_n X 1 dX8_readScalar_231 rfl rfl ?_
  refine zz_callVv X (rest := []) (As := []) (kX8_fail_1 hE l D cA K V x1 f1 x3 hss (zq_len hf1_n (by simp only [List.length_set])) hf1_11 hf1_4 hf1_9) 0 (zgV zm_708 zm_709 zm_710 zm_273 zm_707) rfl (by decide +kernel) [5, 1] [0, 2, 3, 4, 6] [(x7, .inl (cA 1, 32, .inl (upd (fun _ => 0) 4 1))), (x2, .inr (12, (f2.set 10 (.int 5)))), (x5, .inl (cA 1, 32, .inl (upd f3 4 1))), (x6, .inl (cA 1, 32, .inl (upd (upd (upd (upd (fun _ => 0) 1 0) 2 0) 3 0) 4 0))), (x4, .inl (cA 1, 6002, .inl (upd (fun _ => 0) 0 0)))] rfl rfl (by decide) rfl (by decide) (by decide) ⟨Nat.le_of_ble_eq_true rfl, Nat.le_of_ble_eq_true rfl⟩ 0 rfl rfl rfl rfl rfl (Nat.le_of_ble_eq_true rfl) dX8_readScalar_232 (Nat.le_of_ble_eq_true rfl) (Nat.le_of_ble_eq_true rfl) (fun _ hw15 => ?_)
  refine zz_show (ws' := [(x7, .inl (cA 1, 32, .inl (upd (fun _ => 0) 4 1))), (x2, .inr (12, (f2.set 10 (.int 5)))), (x5, .inl (cA 1, 32, .inl (upd f3 4 1))), (x6, .inl (cA 1, 32, .inl (upd (upd (upd (upd (fun _ => 0) 1 0) 2 0) 3 0) 4 0))), (x4, .inl (cA 1, 6002, .inl (upd (fun _ => 0) 0 0))), (x1, .inr (8, (f1.set 11 (.int 0)))), (x3, .inl (cA 1, 6002, .inl (upd (fun _ => 0) 0 0)))]) rfl ?_
  refine zz_iload_n X 0 dX8_readScalar_235 rfl rfl ?_
  exact zz_iret X hr (()) [5, 1, 6, 2, 3, 0, 4] (by decide) rfl rfl (Nat.le_of_ble_eq_true rfl) (Nat.le_of_ble_eq_true rfl) (rfl) dX8_readScalar_236

set_option maxHeartbeats 4000000 in
set_option maxRecDepth 100000 in
/-- readTerm -/
theorem kX8_readTerm_1 {E : zEn} (hE : zOk E) (l : Launch) (D : va_G) (cA : Nat → ClassId) (K : Nat → Nat) (V : Nat → Nat) (x1 : Nat) (f1 : List Value) (x2 : Nat) (x3 : Nat) (x4 : Nat) (f2 : List Value) (x5 : Nat) (x6 : Nat) (x7 : Nat) (f3 : Nat → Int32) (hss : zSS E K V) (hf1_n : f1.length = 15) (hf1_11 : f1[11]? = some (.int (-1))) (hf1_3 : f1[3]? = some (.ref x2)) (hf1_9 : f1[9]? = some (.int 0)) (hf1_14 : f1[14]? = some (.ref x3)) (hf1_4 : f1[4]? = some (.ref x4)) (hf2_n : f2.length = 15) (hf2_10 : f2[10]? = some (.int 4)) (hf2_0 : f2[0]? = some (.ref x5)) (hf2_1 : f2[1]? = some (.ref x6)) (hf2_2 : f2[2]? = some (.ref x7)) : zMi E l yX8_readTerm zwX8_readTerm ({ frames := 3, cells := 0, slots := 0, locals := 66 }) D vwCl (zT cA) [.ref x1] [(x1, .inr (8, f1)), (x2, .inl (cA 1, 6002, .inl (upd (fun _ => 0) 0 0))), (x3, .inr (12, f2)), (x4, .inl (cA 1, 6002, .inl (upd (fun _ => 0) 0 0))), (x5, .inl (cA 1, 32, .inl f3)), (x6, .inl (cA 1, 32, .inl (upd (upd (upd (fun _ => 0) 1 0) 2 0) 3 0))), (x7, .inl (cA 1, 32, .inl (fun _ => 0)))] (S := Unit) (fun (r : Int32) (u : Unit) => (r = 4)) (fun (u : Unit) => [(x1, .inr (8, (f1.set 11 (.int 0)))), (x2, .inl (cA 1, 6002, .inl (upd (fun _ => 0) 0 0))), (x3, .inr (12, (f2.set 10 (.int 5)))), (x4, .inl (cA 1, 6002, .inl (upd (fun _ => 0) 0 0))), (x5, .inl (cA 1, 32, .inl (upd f3 4 1))), (x6, .inl (cA 1, 32, .inl (upd (upd (upd (upd (fun _ => 0) 1 0) 2 0) 3 0) 4 0))), (x7, .inl (cA 1, 32, .inl (upd (fun _ => 0) 4 1)))]) := by
  refine zz_enteri (cc := cX8_readTerm) (lv := [(0, .ref x1)]) hE 2 (by decide) rfl (Nat.le_of_ble_eq_true rfl) rfl ?_
  intro p e s m args below meth c X hr hin
  refine zz_aload_n X 0 dX8_readTerm_0 rfl rfl ?_
  refine zz_iconst X 1 dX8_readTerm_1 rfl ?_
  refine zz_callVi X (rest := []) (As := [.int 1]) (kX8_is_7 hE l D cA K V x1 f1 x2 hss (zq_len hf1_n (by simp only [List.length_set])) hf1_11 hf1_3 hf1_9) 1 (zgV zm_704 zm_705 zm_706 zm_273 zm_703) rfl (by decide +kernel) [0, 1] [2, 3, 4, 5, 6] [(x3, .inr (12, f2)), (x4, .inl (cA 1, 6002, .inl (upd (fun _ => 0) 0 0))), (x5, .inl (cA 1, 32, .inl f3)), (x6, .inl (cA 1, 32, .inl (upd (upd (upd (fun _ => 0) 1 0) 2 0) 3 0))), (x7, .inl (cA 1, 32, .inl (fun _ => 0)))] rfl rfl (by decide) rfl (by decide) (by decide) ⟨Nat.le_of_ble_eq_true rfl, Nat.le_of_ble_eq_true rfl⟩ 0 rfl rfl rfl rfl rfl (Nat.le_of_ble_eq_true rfl) dX8_readTerm_2 (Nat.le_of_ble_eq_true rfl) (Nat.le_of_ble_eq_true rfl) (fun r1 _ hw2 => ?_)
  obtain rfl := hw2
  refine zz_show (ws' := [(x3, .inr (12, f2)), (x4, .inl (cA 1, 6002, .inl (upd (fun _ => 0) 0 0))), (x5, .inl (cA 1, 32, .inl f3)), (x6, .inl (cA 1, 32, .inl (upd (upd (upd (fun _ => 0) 1 0) 2 0) 3 0))), (x7, .inl (cA 1, 32, .inl (fun _ => 0))), (x1, .inr (8, f1)), (x2, .inl (cA 1, 6002, .inl (upd (fun _ => 0) 0 0)))]) rfl ?_
  refine zz_if_eq X 13 dX8_readTerm_5 (by decide) (fun _ => ?_) (fun h => absurd (by decide) h)
  refine zz_aload_n X 0 dX8_readTerm_13 rfl rfl ?_
  refine zz_bipush X 35 dX8_readTerm_14 rfl ?_
  refine zz_callVi X (rest := []) (As := [.int 35]) (kX8_is_8 hE l D cA K V x1 f1 x2 hss (zq_len hf1_n (by simp only [List.length_set])) hf1_11 hf1_3 hf1_9) 1 (zgV zm_704 zm_705 zm_706 zm_273 zm_703) rfl (by decide +kernel) [5, 6] [0, 1, 2, 3, 4] [(x3, .inr (12, f2)), (x4, .inl (cA 1, 6002, .inl (upd (fun _ => 0) 0 0))), (x5, .inl (cA 1, 32, .inl f3)), (x6, .inl (cA 1, 32, .inl (upd (upd (upd (fun _ => 0) 1 0) 2 0) 3 0))), (x7, .inl (cA 1, 32, .inl (fun _ => 0)))] rfl rfl (by decide) rfl (by decide) (by decide) ⟨Nat.le_of_ble_eq_true rfl, Nat.le_of_ble_eq_true rfl⟩ 0 rfl rfl rfl rfl rfl (Nat.le_of_ble_eq_true rfl) dX8_readTerm_16 (Nat.le_of_ble_eq_true rfl) (Nat.le_of_ble_eq_true rfl) (fun r3 _ hw4 => ?_)
  obtain rfl := hw4
  refine zz_show (ws' := [(x3, .inr (12, f2)), (x4, .inl (cA 1, 6002, .inl (upd (fun _ => 0) 0 0))), (x5, .inl (cA 1, 32, .inl f3)), (x6, .inl (cA 1, 32, .inl (upd (upd (upd (fun _ => 0) 1 0) 2 0) 3 0))), (x7, .inl (cA 1, 32, .inl (fun _ => 0))), (x1, .inr (8, f1)), (x2, .inl (cA 1, 6002, .inl (upd (fun _ => 0) 0 0)))]) rfl ?_
  refine zz_if_eq X 54 dX8_readTerm_19 (by decide) (fun _ => ?_) (fun h => absurd (by decide) h)
  refine zz_aload_n X 0 dX8_readTerm_54 rfl rfl ?_
  refine zz_bipush X 37 dX8_readTerm_55 rfl ?_
  refine zz_callVi X (rest := []) (As := [.int 37]) (kX8_is_9 hE l D cA K V x1 f1 x2 hss (zq_len hf1_n (by simp only [List.length_set])) hf1_11 hf1_3 hf1_9) 1 (zgV zm_704 zm_705 zm_706 zm_273 zm_703) rfl (by decide +kernel) [5, 6] [0, 1, 2, 3, 4] [(x3, .inr (12, f2)), (x4, .inl (cA 1, 6002, .inl (upd (fun _ => 0) 0 0))), (x5, .inl (cA 1, 32, .inl f3)), (x6, .inl (cA 1, 32, .inl (upd (upd (upd (fun _ => 0) 1 0) 2 0) 3 0))), (x7, .inl (cA 1, 32, .inl (fun _ => 0)))] rfl rfl (by decide) rfl (by decide) (by decide) ⟨Nat.le_of_ble_eq_true rfl, Nat.le_of_ble_eq_true rfl⟩ 0 rfl rfl rfl rfl rfl (Nat.le_of_ble_eq_true rfl) dX8_readTerm_57 (Nat.le_of_ble_eq_true rfl) (Nat.le_of_ble_eq_true rfl) (fun r5 _ hw6 => ?_)
  obtain rfl := hw6
  refine zz_show (ws' := [(x3, .inr (12, f2)), (x4, .inl (cA 1, 6002, .inl (upd (fun _ => 0) 0 0))), (x5, .inl (cA 1, 32, .inl f3)), (x6, .inl (cA 1, 32, .inl (upd (upd (upd (fun _ => 0) 1 0) 2 0) 3 0))), (x7, .inl (cA 1, 32, .inl (fun _ => 0))), (x1, .inr (8, f1)), (x2, .inl (cA 1, 6002, .inl (upd (fun _ => 0) 0 0)))]) rfl ?_
  refine zz_if_eq X 68 dX8_readTerm_60 (by decide) (fun _ => ?_) (fun h => absurd (by decide) h)
  refine zz_aload_n X 0 dX8_readTerm_68 rfl rfl ?_
  refine zz_bipush X 39 dX8_readTerm_69 rfl ?_
  refine zz_callVi X (rest := []) (As := [.int 39]) (kX8_is_10 hE l D cA K V x1 f1 x2 hss (zq_len hf1_n (by simp only [List.length_set])) hf1_11 hf1_3 hf1_9) 1 (zgV zm_704 zm_705 zm_706 zm_273 zm_703) rfl (by decide +kernel) [5, 6] [0, 1, 2, 3, 4] [(x3, .inr (12, f2)), (x4, .inl (cA 1, 6002, .inl (upd (fun _ => 0) 0 0))), (x5, .inl (cA 1, 32, .inl f3)), (x6, .inl (cA 1, 32, .inl (upd (upd (upd (fun _ => 0) 1 0) 2 0) 3 0))), (x7, .inl (cA 1, 32, .inl (fun _ => 0)))] rfl rfl (by decide) rfl (by decide) (by decide) ⟨Nat.le_of_ble_eq_true rfl, Nat.le_of_ble_eq_true rfl⟩ 0 rfl rfl rfl rfl rfl (Nat.le_of_ble_eq_true rfl) dX8_readTerm_71 (Nat.le_of_ble_eq_true rfl) (Nat.le_of_ble_eq_true rfl) (fun r7 _ hw8 => ?_)
  obtain rfl := hw8
  refine zz_show (ws' := [(x3, .inr (12, f2)), (x4, .inl (cA 1, 6002, .inl (upd (fun _ => 0) 0 0))), (x5, .inl (cA 1, 32, .inl f3)), (x6, .inl (cA 1, 32, .inl (upd (upd (upd (fun _ => 0) 1 0) 2 0) 3 0))), (x7, .inl (cA 1, 32, .inl (fun _ => 0))), (x1, .inr (8, f1)), (x2, .inl (cA 1, 6002, .inl (upd (fun _ => 0) 0 0)))]) rfl ?_
  refine zz_if_eq X 82 dX8_readTerm_74 (by decide) (fun _ => ?_) (fun h => absurd (by decide) h)
  refine zz_aload_n X 0 dX8_readTerm_82 rfl rfl ?_
  refine zz_callVi X (rest := []) (As := []) (kX8_readScalar_1 hE l D cA K V x1 f1 x3 x4 x2 f2 x5 x6 x7 f3 hss (zq_len hf1_n (by simp only [List.length_set])) hf1_14 hf1_4 hf1_9 hf1_11 hf1_3 (zq_len hf2_n (by simp only [List.length_set])) hf2_10 hf2_0 hf2_1 hf2_2) 0 (zgV zm_1000 zm_1001 zm_1002 zm_273 zm_999) rfl (by decide +kernel) [5, 0, 1, 2, 3, 4, 6] [] [] rfl rfl (by decide) rfl (by decide) (by decide) ⟨Nat.le_of_ble_eq_true rfl, Nat.le_of_ble_eq_true rfl⟩ 0 rfl rfl rfl rfl rfl (Nat.le_of_ble_eq_true rfl) dX8_readTerm_83 (Nat.le_of_ble_eq_true rfl) (Nat.le_of_ble_eq_true rfl) (fun r9 _ hw10 => ?_)
  obtain rfl := hw10
  refine zz_show (ws' := [(x1, .inr (8, (f1.set 11 (.int 0)))), (x3, .inr (12, (f2.set 10 (.int 5)))), (x4, .inl (cA 1, 6002, .inl (upd (fun _ => 0) 0 0))), (x5, .inl (cA 1, 32, .inl (upd f3 4 1))), (x6, .inl (cA 1, 32, .inl (upd (upd (upd (upd (fun _ => 0) 1 0) 2 0) 3 0) 4 0))), (x7, .inl (cA 1, 32, .inl (upd (fun _ => 0) 4 1))), (x2, .inl (cA 1, 6002, .inl (upd (fun _ => 0) 0 0)))]) rfl ?_
  exact zz_iret X hr (()) [0, 6, 1, 2, 3, 4, 5] (by decide) rfl rfl (Nat.le_of_ble_eq_true rfl) (Nat.le_of_ble_eq_true rfl) (rfl) dX8_readTerm_86

set_option maxHeartbeats 4000000 in
set_option maxRecDepth 100000 in
/-- append -/
theorem kX12_append_2 {E : zEn} (hE : zOk E) (l : Launch) (D : va_G) (cA : Nat → ClassId) (K : Nat → Nat) (V : Nat → Nat) (x1 : Nat) (f1 : List Value) (x2 : Nat) (x3 : Nat) (hss : zSS E K V) (hf1_n : f1.length = 15) (hf1_5 : f1[5]? = some (.ref x2)) (hf1_7 : f1[7]? = some (.ref x3)) : zMv E l yX12_append zwX12_append ({ frames := 0, cells := 0, slots := 0, locals := 0 }) D vwCl (zT cA) [.ref x1, .int 3, .int 4] [(x1, .inr (12, f1)), (x2, .inl (cA 1, 32, .inl (fun _ => 0))), (x3, .inl (cA 1, 32, .inl (fun _ => 0)))] (S := Unit) (fun (u : Unit) => (True)) (fun (u : Unit) => [(x1, .inr (12, f1)), (x2, .inl (cA 1, 32, .inl (upd (fun _ => 0) 3 4))), (x3, .inl (cA 1, 32, .inl (upd (fun _ => 0) 3 4)))]) := by
  refine zz_enterv (cc := cX12_append) (lv := [(0, .ref x1), (1, .int 3), (2, .int 4)]) hE 3 (by decide) rfl (Nat.le_of_ble_eq_true rfl) rfl ?_
  intro p e s m args below meth c X hr hin
  refine zz_iload_n X 2 dX12_append_0 rfl rfl ?_
  refine zz_if_ne X 5 dX12_append_1 (by decide) (fun _ => ?_) (fun h => absurd h (by decide))
  refine zz_aload_n X 0 dX12_append_5 rfl rfl ?_
  refine zz_get X 0 5 rfl rfl (by decide) (fun w h => List.mem_cons_of_mem _ (zf_X12 w h)) rfl (List.mem_cons_of_mem _ zm_695) hf1_5 dX12_append_6 ?_
  refine zz_iload_n X 1 dX12_append_9 rfl rfl ?_
  refine zz_iald X 1 1 rfl rfl (vp_in_nI (n := 3) (by decide) (by decide)) (0) rfl dX12_append_10 ?_
  refine zz_if_ne X 24 dX12_append_11 (by decide) (fun h => absurd (by decide) h) (fun _ => ?_)
  refine zz_aload_n X 0 dX12_append_14 rfl rfl ?_
  refine zz_get X 0 5 rfl rfl (by decide) (fun w h => List.mem_cons_of_mem _ (zf_X12 w h)) rfl (List.mem_cons_of_mem _ zm_695) hf1_5 dX12_append_15 ?_
  refine zz_iload_n X 1 dX12_append_18 rfl rfl ?_
  refine zz_iload_n X 2 dX12_append_19 rfl rfl ?_
  refine zz_iast X 1 1 rfl rfl (vp_in_nI (n := 3) (by decide) (by decide)) 3 (by decide) dX12_append_20 [(x1, .inr (12, f1)), (x2, .inl (cA 1, 32, .inl (upd (fun _ => 0) 3 4))), (x3, .inl (cA 1, 32, .inl (fun _ => 0)))] rfl ?_
  refine zz_goto X 36 dX12_append_21 (by decide) ?_
  refine zz_aload_n X 0 dX12_append_36 rfl rfl ?_
  refine zz_get X 0 7 rfl rfl (by decide) (fun w h => List.mem_cons_of_mem _ (zf_X12 w h)) rfl (List.mem_cons_of_mem _ zm_697) hf1_7 dX12_append_37 ?_
  refine zz_iload_n X 1 dX12_append_40 rfl rfl ?_
  refine zz_iload_n X 2 dX12_append_41 rfl rfl ?_
  refine zz_iast X 2 1 rfl rfl (vp_in_nI (n := 3) (by decide) (by decide)) 3 (by decide) dX12_append_42 [(x1, .inr (12, f1)), (x2, .inl (cA 1, 32, .inl (upd (fun _ => 0) 3 4))), (x3, .inl (cA 1, 32, .inl (upd (fun _ => 0) 3 4)))] rfl ?_
  exact zz_vret X hr (()) [0, 1, 2] (by decide) rfl rfl (Nat.le_of_ble_eq_true rfl) (Nat.le_of_ble_eq_true rfl) (trivial) dX12_append_43

set_option maxHeartbeats 4000000 in
set_option maxRecDepth 100000 in
/-- readLevel -/
theorem kX8_readLevel_1 {E : zEn} (hE : zOk E) (l : Launch) (D : va_G) (cA : Nat → ClassId) (K : Nat → Nat) (V : Nat → Nat) (x1 : Nat) (f1 : List Value) (x2 : Nat) (x3 : Nat) (x4 : Nat) (f2 : List Value) (x5 : Nat) (x6 : Nat) (x7 : Nat) (x8 : Nat) (x9 : Nat) (f3 : Nat → Int32) (hss : zSS E K V) (hf1_n : f1.length = 15) (hf1_14 : f1[14]? = some (.ref x2)) (hf1_11 : f1[11]? = some (.int (-1))) (hf1_3 : f1[3]? = some (.ref x3)) (hf1_9 : f1[9]? = some (.int 0)) (hf1_4 : f1[4]? = some (.ref x4)) (hf2_n : f2.length = 15) (hf2_10 : f2[10]? = some (.int 4)) (hf2_0 : f2[0]? = some (.ref x5)) (hf2_1 : f2[1]? = some (.ref x6)) (hf2_2 : f2[2]? = some (.ref x7)) (hf2_5 : f2[5]? = some (.ref x8)) (hf2_7 : f2[7]? = some (.ref x9)) : zMv E l yX8_readLevel zwX8_readLevel ({ frames := 4, cells := 0, slots := 0, locals := 87 }) D vwCl (zT cA) [.ref x1, .int 3, .int 5] [(x1, .inr (8, f1)), (x2, .inr (12, f2)), (x3, .inl (cA 1, 6002, .inl (upd (fun _ => 0) 0 0))), (x4, .inl (cA 1, 6002, .inl (upd (fun _ => 0) 0 0))), (x5, .inl (cA 1, 32, .inl f3)), (x6, .inl (cA 1, 32, .inl (upd (upd (upd (fun _ => 0) 1 0) 2 0) 3 0))), (x7, .inl (cA 1, 32, .inl (fun _ => 0))), (x8, .inl (cA 1, 32, .inl (fun _ => 0))), (x9, .inl (cA 1, 32, .inl (fun _ => 0)))] (S := Unit) (fun (u : Unit) => (True)) (fun (u : Unit) => [(x1, .inr (8, (f1.set 11 (.int 0)))), (x2, .inr (12, (f2.set 10 (.int 5)))), (x3, .inl (cA 1, 6002, .inl (upd (fun _ => 0) 0 0))), (x4, .inl (cA 1, 6002, .inl (upd (fun _ => 0) 0 0))), (x5, .inl (cA 1, 32, .inl (upd f3 4 1))), (x6, .inl (cA 1, 32, .inl (upd (upd (upd (upd (fun _ => 0) 1 0) 2 0) 3 0) 4 0))), (x7, .inl (cA 1, 32, .inl (upd (fun _ => 0) 4 1))), (x8, .inl (cA 1, 32, .inl (upd (fun _ => 0) 3 4))), (x9, .inl (cA 1, 32, .inl (upd (fun _ => 0) 3 4)))]) := by
  refine zz_enterv (cc := cX8_readLevel) (lv := [(0, .ref x1), (1, .int 3), (2, .int 5)]) hE 5 (by decide) rfl (Nat.le_of_ble_eq_true rfl) rfl ?_
  intro p e s m args below meth c X hr hin
  refine zz_iload_n X 2 dX8_readLevel_0 rfl rfl ?_
  refine zz_iconst X 5 dX8_readLevel_1 rfl ?_
  refine zz_icmp_ne X 18 dX8_readLevel_2 (by decide) (fun h => absurd (by decide) h) (fun _ => ?_)
  refine zz_aload_n X 0 dX8_readLevel_5 rfl rfl ?_
  refine zz_get X 0 14 rfl rfl (by decide) (fun w h => List.mem_cons_of_mem _ (zf_X8 w h)) rfl (List.mem_cons_of_mem _ zm_31) hf1_14 dX8_readLevel_6 ?_
  refine zz_iload_n X 1 dX8_readLevel_9 rfl rfl ?_
  refine zz_aload_n X 0 dX8_readLevel_10 rfl rfl ?_
  refine zz_callVi X (rest := [.int 3, .ref x2]) (As := []) (kX8_readTerm_1 hE l D cA K V x1 f1 x3 x2 x4 f2 x5 x6 x7 f3 hss (zq_len hf1_n (by simp only [List.length_set])) hf1_11 hf1_3 hf1_9 hf1_14 hf1_4 (zq_len hf2_n (by simp only [List.length_set])) hf2_10 hf2_0 hf2_1 hf2_2) 0 (zgV zm_1004 zm_1005 zm_1006 zm_273 zm_1003) rfl (by decide +kernel) [0, 2, 1, 3, 4, 5, 6] [7, 8] [(x8, .inl (cA 1, 32, .inl (fun _ => 0))), (x9, .inl (cA 1, 32, .inl (fun _ => 0)))] rfl rfl (by decide) rfl (by decide) (by decide) ⟨Nat.le_of_ble_eq_true rfl, Nat.le_of_ble_eq_true rfl⟩ 0 rfl rfl rfl rfl rfl (Nat.le_of_ble_eq_true rfl) dX8_readLevel_11 (Nat.le_of_ble_eq_true rfl) (Nat.le_of_ble_eq_true rfl) (fun r1 _ hw2 => ?_)
  obtain rfl := hw2
  refine zz_show (ws' := [(x8, .inl (cA 1, 32, .inl (fun _ => 0))), (x9, .inl (cA 1, 32, .inl (fun _ => 0))), (x1, .inr (8, (f1.set 11 (.int 0)))), (x3, .inl (cA 1, 6002, .inl (upd (fun _ => 0) 0 0))), (x2, .inr (12, (f2.set 10 (.int 5)))), (x4, .inl (cA 1, 6002, .inl (upd (fun _ => 0) 0 0))), (x5, .inl (cA 1, 32, .inl (upd f3 4 1))), (x6, .inl (cA 1, 32, .inl (upd (upd (upd (upd (fun _ => 0) 1 0) 2 0) 3 0) 4 0))), (x7, .inl (cA 1, 32, .inl (upd (fun _ => 0) 4 1)))]) rfl ?_
  refine zz_callVv X (rest := []) (As := [.int 3, .int 4]) (kX12_append_2 hE l D cA K V x2 (f2.set 10 (.int 5)) x8 x9 hss (zq_len hf2_n (by simp only [List.length_set])) (zq_oth (by decide) (hf2_5)) (zq_oth (by decide) (hf2_7))) 2 (zgV zm_733 zm_734 zm_735 zm_681 zm_732) rfl (by decide +kernel) [4, 0, 1] [2, 3, 5, 6, 7, 8] [(x1, .inr (8, (f1.set 11 (.int 0)))), (x3, .inl (cA 1, 6002, .inl (upd (fun _ => 0) 0 0))), (x4, .inl (cA 1, 6002, .inl (upd (fun _ => 0) 0 0))), (x5, .inl (cA 1, 32, .inl (upd f3 4 1))), (x6, .inl (cA 1, 32, .inl (upd (upd (upd (upd (fun _ => 0) 1 0) 2 0) 3 0) 4 0))), (x7, .inl (cA 1, 32, .inl (upd (fun _ => 0) 4 1)))] rfl rfl (by decide) rfl (by decide) (by decide) ⟨Nat.le_of_ble_eq_true rfl, Nat.le_of_ble_eq_true rfl⟩ 0 rfl rfl rfl rfl rfl (Nat.le_of_ble_eq_true rfl) dX8_readLevel_14 (Nat.le_of_ble_eq_true rfl) (Nat.le_of_ble_eq_true rfl) (fun _ hw3 => ?_)
  refine zz_show (ws' := [(x1, .inr (8, (f1.set 11 (.int 0)))), (x3, .inl (cA 1, 6002, .inl (upd (fun _ => 0) 0 0))), (x4, .inl (cA 1, 6002, .inl (upd (fun _ => 0) 0 0))), (x5, .inl (cA 1, 32, .inl (upd f3 4 1))), (x6, .inl (cA 1, 32, .inl (upd (upd (upd (upd (fun _ => 0) 1 0) 2 0) 3 0) 4 0))), (x7, .inl (cA 1, 32, .inl (upd (fun _ => 0) 4 1))), (x2, .inr (12, (f2.set 10 (.int 5)))), (x8, .inl (cA 1, 32, .inl (upd (fun _ => 0) 3 4))), (x9, .inl (cA 1, 32, .inl (upd (fun _ => 0) 3 4)))]) rfl ?_
  exact zz_vret X hr (()) [0, 6, 1, 2, 3, 4, 5, 7, 8] (by decide) rfl rfl (Nat.le_of_ble_eq_true rfl) (Nat.le_of_ble_eq_true rfl) (trivial) dX8_readLevel_17

set_option maxHeartbeats 4000000 in
set_option maxRecDepth 100000 in
/-- readLevel -/
theorem kX8_readLevel_2 {E : zEn} (hE : zOk E) (l : Launch) (D : va_G) (cA : Nat → ClassId) (K : Nat → Nat) (V : Nat → Nat) (x1 : Nat) (f1 : List Value) (x2 : Nat) (x3 : Nat) (x4 : Nat) (f2 : List Value) (x5 : Nat) (x6 : Nat) (x7 : Nat) (x8 : Nat) (x9 : Nat) (f3 : Nat → Int32) (hss : zSS E K V) (hf1_n : f1.length = 15) (hf1_14 : f1[14]? = some (.ref x2)) (hf1_11 : f1[11]? = some (.int (-1))) (hf1_3 : f1[3]? = some (.ref x3)) (hf1_9 : f1[9]? = some (.int 0)) (hf1_4 : f1[4]? = some (.ref x4)) (hf2_n : f2.length = 15) (hf2_10 : f2[10]? = some (.int 4)) (hf2_0 : f2[0]? = some (.ref x5)) (hf2_1 : f2[1]? = some (.ref x6)) (hf2_2 : f2[2]? = some (.ref x7)) (hf2_5 : f2[5]? = some (.ref x8)) (hf2_7 : f2[7]? = some (.ref x9)) : zMv E l yX8_readLevel zwX8_readLevel ({ frames := 5, cells := 0, slots := 0, locals := 111 }) D vwCl (zT cA) [.ref x1, .int 3, .int 4] [(x1, .inr (8, f1)), (x2, .inr (12, f2)), (x3, .inl (cA 1, 6002, .inl (upd (fun _ => 0) 0 0))), (x4, .inl (cA 1, 6002, .inl (upd (fun _ => 0) 0 0))), (x5, .inl (cA 1, 32, .inl f3)), (x6, .inl (cA 1, 32, .inl (upd (upd (upd (fun _ => 0) 1 0) 2 0) 3 0))), (x7, .inl (cA 1, 32, .inl (fun _ => 0))), (x8, .inl (cA 1, 32, .inl (fun _ => 0))), (x9, .inl (cA 1, 32, .inl (fun _ => 0)))] (S := Unit) (fun (u : Unit) => (True)) (fun (u : Unit) => [(x1, .inr (8, (f1.set 11 (.int 0)))), (x2, .inr (12, (f2.set 10 (.int 5)))), (x3, .inl (cA 1, 6002, .inl (upd (fun _ => 0) 0 0))), (x4, .inl (cA 1, 6002, .inl (upd (fun _ => 0) 0 0))), (x5, .inl (cA 1, 32, .inl (upd f3 4 1))), (x6, .inl (cA 1, 32, .inl (upd (upd (upd (upd (fun _ => 0) 1 0) 2 0) 3 0) 4 0))), (x7, .inl (cA 1, 32, .inl (upd (fun _ => 0) 4 1))), (x8, .inl (cA 1, 32, .inl (upd (fun _ => 0) 3 4))), (x9, .inl (cA 1, 32, .inl (upd (fun _ => 0) 3 4)))]) := by
  refine zz_enterv (cc := cX8_readLevel) (lv := [(0, .ref x1), (1, .int 3), (2, .int 4)]) hE 5 (by decide) rfl (Nat.le_of_ble_eq_true rfl) rfl ?_
  intro p e s m args below meth c X hr hin
  refine zz_iload_n X 2 dX8_readLevel_0 rfl rfl ?_
  refine zz_iconst X 5 dX8_readLevel_1 rfl ?_
  refine zz_icmp_ne X 18 dX8_readLevel_2 (by decide) (fun _ => ?_) (fun h => absurd h (by decide))
  refine zz_aload_n X 0 dX8_readLevel_18 rfl rfl ?_
  refine zz_iload_n X 1 dX8_readLevel_19 rfl rfl ?_
  refine zz_iload_n X 2 dX8_readLevel_20 rfl rfl ?_
  refine zz_iconst X 1 dX8_readLevel_21 rfl ?_
  refine zz_iadd X (5) dX8_readLevel_22 (by decide) ?_
  refine zz_callVv X (rest := []) (As := [.int 3, .int 5]) (kX8_readLevel_1 hE l D cA K V x1 f1 x2 x3 x4 f2 x5 x6 x7 x8 x9 f3 hss (zq_len hf1_n (by simp only [List.length_set])) hf1_14 hf1_11 hf1_3 hf1_9 hf1_4 (zq_len hf2_n (by simp only [List.length_set])) hf2_10 hf2_0 hf2_1 hf2_2 hf2_5 hf2_7) 2 (zgV zm_1008 zm_1009 zm_1010 zm_273 zm_1007) rfl (by decide +kernel) [0, 1, 2, 3, 4, 5, 6, 7, 8] [] [] rfl rfl (by decide) rfl (by decide) (by decide) ⟨Nat.le_of_ble_eq_true rfl, Nat.le_of_ble_eq_true rfl⟩ 0 rfl rfl rfl rfl rfl (Nat.le_of_ble_eq_true rfl) dX8_readLevel_23 (Nat.le_of_ble_eq_true rfl) (Nat.le_of_ble_eq_true rfl) (fun _ hw1 => ?_)
  refine zz_show (ws' := [(x1, .inr (8, (f1.set 11 (.int 0)))), (x2, .inr (12, (f2.set 10 (.int 5)))), (x3, .inl (cA 1, 6002, .inl (upd (fun _ => 0) 0 0))), (x4, .inl (cA 1, 6002, .inl (upd (fun _ => 0) 0 0))), (x5, .inl (cA 1, 32, .inl (upd f3 4 1))), (x6, .inl (cA 1, 32, .inl (upd (upd (upd (upd (fun _ => 0) 1 0) 2 0) 3 0) 4 0))), (x7, .inl (cA 1, 32, .inl (upd (fun _ => 0) 4 1))), (x8, .inl (cA 1, 32, .inl (upd (fun _ => 0) 3 4))), (x9, .inl (cA 1, 32, .inl (upd (fun _ => 0) 3 4)))]) rfl ?_
  refine zz_iconst X 0 dX8_readLevel_26 rfl ?_
  refine zz_istore_n X [(3, .int 0), (0, .ref x1), (1, .int 3), (2, .int 4)] dX8_readLevel_27 rfl (by decide) rfl ?_
  refine zz_iload_n X 0 dX8_readLevel_28 rfl rfl ?_
  refine zz_sipush X 6002 dX8_readLevel_29 rfl ?_
  refine zz_icmp_ge X 118 dX8_readLevel_32 (by decide) (fun h => absurd h (by decide)) (fun _ => ?_)
  refine zz_aload_n X 1 dX8_readLevel_35 rfl rfl ?_
  refine zz_get X 0 11 rfl rfl (by decide) (fun w h => List.mem_cons_of_mem _ (zf_X8 w h)) rfl (List.mem_cons_of_mem _ zm_28) (zq_same (zq_lt hf1_n (by decide) (by simp only [List.length_set]))) dX8_readLevel_36 ?_
  refine zz_if_ge X 118 dX8_readLevel_39 (by decide) (fun _ => ?_) (fun h => absurd (by decide) h)
  exact zz_vret X hr (()) [0, 1, 2, 3, 4, 5, 6, 7, 8] (by decide) rfl rfl (Nat.le_of_ble_eq_true rfl) (Nat.le_of_ble_eq_true rfl) (trivial) dX8_readLevel_118

set_option maxHeartbeats 4000000 in
set_option maxRecDepth 100000 in
/-- readLevel -/
theorem kX8_readLevel_3 {E : zEn} (hE : zOk E) (l : Launch) (D : va_G) (cA : Nat → ClassId) (K : Nat → Nat) (V : Nat → Nat) (x1 : Nat) (f1 : List Value) (x2 : Nat) (x3 : Nat) (x4 : Nat) (f2 : List Value) (x5 : Nat) (x6 : Nat) (x7 : Nat) (x8 : Nat) (x9 : Nat) (f3 : Nat → Int32) (hss : zSS E K V) (hf1_n : f1.length = 15) (hf1_14 : f1[14]? = some (.ref x2)) (hf1_11 : f1[11]? = some (.int (-1))) (hf1_3 : f1[3]? = some (.ref x3)) (hf1_9 : f1[9]? = some (.int 0)) (hf1_4 : f1[4]? = some (.ref x4)) (hf2_n : f2.length = 15) (hf2_10 : f2[10]? = some (.int 4)) (hf2_0 : f2[0]? = some (.ref x5)) (hf2_1 : f2[1]? = some (.ref x6)) (hf2_2 : f2[2]? = some (.ref x7)) (hf2_5 : f2[5]? = some (.ref x8)) (hf2_7 : f2[7]? = some (.ref x9)) : zMv E l yX8_readLevel zwX8_readLevel ({ frames := 6, cells := 0, slots := 0, locals := 135 }) D vwCl (zT cA) [.ref x1, .int 3, .int 3] [(x1, .inr (8, f1)), (x2, .inr (12, f2)), (x3, .inl (cA 1, 6002, .inl (upd (fun _ => 0) 0 0))), (x4, .inl (cA 1, 6002, .inl (upd (fun _ => 0) 0 0))), (x5, .inl (cA 1, 32, .inl f3)), (x6, .inl (cA 1, 32, .inl (upd (upd (upd (fun _ => 0) 1 0) 2 0) 3 0))), (x7, .inl (cA 1, 32, .inl (fun _ => 0))), (x8, .inl (cA 1, 32, .inl (fun _ => 0))), (x9, .inl (cA 1, 32, .inl (fun _ => 0)))] (S := Unit) (fun (u : Unit) => (True)) (fun (u : Unit) => [(x1, .inr (8, (f1.set 11 (.int 0)))), (x2, .inr (12, (f2.set 10 (.int 5)))), (x3, .inl (cA 1, 6002, .inl (upd (fun _ => 0) 0 0))), (x4, .inl (cA 1, 6002, .inl (upd (fun _ => 0) 0 0))), (x5, .inl (cA 1, 32, .inl (upd f3 4 1))), (x6, .inl (cA 1, 32, .inl (upd (upd (upd (upd (fun _ => 0) 1 0) 2 0) 3 0) 4 0))), (x7, .inl (cA 1, 32, .inl (upd (fun _ => 0) 4 1))), (x8, .inl (cA 1, 32, .inl (upd (fun _ => 0) 3 4))), (x9, .inl (cA 1, 32, .inl (upd (fun _ => 0) 3 4)))]) := by
  refine zz_enterv (cc := cX8_readLevel) (lv := [(0, .ref x1), (1, .int 3), (2, .int 3)]) hE 5 (by decide) rfl (Nat.le_of_ble_eq_true rfl) rfl ?_
  intro p e s m args below meth c X hr hin
  refine zz_iload_n X 2 dX8_readLevel_0 rfl rfl ?_
  refine zz_iconst X 5 dX8_readLevel_1 rfl ?_
  refine zz_icmp_ne X 18 dX8_readLevel_2 (by decide) (fun _ => ?_) (fun h => absurd h (by decide))
  refine zz_aload_n X 0 dX8_readLevel_18 rfl rfl ?_
  refine zz_iload_n X 1 dX8_readLevel_19 rfl rfl ?_
  refine zz_iload_n X 2 dX8_readLevel_20 rfl rfl ?_
  refine zz_iconst X 1 dX8_readLevel_21 rfl ?_
  refine zz_iadd X (4) dX8_readLevel_22 (by decide) ?_
  refine zz_callVv X (rest := []) (As := [.int 3, .int 4]) (kX8_readLevel_2 hE l D cA K V x1 f1 x2 x3 x4 f2 x5 x6 x7 x8 x9 f3 hss (zq_len hf1_n (by simp only [List.length_set])) hf1_14 hf1_11 hf1_3 hf1_9 hf1_4 (zq_len hf2_n (by simp only [List.length_set])) hf2_10 hf2_0 hf2_1 hf2_2 hf2_5 hf2_7) 2 (zgV zm_1008 zm_1009 zm_1010 zm_273 zm_1007) rfl (by decide +kernel) [0, 1, 2, 3, 4, 5, 6, 7, 8] [] [] rfl rfl (by decide) rfl (by decide) (by decide) ⟨Nat.le_of_ble_eq_true rfl, Nat.le_of_ble_eq_true rfl⟩ 0 rfl rfl rfl rfl rfl (Nat.le_of_ble_eq_true rfl) dX8_readLevel_23 (Nat.le_of_ble_eq_true rfl) (Nat.le_of_ble_eq_true rfl) (fun _ hw1 => ?_)
  refine zz_show (ws' := [(x1, .inr (8, (f1.set 11 (.int 0)))), (x2, .inr (12, (f2.set 10 (.int 5)))), (x3, .inl (cA 1, 6002, .inl (upd (fun _ => 0) 0 0))), (x4, .inl (cA 1, 6002, .inl (upd (fun _ => 0) 0 0))), (x5, .inl (cA 1, 32, .inl (upd f3 4 1))), (x6, .inl (cA 1, 32, .inl (upd (upd (upd (upd (fun _ => 0) 1 0) 2 0) 3 0) 4 0))), (x7, .inl (cA 1, 32, .inl (upd (fun _ => 0) 4 1))), (x8, .inl (cA 1, 32, .inl (upd (fun _ => 0) 3 4))), (x9, .inl (cA 1, 32, .inl (upd (fun _ => 0) 3 4)))]) rfl ?_
  refine zz_iconst X 0 dX8_readLevel_26 rfl ?_
  refine zz_istore_n X [(3, .int 0), (0, .ref x1), (1, .int 3), (2, .int 3)] dX8_readLevel_27 rfl (by decide) rfl ?_
  refine zz_iload_n X 0 dX8_readLevel_28 rfl rfl ?_
  refine zz_sipush X 6002 dX8_readLevel_29 rfl ?_
  refine zz_icmp_ge X 118 dX8_readLevel_32 (by decide) (fun h => absurd h (by decide)) (fun _ => ?_)
  refine zz_aload_n X 1 dX8_readLevel_35 rfl rfl ?_
  refine zz_get X 0 11 rfl rfl (by decide) (fun w h => List.mem_cons_of_mem _ (zf_X8 w h)) rfl (List.mem_cons_of_mem _ zm_28) (zq_same (zq_lt hf1_n (by decide) (by simp only [List.length_set]))) dX8_readLevel_36 ?_
  refine zz_if_ge X 118 dX8_readLevel_39 (by decide) (fun _ => ?_) (fun h => absurd (by decide) h)
  exact zz_vret X hr (()) [0, 1, 2, 3, 4, 5, 6, 7, 8] (by decide) rfl rfl (Nat.le_of_ble_eq_true rfl) (Nat.le_of_ble_eq_true rfl) (trivial) dX8_readLevel_118

set_option maxHeartbeats 4000000 in
set_option maxRecDepth 100000 in
/-- readLevel -/
theorem kX8_readLevel_4 {E : zEn} (hE : zOk E) (l : Launch) (D : va_G) (cA : Nat → ClassId) (K : Nat → Nat) (V : Nat → Nat) (x1 : Nat) (f1 : List Value) (x2 : Nat) (x3 : Nat) (x4 : Nat) (f2 : List Value) (x5 : Nat) (x6 : Nat) (x7 : Nat) (x8 : Nat) (x9 : Nat) (f3 : Nat → Int32) (hss : zSS E K V) (hf1_n : f1.length = 15) (hf1_14 : f1[14]? = some (.ref x2)) (hf1_11 : f1[11]? = some (.int (-1))) (hf1_3 : f1[3]? = some (.ref x3)) (hf1_9 : f1[9]? = some (.int 0)) (hf1_4 : f1[4]? = some (.ref x4)) (hf2_n : f2.length = 15) (hf2_10 : f2[10]? = some (.int 4)) (hf2_0 : f2[0]? = some (.ref x5)) (hf2_1 : f2[1]? = some (.ref x6)) (hf2_2 : f2[2]? = some (.ref x7)) (hf2_5 : f2[5]? = some (.ref x8)) (hf2_7 : f2[7]? = some (.ref x9)) : zMv E l yX8_readLevel zwX8_readLevel ({ frames := 7, cells := 0, slots := 0, locals := 159 }) D vwCl (zT cA) [.ref x1, .int 3, .int 2] [(x1, .inr (8, f1)), (x2, .inr (12, f2)), (x3, .inl (cA 1, 6002, .inl (upd (fun _ => 0) 0 0))), (x4, .inl (cA 1, 6002, .inl (upd (fun _ => 0) 0 0))), (x5, .inl (cA 1, 32, .inl f3)), (x6, .inl (cA 1, 32, .inl (upd (upd (upd (fun _ => 0) 1 0) 2 0) 3 0))), (x7, .inl (cA 1, 32, .inl (fun _ => 0))), (x8, .inl (cA 1, 32, .inl (fun _ => 0))), (x9, .inl (cA 1, 32, .inl (fun _ => 0)))] (S := Unit) (fun (u : Unit) => (True)) (fun (u : Unit) => [(x1, .inr (8, (f1.set 11 (.int 0)))), (x2, .inr (12, (f2.set 10 (.int 5)))), (x3, .inl (cA 1, 6002, .inl (upd (fun _ => 0) 0 0))), (x4, .inl (cA 1, 6002, .inl (upd (fun _ => 0) 0 0))), (x5, .inl (cA 1, 32, .inl (upd f3 4 1))), (x6, .inl (cA 1, 32, .inl (upd (upd (upd (upd (fun _ => 0) 1 0) 2 0) 3 0) 4 0))), (x7, .inl (cA 1, 32, .inl (upd (fun _ => 0) 4 1))), (x8, .inl (cA 1, 32, .inl (upd (fun _ => 0) 3 4))), (x9, .inl (cA 1, 32, .inl (upd (fun _ => 0) 3 4)))]) := by
  refine zz_enterv (cc := cX8_readLevel) (lv := [(0, .ref x1), (1, .int 3), (2, .int 2)]) hE 5 (by decide) rfl (Nat.le_of_ble_eq_true rfl) rfl ?_
  intro p e s m args below meth c X hr hin
  refine zz_iload_n X 2 dX8_readLevel_0 rfl rfl ?_
  refine zz_iconst X 5 dX8_readLevel_1 rfl ?_
  refine zz_icmp_ne X 18 dX8_readLevel_2 (by decide) (fun _ => ?_) (fun h => absurd h (by decide))
  refine zz_aload_n X 0 dX8_readLevel_18 rfl rfl ?_
  refine zz_iload_n X 1 dX8_readLevel_19 rfl rfl ?_
  refine zz_iload_n X 2 dX8_readLevel_20 rfl rfl ?_
  refine zz_iconst X 1 dX8_readLevel_21 rfl ?_
  refine zz_iadd X (3) dX8_readLevel_22 (by decide) ?_
  refine zz_callVv X (rest := []) (As := [.int 3, .int 3]) (kX8_readLevel_3 hE l D cA K V x1 f1 x2 x3 x4 f2 x5 x6 x7 x8 x9 f3 hss (zq_len hf1_n (by simp only [List.length_set])) hf1_14 hf1_11 hf1_3 hf1_9 hf1_4 (zq_len hf2_n (by simp only [List.length_set])) hf2_10 hf2_0 hf2_1 hf2_2 hf2_5 hf2_7) 2 (zgV zm_1008 zm_1009 zm_1010 zm_273 zm_1007) rfl (by decide +kernel) [0, 1, 2, 3, 4, 5, 6, 7, 8] [] [] rfl rfl (by decide) rfl (by decide) (by decide) ⟨Nat.le_of_ble_eq_true rfl, Nat.le_of_ble_eq_true rfl⟩ 0 rfl rfl rfl rfl rfl (Nat.le_of_ble_eq_true rfl) dX8_readLevel_23 (Nat.le_of_ble_eq_true rfl) (Nat.le_of_ble_eq_true rfl) (fun _ hw1 => ?_)
  refine zz_show (ws' := [(x1, .inr (8, (f1.set 11 (.int 0)))), (x2, .inr (12, (f2.set 10 (.int 5)))), (x3, .inl (cA 1, 6002, .inl (upd (fun _ => 0) 0 0))), (x4, .inl (cA 1, 6002, .inl (upd (fun _ => 0) 0 0))), (x5, .inl (cA 1, 32, .inl (upd f3 4 1))), (x6, .inl (cA 1, 32, .inl (upd (upd (upd (upd (fun _ => 0) 1 0) 2 0) 3 0) 4 0))), (x7, .inl (cA 1, 32, .inl (upd (fun _ => 0) 4 1))), (x8, .inl (cA 1, 32, .inl (upd (fun _ => 0) 3 4))), (x9, .inl (cA 1, 32, .inl (upd (fun _ => 0) 3 4)))]) rfl ?_
  refine zz_iconst X 0 dX8_readLevel_26 rfl ?_
  refine zz_istore_n X [(3, .int 0), (0, .ref x1), (1, .int 3), (2, .int 2)] dX8_readLevel_27 rfl (by decide) rfl ?_
  refine zz_iload_n X 0 dX8_readLevel_28 rfl rfl ?_
  refine zz_sipush X 6002 dX8_readLevel_29 rfl ?_
  refine zz_icmp_ge X 118 dX8_readLevel_32 (by decide) (fun h => absurd h (by decide)) (fun _ => ?_)
  refine zz_aload_n X 1 dX8_readLevel_35 rfl rfl ?_
  refine zz_get X 0 11 rfl rfl (by decide) (fun w h => List.mem_cons_of_mem _ (zf_X8 w h)) rfl (List.mem_cons_of_mem _ zm_28) (zq_same (zq_lt hf1_n (by decide) (by simp only [List.length_set]))) dX8_readLevel_36 ?_
  refine zz_if_ge X 118 dX8_readLevel_39 (by decide) (fun _ => ?_) (fun h => absurd (by decide) h)
  exact zz_vret X hr (()) [0, 1, 2, 3, 4, 5, 6, 7, 8] (by decide) rfl rfl (Nat.le_of_ble_eq_true rfl) (Nat.le_of_ble_eq_true rfl) (trivial) dX8_readLevel_118

set_option maxHeartbeats 4000000 in
set_option maxRecDepth 100000 in
/-- readLevel -/
theorem kX8_readLevel_5 {E : zEn} (hE : zOk E) (l : Launch) (D : va_G) (cA : Nat → ClassId) (K : Nat → Nat) (V : Nat → Nat) (x1 : Nat) (f1 : List Value) (x2 : Nat) (x3 : Nat) (x4 : Nat) (f2 : List Value) (x5 : Nat) (x6 : Nat) (x7 : Nat) (x8 : Nat) (x9 : Nat) (f3 : Nat → Int32) (hss : zSS E K V) (hf1_n : f1.length = 15) (hf1_14 : f1[14]? = some (.ref x2)) (hf1_11 : f1[11]? = some (.int (-1))) (hf1_3 : f1[3]? = some (.ref x3)) (hf1_9 : f1[9]? = some (.int 0)) (hf1_4 : f1[4]? = some (.ref x4)) (hf2_n : f2.length = 15) (hf2_10 : f2[10]? = some (.int 4)) (hf2_0 : f2[0]? = some (.ref x5)) (hf2_1 : f2[1]? = some (.ref x6)) (hf2_2 : f2[2]? = some (.ref x7)) (hf2_5 : f2[5]? = some (.ref x8)) (hf2_7 : f2[7]? = some (.ref x9)) : zMv E l yX8_readLevel zwX8_readLevel ({ frames := 8, cells := 0, slots := 0, locals := 183 }) D vwCl (zT cA) [.ref x1, .int 3, .int 1] [(x1, .inr (8, f1)), (x2, .inr (12, f2)), (x3, .inl (cA 1, 6002, .inl (upd (fun _ => 0) 0 0))), (x4, .inl (cA 1, 6002, .inl (upd (fun _ => 0) 0 0))), (x5, .inl (cA 1, 32, .inl f3)), (x6, .inl (cA 1, 32, .inl (upd (upd (upd (fun _ => 0) 1 0) 2 0) 3 0))), (x7, .inl (cA 1, 32, .inl (fun _ => 0))), (x8, .inl (cA 1, 32, .inl (fun _ => 0))), (x9, .inl (cA 1, 32, .inl (fun _ => 0)))] (S := Unit) (fun (u : Unit) => (True)) (fun (u : Unit) => [(x1, .inr (8, (f1.set 11 (.int 0)))), (x2, .inr (12, (f2.set 10 (.int 5)))), (x3, .inl (cA 1, 6002, .inl (upd (fun _ => 0) 0 0))), (x4, .inl (cA 1, 6002, .inl (upd (fun _ => 0) 0 0))), (x5, .inl (cA 1, 32, .inl (upd f3 4 1))), (x6, .inl (cA 1, 32, .inl (upd (upd (upd (upd (fun _ => 0) 1 0) 2 0) 3 0) 4 0))), (x7, .inl (cA 1, 32, .inl (upd (fun _ => 0) 4 1))), (x8, .inl (cA 1, 32, .inl (upd (fun _ => 0) 3 4))), (x9, .inl (cA 1, 32, .inl (upd (fun _ => 0) 3 4)))]) := by
  refine zz_enterv (cc := cX8_readLevel) (lv := [(0, .ref x1), (1, .int 3), (2, .int 1)]) hE 5 (by decide) rfl (Nat.le_of_ble_eq_true rfl) rfl ?_
  intro p e s m args below meth c X hr hin
  refine zz_iload_n X 2 dX8_readLevel_0 rfl rfl ?_
  refine zz_iconst X 5 dX8_readLevel_1 rfl ?_
  refine zz_icmp_ne X 18 dX8_readLevel_2 (by decide) (fun _ => ?_) (fun h => absurd h (by decide))
  refine zz_aload_n X 0 dX8_readLevel_18 rfl rfl ?_
  refine zz_iload_n X 1 dX8_readLevel_19 rfl rfl ?_
  refine zz_iload_n X 2 dX8_readLevel_20 rfl rfl ?_
  refine zz_iconst X 1 dX8_readLevel_21 rfl ?_
  refine zz_iadd X (2) dX8_readLevel_22 (by decide) ?_
  refine zz_callVv X (rest := []) (As := [.int 3, .int 2]) (kX8_readLevel_4 hE l D cA K V x1 f1 x2 x3 x4 f2 x5 x6 x7 x8 x9 f3 hss (zq_len hf1_n (by simp only [List.length_set])) hf1_14 hf1_11 hf1_3 hf1_9 hf1_4 (zq_len hf2_n (by simp only [List.length_set])) hf2_10 hf2_0 hf2_1 hf2_2 hf2_5 hf2_7) 2 (zgV zm_1008 zm_1009 zm_1010 zm_273 zm_1007) rfl (by decide +kernel) [0, 1, 2, 3, 4, 5, 6, 7, 8] [] [] rfl rfl (by decide) rfl (by decide) (by decide) ⟨Nat.le_of_ble_eq_true rfl, Nat.le_of_ble_eq_true rfl⟩ 0 rfl rfl rfl rfl rfl (Nat.le_of_ble_eq_true rfl) dX8_readLevel_23 (Nat.le_of_ble_eq_true rfl) (Nat.le_of_ble_eq_true rfl) (fun _ hw1 => ?_)
  refine zz_show (ws' := [(x1, .inr (8, (f1.set 11 (.int 0)))), (x2, .inr (12, (f2.set 10 (.int 5)))), (x3, .inl (cA 1, 6002, .inl (upd (fun _ => 0) 0 0))), (x4, .inl (cA 1, 6002, .inl (upd (fun _ => 0) 0 0))), (x5, .inl (cA 1, 32, .inl (upd f3 4 1))), (x6, .inl (cA 1, 32, .inl (upd (upd (upd (upd (fun _ => 0) 1 0) 2 0) 3 0) 4 0))), (x7, .inl (cA 1, 32, .inl (upd (fun _ => 0) 4 1))), (x8, .inl (cA 1, 32, .inl (upd (fun _ => 0) 3 4))), (x9, .inl (cA 1, 32, .inl (upd (fun _ => 0) 3 4)))]) rfl ?_
  refine zz_iconst X 0 dX8_readLevel_26 rfl ?_
  refine zz_istore_n X [(3, .int 0), (0, .ref x1), (1, .int 3), (2, .int 1)] dX8_readLevel_27 rfl (by decide) rfl ?_
  refine zz_iload_n X 0 dX8_readLevel_28 rfl rfl ?_
  refine zz_sipush X 6002 dX8_readLevel_29 rfl ?_
  refine zz_icmp_ge X 118 dX8_readLevel_32 (by decide) (fun h => absurd h (by decide)) (fun _ => ?_)
  refine zz_aload_n X 1 dX8_readLevel_35 rfl rfl ?_
  refine zz_get X 0 11 rfl rfl (by decide) (fun w h => List.mem_cons_of_mem _ (zf_X8 w h)) rfl (List.mem_cons_of_mem _ zm_28) (zq_same (zq_lt hf1_n (by decide) (by simp only [List.length_set]))) dX8_readLevel_36 ?_
  refine zz_if_ge X 118 dX8_readLevel_39 (by decide) (fun _ => ?_) (fun h => absurd (by decide) h)
  exact zz_vret X hr (()) [0, 1, 2, 3, 4, 5, 6, 7, 8] (by decide) rfl rfl (Nat.le_of_ble_eq_true rfl) (Nat.le_of_ble_eq_true rfl) (trivial) dX8_readLevel_118

set_option maxHeartbeats 4000000 in
set_option maxRecDepth 100000 in
/-- readLevel -/
theorem kX8_readLevel_6 {E : zEn} (hE : zOk E) (l : Launch) (D : va_G) (cA : Nat → ClassId) (K : Nat → Nat) (V : Nat → Nat) (x1 : Nat) (f1 : List Value) (x2 : Nat) (x3 : Nat) (x4 : Nat) (f2 : List Value) (x5 : Nat) (x6 : Nat) (x7 : Nat) (x8 : Nat) (x9 : Nat) (f3 : Nat → Int32) (hss : zSS E K V) (hf1_n : f1.length = 15) (hf1_14 : f1[14]? = some (.ref x2)) (hf1_11 : f1[11]? = some (.int (-1))) (hf1_3 : f1[3]? = some (.ref x3)) (hf1_9 : f1[9]? = some (.int 0)) (hf1_4 : f1[4]? = some (.ref x4)) (hf2_n : f2.length = 15) (hf2_10 : f2[10]? = some (.int 4)) (hf2_0 : f2[0]? = some (.ref x5)) (hf2_1 : f2[1]? = some (.ref x6)) (hf2_2 : f2[2]? = some (.ref x7)) (hf2_5 : f2[5]? = some (.ref x8)) (hf2_7 : f2[7]? = some (.ref x9)) : zMv E l yX8_readLevel zwX8_readLevel ({ frames := 9, cells := 0, slots := 0, locals := 207 }) D vwCl (zT cA) [.ref x1, .int 3, .int 0] [(x1, .inr (8, f1)), (x2, .inr (12, f2)), (x3, .inl (cA 1, 6002, .inl (upd (fun _ => 0) 0 0))), (x4, .inl (cA 1, 6002, .inl (upd (fun _ => 0) 0 0))), (x5, .inl (cA 1, 32, .inl f3)), (x6, .inl (cA 1, 32, .inl (upd (upd (upd (fun _ => 0) 1 0) 2 0) 3 0))), (x7, .inl (cA 1, 32, .inl (fun _ => 0))), (x8, .inl (cA 1, 32, .inl (fun _ => 0))), (x9, .inl (cA 1, 32, .inl (fun _ => 0)))] (S := Unit) (fun (u : Unit) => (True)) (fun (u : Unit) => [(x1, .inr (8, (f1.set 11 (.int 0)))), (x2, .inr (12, (f2.set 10 (.int 5)))), (x3, .inl (cA 1, 6002, .inl (upd (fun _ => 0) 0 0))), (x4, .inl (cA 1, 6002, .inl (upd (fun _ => 0) 0 0))), (x5, .inl (cA 1, 32, .inl (upd f3 4 1))), (x6, .inl (cA 1, 32, .inl (upd (upd (upd (upd (fun _ => 0) 1 0) 2 0) 3 0) 4 0))), (x7, .inl (cA 1, 32, .inl (upd (fun _ => 0) 4 1))), (x8, .inl (cA 1, 32, .inl (upd (fun _ => 0) 3 4))), (x9, .inl (cA 1, 32, .inl (upd (fun _ => 0) 3 4)))]) := by
  refine zz_enterv (cc := cX8_readLevel) (lv := [(0, .ref x1), (1, .int 3), (2, .int 0)]) hE 5 (by decide) rfl (Nat.le_of_ble_eq_true rfl) rfl ?_
  intro p e s m args below meth c X hr hin
  refine zz_iload_n X 2 dX8_readLevel_0 rfl rfl ?_
  refine zz_iconst X 5 dX8_readLevel_1 rfl ?_
  refine zz_icmp_ne X 18 dX8_readLevel_2 (by decide) (fun _ => ?_) (fun h => absurd h (by decide))
  refine zz_aload_n X 0 dX8_readLevel_18 rfl rfl ?_
  refine zz_iload_n X 1 dX8_readLevel_19 rfl rfl ?_
  refine zz_iload_n X 2 dX8_readLevel_20 rfl rfl ?_
  refine zz_iconst X 1 dX8_readLevel_21 rfl ?_
  refine zz_iadd X (1) dX8_readLevel_22 (by decide) ?_
  refine zz_callVv X (rest := []) (As := [.int 3, .int 1]) (kX8_readLevel_5 hE l D cA K V x1 f1 x2 x3 x4 f2 x5 x6 x7 x8 x9 f3 hss (zq_len hf1_n (by simp only [List.length_set])) hf1_14 hf1_11 hf1_3 hf1_9 hf1_4 (zq_len hf2_n (by simp only [List.length_set])) hf2_10 hf2_0 hf2_1 hf2_2 hf2_5 hf2_7) 2 (zgV zm_1008 zm_1009 zm_1010 zm_273 zm_1007) rfl (by decide +kernel) [0, 1, 2, 3, 4, 5, 6, 7, 8] [] [] rfl rfl (by decide) rfl (by decide) (by decide) ⟨Nat.le_of_ble_eq_true rfl, Nat.le_of_ble_eq_true rfl⟩ 0 rfl rfl rfl rfl rfl (Nat.le_of_ble_eq_true rfl) dX8_readLevel_23 (Nat.le_of_ble_eq_true rfl) (Nat.le_of_ble_eq_true rfl) (fun _ hw1 => ?_)
  refine zz_show (ws' := [(x1, .inr (8, (f1.set 11 (.int 0)))), (x2, .inr (12, (f2.set 10 (.int 5)))), (x3, .inl (cA 1, 6002, .inl (upd (fun _ => 0) 0 0))), (x4, .inl (cA 1, 6002, .inl (upd (fun _ => 0) 0 0))), (x5, .inl (cA 1, 32, .inl (upd f3 4 1))), (x6, .inl (cA 1, 32, .inl (upd (upd (upd (upd (fun _ => 0) 1 0) 2 0) 3 0) 4 0))), (x7, .inl (cA 1, 32, .inl (upd (fun _ => 0) 4 1))), (x8, .inl (cA 1, 32, .inl (upd (fun _ => 0) 3 4))), (x9, .inl (cA 1, 32, .inl (upd (fun _ => 0) 3 4)))]) rfl ?_
  refine zz_iconst X 0 dX8_readLevel_26 rfl ?_
  refine zz_istore_n X [(3, .int 0), (0, .ref x1), (1, .int 3), (2, .int 0)] dX8_readLevel_27 rfl (by decide) rfl ?_
  refine zz_iload_n X 0 dX8_readLevel_28 rfl rfl ?_
  refine zz_sipush X 6002 dX8_readLevel_29 rfl ?_
  refine zz_icmp_ge X 118 dX8_readLevel_32 (by decide) (fun h => absurd h (by decide)) (fun _ => ?_)
  refine zz_aload_n X 1 dX8_readLevel_35 rfl rfl ?_
  refine zz_get X 0 11 rfl rfl (by decide) (fun w h => List.mem_cons_of_mem _ (zf_X8 w h)) rfl (List.mem_cons_of_mem _ zm_28) (zq_same (zq_lt hf1_n (by decide) (by simp only [List.length_set]))) dX8_readLevel_36 ?_
  refine zz_if_ge X 118 dX8_readLevel_39 (by decide) (fun _ => ?_) (fun h => absurd (by decide) h)
  exact zz_vret X hr (()) [0, 1, 2, 3, 4, 5, 6, 7, 8] (by decide) rfl rfl (Nat.le_of_ble_eq_true rfl) (Nat.le_of_ble_eq_true rfl) (trivial) dX8_readLevel_118

set_option maxHeartbeats 4000000 in
set_option maxRecDepth 100000 in
/-- readExpression -/
theorem kX8_readExpression_1 {E : zEn} (hE : zOk E) (l : Launch) (D : va_G) (cA : Nat → ClassId) (K : Nat → Nat) (V : Nat → Nat) (x1 : Nat) (f1 : List Value) (x2 : Nat) (x3 : Nat) (x4 : Nat) (f2 : List Value) (x5 : Nat) (x6 : Nat) (x7 : Nat) (x8 : Nat) (x9 : Nat) (x10 : Nat) (hss : zSS E K V) (hf1_n : f1.length = 15) (hf1_14 : f1[14]? = some (.ref x2)) (hf1_4 : f1[4]? = some (.ref x3)) (hf1_9 : f1[9]? = some (.int 0)) (hf1_11 : f1[11]? = some (.int (-1))) (hf1_3 : f1[3]? = some (.ref x4)) (hf2_n : f2.length = 15) (hf2_10 : f2[10]? = some (.int 3)) (hf2_0 : f2[0]? = some (.ref x5)) (hf2_1 : f2[1]? = some (.ref x6)) (hf2_2 : f2[2]? = some (.ref x7)) (hf2_5 : f2[5]? = some (.ref x8)) (hf2_7 : f2[7]? = some (.ref x9)) (hf2_6 : f2[6]? = some (.ref x10)) : zMi E l yX8_readExpression zwX8_readExpression ({ frames := 10, cells := 0, slots := 0, locals := 231 }) D vwCl (zT cA) [.ref x1, .int 0] [(x1, .inr (8, f1)), (x2, .inr (12, f2)), (x3, .inl (cA 1, 6002, .inl (upd (fun _ => 0) 0 0))), (x5, .inl (cA 1, 32, .inl (upd (upd (fun _ => 0) 1 16) 2 24))), (x6, .inl (cA 1, 32, .inl (upd (upd (fun _ => 0) 1 0) 2 0))), (x4, .inl (cA 1, 6002, .inl (upd (fun _ => 0) 0 0))), (x7, .inl (cA 1, 32, .inl (fun _ => 0))), (x8, .inl (cA 1, 32, .inl (fun _ => 0))), (x9, .inl (cA 1, 32, .inl (fun _ => 0))), (x10, .inl (cA 1, 32, .inl (fun _ => 0)))] (S := Unit) (fun (r : Int32) (u : Unit) => (r = 4)) (fun (u : Unit) => [(x1, .inr (8, (f1.set 11 (.int 0)))), (x2, .inr (12, ((f2.set 10 (.int 4)).set 10 (.int 5)))), (x3, .inl (cA 1, 6002, .inl (upd (fun _ => 0) 0 0))), (x5, .inl (cA 1, 32, .inl (upd (upd (upd (upd (fun _ => 0) 1 16) 2 24) 3 14) 4 1))), (x6, .inl (cA 1, 32, .inl (upd (upd (upd (upd (fun _ => 0) 1 0) 2 0) 3 0) 4 0))), (x4, .inl (cA 1, 6002, .inl (upd (fun _ => 0) 0 0))), (x7, .inl (cA 1, 32, .inl (upd (fun _ => 0) 4 1))), (x8, .inl (cA 1, 32, .inl (upd (fun _ => 0) 3 4))), (x9, .inl (cA 1, 32, .inl (upd (fun _ => 0) 3 4))), (x10, .inl (cA 1, 32, .inl (fun _ => 0)))]) := by
  refine zz_enteri (cc := cX8_readExpression) (lv := [(0, .ref x1), (1, .int 0)]) hE 4 (by decide) rfl (Nat.le_of_ble_eq_true rfl) rfl ?_
  intro p e s m args below meth c X hr hin
  refine zz_aload_n X 0 dX8_readExpression_0 rfl rfl ?_
  refine zz_bipush X 14 dX8_readExpression_1 rfl ?_
  refine zz_callVi X (rest := []) (As := [.int 14]) (kX8_node_5 hE l D cA K V x1 f1 x2 x3 f2 x5 x6 hss (zq_len hf1_n (by simp only [List.length_set])) hf1_14 hf1_4 hf1_9 (zq_len hf2_n (by simp only [List.length_set])) hf2_10 hf2_0 hf2_1) 1 (zgV zm_720 zm_721 zm_722 zm_273 zm_719) rfl (by decide +kernel) [0, 2, 1, 3, 4] [5, 6, 7, 8, 9] [(x4, .inl (cA 1, 6002, .inl (upd (fun _ => 0) 0 0))), (x7, .inl (cA 1, 32, .inl (fun _ => 0))), (x8, .inl (cA 1, 32, .inl (fun _ => 0))), (x9, .inl (cA 1, 32, .inl (fun _ => 0))), (x10, .inl (cA 1, 32, .inl (fun _ => 0)))] rfl rfl (by decide) rfl (by decide) (by decide) ⟨Nat.le_of_ble_eq_true rfl, Nat.le_of_ble_eq_true rfl⟩ 0 rfl rfl rfl rfl rfl (Nat.le_of_ble_eq_true rfl) dX8_readExpression_3 (Nat.le_of_ble_eq_true rfl) (Nat.le_of_ble_eq_true rfl) (fun r1 _ hw2 => ?_)
  obtain rfl := hw2
  refine zz_show (ws' := [(x4, .inl (cA 1, 6002, .inl (upd (fun _ => 0) 0 0))), (x7, .inl (cA 1, 32, .inl (fun _ => 0))), (x8, .inl (cA 1, 32, .inl (fun _ => 0))), (x9, .inl (cA 1, 32, .inl (fun _ => 0))), (x10, .inl (cA 1, 32, .inl (fun _ => 0))), (x1, .inr (8, f1)), (x3, .inl (cA 1, 6002, .inl (upd (fun _ => 0) 0 0))), (x2, .inr (12, (f2.set 10 (.int 4)))), (x5, .inl (cA 1, 32, .inl (upd (upd (upd (fun _ => 0) 1 16) 2 24) 3 14))), (x6, .inl (cA 1, 32, .inl (upd (upd (upd (fun _ => 0) 1 0) 2 0) 3 0)))]) rfl ?_
  refine zz_istore_n X [(2, .int 3), (0, .ref x1), (1, .int 0)] dX8_readExpression_6 rfl (by decide) rfl ?_
  refine zz_aload_n X 1 dX8_readExpression_7 rfl rfl ?_
  refine zz_iload_n X 0 dX8_readExpression_8 rfl rfl ?_
  refine zz_iload_n X 2 dX8_readExpression_9 rfl rfl ?_
  refine zz_callVv X (rest := []) (As := [.int 3, .int 0]) (kX8_readLevel_6 hE l D cA K V x1 f1 x2 x4 x3 (f2.set 10 (.int 4)) x5 x6 x7 x8 x9 (upd (upd (upd (fun _ => 0) 1 16) 2 24) 3 14) hss (zq_len hf1_n (by simp only [List.length_set])) hf1_14 hf1_11 hf1_3 hf1_9 hf1_4 (zq_len hf2_n (by simp only [List.length_set])) (zq_same (zq_lt hf2_n (by decide) (by simp only [List.length_set]))) (zq_oth (by decide) (hf2_0)) (zq_oth (by decide) (hf2_1)) (zq_oth (by decide) (hf2_2)) (zq_oth (by decide) (hf2_5)) (zq_oth (by decide) (hf2_7))) 2 (zgV zm_1008 zm_1009 zm_1010 zm_273 zm_1007) rfl (by decide +kernel) [5, 7, 0, 6, 8, 9, 1, 2, 3] [4] [(x10, .inl (cA 1, 32, .inl (fun _ => 0)))] rfl rfl (by decide) rfl (by decide) (by decide) ⟨Nat.le_of_ble_eq_true rfl, Nat.le_of_ble_eq_true rfl⟩ 0 rfl rfl rfl rfl rfl (Nat.le_of_ble_eq_true rfl) dX8_readExpression_10 (Nat.le_of_ble_eq_true rfl) (Nat.le_of_ble_eq_true rfl) (fun _ hw3 => ?_)
  refine zz_show (ws' := [(x10, .inl (cA 1, 32, .inl (fun _ => 0))), (x1, .inr (8, (f1.set 11 (.int 0)))), (x2, .inr (12, ((f2.set 10 (.int 4)).set 10 (.int 5)))), (x4, .inl (cA 1, 6002, .inl (upd (fun _ => 0) 0 0))), (x3, .inl (cA 1, 6002, .inl (upd (fun _ => 0) 0 0))), (x5, .inl (cA 1, 32, .inl (upd (upd (upd (upd (fun _ => 0) 1 16) 2 24) 3 14) 4 1))), (x6, .inl (cA 1, 32, .inl (upd (upd (upd (upd (fun _ => 0) 1 0) 2 0) 3 0) 4 0))), (x7, .inl (cA 1, 32, .inl (upd (fun _ => 0) 4 1))), (x8, .inl (cA 1, 32, .inl (upd (fun _ => 0) 3 4))), (x9, .inl (cA 1, 32, .inl (upd (fun _ => 0) 3 4)))]) rfl ?_
  refine zz_aload_n X 1 dX8_readExpression_13 rfl rfl ?_
  refine zz_get X 1 14 rfl rfl (by decide) (fun w h => List.mem_cons_of_mem _ (zf_X8 w h)) rfl (List.mem_cons_of_mem _ zm_31) (zq_oth (by decide) (hf1_14)) dX8_readExpression_14 ?_
  refine zz_get X 2 5 rfl rfl (by decide) (fun w h => List.mem_cons_of_mem _ (zf_X12 w h)) rfl (List.mem_cons_of_mem _ zm_742) (zq_oth (by decide) (zq_oth (by decide) (hf2_5))) dX8_readExpression_17 ?_
  refine zz_iload_n X 0 dX8_readExpression_20 rfl rfl ?_
  refine zz_iald X 8 1 rfl rfl (vp_in_nI (n := 3) (by decide) (by decide)) (4) rfl dX8_readExpression_21 ?_
  refine zz_istore_n X [(3, .int 4), (2, .int 3), (0, .ref x1), (1, .int 0)] dX8_readExpression_22 rfl (by decide) rfl ?_
  refine zz_aload_n X 2 dX8_readExpression_23 rfl rfl ?_
  refine zz_get X 1 14 rfl rfl (by decide) (fun w h => List.mem_cons_of_mem _ (zf_X8 w h)) rfl (List.mem_cons_of_mem _ zm_31) (zq_oth (by decide) (hf1_14)) dX8_readExpression_24 ?_
  refine zz_get X 2 6 rfl rfl (by decide) (fun w h => List.mem_cons_of_mem _ (zf_X12 w h)) rfl (List.mem_cons_of_mem _ zm_1011) (zq_oth (by decide) (zq_oth (by decide) (hf2_6))) dX8_readExpression_27 ?_
  refine zz_iload_n X 0 dX8_readExpression_30 rfl rfl ?_
  refine zz_iald X 0 1 rfl rfl (vp_in_nI (n := 4) (by decide) (by decide)) (0) rfl dX8_readExpression_31 ?_
  refine zz_if_ne X 39 dX8_readExpression_32 (by decide) (fun h => absurd (by decide) h) (fun _ => ?_)
  refine zz_iload_n X 0 dX8_readExpression_35 rfl rfl ?_
  refine zz_goto X 40 dX8_readExpression_36 (by decide) ?_
  exact zz_iret X hr (()) [1, 2, 4, 5, 6, 3, 7, 8, 9, 0] (by decide) rfl rfl (Nat.le_of_ble_eq_true rfl) (Nat.le_of_ble_eq_true rfl) (rfl) dX8_readExpression_40

set_option maxHeartbeats 4000000 in
set_option maxRecDepth 100000 in
/-- append -/
theorem kX12_append_3 {E : zEn} (hE : zOk E) (l : Launch) (D : va_G) (cA : Nat → ClassId) (K : Nat → Nat) (V : Nat → Nat) (x1 : Nat) (f1 : List Value) (x2 : Nat) (x3 : Nat) (hss : zSS E K V) (hf1_n : f1.length = 15) (hf1_5 : f1[5]? = some (.ref x2)) (hf1_7 : f1[7]? = some (.ref x3)) : zMv E l yX12_append zwX12_append ({ frames := 0, cells := 0, slots := 0, locals := 0 }) D vwCl (zT cA) [.ref x1, .int 2, .int 4] [(x1, .inr (12, f1)), (x2, .inl (cA 1, 32, .inl (upd (fun _ => 0) 3 4))), (x3, .inl (cA 1, 32, .inl (upd (fun _ => 0) 3 4)))] (S := Unit) (fun (u : Unit) => (True)) (fun (u : Unit) => [(x1, .inr (12, f1)), (x2, .inl (cA 1, 32, .inl (upd (upd (fun _ => 0) 3 4) 2 4))), (x3, .inl (cA 1, 32, .inl (upd (upd (fun _ => 0) 3 4) 2 4)))]) := by
  refine zz_enterv (cc := cX12_append) (lv := [(0, .ref x1), (1, .int 2), (2, .int 4)]) hE 3 (by decide) rfl (Nat.le_of_ble_eq_true rfl) rfl ?_
  intro p e s m args below meth c X hr hin
  refine zz_iload_n X 2 dX12_append_0 rfl rfl ?_
  refine zz_if_ne X 5 dX12_append_1 (by decide) (fun _ => ?_) (fun h => absurd h (by decide))
  refine zz_aload_n X 0 dX12_append_5 rfl rfl ?_
  refine zz_get X 0 5 rfl rfl (by decide) (fun w h => List.mem_cons_of_mem _ (zf_X12 w h)) rfl (List.mem_cons_of_mem _ zm_695) hf1_5 dX12_append_6 ?_
  refine zz_iload_n X 1 dX12_append_9 rfl rfl ?_
  refine zz_iald X 1 1 rfl rfl (vp_in_nI (n := 2) (by decide) (by decide)) (0) rfl dX12_append_10 ?_
  refine zz_if_ne X 24 dX12_append_11 (by decide) (fun h => absurd (by decide) h) (fun _ => ?_)
  refine zz_aload_n X 0 dX12_append_14 rfl rfl ?_
  refine zz_get X 0 5 rfl rfl (by decide) (fun w h => List.mem_cons_of_mem _ (zf_X12 w h)) rfl (List.mem_cons_of_mem _ zm_695) hf1_5 dX12_append_15 ?_
  refine zz_iload_n X 1 dX12_append_18 rfl rfl ?_
  refine zz_iload_n X 2 dX12_append_19 rfl rfl ?_
  refine zz_iast X 1 1 rfl rfl (vp_in_nI (n := 2) (by decide) (by decide)) 2 (by decide) dX12_append_20 [(x1, .inr (12, f1)), (x2, .inl (cA 1, 32, .inl (upd (upd (fun _ => 0) 3 4) 2 4))), (x3, .inl (cA 1, 32, .inl (upd (fun _ => 0) 3 4)))] rfl ?_
  refine zz_goto X 36 dX12_append_21 (by decide) ?_
  refine zz_aload_n X 0 dX12_append_36 rfl rfl ?_
  refine zz_get X 0 7 rfl rfl (by decide) (fun w h => List.mem_cons_of_mem _ (zf_X12 w h)) rfl (List.mem_cons_of_mem _ zm_697) hf1_7 dX12_append_37 ?_
  refine zz_iload_n X 1 dX12_append_40 rfl rfl ?_
  refine zz_iload_n X 2 dX12_append_41 rfl rfl ?_
  refine zz_iast X 2 1 rfl rfl (vp_in_nI (n := 2) (by decide) (by decide)) 2 (by decide) dX12_append_42 [(x1, .inr (12, f1)), (x2, .inl (cA 1, 32, .inl (upd (upd (fun _ => 0) 3 4) 2 4))), (x3, .inl (cA 1, 32, .inl (upd (upd (fun _ => 0) 3 4) 2 4)))] rfl ?_
  exact zz_vret X hr (()) [0, 1, 2] (by decide) rfl rfl (Nat.le_of_ble_eq_true rfl) (Nat.le_of_ble_eq_true rfl) (trivial) dX12_append_43

set_option maxHeartbeats 4000000 in
set_option maxRecDepth 100000 in
/-- is -/
theorem kX8_is_17 {E : zEn} (hE : zOk E) (l : Launch) (D : va_G) (cA : Nat → ClassId) (K : Nat → Nat) (V : Nat → Nat) (x1 : Nat) (f1 : List Value) (hss : zSS E K V) (hf1_n : f1.length = 15) (hf1_11 : f1[11]? = some (.int 0)) : zMi E l yX8_is zwX8_is ({ frames := 0, cells := 0, slots := 0, locals := 0 }) D vwCl (zT cA) [.ref x1, .int 20] [(x1, .inr (8, f1))] (S := Unit) (fun (r : Int32) (u : Unit) => (r = 0)) (fun (u : Unit) => [(x1, .inr (8, f1))]) := by
  refine zz_enterz (cc := cX8_is) (lv := [(0, .ref x1), (1, .int 20)]) hE 2 (by decide) rfl (Nat.le_of_ble_eq_true rfl) rfl ?_
  intro p e s m args below meth c X hr hin
  refine zz_aload_n X 0 dX8_is_0 rfl rfl ?_
  refine zz_get X 0 11 rfl rfl (by decide) (fun w h => List.mem_cons_of_mem _ (zf_X8 w h)) rfl (List.mem_cons_of_mem _ zm_28) hf1_11 dX8_is_1 ?_
  refine zz_if_ge X 24 dX8_is_4 (by decide) (fun _ => ?_) (fun h => absurd (by decide) h)
  refine zz_iconst X 0 dX8_is_24 rfl ?_
  exact zz_zret X hr (by decide) (()) [0] (by decide) rfl rfl (Nat.le_of_ble_eq_true rfl) (Nat.le_of_ble_eq_true rfl) (rfl) dX8_is_25

set_option maxHeartbeats 4000000 in
set_option maxRecDepth 100000 in
/-- is -/
theorem kX8_is_18 {E : zEn} (hE : zOk E) (l : Launch) (D : va_G) (cA : Nat → ClassId) (K : Nat → Nat) (V : Nat → Nat) (x1 : Nat) (f1 : List Value) (hss : zSS E K V) (hf1_n : f1.length = 15) (hf1_11 : f1[11]? = some (.int 0)) : zMi E l yX8_is zwX8_is ({ frames := 0, cells := 0, slots := 0, locals := 0 }) D vwCl (zT cA) [.ref x1, .int 25] [(x1, .inr (8, f1))] (S := Unit) (fun (r : Int32) (u : Unit) => (r = 0)) (fun (u : Unit) => [(x1, .inr (8, f1))]) := by
  refine zz_enterz (cc := cX8_is) (lv := [(0, .ref x1), (1, .int 25)]) hE 2 (by decide) rfl (Nat.le_of_ble_eq_true rfl) rfl ?_
  intro p e s m args below meth c X hr hin
  refine zz_aload_n X 0 dX8_is_0 rfl rfl ?_
  refine zz_get X 0 11 rfl rfl (by decide) (fun w h => List.mem_cons_of_mem _ (zf_X8 w h)) rfl (List.mem_cons_of_mem _ zm_28) hf1_11 dX8_is_1 ?_
  refine zz_if_ge X 24 dX8_is_4 (by decide) (fun _ => ?_) (fun h => absurd (by decide) h)
  refine zz_iconst X 0 dX8_is_24 rfl ?_
  exact zz_zret X hr (by decide) (()) [0] (by decide) rfl rfl (Nat.le_of_ble_eq_true rfl) (Nat.le_of_ble_eq_true rfl) (rfl) dX8_is_25

set_option maxHeartbeats 4000000 in
set_option maxRecDepth 100000 in
/-- is -/
theorem kX8_is_19 {E : zEn} (hE : zOk E) (l : Launch) (D : va_G) (cA : Nat → ClassId) (K : Nat → Nat) (V : Nat → Nat) (x1 : Nat) (f1 : List Value) (hss : zSS E K V) (hf1_n : f1.length = 15) (hf1_11 : f1[11]? = some (.int 0)) : zMi E l yX8_is zwX8_is ({ frames := 0, cells := 0, slots := 0, locals := 0 }) D vwCl (zT cA) [.ref x1, .int 16] [(x1, .inr (8, f1))] (S := Unit) (fun (r : Int32) (u : Unit) => (r = 0)) (fun (u : Unit) => [(x1, .inr (8, f1))]) := by
  refine zz_enterz (cc := cX8_is) (lv := [(0, .ref x1), (1, .int 16)]) hE 2 (by decide) rfl (Nat.le_of_ble_eq_true rfl) rfl ?_
  intro p e s m args below meth c X hr hin
  refine zz_aload_n X 0 dX8_is_0 rfl rfl ?_
  refine zz_get X 0 11 rfl rfl (by decide) (fun w h => List.mem_cons_of_mem _ (zf_X8 w h)) rfl (List.mem_cons_of_mem _ zm_28) hf1_11 dX8_is_1 ?_
  refine zz_if_ge X 24 dX8_is_4 (by decide) (fun _ => ?_) (fun h => absurd (by decide) h)
  refine zz_iconst X 0 dX8_is_24 rfl ?_
  exact zz_zret X hr (by decide) (()) [0] (by decide) rfl rfl (Nat.le_of_ble_eq_true rfl) (Nat.le_of_ble_eq_true rfl) (rfl) dX8_is_25

set_option maxHeartbeats 4000000 in
set_option maxRecDepth 100000 in
/-- readWiths -/
theorem kX8_readWiths_1 {E : zEn} (hE : zOk E) (l : Launch) (D : va_G) (cA : Nat → ClassId) (K : Nat → Nat) (V : Nat → Nat) (x1 : Nat) (f1 : List Value) (hss : zSS E K V) (hf1_n : f1.length = 15) (hf1_11 : f1[11]? = some (.int 0)) : zMv E l yX8_readWiths zwX8_readWiths ({ frames := 1, cells := 0, slots := 0, locals := 21 }) D vwCl (zT cA) [.ref x1, .int 2] [(x1, .inr (8, f1))] (S := Unit) (fun (u : Unit) => (True)) (fun (u : Unit) => [(x1, .inr (8, f1))]) := by
  refine zz_enterv (cc := cX8_readWiths) (lv := [(0, .ref x1), (1, .int 2)]) hE 6 (by decide) rfl (Nat.le_of_ble_eq_true rfl) rfl ?_
  intro p e s m args below meth c X hr hin
  refine zz_iconst X 0 dX8_readWiths_0 rfl ?_
  refine zz_istore_n X [(2, .int 0), (0, .ref x1), (1, .int 2)] dX8_readWiths_1 rfl (by decide) rfl ?_
  refine zz_iconst X 0 dX8_readWiths_2 rfl ?_
  refine zz_istore_n X [(3, .int 0), (2, .int 0), (0, .ref x1), (1, .int 2)] dX8_readWiths_3 rfl (by decide) rfl ?_
  refine zz_iload_n X 0 dX8_readWiths_4 rfl rfl ?_
  refine zz_iconst X 4 dX8_readWiths_5 rfl ?_
  refine zz_icmp_gt X 244 dX8_readWiths_6 (by decide) (fun h => absurd h (by decide)) (fun _ => ?_)
  refine zz_aload_n X 2 dX8_readWiths_9 rfl rfl ?_
  refine zz_bipush X 16 dX8_readWiths_10 rfl ?_
  refine zz_callVi X (rest := []) (As := [.int 16]) (kX8_is_19 hE l D cA K V x1 f1 hss (zq_len hf1_n (by simp only [List.length_set])) hf1_11) 1 (zgV zm_704 zm_705 zm_706 zm_273 zm_703) rfl (by decide +kernel) [0] [] [] rfl rfl (by decide) rfl (by decide) (by decide) ⟨Nat.le_of_ble_eq_true rfl, Nat.le_of_ble_eq_true rfl⟩ 0 rfl rfl rfl rfl rfl (Nat.le_of_ble_eq_true rfl) dX8_readWiths_12 (Nat.le_of_ble_eq_true rfl) (Nat.le_of_ble_eq_true rfl) (fun r1 _ hw2 => ?_)
  obtain rfl := hw2
  refine zz_show (ws' := [(x1, .inr (8, f1))]) rfl ?_
  refine zz_if_eq X 244 dX8_readWiths_15 (by decide) (fun _ => ?_) (fun h => absurd (by decide) h)
  exact zz_vret X hr (()) [0] (by decide) rfl rfl (Nat.le_of_ble_eq_true rfl) (Nat.le_of_ble_eq_true rfl) (trivial) dX8_readWiths_244

set_option maxHeartbeats 4000000 in
set_option maxRecDepth 100000 in
/-- readLiteral -/
theorem kX8_readLiteral_1 {E : zEn} (hE : zOk E) (l : Launch) (D : va_G) (cA : Nat → ClassId) (K : Nat → Nat) (V : Nat → Nat) (x1 : Nat) (f1 : List Value) (x2 : Nat) (x3 : Nat) (x4 : Nat) (f2 : List Value) (x5 : Nat) (x6 : Nat) (x7 : Nat) (x8 : Nat) (x9 : Nat) (x10 : Nat) (hss : zSS E K V) (hf1_n : f1.length = 15) (hf1_11 : f1[11]? = some (.int (-1))) (hf1_3 : f1[3]? = some (.ref x2)) (hf1_9 : f1[9]? = some (.int 0)) (hf1_14 : f1[14]? = some (.ref x3)) (hf1_4 : f1[4]? = some (.ref x4)) (hf2_n : f2.length = 15) (hf2_10 : f2[10]? = some (.int 2)) (hf2_0 : f2[0]? = some (.ref x5)) (hf2_1 : f2[1]? = some (.ref x6)) (hf2_2 : f2[2]? = some (.ref x7)) (hf2_5 : f2[5]? = some (.ref x8)) (hf2_7 : f2[7]? = some (.ref x9)) (hf2_6 : f2[6]? = some (.ref x10)) : zMi E l yX8_readLiteral zwX8_readLiteral ({ frames := 11, cells := 0, slots := 0, locals := 254 }) D vwCl (zT cA) [.ref x1] [(x1, .inr (8, f1)), (x2, .inl (cA 1, 6002, .inl (upd (fun _ => 0) 0 0))), (x3, .inr (12, f2)), (x4, .inl (cA 1, 6002, .inl (upd (fun _ => 0) 0 0))), (x5, .inl (cA 1, 32, .inl (upd (fun _ => 0) 1 16))), (x6, .inl (cA 1, 32, .inl (upd (fun _ => 0) 1 0))), (x7, .inl (cA 1, 32, .inl (fun _ => 0))), (x8, .inl (cA 1, 32, .inl (fun _ => 0))), (x9, .inl (cA 1, 32, .inl (fun _ => 0))), (x10, .inl (cA 1, 32, .inl (fun _ => 0)))] (S := Unit) (fun (r : Int32) (u : Unit) => (r = 2)) (fun (u : Unit) => [(x1, .inr (8, (f1.set 11 (.int 0)))), (x2, .inl (cA 1, 6002, .inl (upd (fun _ => 0) 0 0))), (x3, .inr (12, (((f2.set 10 (.int 3)).set 10 (.int 4)).set 10 (.int 5)))), (x4, .inl (cA 1, 6002, .inl (upd (fun _ => 0) 0 0))), (x5, .inl (cA 1, 32, .inl (upd (upd (upd (upd (fun _ => 0) 1 16) 2 24) 3 14) 4 1))), (x6, .inl (cA 1, 32, .inl (upd (upd (upd (upd (fun _ => 0) 1 0) 2 0) 3 0) 4 0))), (x7, .inl (cA 1, 32, .inl (upd (fun _ => 0) 4 1))), (x8, .inl (cA 1, 32, .inl (upd (upd (fun _ => 0) 3 4) 2 4))), (x9, .inl (cA 1, 32, .inl (upd (upd (fun _ => 0) 3 4) 2 4))), (x10, .inl (cA 1, 32, .inl (fun _ => 0)))]) := by
  refine zz_enteri (cc := cX8_readLiteral) (lv := [(0, .ref x1)]) hE 4 (by decide) rfl (Nat.le_of_ble_eq_true rfl) rfl ?_
  intro p e s m args below meth c X hr hin
  refine zz_aload_n X 0 dX8_readLiteral_0 rfl rfl ?_
  refine zz_bipush X 12 dX8_readLiteral_1 rfl ?_
  refine zz_callVi X (rest := []) (As := [.int 12]) (kX8_is_4 hE l D cA K V x1 f1 x2 hss (zq_len hf1_n (by simp only [List.length_set])) hf1_11 hf1_3 hf1_9) 1 (zgV zm_704 zm_705 zm_706 zm_273 zm_703) rfl (by decide +kernel) [0, 1] [2, 3, 4, 5, 6, 7, 8, 9] [(x3, .inr (12, f2)), (x4, .inl (cA 1, 6002, .inl (upd (fun _ => 0) 0 0))), (x5, .inl (cA 1, 32, .inl (upd (fun _ => 0) 1 16))), (x6, .inl (cA 1, 32, .inl (upd (fun _ => 0) 1 0))), (x7, .inl (cA 1, 32, .inl (fun _ => 0))), (x8, .inl (cA 1, 32, .inl (fun _ => 0))), (x9, .inl (cA 1, 32, .inl (fun _ => 0))), (x10, .inl (cA 1, 32, .inl (fun _ => 0)))] rfl rfl (by decide) rfl (by decide) (by decide) ⟨Nat.le_of_ble_eq_true rfl, Nat.le_of_ble_eq_true rfl⟩ 0 rfl rfl rfl rfl rfl (Nat.le_of_ble_eq_true rfl) dX8_readLiteral_3 (Nat.le_of_ble_eq_true rfl) (Nat.le_of_ble_eq_true rfl) (fun r1 _ hw2 => ?_)
  obtain rfl := hw2
  refine zz_show (ws' := [(x3, .inr (12, f2)), (x4, .inl (cA 1, 6002, .inl (upd (fun _ => 0) 0 0))), (x5, .inl (cA 1, 32, .inl (upd (fun _ => 0) 1 16))), (x6, .inl (cA 1, 32, .inl (upd (fun _ => 0) 1 0))), (x7, .inl (cA 1, 32, .inl (fun _ => 0))), (x8, .inl (cA 1, 32, .inl (fun _ => 0))), (x9, .inl (cA 1, 32, .inl (fun _ => 0))), (x10, .inl (cA 1, 32, .inl (fun _ => 0))), (x1, .inr (8, f1)), (x2, .inl (cA 1, 6002, .inl (upd (fun _ => 0) 0 0)))]) rfl ?_
  refine zz_if_eq X 17 dX8_readLiteral_6 (by decide) (fun _ => ?_) (fun h => absurd (by decide) h)
  refine zz_aload_n X 0 dX8_readLiteral_17 rfl rfl ?_
  refine zz_bipush X 14 dX8_readLiteral_18 rfl ?_
  refine zz_callVi X (rest := []) (As := [.int 14]) (kX8_is_5 hE l D cA K V x1 f1 x2 hss (zq_len hf1_n (by simp only [List.length_set])) hf1_11 hf1_3 hf1_9) 1 (zgV zm_704 zm_705 zm_706 zm_273 zm_703) rfl (by decide +kernel) [8, 9] [0, 1, 2, 3, 4, 5, 6, 7] [(x3, .inr (12, f2)), (x4, .inl (cA 1, 6002, .inl (upd (fun _ => 0) 0 0))), (x5, .inl (cA 1, 32, .inl (upd (fun _ => 0) 1 16))), (x6, .inl (cA 1, 32, .inl (upd (fun _ => 0) 1 0))), (x7, .inl (cA 1, 32, .inl (fun _ => 0))), (x8, .inl (cA 1, 32, .inl (fun _ => 0))), (x9, .inl (cA 1, 32, .inl (fun _ => 0))), (x10, .inl (cA 1, 32, .inl (fun _ => 0)))] rfl rfl (by decide) rfl (by decide) (by decide) ⟨Nat.le_of_ble_eq_true rfl, Nat.le_of_ble_eq_true rfl⟩ 0 rfl rfl rfl rfl rfl (Nat.le_of_ble_eq_true rfl) dX8_readLiteral_20 (Nat.le_of_ble_eq_true rfl) (Nat.le_of_ble_eq_true rfl) (fun r3 _ hw4 => ?_)
  obtain rfl := hw4
  refine zz_show (ws' := [(x3, .inr (12, f2)), (x4, .inl (cA 1, 6002, .inl (upd (fun _ => 0) 0 0))), (x5, .inl (cA 1, 32, .inl (upd (fun _ => 0) 1 16))), (x6, .inl (cA 1, 32, .inl (upd (fun _ => 0) 1 0))), (x7, .inl (cA 1, 32, .inl (fun _ => 0))), (x8, .inl (cA 1, 32, .inl (fun _ => 0))), (x9, .inl (cA 1, 32, .inl (fun _ => 0))), (x10, .inl (cA 1, 32, .inl (fun _ => 0))), (x1, .inr (8, f1)), (x2, .inl (cA 1, 6002, .inl (upd (fun _ => 0) 0 0)))]) rfl ?_
  refine zz_if_eq X 34 dX8_readLiteral_23 (by decide) (fun _ => ?_) (fun h => absurd (by decide) h)
  refine zz_aload_n X 0 dX8_readLiteral_34 rfl rfl ?_
  refine zz_bipush X 15 dX8_readLiteral_35 rfl ?_
  refine zz_callVi X (rest := []) (As := [.int 15]) (kX8_is_6 hE l D cA K V x1 f1 x2 hss (zq_len hf1_n (by simp only [List.length_set])) hf1_11 hf1_3 hf1_9) 1 (zgV zm_704 zm_705 zm_706 zm_273 zm_703) rfl (by decide +kernel) [8, 9] [0, 1, 2, 3, 4, 5, 6, 7] [(x3, .inr (12, f2)), (x4, .inl (cA 1, 6002, .inl (upd (fun _ => 0) 0 0))), (x5, .inl (cA 1, 32, .inl (upd (fun _ => 0) 1 16))), (x6, .inl (cA 1, 32, .inl (upd (fun _ => 0) 1 0))), (x7, .inl (cA 1, 32, .inl (fun _ => 0))), (x8, .inl (cA 1, 32, .inl (fun _ => 0))), (x9, .inl (cA 1, 32, .inl (fun _ => 0))), (x10, .inl (cA 1, 32, .inl (fun _ => 0)))] rfl rfl (by decide) rfl (by decide) (by decide) ⟨Nat.le_of_ble_eq_true rfl, Nat.le_of_ble_eq_true rfl⟩ 0 rfl rfl rfl rfl rfl (Nat.le_of_ble_eq_true rfl) dX8_readLiteral_37 (Nat.le_of_ble_eq_true rfl) (Nat.le_of_ble_eq_true rfl) (fun r5 _ hw6 => ?_)
  obtain rfl := hw6
  refine zz_show (ws' := [(x3, .inr (12, f2)), (x4, .inl (cA 1, 6002, .inl (upd (fun _ => 0) 0 0))), (x5, .inl (cA 1, 32, .inl (upd (fun _ => 0) 1 16))), (x6, .inl (cA 1, 32, .inl (upd (fun _ => 0) 1 0))), (x7, .inl (cA 1, 32, .inl (fun _ => 0))), (x8, .inl (cA 1, 32, .inl (fun _ => 0))), (x9, .inl (cA 1, 32, .inl (fun _ => 0))), (x10, .inl (cA 1, 32, .inl (fun _ => 0))), (x1, .inr (8, f1)), (x2, .inl (cA 1, 6002, .inl (upd (fun _ => 0) 0 0)))]) rfl ?_
  refine zz_if_eq X 70 dX8_readLiteral_40 (by decide) (fun _ => ?_) (fun h => absurd (by decide) h)
  refine zz_aload_n X 0 dX8_readLiteral_70 rfl rfl ?_
  refine zz_bipush X 24 dX8_readLiteral_71 rfl ?_
  refine zz_callVi X (rest := []) (As := [.int 24]) (kX8_node_4 hE l D cA K V x1 f1 x3 x4 f2 x5 x6 hss (zq_len hf1_n (by simp only [List.length_set])) hf1_14 hf1_4 hf1_9 (zq_len hf2_n (by simp only [List.length_set])) hf2_10 hf2_0 hf2_1) 1 (zgV zm_720 zm_721 zm_722 zm_273 zm_719) rfl (by decide +kernel) [8, 1, 0, 2, 3] [4, 5, 6, 7, 9] [(x7, .inl (cA 1, 32, .inl (fun _ => 0))), (x8, .inl (cA 1, 32, .inl (fun _ => 0))), (x9, .inl (cA 1, 32, .inl (fun _ => 0))), (x10, .inl (cA 1, 32, .inl (fun _ => 0))), (x2, .inl (cA 1, 6002, .inl (upd (fun _ => 0) 0 0)))] rfl rfl (by decide) rfl (by decide) (by decide) ⟨Nat.le_of_ble_eq_true rfl, Nat.le_of_ble_eq_true rfl⟩ 0 rfl rfl rfl rfl rfl (Nat.le_of_ble_eq_true rfl) dX8_readLiteral_73 (Nat.le_of_ble_eq_true rfl) (Nat.le_of_ble_eq_true rfl) (fun r7 _ hw8 => ?_)
  obtain rfl := hw8
  refine zz_show (ws' := [(x7, .inl (cA 1, 32, .inl (fun _ => 0))), (x8, .inl (cA 1, 32, .inl (fun _ => 0))), (x9, .inl (cA 1, 32, .inl (fun _ => 0))), (x10, .inl (cA 1, 32, .inl (fun _ => 0))), (x2, .inl (cA 1, 6002, .inl (upd (fun _ => 0) 0 0))), (x1, .inr (8, f1)), (x4, .inl (cA 1, 6002, .inl (upd (fun _ => 0) 0 0))), (x3, .inr (12, (f2.set 10 (.int 3)))), (x5, .inl (cA 1, 32, .inl (upd (upd (fun _ => 0) 1 16) 2 24))), (x6, .inl (cA 1, 32, .inl (upd (upd (fun _ => 0) 1 0) 2 0)))]) rfl ?_
  refine zz_istore_n X [(1, .int 2), (0, .ref x1)] dX8_readLiteral_76 rfl (by decide) rfl ?_
  refine zz_aload_n X 1 dX8_readLiteral_77 rfl rfl ?_
  refine zz_iconst X 0 dX8_readLiteral_78 rfl ?_
  refine zz_callVi X (rest := []) (As := [.int 0]) (kX8_readExpression_1 hE l D cA K V x1 f1 x3 x4 x2 (f2.set 10 (.int 3)) x5 x6 x7 x8 x9 x10 hss (zq_len hf1_n (by simp only [List.length_set])) hf1_14 hf1_4 hf1_9 hf1_11 hf1_3 (zq_len hf2_n (by simp only [List.length_set])) (zq_same (zq_lt hf2_n (by decide) (by simp only [List.length_set]))) (zq_oth (by decide) (hf2_0)) (zq_oth (by decide) (hf2_1)) (zq_oth (by decide) (hf2_2)) (zq_oth (by decide) (hf2_5)) (zq_oth (by decide) (hf2_7)) (zq_oth (by decide) (hf2_6))) 1 (zgV zm_1013 zm_1014 zm_1015 zm_273 zm_1012) rfl (by decide +kernel) [5, 7, 6, 8, 9, 4, 0, 1, 2, 3] [] [] rfl rfl (by decide) rfl (by decide) (by decide) ⟨Nat.le_of_ble_eq_true rfl, Nat.le_of_ble_eq_true rfl⟩ 0 rfl rfl rfl rfl rfl (Nat.le_of_ble_eq_true rfl) dX8_readLiteral_79 (Nat.le_of_ble_eq_true rfl) (Nat.le_of_ble_eq_true rfl) (fun r9 _ hw10 => ?_)
  obtain rfl := hw10
  refine zz_show (ws' := [(x1, .inr (8, (f1.set 11 (.int 0)))), (x3, .inr (12, (((f2.set 10 (.int 3)).set 10 (.int 4)).set 10 (.int 5)))), (x4, .inl (cA 1, 6002, .inl (upd (fun _ => 0) 0 0))), (x5, .inl (cA 1, 32, .inl (upd (upd (upd (upd (fun _ => 0) 1 16) 2 24) 3 14) 4 1))), (x6, .inl (cA 1, 32, .inl (upd (upd (upd (upd (fun _ => 0) 1 0) 2 0) 3 0) 4 0))), (x2, .inl (cA 1, 6002, .inl (upd (fun _ => 0) 0 0))), (x7, .inl (cA 1, 32, .inl (upd (fun _ => 0) 4 1))), (x8, .inl (cA 1, 32, .inl (upd (fun _ => 0) 3 4))), (x9, .inl (cA 1, 32, .inl (upd (fun _ => 0) 3 4))), (x10, .inl (cA 1, 32, .inl (fun _ => 0)))]) rfl ?_
  refine zz_istore_n X [(2, .int 4), (1, .int 2), (0, .ref x1)] dX8_readLiteral_82 rfl (by decide) rfl ?_
  refine zz_aload_n X 2 dX8_readLiteral_83 rfl rfl ?_
  refine zz_get X 0 14 rfl rfl (by decide) (fun w h => List.mem_cons_of_mem _ (zf_X8 w h)) rfl (List.mem_cons_of_mem _ zm_31) (zq_oth (by decide) (hf1_14)) dX8_readLiteral_84 ?_
  refine zz_iload_n X 1 dX8_readLiteral_87 rfl rfl ?_
  refine zz_iload_n X 0 dX8_readLiteral_88 rfl rfl ?_
  refine zz_callVv X (rest := []) (As := [.int 2, .int 4]) (kX12_append_3 hE l D cA K V x3 (((f2.set 10 (.int 3)).set 10 (.int 4)).set 10 (.int 5)) x8 x9 hss (zq_len hf2_n (by simp only [List.length_set])) (zq_oth (by decide) (zq_oth (by decide) (zq_oth (by decide) (hf2_5)))) (zq_oth (by decide) (zq_oth (by decide) (zq_oth (by decide) (hf2_7))))) 2 (zgV zm_733 zm_734 zm_735 zm_681 zm_732) rfl (by decide +kernel) [1, 7, 8] [0, 2, 3, 4, 5, 6, 9] [(x1, .inr (8, (f1.set 11 (.int 0)))), (x4, .inl (cA 1, 6002, .inl (upd (fun _ => 0) 0 0))), (x5, .inl (cA 1, 32, .inl (upd (upd (upd (upd (fun _ => 0) 1 16) 2 24) 3 14) 4 1))), (x6, .inl (cA 1, 32, .inl (upd (upd (upd (upd (fun _ => 0) 1 0) 2 0) 3 0) 4 0))), (x2, .inl (cA 1, 6002, .inl (upd (fun _ => 0) 0 0))), (x7, .inl (cA 1, 32, .inl (upd (fun _ => 0) 4 1))), (x10, .inl (cA 1, 32, .inl (fun _ => 0)))] rfl rfl (by decide) rfl (by decide) (by decide) ⟨Nat.le_of_ble_eq_true rfl, Nat.le_of_ble_eq_true rfl⟩ 0 rfl rfl rfl rfl rfl (Nat.le_of_ble_eq_true rfl) dX8_readLiteral_89 (Nat.le_of_ble_eq_true rfl) (Nat.le_of_ble_eq_true rfl) (fun _ hw11 => ?_)
  refine zz_show (ws' := [(x1, .inr (8, (f1.set 11 (.int 0)))), (x4, .inl (cA 1, 6002, .inl (upd (fun _ => 0) 0 0))), (x5, .inl (cA 1, 32, .inl (upd (upd (upd (upd (fun _ => 0) 1 16) 2 24) 3 14) 4 1))), (x6, .inl (cA 1, 32, .inl (upd (upd (upd (upd (fun _ => 0) 1 0) 2 0) 3 0) 4 0))), (x2, .inl (cA 1, 6002, .inl (upd (fun _ => 0) 0 0))), (x7, .inl (cA 1, 32, .inl (upd (fun _ => 0) 4 1))), (x10, .inl (cA 1, 32, .inl (fun _ => 0))), (x3, .inr (12, (((f2.set 10 (.int 3)).set 10 (.int 4)).set 10 (.int 5)))), (x8, .inl (cA 1, 32, .inl (upd (upd (fun _ => 0) 3 4) 2 4))), (x9, .inl (cA 1, 32, .inl (upd (upd (fun _ => 0) 3 4) 2 4)))]) rfl ?_
  refine zz_aload_n X 2 dX8_readLiteral_92 rfl rfl ?_
  refine zz_bipush X 20 dX8_readLiteral_93 rfl ?_
  refine zz_callVi X (rest := []) (As := [.int 20]) (kX8_is_17 hE l D cA K V x1 (f1.set 11 (.int 0)) hss (zq_len hf1_n (by simp only [List.length_set])) (zq_same (zq_lt hf1_n (by decide) (by simp only [List.length_set])))) 1 (zgV zm_704 zm_705 zm_706 zm_273 zm_703) rfl (by decide +kernel) [0] [1, 2, 3, 4, 5, 6, 7, 8, 9] [(x4, .inl (cA 1, 6002, .inl (upd (fun _ => 0) 0 0))), (x5, .inl (cA 1, 32, .inl (upd (upd (upd (upd (fun _ => 0) 1 16) 2 24) 3 14) 4 1))), (x6, .inl (cA 1, 32, .inl (upd (upd (upd (upd (fun _ => 0) 1 0) 2 0) 3 0) 4 0))), (x2, .inl (cA 1, 6002, .inl (upd (fun _ => 0) 0 0))), (x7, .inl (cA 1, 32, .inl (upd (fun _ => 0) 4 1))), (x10, .inl (cA 1, 32, .inl (fun _ => 0))), (x3, .inr (12, (((f2.set 10 (.int 3)).set 10 (.int 4)).set 10 (.int 5)))), (x8, .inl (cA 1, 32, .inl (upd (upd (fun _ => 0) 3 4) 2 4))), (x9, .inl (cA 1, 32, .inl (upd (upd (fun _ => 0) 3 4) 2 4)))] rfl rfl (by decide) rfl (by decide) (by decide) ⟨Nat.le_of_ble_eq_true rfl, Nat.le_of_ble_eq_true rfl⟩ 0 rfl rfl rfl rfl rfl (Nat.le_of_ble_eq_true rfl) dX8_readLiteral_95 (Nat.le_of_ble_eq_true rfl) (Nat.le_of_ble_eq_true rfl) (fun r12 _ hw13 => ?_)
  obtain rfl := hw13
  refine zz_show (ws' := [(x4, .inl (cA 1, 6002, .inl (upd (fun _ => 0) 0 0))), (x5, .inl (cA 1, 32, .inl (upd (upd (upd (upd (fun _ => 0) 1 16) 2 24) 3 14) 4 1))), (x6, .inl (cA 1, 32, .inl (upd (upd (upd (upd (fun _ => 0) 1 0) 2 0) 3 0) 4 0))), (x2, .inl (cA 1, 6002, .inl (upd (fun _ => 0) 0 0))), (x7, .inl (cA 1, 32, .inl (upd (fun _ => 0) 4 1))), (x10, .inl (cA 1, 32, .inl (fun _ => 0))), (x3, .inr (12, (((f2.set 10 (.int 3)).set 10 (.int 4)).set 10 (.int 5)))), (x8, .inl (cA 1, 32, .inl (upd (upd (fun _ => 0) 3 4) 2 4))), (x9, .inl (cA 1, 32, .inl (upd (upd (fun _ => 0) 3 4) 2 4))), (x1, .inr (8, (f1.set 11 (.int 0))))]) rfl ?_
  refine zz_istore_n X [(3, .int 0), (2, .int 4), (1, .int 2), (0, .ref x1)] dX8_readLiteral_98 rfl (by decide) rfl ?_
  refine zz_iload_n X 0 dX8_readLiteral_99 rfl rfl ?_
  refine zz_if_eq X 121 dX8_readLiteral_100 (by decide) (fun _ => ?_) (fun h => absurd (by decide) h)
  refine zz_iload_n X 0 dX8_readLiteral_121 rfl rfl ?_
  refine zz_if_ne X 134 dX8_readLiteral_122 (by decide) (fun h => absurd (by decide) h) (fun _ => ?_)
  refine zz_aload_n X 3 dX8_readLiteral_125 rfl rfl ?_
  refine zz_bipush X 25 dX8_readLiteral_126 rfl ?_
  refine zz_callVi X (rest := []) (As := [.int 25]) (kX8_is_18 hE l D cA K V x1 (f1.set 11 (.int 0)) hss (zq_len hf1_n (by simp only [List.length_set])) (zq_same (zq_lt hf1_n (by decide) (by simp only [List.length_set])))) 1 (zgV zm_704 zm_705 zm_706 zm_273 zm_703) rfl (by decide +kernel) [9] [0, 1, 2, 3, 4, 5, 6, 7, 8] [(x4, .inl (cA 1, 6002, .inl (upd (fun _ => 0) 0 0))), (x5, .inl (cA 1, 32, .inl (upd (upd (upd (upd (fun _ => 0) 1 16) 2 24) 3 14) 4 1))), (x6, .inl (cA 1, 32, .inl (upd (upd (upd (upd (fun _ => 0) 1 0) 2 0) 3 0) 4 0))), (x2, .inl (cA 1, 6002, .inl (upd (fun _ => 0) 0 0))), (x7, .inl (cA 1, 32, .inl (upd (fun _ => 0) 4 1))), (x10, .inl (cA 1, 32, .inl (fun _ => 0))), (x3, .inr (12, (((f2.set 10 (.int 3)).set 10 (.int 4)).set 10 (.int 5)))), (x8, .inl (cA 1, 32, .inl (upd (upd (fun _ => 0) 3 4) 2 4))), (x9, .inl (cA 1, 32, .inl (upd (upd (fun _ => 0) 3 4) 2 4)))] rfl rfl (by decide) rfl (by decide) (by decide) ⟨Nat.le_of_ble_eq_true rfl, Nat.le_of_ble_eq_true rfl⟩ 0 rfl rfl rfl rfl rfl (Nat.le_of_ble_eq_true rfl) dX8_readLiteral_128 (Nat.le_of_ble_eq_true rfl) (Nat.le_of_ble_eq_true rfl) (fun r14 _ hw15 => ?_)
  obtain rfl := hw15
  refine zz_show (ws' := [(x4, .inl (cA 1, 6002, .inl (upd (fun _ => 0) 0 0))), (x5, .inl (cA 1, 32, .inl (upd (upd (upd (upd (fun _ => 0) 1 16) 2 24) 3 14) 4 1))), (x6, .inl (cA 1, 32, .inl (upd (upd (upd (upd (fun _ => 0) 1 0) 2 0) 3 0) 4 0))), (x2, .inl (cA 1, 6002, .inl (upd (fun _ => 0) 0 0))), (x7, .inl (cA 1, 32, .inl (upd (fun _ => 0) 4 1))), (x10, .inl (cA 1, 32, .inl (fun _ => 0))), (x3, .inr (12, (((f2.set 10 (.int 3)).set 10 (.int 4)).set 10 (.int 5)))), (x8, .inl (cA 1, 32, .inl (upd (upd (fun _ => 0) 3 4) 2 4))), (x9, .inl (cA 1, 32, .inl (upd (upd (fun _ => 0) 3 4) 2 4))), (x1, .inr (8, (f1.set 11 (.int 0))))]) rfl ?_
  refine zz_if_eq X 171 dX8_readLiteral_131 (by decide) (fun _ => ?_) (fun h => absurd (by decide) h)
  refine zz_aload_n X 3 dX8_readLiteral_171 rfl rfl ?_
  refine zz_get X 9 14 rfl rfl (by decide) (fun w h => List.mem_cons_of_mem _ (zf_X8 w h)) rfl (List.mem_cons_of_mem _ zm_31) (zq_oth (by decide) (hf1_14)) dX8_readLiteral_172 ?_
  refine zz_get X 6 0 rfl rfl (by decide) (fun w h => List.mem_cons_of_mem _ (zf_X12 w h)) rfl (List.mem_cons_of_mem _ zm_1016) (zq_oth (by decide) (zq_oth (by decide) (zq_oth (by decide) (hf2_0)))) dX8_readLiteral_175 ?_
  refine zz_iload_n X 2 dX8_readLiteral_178 rfl rfl ?_
  refine zz_iald X 1 1 rfl rfl (vp_in_nI (n := 2) (by decide) (by decide)) (24) rfl dX8_readLiteral_179 ?_
  refine zz_bipush X 20 dX8_readLiteral_180 rfl ?_
  refine zz_icmp_eq X 190 dX8_readLiteral_182 (by decide) (fun h => absurd h (by decide)) (fun _ => ?_)
  refine zz_aload_n X 3 dX8_readLiteral_185 rfl rfl ?_
  refine zz_iload_n X 2 dX8_readLiteral_186 rfl rfl ?_
  refine zz_callVv X (rest := []) (As := [.int 2]) (kX8_readWiths_1 hE l D cA K V x1 (f1.set 11 (.int 0)) hss (zq_len hf1_n (by simp only [List.length_set])) (zq_same (zq_lt hf1_n (by decide) (by simp only [List.length_set])))) 1 (zgV zm_1018 zm_1019 zm_1020 zm_273 zm_1017) rfl (by decide +kernel) [9] [0, 1, 2, 3, 4, 5, 6, 7, 8] [(x4, .inl (cA 1, 6002, .inl (upd (fun _ => 0) 0 0))), (x5, .inl (cA 1, 32, .inl (upd (upd (upd (upd (fun _ => 0) 1 16) 2 24) 3 14) 4 1))), (x6, .inl (cA 1, 32, .inl (upd (upd (upd (upd (fun _ => 0) 1 0) 2 0) 3 0) 4 0))), (x2, .inl (cA 1, 6002, .inl (upd (fun _ => 0) 0 0))), (x7, .inl (cA 1, 32, .inl (upd (fun _ => 0) 4 1))), (x10, .inl (cA 1, 32, .inl (fun _ => 0))), (x3, .inr (12, (((f2.set 10 (.int 3)).set 10 (.int 4)).set 10 (.int 5)))), (x8, .inl (cA 1, 32, .inl (upd (upd (fun _ => 0) 3 4) 2 4))), (x9, .inl (cA 1, 32, .inl (upd (upd (fun _ => 0) 3 4) 2 4)))] rfl rfl (by decide) rfl (by decide) (by decide) ⟨Nat.le_of_ble_eq_true rfl, Nat.le_of_ble_eq_true rfl⟩ 0 rfl rfl rfl rfl rfl (Nat.le_of_ble_eq_true rfl) dX8_readLiteral_187 (Nat.le_of_ble_eq_true rfl) (Nat.le_of_ble_eq_true rfl) (fun _ hw16 => ?_)
  refine zz_show (ws' := [(x4, .inl (cA 1, 6002, .inl (upd (fun _ => 0) 0 0))), (x5, .inl (cA 1, 32, .inl (upd (upd (upd (upd (fun _ => 0) 1 16) 2 24) 3 14) 4 1))), (x6, .inl (cA 1, 32, .inl (upd (upd (upd (upd (fun _ => 0) 1 0) 2 0) 3 0) 4 0))), (x2, .inl (cA 1, 6002, .inl (upd (fun _ => 0) 0 0))), (x7, .inl (cA 1, 32, .inl (upd (fun _ => 0) 4 1))), (x10, .inl (cA 1, 32, .inl (fun _ => 0))), (x3, .inr (12, (((f2.set 10 (.int 3)).set 10 (.int 4)).set 10 (.int 5)))), (x8, .inl (cA 1, 32, .inl (upd (upd (fun _ => 0) 3 4) 2 4))), (x9, .inl (cA 1, 32, .inl (upd (upd (fun _ => 0) 3 4) 2 4))), (x1, .inr (8, (f1.set 11 (.int 0))))]) rfl ?_
  refine zz_iload_n X 2 dX8_readLiteral_190 rfl rfl ?_
  exact zz_iret X hr (()) [9, 3, 6, 0, 1, 2, 4, 7, 8, 5] (by decide) rfl rfl (Nat.le_of_ble_eq_true rfl) (Nat.le_of_ble_eq_true rfl) (rfl) dX8_readLiteral_191

set_option maxHeartbeats 4000000 in
set_option maxRecDepth 100000 in
/-- append -/
theorem kX12_append_4 {E : zEn} (hE : zOk E) (l : Launch) (D : va_G) (cA : Nat → ClassId) (K : Nat → Nat) (V : Nat → Nat) (x1 : Nat) (f1 : List Value) (x2 : Nat) (x3 : Nat) (hss : zSS E K V) (hf1_n : f1.length = 15) (hf1_5 : f1[5]? = some (.ref x2)) (hf1_7 : f1[7]? = some (.ref x3)) : zMv E l yX12_append zwX12_append ({ frames := 0, cells := 0, slots := 0, locals := 0 }) D vwCl (zT cA) [.ref x1, .int 1, .int 2] [(x1, .inr (12, f1)), (x2, .inl (cA 1, 32, .inl (upd (upd (fun _ => 0) 3 4) 2 4))), (x3, .inl (cA 1, 32, .inl (upd (upd (fun _ => 0) 3 4) 2 4)))] (S := Unit) (fun (u : Unit) => (True)) (fun (u : Unit) => [(x1, .inr (12, f1)), (x2, .inl (cA 1, 32, .inl (upd (upd (upd (fun _ => 0) 3 4) 2 4) 1 2))), (x3, .inl (cA 1, 32, .inl (upd (upd (upd (fun _ => 0) 3 4) 2 4) 1 2)))]) := by
  refine zz_enterv (cc := cX12_append) (lv := [(0, .ref x1), (1, .int 1), (2, .int 2)]) hE 3 (by decide) rfl (Nat.le_of_ble_eq_true rfl) rfl ?_
  intro p e s m args below meth c X hr hin
  refine zz_iload_n X 2 dX12_append_0 rfl rfl ?_
  refine zz_if_ne X 5 dX12_append_1 (by decide) (fun _ => ?_) (fun h => absurd h (by decide))
  refine zz_aload_n X 0 dX12_append_5 rfl rfl ?_
  refine zz_get X 0 5 rfl rfl (by decide) (fun w h => List.mem_cons_of_mem _ (zf_X12 w h)) rfl (List.mem_cons_of_mem _ zm_695) hf1_5 dX12_append_6 ?_
  refine zz_iload_n X 1 dX12_append_9 rfl rfl ?_
  refine zz_iald X 1 1 rfl rfl (vp_in_nI (n := 1) (by decide) (by decide)) (0) rfl dX12_append_10 ?_
  refine zz_if_ne X 24 dX12_append_11 (by decide) (fun h => absurd (by decide) h) (fun _ => ?_)
  refine zz_aload_n X 0 dX12_append_14 rfl rfl ?_
  refine zz_get X 0 5 rfl rfl (by decide) (fun w h => List.mem_cons_of_mem _ (zf_X12 w h)) rfl (List.mem_cons_of_mem _ zm_695) hf1_5 dX12_append_15 ?_
  refine zz_iload_n X 1 dX12_append_18 rfl rfl ?_
  refine zz_iload_n X 2 dX12_append_19 rfl rfl ?_
  refine zz_iast X 1 1 rfl rfl (vp_in_nI (n := 1) (by decide) (by decide)) 1 (by decide) dX12_append_20 [(x1, .inr (12, f1)), (x2, .inl (cA 1, 32, .inl (upd (upd (upd (fun _ => 0) 3 4) 2 4) 1 2))), (x3, .inl (cA 1, 32, .inl (upd (upd (fun _ => 0) 3 4) 2 4)))] rfl ?_
  refine zz_goto X 36 dX12_append_21 (by decide) ?_
  refine zz_aload_n X 0 dX12_append_36 rfl rfl ?_
  refine zz_get X 0 7 rfl rfl (by decide) (fun w h => List.mem_cons_of_mem _ (zf_X12 w h)) rfl (List.mem_cons_of_mem _ zm_697) hf1_7 dX12_append_37 ?_
  refine zz_iload_n X 1 dX12_append_40 rfl rfl ?_
  refine zz_iload_n X 2 dX12_append_41 rfl rfl ?_
  refine zz_iast X 2 1 rfl rfl (vp_in_nI (n := 1) (by decide) (by decide)) 1 (by decide) dX12_append_42 [(x1, .inr (12, f1)), (x2, .inl (cA 1, 32, .inl (upd (upd (upd (fun _ => 0) 3 4) 2 4) 1 2))), (x3, .inl (cA 1, 32, .inl (upd (upd (upd (fun _ => 0) 3 4) 2 4) 1 2)))] rfl ?_
  exact zz_vret X hr (()) [0, 1, 2] (by decide) rfl rfl (Nat.le_of_ble_eq_true rfl) (Nat.le_of_ble_eq_true rfl) (trivial) dX12_append_43

set_option maxHeartbeats 4000000 in
set_option maxRecDepth 100000 in
/-- is -/
theorem kX8_is_20 {E : zEn} (hE : zOk E) (l : Launch) (D : va_G) (cA : Nat → ClassId) (K : Nat → Nat) (V : Nat → Nat) (x1 : Nat) (f1 : List Value) (hss : zSS E K V) (hf1_n : f1.length = 15) (hf1_11 : f1[11]? = some (.int 0)) : zMi E l yX8_is zwX8_is ({ frames := 0, cells := 0, slots := 0, locals := 0 }) D vwCl (zT cA) [.ref x1, .int 42] [(x1, .inr (8, f1))] (S := Unit) (fun (r : Int32) (u : Unit) => (r = 0)) (fun (u : Unit) => [(x1, .inr (8, f1))]) := by
  refine zz_enterz (cc := cX8_is) (lv := [(0, .ref x1), (1, .int 42)]) hE 2 (by decide) rfl (Nat.le_of_ble_eq_true rfl) rfl ?_
  intro p e s m args below meth c X hr hin
  refine zz_aload_n X 0 dX8_is_0 rfl rfl ?_
  refine zz_get X 0 11 rfl rfl (by decide) (fun w h => List.mem_cons_of_mem _ (zf_X8 w h)) rfl (List.mem_cons_of_mem _ zm_28) hf1_11 dX8_is_1 ?_
  refine zz_if_ge X 24 dX8_is_4 (by decide) (fun _ => ?_) (fun h => absurd (by decide) h)
  refine zz_iconst X 0 dX8_is_24 rfl ?_
  exact zz_zret X hr (by decide) (()) [0] (by decide) rfl rfl (Nat.le_of_ble_eq_true rfl) (Nat.le_of_ble_eq_true rfl) (rfl) dX8_is_25

set_option maxHeartbeats 4000000 in
set_option maxRecDepth 100000 in
/-- takes -/
theorem kX8_takes_1 {E : zEn} (hE : zOk E) (l : Launch) (D : va_G) (cA : Nat → ClassId) (K : Nat → Nat) (V : Nat → Nat) (x1 : Nat) (f1 : List Value) (hss : zSS E K V) (hf1_n : f1.length = 15) (hf1_11 : f1[11]? = some (.int 0)) : zMi E l yX8_takes zwX8_takes ({ frames := 1, cells := 0, slots := 0, locals := 21 }) D vwCl (zT cA) [.ref x1, .int 42] [(x1, .inr (8, f1))] (S := Unit) (fun (r : Int32) (u : Unit) => (r = 0)) (fun (u : Unit) => [(x1, .inr (8, f1))]) := by
  refine zz_enterz (cc := cX8_takes) (lv := [(0, .ref x1), (1, .int 42)]) hE 2 (by decide) rfl (Nat.le_of_ble_eq_true rfl) rfl ?_
  intro p e s m args below meth c X hr hin
  refine zz_aload_n X 0 dX8_takes_0 rfl rfl ?_
  refine zz_iload_n X 1 dX8_takes_1 rfl rfl ?_
  refine zz_callVi X (rest := []) (As := [.int 42]) (kX8_is_20 hE l D cA K V x1 f1 hss (zq_len hf1_n (by simp only [List.length_set])) hf1_11) 1 (zgV zm_704 zm_705 zm_706 zm_273 zm_703) rfl (by decide +kernel) [0] [] [] rfl rfl (by decide) rfl (by decide) (by decide) ⟨Nat.le_of_ble_eq_true rfl, Nat.le_of_ble_eq_true rfl⟩ 0 rfl rfl rfl rfl rfl (Nat.le_of_ble_eq_true rfl) dX8_takes_2 (Nat.le_of_ble_eq_true rfl) (Nat.le_of_ble_eq_true rfl) (fun r1 _ hw2 => ?_)
  obtain rfl := hw2
  refine zz_show (ws' := [(x1, .inr (8, f1))]) rfl ?_
  refine zz_if_ne X 10 dX8_takes_5 (by decide) (fun h => absurd (by decide) h) (fun _ => ?_)
  refine zz_iconst X 0 dX8_takes_8 rfl ?_
  exact zz_zret X hr (by decide) (()) [0] (by decide) rfl rfl (Nat.le_of_ble_eq_true rfl) (Nat.le_of_ble_eq_true rfl) (rfl) dX8_takes_9

set_option maxHeartbeats 4000000 in
set_option maxRecDepth 100000 in
/-- is -/
theorem kX8_is_21 {E : zEn} (hE : zOk E) (l : Launch) (D : va_G) (cA : Nat → ClassId) (K : Nat → Nat) (V : Nat → Nat) (x1 : Nat) (f1 : List Value) (hss : zSS E K V) (hf1_n : f1.length = 15) (hf1_11 : f1[11]? = some (.int 0)) : zMi E l yX8_is zwX8_is ({ frames := 0, cells := 0, slots := 0, locals := 0 }) D vwCl (zT cA) [.ref x1, .int 0] [(x1, .inr (8, f1))] (S := Unit) (fun (r : Int32) (u : Unit) => (r = 0)) (fun (u : Unit) => [(x1, .inr (8, f1))]) := by
  refine zz_enterz (cc := cX8_is) (lv := [(0, .ref x1), (1, .int 0)]) hE 2 (by decide) rfl (Nat.le_of_ble_eq_true rfl) rfl ?_
  intro p e s m args below meth c X hr hin
  refine zz_aload_n X 0 dX8_is_0 rfl rfl ?_
  refine zz_get X 0 11 rfl rfl (by decide) (fun w h => List.mem_cons_of_mem _ (zf_X8 w h)) rfl (List.mem_cons_of_mem _ zm_28) hf1_11 dX8_is_1 ?_
  refine zz_if_ge X 24 dX8_is_4 (by decide) (fun _ => ?_) (fun h => absurd (by decide) h)
  refine zz_iconst X 0 dX8_is_24 rfl ?_
  exact zz_zret X hr (by decide) (()) [0] (by decide) rfl rfl (Nat.le_of_ble_eq_true rfl) (Nat.le_of_ble_eq_true rfl) (rfl) dX8_is_25

set_option maxHeartbeats 4000000 in
set_option maxRecDepth 100000 in
/-- readLiterals -/
theorem kX8_readLiterals_1 {E : zEn} (hE : zOk E) (l : Launch) (D : va_G) (cA : Nat → ClassId) (K : Nat → Nat) (V : Nat → Nat) (x1 : Nat) (f1 : List Value) (x2 : Nat) (x3 : Nat) (x4 : Nat) (x5 : Nat) (f2 : List Value) (x6 : Nat) (x7 : Nat) (x8 : Nat) (x9 : Nat) (x10 : Nat) (x11 : Nat) (hss : zSS E K V) (hf1_n : f1.length = 15) (hf1_11 : f1[11]? = some (.int (-1))) (hf1_14 : f1[14]? = some (.ref x2)) (hf1_3 : f1[3]? = some (.ref x3)) (hf1_9 : f1[9]? = some (.int 0)) (hf1_4 : f1[4]? = some (.ref x4)) (hf1_5 : f1[5]? = some (.ref x5)) (hf2_n : f2.length = 15) (hf2_10 : f2[10]? = some (.int 2)) (hf2_0 : f2[0]? = some (.ref x6)) (hf2_1 : f2[1]? = some (.ref x7)) (hf2_2 : f2[2]? = some (.ref x8)) (hf2_5 : f2[5]? = some (.ref x9)) (hf2_7 : f2[7]? = some (.ref x10)) (hf2_6 : f2[6]? = some (.ref x11)) : zMv E l yX8_readLiterals zwX8_readLiterals ({ frames := 12, cells := 0, slots := 0, locals := 277 }) D vwCl (zT cA) [.ref x1, .int 1, .int 0] [(x1, .inr (8, f1)), (x2, .inr (12, f2)), (x3, .inl (cA 1, 6002, .inl (upd (fun _ => 0) 0 0))), (x4, .inl (cA 1, 6002, .inl (upd (fun _ => 0) 0 0))), (x6, .inl (cA 1, 32, .inl (upd (fun _ => 0) 1 16))), (x7, .inl (cA 1, 32, .inl (upd (fun _ => 0) 1 0))), (x8, .inl (cA 1, 32, .inl (fun _ => 0))), (x9, .inl (cA 1, 32, .inl (fun _ => 0))), (x10, .inl (cA 1, 32, .inl (fun _ => 0))), (x11, .inl (cA 1, 32, .inl (fun _ => 0))), (x5, .inl (cA 1, 6002, .inl (upd (fun _ => 0) 0 0)))] (S := Unit) (fun (u : Unit) => (True)) (fun (u : Unit) => [(x1, .inr (8, (f1.set 11 (.int 0)))), (x2, .inr (12, (((f2.set 10 (.int 3)).set 10 (.int 4)).set 10 (.int 5)))), (x3, .inl (cA 1, 6002, .inl (upd (fun _ => 0) 0 0))), (x4, .inl (cA 1, 6002, .inl (upd (fun _ => 0) 0 0))), (x6, .inl (cA 1, 32, .inl (upd (upd (upd (upd (fun _ => 0) 1 16) 2 24) 3 14) 4 1))), (x7, .inl (cA 1, 32, .inl (upd (upd (upd (upd (fun _ => 0) 1 0) 2 0) 3 0) 4 0))), (x8, .inl (cA 1, 32, .inl (upd (fun _ => 0) 4 1))), (x9, .inl (cA 1, 32, .inl (upd (upd (upd (fun _ => 0) 3 4) 2 4) 1 2))), (x10, .inl (cA 1, 32, .inl (upd (upd (upd (fun _ => 0) 3 4) 2 4) 1 2))), (x11, .inl (cA 1, 32, .inl (fun _ => 0))), (x5, .inl (cA 1, 6002, .inl (upd (fun _ => 0) 0 0)))]) := by
  refine zz_enterv (cc := cX8_readLiterals) (lv := [(0, .ref x1), (1, .int 1), (2, .int 0)]) hE 5 (by decide) rfl (Nat.le_of_ble_eq_true rfl) rfl ?_
  intro p e s m args below meth c X hr hin
  refine zz_iconst X 0 dX8_readLiterals_0 rfl ?_
  refine zz_istore_n X [(3, .int 0), (0, .ref x1), (1, .int 1), (2, .int 0)] dX8_readLiterals_1 rfl (by decide) rfl ?_
  refine zz_aload_n X 1 dX8_readLiterals_2 rfl rfl ?_
  refine zz_get X 0 11 rfl rfl (by decide) (fun w h => List.mem_cons_of_mem _ (zf_X8 w h)) rfl (List.mem_cons_of_mem _ zm_28) hf1_11 dX8_readLiterals_3 ?_
  refine zz_if_ge X 73 dX8_readLiterals_6 (by decide) (fun h => absurd h (by decide)) (fun _ => ?_)
  refine zz_iload_n X 0 dX8_readLiterals_9 rfl rfl ?_
  refine zz_sipush X 6002 dX8_readLiterals_10 rfl ?_
  refine zz_icmp_ge X 73 dX8_readLiterals_13 (by decide) (fun h => absurd h (by decide)) (fun _ => ?_)
  refine zz_aload_n X 1 dX8_readLiterals_16 rfl rfl ?_
  refine zz_get X 0 14 rfl rfl (by decide) (fun w h => List.mem_cons_of_mem _ (zf_X8 w h)) rfl (List.mem_cons_of_mem _ zm_31) hf1_14 dX8_readLiterals_17 ?_
  refine zz_iload_n X 2 dX8_readLiterals_20 rfl rfl ?_
  refine zz_aload_n X 1 dX8_readLiterals_21 rfl rfl ?_
  refine zz_callVi X (rest := [.int 1, .ref x2]) (As := []) (kX8_readLiteral_1 hE l D cA K V x1 f1 x3 x2 x4 f2 x6 x7 x8 x9 x10 x11 hss (zq_len hf1_n (by simp only [List.length_set])) hf1_11 hf1_3 hf1_9 hf1_14 hf1_4 (zq_len hf2_n (by simp only [List.length_set])) hf2_10 hf2_0 hf2_1 hf2_2 hf2_5 hf2_7 hf2_6) 0 (zgV zm_1022 zm_1023 zm_1024 zm_273 zm_1021) rfl (by decide +kernel) [0, 2, 1, 3, 4, 5, 6, 7, 8, 9] [10] [(x5, .inl (cA 1, 6002, .inl (upd (fun _ => 0) 0 0)))] rfl rfl (by decide) rfl (by decide) (by decide) ⟨Nat.le_of_ble_eq_true rfl, Nat.le_of_ble_eq_true rfl⟩ 0 rfl rfl rfl rfl rfl (Nat.le_of_ble_eq_true rfl) dX8_readLiterals_22 (Nat.le_of_ble_eq_true rfl) (Nat.le_of_ble_eq_true rfl) (fun r1 _ hw2 => ?_)
  obtain rfl := hw2
  refine zz_show (ws' := [(x5, .inl (cA 1, 6002, .inl (upd (fun _ => 0) 0 0))), (x1, .inr (8, (f1.set 11 (.int 0)))), (x3, .inl (cA 1, 6002, .inl (upd (fun _ => 0) 0 0))), (x2, .inr (12, (((f2.set 10 (.int 3)).set 10 (.int 4)).set 10 (.int 5)))), (x4, .inl (cA 1, 6002, .inl (upd (fun _ => 0) 0 0))), (x6, .inl (cA 1, 32, .inl (upd (upd (upd (upd (fun _ => 0) 1 16) 2 24) 3 14) 4 1))), (x7, .inl (cA 1, 32, .inl (upd (upd (upd (upd (fun _ => 0) 1 0) 2 0) 3 0) 4 0))), (x8, .inl (cA 1, 32, .inl (upd (fun _ => 0) 4 1))), (x9, .inl (cA 1, 32, .inl (upd (upd (fun _ => 0) 3 4) 2 4))), (x10, .inl (cA 1, 32, .inl (upd (upd (fun _ => 0) 3 4) 2 4))), (x11, .inl (cA 1, 32, .inl (fun _ => 0)))]) rfl ?_
  refine zz_callVv X (rest := []) (As := [.int 1, .int 2]) (kX12_append_4 hE l D cA K V x2 (((f2.set 10 (.int 3)).set 10 (.int 4)).set 10 (.int 5)) x9 x10 hss (zq_len hf2_n (by simp only [List.length_set])) (zq_oth (by decide) (zq_oth (by decide) (zq_oth (by decide) (hf2_5)))) (zq_oth (by decide) (zq_oth (by decide) (zq_oth (by decide) (hf2_7))))) 2 (zgV zm_733 zm_734 zm_735 zm_681 zm_732) rfl (by decide +kernel) [3, 8, 9] [0, 1, 2, 4, 5, 6, 7, 10] [(x5, .inl (cA 1, 6002, .inl (upd (fun _ => 0) 0 0))), (x1, .inr (8, (f1.set 11 (.int 0)))), (x3, .inl (cA 1, 6002, .inl (upd (fun _ => 0) 0 0))), (x4, .inl (cA 1, 6002, .inl (upd (fun _ => 0) 0 0))), (x6, .inl (cA 1, 32, .inl (upd (upd (upd (upd (fun _ => 0) 1 16) 2 24) 3 14) 4 1))), (x7, .inl (cA 1, 32, .inl (upd (upd (upd (upd (fun _ => 0) 1 0) 2 0) 3 0) 4 0))), (x8, .inl (cA 1, 32, .inl (upd (fun _ => 0) 4 1))), (x11, .inl (cA 1, 32, .inl (fun _ => 0)))] rfl rfl (by decide) rfl (by decide) (by decide) ⟨Nat.le_of_ble_eq_true rfl, Nat.le_of_ble_eq_true rfl⟩ 0 rfl rfl rfl rfl rfl (Nat.le_of_ble_eq_true rfl) dX8_readLiterals_25 (Nat.le_of_ble_eq_true rfl) (Nat.le_of_ble_eq_true rfl) (fun _ hw3 => ?_)
  refine zz_show (ws' := [(x5, .inl (cA 1, 6002, .inl (upd (fun _ => 0) 0 0))), (x1, .inr (8, (f1.set 11 (.int 0)))), (x3, .inl (cA 1, 6002, .inl (upd (fun _ => 0) 0 0))), (x4, .inl (cA 1, 6002, .inl (upd (fun _ => 0) 0 0))), (x6, .inl (cA 1, 32, .inl (upd (upd (upd (upd (fun _ => 0) 1 16) 2 24) 3 14) 4 1))), (x7, .inl (cA 1, 32, .inl (upd (upd (upd (upd (fun _ => 0) 1 0) 2 0) 3 0) 4 0))), (x8, .inl (cA 1, 32, .inl (upd (fun _ => 0) 4 1))), (x11, .inl (cA 1, 32, .inl (fun _ => 0))), (x2, .inr (12, (((f2.set 10 (.int 3)).set 10 (.int 4)).set 10 (.int 5)))), (x9, .inl (cA 1, 32, .inl (upd (upd (upd (fun _ => 0) 3 4) 2 4) 1 2))), (x10, .inl (cA 1, 32, .inl (upd (upd (upd (fun _ => 0) 3 4) 2 4) 1 2)))]) rfl ?_
  refine zz_aload_n X 1 dX8_readLiterals_28 rfl rfl ?_
  refine zz_bipush X 42 dX8_readLiterals_29 rfl ?_
  refine zz_callVi X (rest := []) (As := [.int 42]) (kX8_takes_1 hE l D cA K V x1 (f1.set 11 (.int 0)) hss (zq_len hf1_n (by simp only [List.length_set])) (zq_same (zq_lt hf1_n (by decide) (by simp only [List.length_set])))) 1 (zgV zm_1026 zm_1027 zm_1028 zm_273 zm_1025) rfl (by decide +kernel) [1] [0, 2, 3, 4, 5, 6, 7, 8, 9, 10] [(x5, .inl (cA 1, 6002, .inl (upd (fun _ => 0) 0 0))), (x3, .inl (cA 1, 6002, .inl (upd (fun _ => 0) 0 0))), (x4, .inl (cA 1, 6002, .inl (upd (fun _ => 0) 0 0))), (x6, .inl (cA 1, 32, .inl (upd (upd (upd (upd (fun _ => 0) 1 16) 2 24) 3 14) 4 1))), (x7, .inl (cA 1, 32, .inl (upd (upd (upd (upd (fun _ => 0) 1 0) 2 0) 3 0) 4 0))), (x8, .inl (cA 1, 32, .inl (upd (fun _ => 0) 4 1))), (x11, .inl (cA 1, 32, .inl (fun _ => 0))), (x2, .inr (12, (((f2.set 10 (.int 3)).set 10 (.int 4)).set 10 (.int 5)))), (x9, .inl (cA 1, 32, .inl (upd (upd (upd (fun _ => 0) 3 4) 2 4) 1 2))), (x10, .inl (cA 1, 32, .inl (upd (upd (upd (fun _ => 0) 3 4) 2 4) 1 2)))] rfl rfl (by decide) rfl (by decide) (by decide) ⟨Nat.le_of_ble_eq_true rfl, Nat.le_of_ble_eq_true rfl⟩ 0 rfl rfl rfl rfl rfl (Nat.le_of_ble_eq_true rfl) dX8_readLiterals_31 (Nat.le_of_ble_eq_true rfl) (Nat.le_of_ble_eq_true rfl) (fun r4 _ hw5 => ?_)
  obtain rfl := hw5
  refine zz_show (ws' := [(x5, .inl (cA 1, 6002, .inl (upd (fun _ => 0) 0 0))), (x3, .inl (cA 1, 6002, .inl (upd (fun _ => 0) 0 0))), (x4, .inl (cA 1, 6002, .inl (upd (fun _ => 0) 0 0))), (x6, .inl (cA 1, 32, .inl (upd (upd (upd (upd (fun _ => 0) 1 16) 2 24) 3 14) 4 1))), (x7, .inl (cA 1, 32, .inl (upd (upd (upd (upd (fun _ => 0) 1 0) 2 0) 3 0) 4 0))), (x8, .inl (cA 1, 32, .inl (upd (fun _ => 0) 4 1))), (x11, .inl (cA 1, 32, .inl (fun _ => 0))), (x2, .inr (12, (((f2.set 10 (.int 3)).set 10 (.int 4)).set 10 (.int 5)))), (x9, .inl (cA 1, 32, .inl (upd (upd (upd (fun _ => 0) 3 4) 2 4) 1 2))), (x10, .inl (cA 1, 32, .inl (upd (upd (upd (fun _ => 0) 3 4) 2 4) 1 2))), (x1, .inr (8, (f1.set 11 (.int 0))))]) rfl ?_
  refine zz_istore X [(4, .int 0), (3, .int 0), (0, .ref x1), (1, .int 1), (2, .int 0)] dX8_readLiterals_34 (by decide) rfl ?_
  refine zz_aload_n X 2 dX8_readLiterals_36 rfl rfl ?_
  refine zz_iload_n X 4 dX8_readLiterals_37 rfl rfl ?_
  refine zz_callVi X (rest := []) (As := [.int 0]) (kX8_is_21 hE l D cA K V x1 (f1.set 11 (.int 0)) hss (zq_len hf1_n (by simp only [List.length_set])) (zq_same (zq_lt hf1_n (by decide) (by simp only [List.length_set])))) 1 (zgV zm_704 zm_705 zm_706 zm_273 zm_703) rfl (by decide +kernel) [10] [0, 1, 2, 3, 4, 5, 6, 7, 8, 9] [(x5, .inl (cA 1, 6002, .inl (upd (fun _ => 0) 0 0))), (x3, .inl (cA 1, 6002, .inl (upd (fun _ => 0) 0 0))), (x4, .inl (cA 1, 6002, .inl (upd (fun _ => 0) 0 0))), (x6, .inl (cA 1, 32, .inl (upd (upd (upd (upd (fun _ => 0) 1 16) 2 24) 3 14) 4 1))), (x7, .inl (cA 1, 32, .inl (upd (upd (upd (upd (fun _ => 0) 1 0) 2 0) 3 0) 4 0))), (x8, .inl (cA 1, 32, .inl (upd (fun _ => 0) 4 1))), (x11, .inl (cA 1, 32, .inl (fun _ => 0))), (x2, .inr (12, (((f2.set 10 (.int 3)).set 10 (.int 4)).set 10 (.int 5)))), (x9, .inl (cA 1, 32, .inl (upd (upd (upd (fun _ => 0) 3 4) 2 4) 1 2))), (x10, .inl (cA 1, 32, .inl (upd (upd (upd (fun _ => 0) 3 4) 2 4) 1 2)))] rfl rfl (by decide) rfl (by decide) (by decide) ⟨Nat.le_of_ble_eq_true rfl, Nat.le_of_ble_eq_true rfl⟩ 0 rfl rfl rfl rfl rfl (Nat.le_of_ble_eq_true rfl) dX8_readLiterals_38 (Nat.le_of_ble_eq_true rfl) (Nat.le_of_ble_eq_true rfl) (fun r6 _ hw7 => ?_)
  obtain rfl := hw7
  refine zz_show (ws' := [(x5, .inl (cA 1, 6002, .inl (upd (fun _ => 0) 0 0))), (x3, .inl (cA 1, 6002, .inl (upd (fun _ => 0) 0 0))), (x4, .inl (cA 1, 6002, .inl (upd (fun _ => 0) 0 0))), (x6, .inl (cA 1, 32, .inl (upd (upd (upd (upd (fun _ => 0) 1 16) 2 24) 3 14) 4 1))), (x7, .inl (cA 1, 32, .inl (upd (upd (upd (upd (fun _ => 0) 1 0) 2 0) 3 0) 4 0))), (x8, .inl (cA 1, 32, .inl (upd (fun _ => 0) 4 1))), (x11, .inl (cA 1, 32, .inl (fun _ => 0))), (x2, .inr (12, (((f2.set 10 (.int 3)).set 10 (.int 4)).set 10 (.int 5)))), (x9, .inl (cA 1, 32, .inl (upd (upd (upd (fun _ => 0) 3 4) 2 4) 1 2))), (x10, .inl (cA 1, 32, .inl (upd (upd (upd (fun _ => 0) 3 4) 2 4) 1 2))), (x1, .inr (8, (f1.set 11 (.int 0))))]) rfl ?_
  refine zz_if_eq X 45 dX8_readLiterals_41 (by decide) (fun _ => ?_) (fun h => absurd (by decide) h)
  refine zz_iload X 0 dX8_readLiterals_45 rfl ?_
  refine zz_if_ne X 67 dX8_readLiterals_47 (by decide) (fun h => absurd (by decide) h) (fun _ => ?_)
  refine zz_aload_n X 2 dX8_readLiterals_50 rfl rfl ?_
  refine zz_get X 10 5 rfl rfl (by decide) (fun w h => List.mem_cons_of_mem _ (zf_X8 w h)) rfl (List.mem_cons_of_mem _ zm_22) (zq_oth (by decide) (hf1_5)) dX8_readLiterals_51 ?_
  refine zz_aload_n X 2 dX8_readLiterals_54 rfl rfl ?_
  refine zz_get X 10 9 rfl rfl (by decide) (fun w h => List.mem_cons_of_mem _ (zf_X8 w h)) rfl (List.mem_cons_of_mem _ zm_26) (zq_oth (by decide) (hf1_9)) dX8_readLiterals_55 ?_
  refine zz_iald X 0 1 rfl rfl (vp_in_nI (n := 0) (by decide) (by decide)) (0) rfl dX8_readLiterals_58 ?_
  refine zz_iconst X 2 dX8_readLiterals_59 rfl ?_
  refine zz_icmp_ge X 67 dX8_readLiterals_60 (by decide) (fun h => absurd h (by decide)) (fun _ => ?_)
  refine zz_aload_n X 2 dX8_readLiterals_63 rfl rfl ?_
  refine zz_callVv X (rest := []) (As := []) (kX8_fail_2 hE l D cA K V x1 (f1.set 11 (.int 0)) hss (zq_len hf1_n (by simp only [List.length_set])) (zq_same (zq_lt hf1_n (by decide) (by simp only [List.length_set])))) 0 (zgV zm_708 zm_709 zm_710 zm_273 zm_707) rfl (by decide +kernel) [10] [0, 1, 2, 3, 4, 5, 6, 7, 8, 9] [(x5, .inl (cA 1, 6002, .inl (upd (fun _ => 0) 0 0))), (x3, .inl (cA 1, 6002, .inl (upd (fun _ => 0) 0 0))), (x4, .inl (cA 1, 6002, .inl (upd (fun _ => 0) 0 0))), (x6, .inl (cA 1, 32, .inl (upd (upd (upd (upd (fun _ => 0) 1 16) 2 24) 3 14) 4 1))), (x7, .inl (cA 1, 32, .inl (upd (upd (upd (upd (fun _ => 0) 1 0) 2 0) 3 0) 4 0))), (x8, .inl (cA 1, 32, .inl (upd (fun _ => 0) 4 1))), (x11, .inl (cA 1, 32, .inl (fun _ => 0))), (x2, .inr (12, (((f2.set 10 (.int 3)).set 10 (.int 4)).set 10 (.int 5)))), (x9, .inl (cA 1, 32, .inl (upd (upd (upd (fun _ => 0) 3 4) 2 4) 1 2))), (x10, .inl (cA 1, 32, .inl (upd (upd (upd (fun _ => 0) 3 4) 2 4) 1 2)))] rfl rfl (by decide) rfl (by decide) (by decide) ⟨Nat.le_of_ble_eq_true rfl, Nat.le_of_ble_eq_true rfl⟩ 0 rfl rfl rfl rfl rfl (Nat.le_of_ble_eq_true rfl) dX8_readLiterals_64 (Nat.le_of_ble_eq_true rfl) (Nat.le_of_ble_eq_true rfl) (fun _ hw8 => ?_)
  refine zz_show (ws' := [(x5, .inl (cA 1, 6002, .inl (upd (fun _ => 0) 0 0))), (x3, .inl (cA 1, 6002, .inl (upd (fun _ => 0) 0 0))), (x4, .inl (cA 1, 6002, .inl (upd (fun _ => 0) 0 0))), (x6, .inl (cA 1, 32, .inl (upd (upd (upd (upd (fun _ => 0) 1 16) 2 24) 3 14) 4 1))), (x7, .inl (cA 1, 32, .inl (upd (upd (upd (upd (fun _ => 0) 1 0) 2 0) 3 0) 4 0))), (x8, .inl (cA 1, 32, .inl (upd (fun _ => 0) 4 1))), (x11, .inl (cA 1, 32, .inl (fun _ => 0))), (x2, .inr (12, (((f2.set 10 (.int 3)).set 10 (.int 4)).set 10 (.int 5)))), (x9, .inl (cA 1, 32, .inl (upd (upd (upd (fun _ => 0) 3 4) 2 4) 1 2))), (x10, .inl (cA 1, 32, .inl (upd (upd (upd (fun _ => 0) 3 4) 2 4) 1 2))), (x1, .inr (8, (f1.set 11 (.int 0))))]) rfl ?_
  refine zz_iinc X 1 (1) [(3, .int 1), (4, .int 0), (0, .ref x1), (1, .int 1), (2, .int 0)] dX8_readLiterals_67 rfl (by decide) (by decide) rfl ?_
  refine zz_goto X 2 dX8_readLiterals_70 (by decide) ?_
  refine zz_aload_n X 2 dX8_readLiterals_2 rfl rfl ?_
  refine zz_get X 10 11 rfl rfl (by decide) (fun w h => List.mem_cons_of_mem _ (zf_X8 w h)) rfl (List.mem_cons_of_mem _ zm_28) (zq_same (zq_lt hf1_n (by decide) (by simp only [List.length_set]))) dX8_readLiterals_3 ?_
  refine zz_if_ge X 73 dX8_readLiterals_6 (by decide) (fun _ => ?_) (fun h => absurd (by decide) h)
  exact zz_vret X hr (()) [10, 7, 1, 2, 3, 4, 5, 8, 9, 6, 0] (by decide) rfl rfl (Nat.le_of_ble_eq_true rfl) (Nat.le_of_ble_eq_true rfl) (trivial) dX8_readLiterals_73

set_option maxHeartbeats 4000000 in
set_option maxRecDepth 100000 in
/-- readQuery -/
theorem kX8_readQuery_1 {E : zEn} (hE : zOk E) (l : Launch) (D : va_G) (cA : Nat → ClassId) (K : Nat → Nat) (V : Nat → Nat) (x1 : Nat) (x2 : Nat) (f1 : List Value) (x3 : Nat) (x4 : Nat) (x5 : Nat) (x6 : Nat) (hss : zSS E K V) (hf1_n : f1.length = 15) (hf1_4 : f1[4]? = some (.ref x3)) (hf1_5 : f1[5]? = some (.ref x4)) (hf1_6 : f1[6]? = some (.ref x5)) (hf1_3 : f1[3]? = some (.ref x6)) : zMq E l yX8_readQuery zwX8_readQuery ({ frames := 13, cells := 11, slots := 335, locals := 301 }) D vwCl (zT cA) [.ref x1, .ref x2, .int 0] [(x1, .inr (8, f1)), (x3, .inl (cA 1, 6002, .inl (fun _ => 0))), (x4, .inl (cA 1, 6002, .inl (fun _ => 0))), (x5, .inl (cA 1, 6002, .inl (fun _ => 0))), (x6, .inl (cA 1, 6002, .inl (fun _ => 0)))] (S := Nat × Nat × Nat × Nat × Nat × Nat × Nat × Nat × Nat × Nat × Nat) (fun (r : Option Nat) (u : Nat × Nat × Nat × Nat × Nat × Nat × Nat × Nat × Nat × Nat × Nat) => (r = none)) (fun (u : Nat × Nat × Nat × Nat × Nat × Nat × Nat × Nat × Nat × Nat × Nat) => [(x1, .inr (8, (((((((((f1.set 8 (.int 0)).set 7 (.int (-1))).set 12 (.int 0)).set 8 (.int 1)).set 9 (.int 0)).set 10 (.int 0)).set 11 (.int (-1))).set 14 (.ref u.1)).set 11 (.int 0)))), (x3, .inl (cA 1, 6002, .inl (upd (fun _ => 0) 0 0))), (x4, .inl (cA 1, 6002, .inl (upd (fun _ => 0) 0 0))), (x5, .inl (cA 1, 6002, .inl (upd (fun _ => 0) 0 0))), (x6, .inl (cA 1, 6002, .inl (upd (fun _ => 0) 0 0))), (u.2.1, .inl (cA 1, 32, .inl (fun _ => 0))), (u.2.2.1, .inl (cA 1, 32, .inl (fun _ => 0))), (u.2.2.2.1, .inl (cA 1, 32, .inl (fun _ => 0))), (u.2.2.2.2.1, .inl (cA 1, 32, .inl (fun _ => 0))), (u.1, .inr (12, [.ref u.2.2.2.2.2.1, .ref u.2.2.2.2.2.2.1, .ref u.2.2.2.2.2.2.2.1, .ref u.2.1, .ref u.2.2.1, .ref u.2.2.2.2.2.2.2.2.1, .ref u.2.2.2.2.2.2.2.2.2.1, .ref u.2.2.2.2.2.2.2.2.2.2, .ref u.2.2.2.1, .ref u.2.2.2.2.1, .int 5, .int 0, .int 1, .int 0, .int 0])), (u.2.2.2.2.2.1, .inl (cA 1, 32, .inl (upd (upd (upd (upd (fun _ => 0) 1 16) 2 24) 3 14) 4 1))), (u.2.2.2.2.2.2.1, .inl (cA 1, 32, .inl (upd (upd (upd (upd (fun _ => 0) 1 0) 2 0) 3 0) 4 0))), (u.2.2.2.2.2.2.2.1, .inl (cA 1, 32, .inl (upd (fun _ => 0) 4 1))), (u.2.2.2.2.2.2.2.2.1, .inl (cA 1, 32, .inl (upd (upd (upd (fun _ => 0) 3 4) 2 4) 1 2))), (u.2.2.2.2.2.2.2.2.2.2, .inl (cA 1, 32, .inl (upd (upd (upd (fun _ => 0) 3 4) 2 4) 1 2))), (u.2.2.2.2.2.2.2.2.2.1, .inl (cA 1, 32, .inl (fun _ => 0)))]) := by
  refine zz_enterq (cc := cX8_readQuery) (lv := [(0, .ref x1), (1, .ref x2), (2, .int 0)]) hE 3 (by decide) rfl (Nat.le_of_ble_eq_true rfl) rfl ?_
  intro p e s m args below meth c X hr hin
  refine zz_aload_n X 0 dX8_readQuery_0 rfl rfl ?_
  refine zz_aload_n X 1 dX8_readQuery_1 rfl rfl ?_
  refine zz_iload_n X 2 dX8_readQuery_2 rfl rfl ?_
  refine zz_callVv X (rest := []) (As := [.ref x2, .int 0]) (kX8_split_1 hE l D cA K V x1 x2 f1 x3 x4 x5 x6 hss (zq_len hf1_n (by simp only [List.length_set])) hf1_4 hf1_5 hf1_6 hf1_3) 2 (zgV zm_678 zm_679 zm_680 zm_273 zm_677) rfl (by decide +kernel) [0, 1, 2, 3, 4] [] [] rfl rfl (by decide) rfl (by decide) (by decide) ⟨Nat.le_of_ble_eq_true rfl, Nat.le_of_ble_eq_true rfl⟩ 0 rfl rfl rfl rfl rfl (Nat.le_of_ble_eq_true rfl) dX8_readQuery_3 (Nat.le_of_ble_eq_true rfl) (Nat.le_of_ble_eq_true rfl) (fun _ hw1 => ?_)
  refine zz_show (ws' := [(x1, .inr (8, (((((((f1.set 8 (.int 0)).set 7 (.int (-1))).set 12 (.int 0)).set 8 (.int 1)).set 9 (.int 0)).set 10 (.int 0)).set 11 (.int (-1))))), (x3, .inl (cA 1, 6002, .inl (upd (fun _ => 0) 0 0))), (x4, .inl (cA 1, 6002, .inl (upd (fun _ => 0) 0 0))), (x5, .inl (cA 1, 6002, .inl (upd (fun _ => 0) 0 0))), (x6, .inl (cA 1, 6002, .inl (upd (fun _ => 0) 0 0)))]) rfl ?_
  refine zz_aload_n X 0 dX8_readQuery_6 rfl rfl ?_
  refine zz_new X (ci := 12) (fs := [.null, .null, .null, .null, .null, .null, .null, .null, .null, .null, .int 0, .int 0, .int 0, .int 0, .int 0]) tyX12 tyX12_ok (fun w h => List.mem_cons_of_mem _ (zf_X12 w h)) (List.mem_cons_of_mem _ zm_683) (List.mem_cons_of_mem _ zm_682) (List.mem_cons_of_mem _ zm_681) rfl (fun j hj => by rcases (show j = 0 ∨ j = 1 ∨ j = 2 ∨ j = 3 ∨ j = 4 ∨ j = 5 ∨ j = 6 ∨ j = 7 ∨ j = 8 ∨ j = 9 ∨ j = 10 ∨ j = 11 ∨ j = 12 ∨ j = 13 ∨ j = 14 by omega) with rfl | rfl | rfl | rfl | rfl | rfl | rfl | rfl | rfl | rfl | rfl | rfl | rfl | rfl | rfl <;> rfl) (Nat.le_of_ble_eq_true rfl) (Nat.le_of_ble_eq_true rfl) dX8_readQuery_7 (fun q2 => ?_)
  refine zz_show (ws' := [(x1, .inr (8, (((((((f1.set 8 (.int 0)).set 7 (.int (-1))).set 12 (.int 0)).set 8 (.int 1)).set 9 (.int 0)).set 10 (.int 0)).set 11 (.int (-1))))), (x3, .inl (cA 1, 6002, .inl (upd (fun _ => 0) 0 0))), (x4, .inl (cA 1, 6002, .inl (upd (fun _ => 0) 0 0))), (x5, .inl (cA 1, 6002, .inl (upd (fun _ => 0) 0 0))), (x6, .inl (cA 1, 6002, .inl (upd (fun _ => 0) 0 0))), (q2, .inr (12, [.null, .null, .null, .null, .null, .null, .null, .null, .null, .null, .int 0, .int 0, .int 0, .int 0, .int 0]))]) rfl ?_
  refine zz_dup X dX8_readQuery_10 rfl ?_
  refine zz_iconst X 2 dX8_readQuery_11 rfl ?_
  refine zz_iload_n X 2 dX8_readQuery_12 rfl rfl ?_
  refine zz_imul X (0) dX8_readQuery_13 (by decide) ?_
  refine zz_bipush X 32 dX8_readQuery_14 rfl ?_
  refine zz_iadd X (32) dX8_readQuery_16 (by decide) ?_
  refine zz_callIv X (rest := [.ref q2, .ref x1]) (As := [.int 32]) (kX12_init_1 hE l D cA K V q2 ([.null, .null, .null, .null, .null, .null, .null, .null, .null, .null, .int 0, .int 0, .int 0, .int 0, .int 0]) hss rfl) 1 (zgI zm_700) (List.mem_cons_of_mem _ zm_681) (List.mem_cons_of_mem _ zm_701) (List.mem_cons_of_mem _ zm_702) rfl rfl (by decide +kernel) [5] [0, 1, 2, 3, 4] [(x1, .inr (8, (((((((f1.set 8 (.int 0)).set 7 (.int (-1))).set 12 (.int 0)).set 8 (.int 1)).set 9 (.int 0)).set 10 (.int 0)).set 11 (.int (-1))))), (x3, .inl (cA 1, 6002, .inl (upd (fun _ => 0) 0 0))), (x4, .inl (cA 1, 6002, .inl (upd (fun _ => 0) 0 0))), (x5, .inl (cA 1, 6002, .inl (upd (fun _ => 0) 0 0))), (x6, .inl (cA 1, 6002, .inl (upd (fun _ => 0) 0 0)))] rfl rfl (by decide) rfl (by decide) (by decide) ⟨Nat.le_of_ble_eq_true rfl, Nat.le_of_ble_eq_true rfl⟩ rfl rfl rfl (Nat.le_of_ble_eq_true rfl) dX8_readQuery_17 (Nat.le_of_ble_eq_true rfl) (Nat.le_of_ble_eq_true rfl) (fun uhw13 hw13 => ?_)
  obtain ⟨q3, q4, q5, q6, q7, q8, q9, q10, q11, q12⟩ := uhw13
  refine zz_show (ws' := [(x1, .inr (8, (((((((f1.set 8 (.int 0)).set 7 (.int (-1))).set 12 (.int 0)).set 8 (.int 1)).set 9 (.int 0)).set 10 (.int 0)).set 11 (.int (-1))))), (x3, .inl (cA 1, 6002, .inl (upd (fun _ => 0) 0 0))), (x4, .inl (cA 1, 6002, .inl (upd (fun _ => 0) 0 0))), (x5, .inl (cA 1, 6002, .inl (upd (fun _ => 0) 0 0))), (x6, .inl (cA 1, 6002, .inl (upd (fun _ => 0) 0 0))), (q2, .inr (12, [.ref q3, .ref q4, .ref q5, .ref q6, .ref q7, .ref q8, .ref q9, .ref q10, .ref q11, .ref q12, .int 1, .int 0, .int 0, .int 0, .int 0])), (q3, .inl (cA 1, 32, .inl (fun _ => 0))), (q4, .inl (cA 1, 32, .inl (fun _ => 0))), (q5, .inl (cA 1, 32, .inl (fun _ => 0))), (q6, .inl (cA 1, 32, .inl (fun _ => 0))), (q7, .inl (cA 1, 32, .inl (fun _ => 0))), (q8, .inl (cA 1, 32, .inl (fun _ => 0))), (q9, .inl (cA 1, 32, .inl (fun _ => 0))), (q10, .inl (cA 1, 32, .inl (fun _ => 0))), (q11, .inl (cA 1, 32, .inl (fun _ => 0))), (q12, .inl (cA 1, 32, .inl (fun _ => 0)))]) rfl ?_
  refine zz_put X 0 14 rfl rfl (by decide) (fun w h => List.mem_cons_of_mem _ (zf_X8 w h)) rfl (List.mem_cons_of_mem _ zm_31) tyX8 tyX8_ok nmX8 rfl (ty := (.object "PolicyHouse$Tree")) rfl rfl rfl (zq_lt hf1_n (by decide) (by simp only [List.length_set])) dX8_readQuery_20 [(x1, .inr (8, ((((((((f1.set 8 (.int 0)).set 7 (.int (-1))).set 12 (.int 0)).set 8 (.int 1)).set 9 (.int 0)).set 10 (.int 0)).set 11 (.int (-1))).set 14 (.ref q2)))), (x3, .inl (cA 1, 6002, .inl (upd (fun _ => 0) 0 0))), (x4, .inl (cA 1, 6002, .inl (upd (fun _ => 0) 0 0))), (x5, .inl (cA 1, 6002, .inl (upd (fun _ => 0) 0 0))), (x6, .inl (cA 1, 6002, .inl (upd (fun _ => 0) 0 0))), (q2, .inr (12, [.ref q3, .ref q4, .ref q5, .ref q6, .ref q7, .ref q8, .ref q9, .ref q10, .ref q11, .ref q12, .int 1, .int 0, .int 0, .int 0, .int 0])), (q3, .inl (cA 1, 32, .inl (fun _ => 0))), (q4, .inl (cA 1, 32, .inl (fun _ => 0))), (q5, .inl (cA 1, 32, .inl (fun _ => 0))), (q6, .inl (cA 1, 32, .inl (fun _ => 0))), (q7, .inl (cA 1, 32, .inl (fun _ => 0))), (q8, .inl (cA 1, 32, .inl (fun _ => 0))), (q9, .inl (cA 1, 32, .inl (fun _ => 0))), (q10, .inl (cA 1, 32, .inl (fun _ => 0))), (q11, .inl (cA 1, 32, .inl (fun _ => 0))), (q12, .inl (cA 1, 32, .inl (fun _ => 0)))] rfl ?_
  refine zz_aload_n X 0 dX8_readQuery_23 rfl rfl ?_
  refine zz_get X 0 14 rfl rfl (by decide) (fun w h => List.mem_cons_of_mem _ (zf_X8 w h)) rfl (List.mem_cons_of_mem _ zm_31) (zq_same (zq_lt hf1_n (by decide) (by simp only [List.length_set]))) dX8_readQuery_24 ?_
  refine zz_aload_n X 0 dX8_readQuery_27 rfl rfl ?_
  refine zz_bipush X 16 dX8_readQuery_28 rfl ?_
  refine zz_callVi X (rest := [.ref q2]) (As := [.int 16]) (kX8_node_3 hE l D cA K V x1 ((((((((f1.set 8 (.int 0)).set 7 (.int (-1))).set 12 (.int 0)).set 8 (.int 1)).set 9 (.int 0)).set 10 (.int 0)).set 11 (.int (-1))).set 14 (.ref q2)) q2 x3 ([.ref q3, .ref q4, .ref q5, .ref q6, .ref q7, .ref q8, .ref q9, .ref q10, .ref q11, .ref q12, .int 1, .int 0, .int 0, .int 0, .int 0]) q3 q4 hss (zq_len hf1_n (by simp only [List.length_set])) (zq_same (zq_lt hf1_n (by decide) (by simp only [List.length_set]))) (zq_oth (by decide) (zq_oth (by decide) (zq_oth (by decide) (zq_oth (by decide) (zq_oth (by decide) (zq_oth (by decide) (zq_oth (by decide) (zq_oth (by decide) (hf1_4))))))))) (zq_oth (by decide) (zq_oth (by decide) (zq_oth (by decide) ((zq_same (zq_lt hf1_n (by decide) (by simp only [List.length_set]))))))) rfl rfl rfl rfl) 1 (zgV zm_720 zm_721 zm_722 zm_273 zm_719) rfl (by decide +kernel) [0, 1, 5, 6, 7] [2, 3, 4, 8, 9, 10, 11, 12, 13, 14, 15] [(x4, .inl (cA 1, 6002, .inl (upd (fun _ => 0) 0 0))), (x5, .inl (cA 1, 6002, .inl (upd (fun _ => 0) 0 0))), (x6, .inl (cA 1, 6002, .inl (upd (fun _ => 0) 0 0))), (q5, .inl (cA 1, 32, .inl (fun _ => 0))), (q6, .inl (cA 1, 32, .inl (fun _ => 0))), (q7, .inl (cA 1, 32, .inl (fun _ => 0))), (q8, .inl (cA 1, 32, .inl (fun _ => 0))), (q9, .inl (cA 1, 32, .inl (fun _ => 0))), (q10, .inl (cA 1, 32, .inl (fun _ => 0))), (q11, .inl (cA 1, 32, .inl (fun _ => 0))), (q12, .inl (cA 1, 32, .inl (fun _ => 0)))] rfl rfl (by decide) rfl (by decide) (by decide) ⟨Nat.le_of_ble_eq_true rfl, Nat.le_of_ble_eq_true rfl⟩ 0 rfl rfl rfl rfl rfl (Nat.le_of_ble_eq_true rfl) dX8_readQuery_30 (Nat.le_of_ble_eq_true rfl) (Nat.le_of_ble_eq_true rfl) (fun r14 _ hw15 => ?_)
  obtain rfl := hw15
  refine zz_show (ws' := [(x4, .inl (cA 1, 6002, .inl (upd (fun _ => 0) 0 0))), (x5, .inl (cA 1, 6002, .inl (upd (fun _ => 0) 0 0))), (x6, .inl (cA 1, 6002, .inl (upd (fun _ => 0) 0 0))), (q5, .inl (cA 1, 32, .inl (fun _ => 0))), (q6, .inl (cA 1, 32, .inl (fun _ => 0))), (q7, .inl (cA 1, 32, .inl (fun _ => 0))), (q8, .inl (cA 1, 32, .inl (fun _ => 0))), (q9, .inl (cA 1, 32, .inl (fun _ => 0))), (q10, .inl (cA 1, 32, .inl (fun _ => 0))), (q11, .inl (cA 1, 32, .inl (fun _ => 0))), (q12, .inl (cA 1, 32, .inl (fun _ => 0))), (x1, .inr (8, ((((((((f1.set 8 (.int 0)).set 7 (.int (-1))).set 12 (.int 0)).set 8 (.int 1)).set 9 (.int 0)).set 10 (.int 0)).set 11 (.int (-1))).set 14 (.ref q2)))), (x3, .inl (cA 1, 6002, .inl (upd (fun _ => 0) 0 0))), (q2, .inr (12, [.ref q3, .ref q4, .ref q5, .ref q6, .ref q7, .ref q8, .ref q9, .ref q10, .ref q11, .ref q12, .int 2, .int 0, .int 0, .int 0, .int 0])), (q3, .inl (cA 1, 32, .inl (upd (fun _ => 0) 1 16))), (q4, .inl (cA 1, 32, .inl (upd (fun _ => 0) 1 0)))]) rfl ?_
  refine zz_put X 13 12 rfl rfl (by decide) (fun w h => List.mem_cons_of_mem _ (zf_X12 w h)) rfl (List.mem_cons_of_mem _ zm_741) tyX12 tyX12_ok nmX12 rfl (ty := .int) rfl rfl rfl (Nat.le_of_ble_eq_true rfl) dX8_readQuery_33 [(x4, .inl (cA 1, 6002, .inl (upd (fun _ => 0) 0 0))), (x5, .inl (cA 1, 6002, .inl (upd (fun _ => 0) 0 0))), (x6, .inl (cA 1, 6002, .inl (upd (fun _ => 0) 0 0))), (q5, .inl (cA 1, 32, .inl (fun _ => 0))), (q6, .inl (cA 1, 32, .inl (fun _ => 0))), (q7, .inl (cA 1, 32, .inl (fun _ => 0))), (q8, .inl (cA 1, 32, .inl (fun _ => 0))), (q9, .inl (cA 1, 32, .inl (fun _ => 0))), (q10, .inl (cA 1, 32, .inl (fun _ => 0))), (q11, .inl (cA 1, 32, .inl (fun _ => 0))), (q12, .inl (cA 1, 32, .inl (fun _ => 0))), (x1, .inr (8, ((((((((f1.set 8 (.int 0)).set 7 (.int (-1))).set 12 (.int 0)).set 8 (.int 1)).set 9 (.int 0)).set 10 (.int 0)).set 11 (.int (-1))).set 14 (.ref q2)))), (x3, .inl (cA 1, 6002, .inl (upd (fun _ => 0) 0 0))), (q2, .inr (12, [.ref q3, .ref q4, .ref q5, .ref q6, .ref q7, .ref q8, .ref q9, .ref q10, .ref q11, .ref q12, .int 2, .int 0, .int 1, .int 0, .int 0])), (q3, .inl (cA 1, 32, .inl (upd (fun _ => 0) 1 16))), (q4, .inl (cA 1, 32, .inl (upd (fun _ => 0) 1 0)))] rfl ?_
  refine zz_aload_n X 0 dX8_readQuery_36 rfl rfl ?_
  refine zz_aload_n X 0 dX8_readQuery_37 rfl rfl ?_
  refine zz_get X 11 14 rfl rfl (by decide) (fun w h => List.mem_cons_of_mem _ (zf_X8 w h)) rfl (List.mem_cons_of_mem _ zm_31) (zq_same (zq_lt hf1_n (by decide) (by simp only [List.length_set]))) dX8_readQuery_38 ?_
  refine zz_get X 13 12 rfl rfl (by decide) (fun w h => List.mem_cons_of_mem _ (zf_X12 w h)) rfl (List.mem_cons_of_mem _ zm_741) rfl dX8_readQuery_41 ?_
  refine zz_iconst X 0 dX8_readQuery_44 rfl ?_
  refine zz_callVv X (rest := []) (As := [.int 1, .int 0]) (kX8_readLiterals_1 hE l D cA K V x1 ((((((((f1.set 8 (.int 0)).set 7 (.int (-1))).set 12 (.int 0)).set 8 (.int 1)).set 9 (.int 0)).set 10 (.int 0)).set 11 (.int (-1))).set 14 (.ref q2)) q2 x6 x3 x4 ([.ref q3, .ref q4, .ref q5, .ref q6, .ref q7, .ref q8, .ref q9, .ref q10, .ref q11, .ref q12, .int 2, .int 0, .int 1, .int 0, .int 0]) q3 q4 q5 q8 q10 q9 hss (zq_len hf1_n (by simp only [List.length_set])) (zq_oth (by decide) ((zq_same (zq_lt hf1_n (by decide) (by simp only [List.length_set]))))) (zq_same (zq_lt hf1_n (by decide) (by simp only [List.length_set]))) (zq_oth (by decide) (zq_oth (by decide) (zq_oth (by decide) (zq_oth (by decide) (zq_oth (by decide) (zq_oth (by decide) (zq_oth (by decide) (zq_oth (by decide) (hf1_3))))))))) (zq_oth (by decide) (zq_oth (by decide) (zq_oth (by decide) ((zq_same (zq_lt hf1_n (by decide) (by simp only [List.length_set]))))))) (zq_oth (by decide) (zq_oth (by decide) (zq_oth (by decide) (zq_oth (by decide) (zq_oth (by decide) (zq_oth (by decide) (zq_oth (by decide) (zq_oth (by decide) (hf1_4))))))))) (zq_oth (by decide) (zq_oth (by decide) (zq_oth (by decide) (zq_oth (by decide) (zq_oth (by decide) (zq_oth (by decide) (zq_oth (by decide) (zq_oth (by decide) (hf1_5))))))))) rfl rfl rfl rfl rfl rfl rfl rfl) 2 (zgV zm_1030 zm_1031 zm_1032 zm_273 zm_1029) rfl (by decide +kernel) [11, 13, 2, 12, 14, 15, 3, 6, 8, 7, 0] [1, 4, 5, 9, 10] [(x5, .inl (cA 1, 6002, .inl (upd (fun _ => 0) 0 0))), (q6, .inl (cA 1, 32, .inl (fun _ => 0))), (q7, .inl (cA 1, 32, .inl (fun _ => 0))), (q11, .inl (cA 1, 32, .inl (fun _ => 0))), (q12, .inl (cA 1, 32, .inl (fun _ => 0)))] rfl rfl (by decide) rfl (by decide) (by decide) ⟨Nat.le_of_ble_eq_true rfl, Nat.le_of_ble_eq_true rfl⟩ 0 rfl rfl rfl rfl rfl (Nat.le_of_ble_eq_true rfl) dX8_readQuery_45 (Nat.le_of_ble_eq_true rfl) (Nat.le_of_ble_eq_true rfl) (fun _ hw16 => ?_)
  refine zz_show (ws' := [(x5, .inl (cA 1, 6002, .inl (upd (fun _ => 0) 0 0))), (q6, .inl (cA 1, 32, .inl (fun _ => 0))), (q7, .inl (cA 1, 32, .inl (fun _ => 0))), (q11, .inl (cA 1, 32, .inl (fun _ => 0))), (q12, .inl (cA 1, 32, .inl (fun _ => 0))), (x1, .inr (8, (((((((((f1.set 8 (.int 0)).set 7 (.int (-1))).set 12 (.int 0)).set 8 (.int 1)).set 9 (.int 0)).set 10 (.int 0)).set 11 (.int (-1))).set 14 (.ref q2)).set 11 (.int 0)))), (q2, .inr (12, [.ref q3, .ref q4, .ref q5, .ref q6, .ref q7, .ref q8, .ref q9, .ref q10, .ref q11, .ref q12, .int 5, .int 0, .int 1, .int 0, .int 0])), (x6, .inl (cA 1, 6002, .inl (upd (fun _ => 0) 0 0))), (x3, .inl (cA 1, 6002, .inl (upd (fun _ => 0) 0 0))), (q3, .inl (cA 1, 32, .inl (upd (upd (upd (upd (fun _ => 0) 1 16) 2 24) 3 14) 4 1))), (q4, .inl (cA 1, 32, .inl (upd (upd (upd (upd (fun _ => 0) 1 0) 2 0) 3 0) 4 0))), (q5, .inl (cA 1, 32, .inl (upd (fun _ => 0) 4 1))), (q8, .inl (cA 1, 32, .inl (upd (upd (upd (fun _ => 0) 3 4) 2 4) 1 2))), (q10, .inl (cA 1, 32, .inl (upd (upd (upd (fun _ => 0) 3 4) 2 4) 1 2))), (q9, .inl (cA 1, 32, .inl (fun _ => 0))), (x4, .inl (cA 1, 6002, .inl (upd (fun _ => 0) 0 0)))]) rfl ?_
  refine zz_aload_n X 0 dX8_readQuery_48 rfl rfl ?_
  refine zz_get X 5 11 rfl rfl (by decide) (fun w h => List.mem_cons_of_mem _ (zf_X8 w h)) rfl (List.mem_cons_of_mem _ zm_28) (zq_same (zq_lt hf1_n (by decide) (by simp only [List.length_set]))) dX8_readQuery_49 ?_
  refine zz_if_ge X 67 dX8_readQuery_52 (by decide) (fun _ => ?_) (fun h => absurd (by decide) h)
  refine zz_aload_n X 0 dX8_readQuery_67 rfl rfl ?_
  refine zz_get X 5 11 rfl rfl (by decide) (fun w h => List.mem_cons_of_mem _ (zf_X8 w h)) rfl (List.mem_cons_of_mem _ zm_28) (zq_same (zq_lt hf1_n (by decide) (by simp only [List.length_set]))) dX8_readQuery_68 ?_
  refine zz_if_ge X 81 dX8_readQuery_71 (by decide) (fun _ => ?_) (fun h => absurd (by decide) h)
  refine zz_null X dX8_readQuery_81 ?_
  exact zz_aret (r := none) X hr (Or.inl ⟨_, rfl⟩) ((q2, q6, q7, q11, q12, q3, q4, q5, q8, q9, q10)) [5, 8, 15, 0, 7, 1, 2, 3, 4, 6, 9, 10, 11, 12, 13, 14] (by decide) rfl rfl (Nat.le_of_ble_eq_true rfl) (Nat.le_of_ble_eq_true rfl) (rfl) dX8_readQuery_82

set_option maxHeartbeats 4000000 in
set_option maxRecDepth 100000 in
/-- prepare -/
theorem kX13_prepare_1 {E : zEn} (hE : zOk E) (l : Launch) (D : va_G) (cA : Nat → ClassId) (K : Nat → Nat) (V : Nat → Nat) (x1 : Nat) (f1 : List Value) (x2 : Nat) (x3 : Nat) (f2 : List Value) (x4 : Nat) (x5 : Nat) (x6 : Nat) (x7 : Nat) (hss : zSS E K V) (hf1_n : f1.length = 23) (hf1_3 : f1[3]? = some (.ref x2)) (hf1_8 : f1[8]? = some (.ref x3)) (hf1_9 : f1[9]? = some (.int 0)) (hf2_n : f2.length = 15) (hf2_4 : f2[4]? = some (.ref x4)) (hf2_5 : f2[5]? = some (.ref x5)) (hf2_6 : f2[6]? = some (.ref x6)) (hf2_3 : f2[3]? = some (.ref x7)) : zMi E l yX13_prepare zwX13_prepare ({ frames := 14, cells := 11, slots := 335, locals := 323 }) D vwCl (zT cA) [.ref x1] [(x1, .inr (13, f1)), (x2, .inr (8, f2)), (x4, .inl (cA 1, 6002, .inl (fun _ => 0))), (x5, .inl (cA 1, 6002, .inl (fun _ => 0))), (x6, .inl (cA 1, 6002, .inl (fun _ => 0))), (x7, .inl (cA 1, 6002, .inl (fun _ => 0)))] (S := Unit) (fun (r : Int32) (u : Unit) => (r = (-1))) (fun (u : Unit) => []) := by
  refine zz_enteri (cc := cX13_prepare) (lv := [(0, .ref x1)]) hE 4 (by decide) rfl (Nat.le_of_ble_eq_true rfl) rfl ?_
  intro p e s m args below meth c X hr hin
  refine zz_aload_n X 0 dX13_prepare_0 rfl rfl ?_
  refine zz_get X 0 3 rfl rfl (by decide) (fun w h => List.mem_cons_of_mem _ (zf_X13 w h)) rfl (List.mem_cons_of_mem _ zm_279) hf1_3 dX13_prepare_1 ?_
  refine zz_aload_n X 0 dX13_prepare_4 rfl rfl ?_
  refine zz_get X 0 8 rfl rfl (by decide) (fun w h => List.mem_cons_of_mem _ (zf_X13 w h)) rfl (List.mem_cons_of_mem _ zm_301) hf1_8 dX13_prepare_5 ?_
  refine zz_aload_n X 0 dX13_prepare_8 rfl rfl ?_
  refine zz_callVi X (rest := [.ref x3, .ref x2]) (As := []) (kX13_emptied_1 hE l D cA K V x1 f1 hss (zq_len hf1_n (by simp only [List.length_set])) hf1_9) 0 (zgV zm_670 zm_671 zm_672 zm_186 zm_669) rfl (by decide +kernel) [0] [1, 2, 3, 4, 5] [(x2, .inr (8, f2)), (x4, .inl (cA 1, 6002, .inl (fun _ => 0))), (x5, .inl (cA 1, 6002, .inl (fun _ => 0))), (x6, .inl (cA 1, 6002, .inl (fun _ => 0))), (x7, .inl (cA 1, 6002, .inl (fun _ => 0)))] rfl rfl (by decide) rfl (by decide) (by decide) ⟨Nat.le_of_ble_eq_true rfl, Nat.le_of_ble_eq_true rfl⟩ 0 rfl rfl rfl rfl rfl (Nat.le_of_ble_eq_true rfl) dX13_prepare_9 (Nat.le_of_ble_eq_true rfl) (Nat.le_of_ble_eq_true rfl) (fun r1 _ hw2 => ?_)
  obtain rfl := hw2
  refine zz_show (ws' := [(x2, .inr (8, f2)), (x4, .inl (cA 1, 6002, .inl (fun _ => 0))), (x5, .inl (cA 1, 6002, .inl (fun _ => 0))), (x6, .inl (cA 1, 6002, .inl (fun _ => 0))), (x7, .inl (cA 1, 6002, .inl (fun _ => 0))), (x1, .inr (13, (f1.set 9 (.int 0))))]) rfl ?_
  refine zz_callVq X (rest := []) (As := [.ref x3, .int 0]) (kX8_readQuery_1 hE l D cA K V x2 x3 f2 x4 x5 x6 x7 hss (zq_len hf2_n (by simp only [List.length_set])) hf2_4 hf2_5 hf2_6 hf2_3) 2 (zgV zm_1034 zm_1035 zm_1036 zm_273 zm_1033) rfl (by decide +kernel) [0, 1, 2, 3, 4] [5] [(x1, .inr (13, (f1.set 9 (.int 0))))] rfl rfl (by decide) rfl (by decide) (by decide) ⟨Nat.le_of_ble_eq_true rfl, Nat.le_of_ble_eq_true rfl⟩ 0 rfl rfl rfl rfl rfl (Nat.le_of_ble_eq_true rfl) dX13_prepare_12 (Nat.le_of_ble_eq_true rfl) (Nat.le_of_ble_eq_true rfl) (fun r14 uhw15 hw15 => ?_)
  obtain ⟨q3, q4, q5, q6, q7, q8, q9, q10, q11, q12, q13⟩ := uhw15
  obtain rfl := hw15
  refine zz_show (ws' := [(x1, .inr (13, (f1.set 9 (.int 0)))), (x2, .inr (8, (((((((((f2.set 8 (.int 0)).set 7 (.int (-1))).set 12 (.int 0)).set 8 (.int 1)).set 9 (.int 0)).set 10 (.int 0)).set 11 (.int (-1))).set 14 (.ref q3)).set 11 (.int 0)))), (x4, .inl (cA 1, 6002, .inl (upd (fun _ => 0) 0 0))), (x5, .inl (cA 1, 6002, .inl (upd (fun _ => 0) 0 0))), (x6, .inl (cA 1, 6002, .inl (upd (fun _ => 0) 0 0))), (x7, .inl (cA 1, 6002, .inl (upd (fun _ => 0) 0 0))), (q4, .inl (cA 1, 32, .inl (fun _ => 0))), (q5, .inl (cA 1, 32, .inl (fun _ => 0))), (q6, .inl (cA 1, 32, .inl (fun _ => 0))), (q7, .inl (cA 1, 32, .inl (fun _ => 0))), (q3, .inr (12, [.ref q8, .ref q9, .ref q10, .ref q4, .ref q5, .ref q11, .ref q12, .ref q13, .ref q6, .ref q7, .int 5, .int 0, .int 1, .int 0, .int 0])), (q8, .inl (cA 1, 32, .inl (upd (upd (upd (upd (fun _ => 0) 1 16) 2 24) 3 14) 4 1))), (q9, .inl (cA 1, 32, .inl (upd (upd (upd (upd (fun _ => 0) 1 0) 2 0) 3 0) 4 0))), (q10, .inl (cA 1, 32, .inl (upd (fun _ => 0) 4 1))), (q11, .inl (cA 1, 32, .inl (upd (upd (upd (fun _ => 0) 3 4) 2 4) 1 2))), (q13, .inl (cA 1, 32, .inl (upd (upd (upd (fun _ => 0) 3 4) 2 4) 1 2))), (q12, .inl (cA 1, 32, .inl (fun _ => 0)))]) rfl ?_
  refine zz_astore_nN X [(1, .null), (0, .ref x1)] dX13_prepare_15 rfl (by decide) rfl ?_
  refine zz_aload_nN X 0 dX13_prepare_16 rfl rfl ?_
  refine zz_ifnonnullN X dX13_prepare_17 ?_
  refine zz_iconst X (-1) dX13_prepare_20 rfl ?_
  refine zz_aload_n X 1 dX13_prepare_21 rfl rfl ?_
  refine zz_get X 0 3 rfl rfl (by decide) (fun w h => List.mem_cons_of_mem _ (zf_X13 w h)) rfl (List.mem_cons_of_mem _ zm_279) (zq_oth (by decide) (hf1_3)) dX13_prepare_22 ?_
  refine zz_get X 1 11 rfl rfl (by decide) (fun w h => List.mem_cons_of_mem _ (zf_X8 w h)) rfl (List.mem_cons_of_mem _ zm_748) (zq_same (zq_lt hf2_n (by decide) (by simp only [List.length_set]))) dX13_prepare_25 ?_
  refine zz_isub X ((-1)) dX13_prepare_28 (by decide) ?_
  exact zz_iret X hr (()) [] (by decide) rfl rfl (Nat.le_of_ble_eq_true rfl) (Nat.le_of_ble_eq_true rfl) (rfl) dX13_prepare_29

set_option maxHeartbeats 4000000 in
set_option maxRecDepth 100000 in
/-- query -/
theorem kX13_query_1 {E : zEn} (hE : zOk E) (l : Launch) (D : va_G) (cA : Nat → ClassId) (K : Nat → Nat) (V : Nat → Nat) (x1 : Nat) (x2 : Int32) (f1 : List Value) (x3 : Nat) (hss : zSS E K V) (hf1_n : f1.length = 23) (hf1_15 : f1[15]? = some (.ref x3)) : zMq E l yX13_query zwX13_query ({ frames := 0, cells := 0, slots := 0, locals := 0 }) D vwCl (zT cA) [.ref x1, .int x2] [(x1, .inr (13, f1)), (x3, .inl (cA 4, 4, .inr (.inr (.inr (.inr (fun _ => none))))))] (S := Unit) (fun (r : Option Nat) (u : Unit) => (r = none)) (fun (u : Unit) => [(x1, .inr (13, f1)), (x3, .inl (cA 4, 4, .inr (.inr (.inr (.inr (fun _ => none))))))]) := by
  refine zz_enterq (cc := cX13_query) (lv := [(0, .ref x1), (1, .int x2)]) hE 2 (by decide) rfl (Nat.le_of_ble_eq_true rfl) rfl ?_
  intro p e s m args below meth c X hr hin
  refine zz_iload_n X 1 dX13_query_0 rfl rfl ?_
  refine zz_if_lt X 9 dX13_query_1 (by decide) (fun c1_1 => ?_) (fun c1_1 => ?_)
  · skip
    refine zz_null X dX13_query_9 ?_
    refine zz_goto X 19 dX13_query_10 (by decide) ?_
    exact zz_aret (r := none) X hr (Or.inl ⟨_, rfl⟩) (()) [0, 1] (by decide) rfl rfl (Nat.le_of_ble_eq_true rfl) (Nat.le_of_ble_eq_true rfl) (rfl) dX13_query_19
  · skip
    refine zz_iload_n X 1 dX13_query_4 rfl rfl ?_
    refine zz_iconst X 4 dX13_query_5 rfl ?_
    refine zz_icmp_lt X 13 dX13_query_6 (by decide) (fun c6_2 => ?_) (fun c6_2 => ?_)
    · skip
      refine zz_aload_n X 0 dX13_query_13 rfl rfl ?_
      refine zz_get X 0 15 rfl rfl (by decide) (fun w h => List.mem_cons_of_mem _ (zf_X13 w h)) rfl (List.mem_cons_of_mem _ zm_309) hf1_15 dX13_query_14 ?_
      refine zz_iload_n X 1 dX13_query_17 rfl rfl ?_
      refine zz_aald X 1 4 rfl rfl (zq_in (N := 4) (zq_nlt c1_1) c6_2 (by decide)) (.null) rfl dX13_query_18 ?_
      exact zz_aret (r := none) X hr (Or.inl ⟨_, rfl⟩) (()) [0, 1] (by decide) rfl rfl (Nat.le_of_ble_eq_true rfl) (Nat.le_of_ble_eq_true rfl) (rfl) dX13_query_19
    · skip
      refine zz_null X dX13_query_9 ?_
      refine zz_goto X 19 dX13_query_10 (by decide) ?_
      exact zz_aret (r := none) X hr (Or.inl ⟨_, rfl⟩) (()) [0, 1] (by decide) rfl rfl (Nat.le_of_ble_eq_true rfl) (Nat.le_of_ble_eq_true rfl) (rfl) dX13_query_19

set_option maxHeartbeats 4000000 in
set_option maxRecDepth 100000 in
/-- renew -/
theorem kX13_renew_1 {E : zEn} (hE : zOk E) (l : Launch) (D : va_G) (cA : Nat → ClassId) (K : Nat → Nat) (V : Nat → Nat) (x1 : Nat) (x2 : Int32) (f1 : List Value) (x3 : Nat) (hss : zSS E K V) (hf1_n : f1.length = 23) (hf1_15 : f1[15]? = some (.ref x3)) : zMi E l yX13_renew zwX13_renew ({ frames := 1, cells := 0, slots := 0, locals := 21 }) D vwCl (zT cA) [.ref x1, .int x2] [(x1, .inr (13, f1)), (x3, .inl (cA 4, 4, .inr (.inr (.inr (.inr (fun _ => none))))))] (S := Unit) (fun (r : Int32) (u : Unit) => (r = (-1))) (fun (u : Unit) => []) := by
  refine zz_enteri (cc := cX13_renew) (lv := [(0, .ref x1), (1, .int x2)]) hE 4 (by decide) rfl (Nat.le_of_ble_eq_true rfl) rfl ?_
  intro p e s m args below meth c X hr hin
  refine zz_aload_n X 0 dX13_renew_0 rfl rfl ?_
  refine zz_iload_n X 1 dX13_renew_1 rfl rfl ?_
  refine zz_callVq X (rest := []) (As := [.int x2]) (kX13_query_1 hE l D cA K V x1 x2 f1 x3 hss (zq_len hf1_n (by simp only [List.length_set])) hf1_15) 1 (zgV zm_1100 zm_1101 zm_1102 zm_186 zm_1099) rfl (by decide +kernel) [0, 1] [] [] rfl rfl (by decide) rfl (by decide) (by decide) ⟨Nat.le_of_ble_eq_true rfl, Nat.le_of_ble_eq_true rfl⟩ 0 rfl rfl rfl rfl rfl (Nat.le_of_ble_eq_true rfl) dX13_renew_2 (Nat.le_of_ble_eq_true rfl) (Nat.le_of_ble_eq_true rfl) (fun r1 _ hw2 => ?_)
  obtain rfl := hw2
  refine zz_show (ws' := [(x1, .inr (13, f1)), (x3, .inl (cA 4, 4, .inr (.inr (.inr (.inr (fun _ => none))))))]) rfl ?_
  refine zz_astore_nN X [(2, .null), (0, .ref x1), (1, .int x2)] dX13_renew_5 rfl (by decide) rfl ?_
  refine zz_aload_nN X 0 dX13_renew_6 rfl rfl ?_
  refine zz_ifnonnullN X dX13_renew_7 ?_
  refine zz_iconst X (-1) dX13_renew_10 rfl ?_
  exact zz_iret X hr (()) [] (by decide) rfl rfl (Nat.le_of_ble_eq_true rfl) (Nat.le_of_ble_eq_true rfl) (rfl) dX13_renew_11

set_option maxHeartbeats 4000000 in
set_option maxRecDepth 100000 in
/-- release -/
theorem kX13_release_1 {E : zEn} (hE : zOk E) (l : Launch) (D : va_G) (cA : Nat → ClassId) (K : Nat → Nat) (V : Nat → Nat) (x1 : Nat) (x2 : Int32) (f1 : List Value) (x3 : Nat) (hss : zSS E K V) (hf1_n : f1.length = 23) (hf1_15 : f1[15]? = some (.ref x3)) : zMi E l yX13_release zwX13_release ({ frames := 1, cells := 0, slots := 0, locals := 21 }) D vwCl (zT cA) [.ref x1, .int x2] [(x1, .inr (13, f1)), (x3, .inl (cA 4, 4, .inr (.inr (.inr (.inr (fun _ => none))))))] (S := Unit) (fun (r : Int32) (u : Unit) => (r = 0)) (fun (u : Unit) => []) := by
  refine zz_enterz (cc := cX13_release) (lv := [(0, .ref x1), (1, .int x2)]) hE 2 (by decide) rfl (Nat.le_of_ble_eq_true rfl) rfl ?_
  intro p e s m args below meth c X hr hin
  refine zz_aload_n X 0 dX13_release_0 rfl rfl ?_
  refine zz_iload_n X 1 dX13_release_1 rfl rfl ?_
  refine zz_callVq X (rest := []) (As := [.int x2]) (kX13_query_1 hE l D cA K V x1 x2 f1 x3 hss (zq_len hf1_n (by simp only [List.length_set])) hf1_15) 1 (zgV zm_1100 zm_1101 zm_1102 zm_186 zm_1099) rfl (by decide +kernel) [0, 1] [] [] rfl rfl (by decide) rfl (by decide) (by decide) ⟨Nat.le_of_ble_eq_true rfl, Nat.le_of_ble_eq_true rfl⟩ 0 rfl rfl rfl rfl rfl (Nat.le_of_ble_eq_true rfl) dX13_release_2 (Nat.le_of_ble_eq_true rfl) (Nat.le_of_ble_eq_true rfl) (fun r1 _ hw2 => ?_)
  obtain rfl := hw2
  refine zz_show (ws' := [(x1, .inr (13, f1)), (x3, .inl (cA 4, 4, .inr (.inr (.inr (.inr (fun _ => none))))))]) rfl ?_
  refine zz_ifnonnullN X dX13_release_5 ?_
  refine zz_iconst X 0 dX13_release_8 rfl ?_
  exact zz_zret X hr (by decide) (()) [] (by decide) rfl rfl (Nat.le_of_ble_eq_true rfl) (Nat.le_of_ble_eq_true rfl) (rfl) dX13_release_9

set_option maxHeartbeats 4000000 in
set_option maxRecDepth 100000 in
/-- run -/
theorem kX13_run_1 {E : zEn} (hE : zOk E) (l : Launch) (D : va_G) (cA : Nat → ClassId) (K : Nat → Nat) (V : Nat → Nat) (x1 : Nat) (x2 : Int32) (f1 : List Value) (x3 : Nat) (hss : zSS E K V) (hf1_n : f1.length = 23) (hf1_15 : f1[15]? = some (.ref x3)) : zMi E l yX13_run zwX13_run ({ frames := 1, cells := 0, slots := 0, locals := 21 }) D vwCl (zT cA) [.ref x1, .int x2, .int 0] [(x1, .inr (13, f1)), (x3, .inl (cA 4, 4, .inr (.inr (.inr (.inr (fun _ => none))))))] (S := Unit) (fun (r : Int32) (u : Unit) => (r = (-1))) (fun (u : Unit) => []) := by
  refine zz_enteri (cc := cX13_run) (lv := [(0, .ref x1), (1, .int x2), (2, .int 0)]) hE 5 (by decide) rfl (Nat.le_of_ble_eq_true rfl) rfl ?_
  intro p e s m args below meth c X hr hin
  refine zz_aload_n X 0 dX13_run_0 rfl rfl ?_
  refine zz_iload_n X 1 dX13_run_1 rfl rfl ?_
  refine zz_callVq X (rest := []) (As := [.int x2]) (kX13_query_1 hE l D cA K V x1 x2 f1 x3 hss (zq_len hf1_n (by simp only [List.length_set])) hf1_15) 1 (zgV zm_1100 zm_1101 zm_1102 zm_186 zm_1099) rfl (by decide +kernel) [0, 1] [] [] rfl rfl (by decide) rfl (by decide) (by decide) ⟨Nat.le_of_ble_eq_true rfl, Nat.le_of_ble_eq_true rfl⟩ 0 rfl rfl rfl rfl rfl (Nat.le_of_ble_eq_true rfl) dX13_run_2 (Nat.le_of_ble_eq_true rfl) (Nat.le_of_ble_eq_true rfl) (fun r1 _ hw2 => ?_)
  obtain rfl := hw2
  refine zz_show (ws' := [(x1, .inr (13, f1)), (x3, .inl (cA 4, 4, .inr (.inr (.inr (.inr (fun _ => none))))))]) rfl ?_
  refine zz_astore_nN X [(3, .null), (0, .ref x1), (1, .int x2), (2, .int 0)] dX13_run_5 rfl (by decide) rfl ?_
  refine zz_aload_nN X 0 dX13_run_6 rfl rfl ?_
  refine zz_ifnonnullN X dX13_run_7 ?_
  refine zz_iconst X (-1) dX13_run_10 rfl ?_
  exact zz_iret X hr (()) [] (by decide) rfl rfl (Nat.le_of_ble_eq_true rfl) (Nat.le_of_ble_eq_true rfl) (rfl) dX13_run_11

set_option maxHeartbeats 4000000 in
set_option maxRecDepth 100000 in
/-- run -/
theorem kX13_run_2 {E : zEn} (hE : zOk E) (l : Launch) (D : va_G) (cA : Nat → ClassId) (K : Nat → Nat) (V : Nat → Nat) (x1 : Nat) (x2 : Int32) (f1 : List Value) (x3 : Nat) (hss : zSS E K V) (hf1_n : f1.length = 23) (hf1_15 : f1[15]? = some (.ref x3)) : zMi E l yX13_run zwX13_run ({ frames := 1, cells := 0, slots := 0, locals := 21 }) D vwCl (zT cA) [.ref x1, .int x2, .int 1] [(x1, .inr (13, f1)), (x3, .inl (cA 4, 4, .inr (.inr (.inr (.inr (fun _ => none))))))] (S := Unit) (fun (r : Int32) (u : Unit) => (r = (-1))) (fun (u : Unit) => []) := by
  refine zz_enteri (cc := cX13_run) (lv := [(0, .ref x1), (1, .int x2), (2, .int 1)]) hE 5 (by decide) rfl (Nat.le_of_ble_eq_true rfl) rfl ?_
  intro p e s m args below meth c X hr hin
  refine zz_aload_n X 0 dX13_run_0 rfl rfl ?_
  refine zz_iload_n X 1 dX13_run_1 rfl rfl ?_
  refine zz_callVq X (rest := []) (As := [.int x2]) (kX13_query_1 hE l D cA K V x1 x2 f1 x3 hss (zq_len hf1_n (by simp only [List.length_set])) hf1_15) 1 (zgV zm_1100 zm_1101 zm_1102 zm_186 zm_1099) rfl (by decide +kernel) [0, 1] [] [] rfl rfl (by decide) rfl (by decide) (by decide) ⟨Nat.le_of_ble_eq_true rfl, Nat.le_of_ble_eq_true rfl⟩ 0 rfl rfl rfl rfl rfl (Nat.le_of_ble_eq_true rfl) dX13_run_2 (Nat.le_of_ble_eq_true rfl) (Nat.le_of_ble_eq_true rfl) (fun r1 _ hw2 => ?_)
  obtain rfl := hw2
  refine zz_show (ws' := [(x1, .inr (13, f1)), (x3, .inl (cA 4, 4, .inr (.inr (.inr (.inr (fun _ => none))))))]) rfl ?_
  refine zz_astore_nN X [(3, .null), (0, .ref x1), (1, .int x2), (2, .int 1)] dX13_run_5 rfl (by decide) rfl ?_
  refine zz_aload_nN X 0 dX13_run_6 rfl rfl ?_
  refine zz_ifnonnullN X dX13_run_7 ?_
  refine zz_iconst X (-1) dX13_run_10 rfl ?_
  exact zz_iret X hr (()) [] (by decide) rfl rfl (Nat.le_of_ble_eq_true rfl) (Nat.le_of_ble_eq_true rfl) (rfl) dX13_run_11

set_option maxHeartbeats 4000000 in
set_option maxRecDepth 100000 in
/-- hasRun -/
theorem kX13_hasRun_1 {E : zEn} (hE : zOk E) (l : Launch) (D : va_G) (cA : Nat → ClassId) (K : Nat → Nat) (V : Nat → Nat) (x1 : Nat) (f1 : List Value) (x2 : Nat) (f2 : List Value) (hss : zSS E K V) (hf1_n : f1.length = 23) (hf1_7 : f1[7]? = some (.ref x2)) (hf2_n : f2.length = 19) (hf2_12 : f2[12]? = some (.null)) : zMi E l yX13_hasRun zwX13_hasRun ({ frames := 0, cells := 0, slots := 0, locals := 0 }) D vwCl (zT cA) [.ref x1] [(x1, .inr (13, f1)), (x2, .inr (5, f2))] (S := Unit) (fun (r : Int32) (u : Unit) => (r = 0)) (fun (u : Unit) => [(x1, .inr (13, f1)), (x2, .inr (5, f2))]) := by
  refine zz_enterz (cc := cX13_hasRun) (lv := [(0, .ref x1)]) hE 1 (by decide) rfl (Nat.le_of_ble_eq_true rfl) rfl ?_
  intro p e s m args below meth c X hr hin
  refine zz_aload_n X 0 dX13_hasRun_0 rfl rfl ?_
  refine zz_get X 0 7 rfl rfl (by decide) (fun w h => List.mem_cons_of_mem _ (zf_X13 w h)) rfl (List.mem_cons_of_mem _ zm_335) hf1_7 dX13_hasRun_1 ?_
  refine zz_get X 1 12 rfl rfl (by decide) (fun w h => List.mem_cons_of_mem _ (zf_X5 w h)) rfl (List.mem_cons_of_mem _ zm_1131) hf2_12 dX13_hasRun_4 ?_
  refine zz_ifnullN X 14 dX13_hasRun_7 (by decide) ?_
  refine zz_iconst X 0 dX13_hasRun_14 rfl ?_
  exact zz_zret X hr (by decide) (()) [0, 1] (by decide) rfl rfl (Nat.le_of_ble_eq_true rfl) (Nat.le_of_ble_eq_true rfl) (rfl) dX13_hasRun_15

set_option maxHeartbeats 4000000 in
set_option maxRecDepth 100000 in
/-- about -/
theorem kX13_about_1 {E : zEn} (hE : zOk E) (l : Launch) (D : va_G) (cA : Nat → ClassId) (K : Nat → Nat) (V : Nat → Nat) (x1 : Nat) (x2 : Int32) (f1 : List Value) (x3 : Nat) (f2 : List Value) (hss : zSS E K V) (hf1_n : f1.length = 23) (hf1_7 : f1[7]? = some (.ref x3)) (hf2_n : f2.length = 19) (hf2_12 : f2[12]? = some (.null)) : zMi E l yX13_about zwX13_about ({ frames := 1, cells := 0, slots := 0, locals := 20 }) D vwCl (zT cA) [.ref x1, .int x2] [(x1, .inr (13, f1)), (x3, .inr (5, f2))] (S := Unit) (fun (r : Int32) (u : Unit) => (r = (-1))) (fun (u : Unit) => []) := by
  refine zz_enteri (cc := cX13_about) (lv := [(0, .ref x1), (1, .int x2)]) hE 3 (by decide) rfl (Nat.le_of_ble_eq_true rfl) rfl ?_
  intro p e s m args below meth c X hr hin
  refine zz_aload_n X 0 dX13_about_0 rfl rfl ?_
  refine zz_callVi X (rest := []) (As := []) (kX13_hasRun_1 hE l D cA K V x1 f1 x3 f2 hss (zq_len hf1_n (by simp only [List.length_set])) hf1_7 (zq_len hf2_n (by simp only [List.length_set])) hf2_12) 0 (zgV zm_1133 zm_1134 zm_1135 zm_186 zm_1132) rfl (by decide +kernel) [0, 1] [] [] rfl rfl (by decide) rfl (by decide) (by decide) ⟨Nat.le_of_ble_eq_true rfl, Nat.le_of_ble_eq_true rfl⟩ 0 rfl rfl rfl rfl rfl (Nat.le_of_ble_eq_true rfl) dX13_about_1 (Nat.le_of_ble_eq_true rfl) (Nat.le_of_ble_eq_true rfl) (fun r1 _ hw2 => ?_)
  obtain rfl := hw2
  refine zz_show (ws' := [(x1, .inr (13, f1)), (x3, .inr (5, f2))]) rfl ?_
  refine zz_if_ne X 9 dX13_about_4 (by decide) (fun h => absurd (by decide) h) (fun _ => ?_)
  refine zz_iconst X (-1) dX13_about_7 rfl ?_
  exact zz_iret X hr (()) [] (by decide) rfl rfl (Nat.le_of_ble_eq_true rfl) (Nat.le_of_ble_eq_true rfl) (rfl) dX13_about_8

set_option maxHeartbeats 4000000 in
set_option maxRecDepth 100000 in
/-- hasRunOut -/
theorem kX13_hasRunOut_1 {E : zEn} (hE : zOk E) (l : Launch) (D : va_G) (cA : Nat → ClassId) (K : Nat → Nat) (V : Nat → Nat) (x1 : Nat) (f1 : List Value) (x2 : Nat) (f2 : List Value) (hss : zSS E K V) (hf1_n : f1.length = 23) (hf1_7 : f1[7]? = some (.ref x2)) (hf2_n : f2.length = 19) (hf2_12 : f2[12]? = some (.null)) : zMi E l yX13_hasRunOut zwX13_hasRunOut ({ frames := 0, cells := 0, slots := 0, locals := 0 }) D vwCl (zT cA) [.ref x1] [(x1, .inr (13, f1)), (x2, .inr (5, f2))] (S := Unit) (fun (r : Int32) (u : Unit) => (r = 0)) (fun (u : Unit) => [(x1, .inr (13, f1)), (x2, .inr (5, f2))]) := by
  refine zz_enterz (cc := cX13_hasRunOut) (lv := [(0, .ref x1)]) hE 1 (by decide) rfl (Nat.le_of_ble_eq_true rfl) rfl ?_
  intro p e s m args below meth c X hr hin
  refine zz_aload_n X 0 dX13_hasRunOut_0 rfl rfl ?_
  refine zz_get X 0 7 rfl rfl (by decide) (fun w h => List.mem_cons_of_mem _ (zf_X13 w h)) rfl (List.mem_cons_of_mem _ zm_335) hf1_7 dX13_hasRunOut_1 ?_
  refine zz_get X 1 12 rfl rfl (by decide) (fun w h => List.mem_cons_of_mem _ (zf_X5 w h)) rfl (List.mem_cons_of_mem _ zm_1131) hf2_12 dX13_hasRunOut_4 ?_
  refine zz_ifnullN X 24 dX13_hasRunOut_7 (by decide) ?_
  refine zz_iconst X 0 dX13_hasRunOut_24 rfl ?_
  exact zz_zret X hr (by decide) (()) [0, 1] (by decide) rfl rfl (Nat.le_of_ble_eq_true rfl) (Nat.le_of_ble_eq_true rfl) (rfl) dX13_hasRunOut_25

set_option maxHeartbeats 4000000 in
set_option maxRecDepth 100000 in
/-- covered -/
theorem kX13_covered_1 {E : zEn} (hE : zOk E) (l : Launch) (D : va_G) (cA : Nat → ClassId) (K : Nat → Nat) (V : Nat → Nat) (x1 : Nat) (x2 : Int32) (f1 : List Value) (x3 : Nat) (f2 : List Value) (hss : zSS E K V) (hf1_n : f1.length = 23) (hf1_7 : f1[7]? = some (.ref x3)) (hf2_n : f2.length = 19) (hf2_12 : f2[12]? = some (.null)) : zMi E l yX13_covered zwX13_covered ({ frames := 1, cells := 0, slots := 0, locals := 20 }) D vwCl (zT cA) [.ref x1, .int x2] [(x1, .inr (13, f1)), (x3, .inr (5, f2))] (S := Unit) (fun (r : Int32) (u : Unit) => (r = (-1))) (fun (u : Unit) => []) := by
  refine zz_enteri (cc := cX13_covered) (lv := [(0, .ref x1), (1, .int x2)]) hE 2 (by decide) rfl (Nat.le_of_ble_eq_true rfl) rfl ?_
  intro p e s m args below meth c X hr hin
  refine zz_aload_n X 0 dX13_covered_0 rfl rfl ?_
  refine zz_callVi X (rest := []) (As := []) (kX13_hasRunOut_1 hE l D cA K V x1 f1 x3 f2 hss (zq_len hf1_n (by simp only [List.length_set])) hf1_7 (zq_len hf2_n (by simp only [List.length_set])) hf2_12) 0 (zgV zm_1146 zm_1147 zm_1148 zm_186 zm_1145) rfl (by decide +kernel) [0, 1] [] [] rfl rfl (by decide) rfl (by decide) (by decide) ⟨Nat.le_of_ble_eq_true rfl, Nat.le_of_ble_eq_true rfl⟩ 0 rfl rfl rfl rfl rfl (Nat.le_of_ble_eq_true rfl) dX13_covered_1 (Nat.le_of_ble_eq_true rfl) (Nat.le_of_ble_eq_true rfl) (fun r1 _ hw2 => ?_)
  obtain rfl := hw2
  refine zz_show (ws' := [(x1, .inr (13, f1)), (x3, .inr (5, f2))]) rfl ?_
  refine zz_if_eq X 26 dX13_covered_4 (by decide) (fun _ => ?_) (fun h => absurd (by decide) h)
  refine zz_iconst X (-1) dX13_covered_26 rfl ?_
  exact zz_iret X hr (()) [] (by decide) rfl rfl (Nat.le_of_ble_eq_true rfl) (Nat.le_of_ble_eq_true rfl) (rfl) dX13_covered_27

set_option maxHeartbeats 4000000 in
set_option maxRecDepth 100000 in
/-- result -/
theorem kX13_result_1 {E : zEn} (hE : zOk E) (l : Launch) (D : va_G) (cA : Nat → ClassId) (K : Nat → Nat) (V : Nat → Nat) (x1 : Nat) (x2 : Int32) (x3 : Int32) (f1 : List Value) (x4 : Nat) (f2 : List Value) (hss : zSS E K V) (hf1_n : f1.length = 23) (hf1_7 : f1[7]? = some (.ref x4)) (hf2_n : f2.length = 19) (hf2_12 : f2[12]? = some (.null)) : zMi E l yX13_result zwX13_result ({ frames := 1, cells := 0, slots := 0, locals := 20 }) D vwCl (zT cA) [.ref x1, .int x2, .int x3] [(x1, .inr (13, f1)), (x4, .inr (5, f2))] (S := Unit) (fun (r : Int32) (u : Unit) => (r = (-1))) (fun (u : Unit) => []) := by
  refine zz_enteri (cc := cX13_result) (lv := [(0, .ref x1), (1, .int x2), (2, .int x3)]) hE 3 (by decide) rfl (Nat.le_of_ble_eq_true rfl) rfl ?_
  intro p e s m args below meth c X hr hin
  refine zz_aload_n X 0 dX13_result_0 rfl rfl ?_
  refine zz_callVi X (rest := []) (As := []) (kX13_hasRun_1 hE l D cA K V x1 f1 x4 f2 hss (zq_len hf1_n (by simp only [List.length_set])) hf1_7 (zq_len hf2_n (by simp only [List.length_set])) hf2_12) 0 (zgV zm_1133 zm_1134 zm_1135 zm_186 zm_1132) rfl (by decide +kernel) [0, 1] [] [] rfl rfl (by decide) rfl (by decide) (by decide) ⟨Nat.le_of_ble_eq_true rfl, Nat.le_of_ble_eq_true rfl⟩ 0 rfl rfl rfl rfl rfl (Nat.le_of_ble_eq_true rfl) dX13_result_1 (Nat.le_of_ble_eq_true rfl) (Nat.le_of_ble_eq_true rfl) (fun r1 _ hw2 => ?_)
  obtain rfl := hw2
  refine zz_show (ws' := [(x1, .inr (13, f1)), (x4, .inr (5, f2))]) rfl ?_
  refine zz_if_eq X 26 dX13_result_4 (by decide) (fun _ => ?_) (fun h => absurd (by decide) h)
  refine zz_iconst X (-1) dX13_result_26 rfl ?_
  exact zz_iret X hr (()) [] (by decide) rfl rfl (Nat.le_of_ble_eq_true rfl) (Nat.le_of_ble_eq_true rfl) (rfl) dX13_result_27

set_option maxHeartbeats 4000000 in
set_option maxRecDepth 100000 in
/-- document -/
theorem kX13_document_1 {E : zEn} (hE : zOk E) (l : Launch) (D : va_G) (cA : Nat → ClassId) (K : Nat → Nat) (V : Nat → Nat) (x1 : Nat) (x2 : Int32) (f1 : List Value) (x3 : Nat) (f2 : List Value) (hss : zSS E K V) (hf1_n : f1.length = 23) (hf1_7 : f1[7]? = some (.ref x3)) (hf2_n : f2.length = 19) (hf2_12 : f2[12]? = some (.null)) : zMi E l yX13_document zwX13_document ({ frames := 1, cells := 0, slots := 0, locals := 20 }) D vwCl (zT cA) [.ref x1, .int x2] [(x1, .inr (13, f1)), (x3, .inr (5, f2))] (S := Unit) (fun (r : Int32) (u : Unit) => (r = (-1))) (fun (u : Unit) => []) := by
  refine zz_enteri (cc := cX13_document) (lv := [(0, .ref x1), (1, .int x2)]) hE 3 (by decide) rfl (Nat.le_of_ble_eq_true rfl) rfl ?_
  intro p e s m args below meth c X hr hin
  refine zz_aload_n X 0 dX13_document_0 rfl rfl ?_
  refine zz_callVi X (rest := []) (As := []) (kX13_hasRunOut_1 hE l D cA K V x1 f1 x3 f2 hss (zq_len hf1_n (by simp only [List.length_set])) hf1_7 (zq_len hf2_n (by simp only [List.length_set])) hf2_12) 0 (zgV zm_1146 zm_1147 zm_1148 zm_186 zm_1145) rfl (by decide +kernel) [0, 1] [] [] rfl rfl (by decide) rfl (by decide) (by decide) ⟨Nat.le_of_ble_eq_true rfl, Nat.le_of_ble_eq_true rfl⟩ 0 rfl rfl rfl rfl rfl (Nat.le_of_ble_eq_true rfl) dX13_document_1 (Nat.le_of_ble_eq_true rfl) (Nat.le_of_ble_eq_true rfl) (fun r1 _ hw2 => ?_)
  obtain rfl := hw2
  refine zz_show (ws' := [(x1, .inr (13, f1)), (x3, .inr (5, f2))]) rfl ?_
  refine zz_if_eq X 25 dX13_document_4 (by decide) (fun _ => ?_) (fun h => absurd (by decide) h)
  refine zz_iconst X (-1) dX13_document_25 rfl ?_
  exact zz_iret X hr (()) [] (by decide) rfl rfl (Nat.le_of_ble_eq_true rfl) (Nat.le_of_ble_eq_true rfl) (rfl) dX13_document_26

set_option maxHeartbeats 4000000 in
set_option maxRecDepth 100000 in
/-- output -/
theorem kX13_output_1 {E : zEn} (hE : zOk E) (l : Launch) (D : va_G) (cA : Nat → ClassId) (K : Nat → Nat) (V : Nat → Nat) (x1 : Nat) (x2 : Int32) (f1 : List Value) (hss : zSS E K V) (hf1_n : f1.length = 23) (hf1_22 : f1[22]? = some (.int 0)) : zMi E l yX13_output zwX13_output ({ frames := 0, cells := 0, slots := 0, locals := 0 }) D vwCl (zT cA) [.ref x1, .int x2] [(x1, .inr (13, f1))] (S := Unit) (fun (r : Int32) (u : Unit) => (r = (-1))) (fun (u : Unit) => []) := by
  refine zz_enteri (cc := cX13_output) (lv := [(0, .ref x1), (1, .int x2)]) hE 2 (by decide) rfl (Nat.le_of_ble_eq_true rfl) rfl ?_
  intro p e s m args below meth c X hr hin
  refine zz_iload_n X 1 dX13_output_0 rfl rfl ?_
  refine zz_if_lt X 12 dX13_output_1 (by decide) (fun c1_1 => ?_) (fun c1_1 => ?_)
  · skip
    refine zz_iconst X (-1) dX13_output_12 rfl ?_
    refine zz_goto X 37 dX13_output_13 (by decide) ?_
    exact zz_iret X hr (()) [] (by decide) rfl rfl (Nat.le_of_ble_eq_true rfl) (Nat.le_of_ble_eq_true rfl) (rfl) dX13_output_37
  · skip
    refine zz_iload_n X 1 dX13_output_4 rfl rfl ?_
    refine zz_aload_n X 0 dX13_output_5 rfl rfl ?_
    refine zz_get X 0 22 rfl rfl (by decide) (fun w h => List.mem_cons_of_mem _ (zf_X13 w h)) rfl (List.mem_cons_of_mem _ zm_316) hf1_22 dX13_output_6 ?_
    refine zz_icmp_lt X 16 dX13_output_9 (by decide) (fun h => absurd h c1_1) (fun _ => ?_)
    refine zz_iconst X (-1) dX13_output_12 rfl ?_
    refine zz_goto X 37 dX13_output_13 (by decide) ?_
    exact zz_iret X hr (()) [] (by decide) rfl rfl (Nat.le_of_ble_eq_true rfl) (Nat.le_of_ble_eq_true rfl) (rfl) dX13_output_37

set_option maxHeartbeats 4000000 in
set_option maxRecDepth 100000 in
/-- rule: it throws -/
theorem kX13_rule_1 {E : zEn} (hE : zOk E) (l : Launch) (D : va_G) (cA : Nat → ClassId) (K : Nat → Nat) (V : Nat → Nat) (x1 : Nat) (x2 : Int32) (x3 : Int32) (f1 : List Value) (x4 : Nat) (f2 : List Value) (hss : zSS E K V) (hst : l.stackTraces = false) (hf1_n : f1.length = 23) (hf1_14 : f1[14]? = some (.ref x4)) (hf2_n : f2.length = 16) (hf2_2 : f2[2]? = some (.int 0)) : zMx E l yX13_rule zwX13_rule ({ frames := 6, cells := 1, slots := 6, locals := 82 }) D vwCl (zT cA) [.ref x1, .int x2, .int x3] [(x1, .inr (13, f1)), (x4, .inr (1, f2))] "java/util/NoSuchElementException" := by
  refine zx_enter (cc := cX13_rule) (lv := [(0, .ref x1), (1, .int x2), (2, .int x3)]) hE 5 (by decide) rfl (Nat.le_of_ble_eq_true rfl) rfl ?_
  intro p e s m args below meth c X hT
  refine zz_iload_n X 1 dX13_rule_0 rfl rfl ?_
  refine zz_if_lt X 15 dX13_rule_1 (by decide) (fun c1_1 => ?_) (fun c1_1 => ?_)
  · skip
    exact zx_throw (r := ["java/lang/Exception"]) (YC := "java/lang/RuntimeException") (rx := ⟨#[0x2a, 0x2b, 0xb7, 0x00, 0x0d, 0xb1]⟩) X hst (ix := 13) rfl rfl rfl rfl (by decide) (by decide) (by decide) (List.mem_cons_of_mem _ zm_1182) (List.mem_cons_of_mem _ zm_1183) (zSS_r7 hss) (zR_at hss X.2.2.2.2.1) zR_all (zSS_us hss) (zSS_sn hss) dX13_rule_15 dX13_rule_18 dX13_rule_19 dX13_rule_22 dX13_rule_25 hT (Nat.le_of_ble_eq_true rfl) (Nat.le_of_ble_eq_true rfl) (Nat.le_of_ble_eq_true rfl) (Nat.le_of_ble_eq_true rfl) (Nat.le_of_ble_eq_true rfl) (Nat.le_of_ble_eq_true rfl)
  · skip
    refine zz_iload_n X 1 dX13_rule_4 rfl rfl ?_
    refine zz_aload_n X 0 dX13_rule_5 rfl rfl ?_
    refine zz_get X 0 14 rfl rfl (by decide) (fun w h => List.mem_cons_of_mem _ (zf_X13 w h)) rfl (List.mem_cons_of_mem _ zm_447) hf1_14 dX13_rule_6 ?_
    refine zz_get X 1 2 rfl rfl (by decide) (fun w h => List.mem_cons_of_mem _ (zf_X1 w h)) rfl (List.mem_cons_of_mem _ zm_907) hf2_2 dX13_rule_9 ?_
    refine zz_icmp_lt X 26 dX13_rule_12 (by decide) (fun h => absurd h c1_1) (fun _ => ?_)
    exact zx_throw (r := ["java/lang/Exception"]) (YC := "java/lang/RuntimeException") (rx := ⟨#[0x2a, 0x2b, 0xb7, 0x00, 0x0d, 0xb1]⟩) X hst (ix := 13) rfl rfl rfl rfl (by decide) (by decide) (by decide) (List.mem_cons_of_mem _ zm_1182) (List.mem_cons_of_mem _ zm_1183) (zSS_r7 hss) (zR_at hss X.2.2.2.2.1) zR_all (zSS_us hss) (zSS_sn hss) dX13_rule_15 dX13_rule_18 dX13_rule_19 dX13_rule_22 dX13_rule_25 hT (Nat.le_of_ble_eq_true rfl) (Nat.le_of_ble_eq_true rfl) (Nat.le_of_ble_eq_true rfl) (Nat.le_of_ble_eq_true rfl) (Nat.le_of_ble_eq_true rfl) (Nat.le_of_ble_eq_true rfl)

set_option maxHeartbeats 4000000 in
set_option maxRecDepth 100000 in
/-- rule -/
theorem kL_rule_1 {E : zEn} (hE : zOk E) (l : Launch) (D : va_G) (cA : Nat → ClassId) (K : Nat → Nat) (V : Nat → Nat) (x1 : Nat) (x2 : Int32) (x3 : Int32) (x4 : Nat) (f1 : List Value) (x5 : Nat) (f2 : List Value) (hss : zSS E K V) (hst : l.stackTraces = false) (hf1_n : f1.length = 23) (hf1_14 : f1[14]? = some (.ref x5)) (hf2_n : f2.length = 16) (hf2_2 : f2[2]? = some (.int 0)) : zMi E l yL_rule zwL_rule ({ frames := 7, cells := 1, slots := 6, locals := 106 }) D vwCl (zT cA) [.ref x1, .int x2, .int x3, .ref x4] [(x1, .inr (13, f1)), (x5, .inr (1, f2))] (S := Unit) (fun (r : Int32) (u : Unit) => (r = 1)) (fun (u : Unit) => [(x1, .inr (13, f1)), (x5, .inr (1, f2))]) := by
  refine zz_enteriT (cc := cL_rule) (lv := [(0, .ref x1), (1, .int x2), (2, .int x3), (3, .ref x4)]) hE 5 (by decide) rfl (Nat.le_of_ble_eq_true rfl) rfl ?_
  intro p e s m args below meth c X hr hin hT
  refine zz_aload_n X 3 dL_rule_0 rfl rfl ?_
  refine zz_iconst X 0 dL_rule_1 rfl ?_
  refine zz_aload_n X 0 dL_rule_2 rfl rfl ?_
  refine zz_iload_n X 1 dL_rule_3 rfl rfl ?_
  refine zz_iload_n X 2 dL_rule_4 rfl rfl ?_
  refine zx_callV X (rest := [.int 0, .ref x4]) (As := [.int x2, .int x3]) (kX13_rule_1 hE l D cA K V x1 x2 x3 f1 x5 f2 hss hst (zq_len hf1_n (by simp only [List.length_set])) hf1_14 (zq_len hf2_n (by simp only [List.length_set])) hf2_2) 2 (zgV zm_1185 zm_1186 zm_1187 zm_186 zm_1184) rfl (by decide +kernel) [0, 1] [] [] rfl rfl (by decide) rfl (by decide) (by decide) ⟨Nat.le_of_ble_eq_true rfl, Nat.le_of_ble_eq_true rfl⟩ 0 rfl rfl rfl rfl rfl (Nat.le_of_ble_eq_true rfl) dL_rule_5 (Nat.le_of_ble_eq_true rfl) (Nat.le_of_ble_eq_true rfl) ⟨0, 10, 13, 13⟩ hT rfl (by decide) (List.mem_cons_of_mem _ zm_1188) (fun A U H h => zSS_ng hss A U H h _ zNg_c) (fun q1 => ?_)
  refine zz_show (ws' := [(x1, .inr (13, f1)), (x5, .inr (1, f2))]) rfl ?_
  refine zz_astore X [(4, .ref q1), (0, .ref x1), (1, .int x2), (2, .int x3), (3, .ref x4)] dL_rule_13 (by decide) rfl ?_
  refine zz_iconst X 1 dL_rule_15 rfl ?_
  exact zz_iret X hr (()) [0, 1] (by decide) rfl rfl (Nat.le_of_ble_eq_true rfl) (Nat.le_of_ble_eq_true rfl) (rfl) dL_rule_16

set_option maxHeartbeats 4000000 in
set_option maxRecDepth 100000 in
/-- order -/
theorem kX13_order_1 {E : zEn} (hE : zOk E) (l : Launch) (D : va_G) (cA : Nat → ClassId) (K : Nat → Nat) (V : Nat → Nat) (x1 : Nat) (x2 : Int32) (x3 : Int32) (f1 : List Value) (x4 : Nat) (hss : zSS E K V) (hf1_n : f1.length = 23) (hf1_15 : f1[15]? = some (.ref x4)) : zMi E l yX13_order zwX13_order ({ frames := 1, cells := 0, slots := 0, locals := 21 }) D vwCl (zT cA) [.ref x1, .int x2, .int x3] [(x1, .inr (13, f1)), (x4, .inl (cA 4, 4, .inr (.inr (.inr (.inr (fun _ => none))))))] (S := Unit) (fun (r : Int32) (u : Unit) => (r = (-1))) (fun (u : Unit) => []) := by
  refine zz_enteri (cc := cX13_order) (lv := [(0, .ref x1), (1, .int x2), (2, .int x3)]) hE 4 (by decide) rfl (Nat.le_of_ble_eq_true rfl) rfl ?_
  intro p e s m args below meth c X hr hin
  refine zz_aload_n X 0 dX13_order_0 rfl rfl ?_
  refine zz_iload_n X 1 dX13_order_1 rfl rfl ?_
  refine zz_callVq X (rest := []) (As := [.int x2]) (kX13_query_1 hE l D cA K V x1 x2 f1 x4 hss (zq_len hf1_n (by simp only [List.length_set])) hf1_15) 1 (zgV zm_1100 zm_1101 zm_1102 zm_186 zm_1099) rfl (by decide +kernel) [0, 1] [] [] rfl rfl (by decide) rfl (by decide) (by decide) ⟨Nat.le_of_ble_eq_true rfl, Nat.le_of_ble_eq_true rfl⟩ 0 rfl rfl rfl rfl rfl (Nat.le_of_ble_eq_true rfl) dX13_order_2 (Nat.le_of_ble_eq_true rfl) (Nat.le_of_ble_eq_true rfl) (fun r1 _ hw2 => ?_)
  obtain rfl := hw2
  refine zz_show (ws' := [(x1, .inr (13, f1)), (x4, .inl (cA 4, 4, .inr (.inr (.inr (.inr (fun _ => none))))))]) rfl ?_
  refine zz_astore_nN X [(3, .null), (0, .ref x1), (1, .int x2), (2, .int x3)] dX13_order_5 rfl (by decide) rfl ?_
  refine zz_aload_nN X 0 dX13_order_6 rfl rfl ?_
  refine zz_ifnullN X 23 dX13_order_7 (by decide) ?_
  refine zz_iconst X (-1) dX13_order_23 rfl ?_
  refine zz_goto X 33 dX13_order_24 (by decide) ?_
  exact zz_iret X hr (()) [] (by decide) rfl rfl (Nat.le_of_ble_eq_true rfl) (Nat.le_of_ble_eq_true rfl) (rfl) dX13_order_33

set_option maxHeartbeats 4000000 in
set_option maxRecDepth 100000 in
/-- weight -/
theorem kX4_weight_1 {E : zEn} (hE : zOk E) (l : Launch) (D : va_G) (cA : Nat → ClassId) (K : Nat → Nat) (V : Nat → Nat) (x1 : Nat) (f1 : List Value) (x2 : Nat) (f2 : Nat → Int32) (hss : zSS E K V) (hf1_n : f1.length = 8) (hf1_0 : f1[0]? = some (.ref x2)) (hf2_60000 : f2 60000 = 6) (hf2_60001 : f2 60001 = 257) : zMi E l yX4_weight zwX4_weight ({ frames := 0, cells := 0, slots := 0, locals := 0 }) D vwCl (zT cA) [.ref x1, .int 60000] [(x1, .inr (4, f1)), (x2, .inl (cA 1, 886000, .inl f2))] (S := Unit) (fun (r : Int32) (u : Unit) => (r = 1)) (fun (u : Unit) => [(x1, .inr (4, f1)), (x2, .inl (cA 1, 886000, .inl f2))]) := by
  refine zz_enteri (cc := cX4_weight) (lv := [(0, .ref x1), (1, .int 60000)]) hE 3 (by decide) rfl (Nat.le_of_ble_eq_true rfl) rfl ?_
  intro p e s m args below meth c X hr hin
  refine zz_aload_n X 0 dX4_weight_0 rfl rfl ?_
  refine zz_get X 0 0 rfl rfl (by decide) (fun w h => List.mem_cons_of_mem _ (zf_X4 w h)) rfl (List.mem_cons_of_mem _ zm_181) hf1_0 dX4_weight_1 ?_
  refine zz_iload_n X 1 dX4_weight_4 rfl rfl ?_
  refine zz_iald X 1 1 rfl rfl (vp_in_nI (n := 60000) (by decide) (by decide)) (6) hf2_60000 dX4_weight_5 ?_
  refine zz_bipush X 15 dX4_weight_6 rfl ?_
  refine zz_iand X (6) dX4_weight_8 (by decide) ?_
  refine zz_istore_n X [(2, .int 6), (0, .ref x1), (1, .int 60000)] dX4_weight_9 rfl (by decide) rfl ?_
  refine zz_iload_n X 0 dX4_weight_10 rfl rfl ?_
  refine zz_iconst X 3 dX4_weight_11 rfl ?_
  refine zz_icmp_gt X 17 dX4_weight_12 (by decide) (fun _ => ?_) (fun h => absurd (by decide) h)
  refine zz_iload_n X 0 dX4_weight_17 rfl rfl ?_
  refine zz_iconst X 4 dX4_weight_18 rfl ?_
  refine zz_icmp_ne X 35 dX4_weight_19 (by decide) (fun _ => ?_) (fun h => absurd h (by decide))
  refine zz_aload_n X 1 dX4_weight_35 rfl rfl ?_
  refine zz_get X 0 0 rfl rfl (by decide) (fun w h => List.mem_cons_of_mem _ (zf_X4 w h)) rfl (List.mem_cons_of_mem _ zm_181) hf1_0 dX4_weight_36 ?_
  refine zz_iload_n X 2 dX4_weight_39 rfl rfl ?_
  refine zz_iconst X 1 dX4_weight_40 rfl ?_
  refine zz_iadd X (60001) dX4_weight_41 (by decide) ?_
  refine zz_iald X 1 1 rfl rfl (vp_in_nI (n := 60001) (by decide) (by decide)) (257) hf2_60001 dX4_weight_42 ?_
  refine zz_bipush X 8 dX4_weight_43 rfl ?_
  refine zz_iushr X (1) dX4_weight_45 (by decide) ?_
  exact zz_iret X hr (()) [0, 1] (by decide) rfl rfl (Nat.le_of_ble_eq_true rfl) (Nat.le_of_ble_eq_true rfl) (rfl) dX4_weight_46

set_option maxHeartbeats 4000000 in
set_option maxRecDepth 100000 in
/-- count -/
theorem kX13_count_1 {E : zEn} (hE : zOk E) (l : Launch) (D : va_G) (cA : Nat → ClassId) (K : Nat → Nat) (V : Nat → Nat) (x1 : Nat) (x2 : Int32) (f1 : List Value) (x3 : Nat) (x4 : Nat) (x5 : Nat) (f2 : List Value) (f3 : List Value) (x6 : Nat) (f4 : Nat → Int32) (hss : zSS E K V) (hf1_n : f1.length = 23) (hf1_12 : f1[12]? = some (.int 0)) (hf1_14 : f1[14]? = some (.ref x3)) (hf1_15 : f1[15]? = some (.ref x4)) (hf1_0 : f1[0]? = some (.ref x5)) (hf1_17 : f1[17]? = some (.int 60000)) (hf1_18 : f1[18]? = some (.int 0)) (hf1_9 : f1[9]? = some (.int 0)) (hf1_22 : f1[22]? = some (.int 0)) (hf2_n : f2.length = 16) (hf2_2 : f2[2]? = some (.int 0)) (hf3_n : f3.length = 8) (hf3_0 : f3[0]? = some (.ref x6)) (hf4_60000 : f4 60000 = 6) (hf4_60001 : f4 60001 = 257) : zMi E l yX13_count zwX13_count ({ frames := 1, cells := 0, slots := 0, locals := 22 }) D vwCl (zT cA) [.ref x1, .int x2] [(x1, .inr (13, f1)), (x3, .inr (1, f2)), (x4, .inl (cA 4, 4, .inr (.inr (.inr (.inr (fun _ => none)))))), (x5, .inr (4, f3)), (x6, .inl (cA 1, 886000, .inl f4))] (S := Unit) (fun (r : Int32) (u : Unit) => (r = (zCount x2))) (fun (u : Unit) => []) := by
  refine zz_enteri (cc := cX13_count) (lv := [(0, .ref x1), (1, .int x2)]) hE 4 (by decide) rfl (Nat.le_of_ble_eq_true rfl) rfl ?_
  intro p e s m args below meth c X hr hin
  refine zz_iload_n X 1 dX13_count_0 rfl rfl ?_
  by_cases e1_0 : x2 = 0
  · skip
    subst e1_0
    refine zz_tabIn X (off := 43) 44 dX13_count_1 (by decide) (by decide) (by decide) (by decide) ?_
    refine zz_aload_n X 0 dX13_count_44 rfl rfl ?_
    refine zz_get X 0 12 rfl rfl (by decide) (fun w h => List.mem_cons_of_mem _ (zf_X13 w h)) rfl (List.mem_cons_of_mem _ zm_306) hf1_12 dX13_count_45 ?_
    exact zz_iret X hr (()) [] (by decide) rfl rfl (Nat.le_of_ble_eq_true rfl) (Nat.le_of_ble_eq_true rfl) ((by decide)) dX13_count_48
  by_cases e1_1 : x2 = 1
  · skip
    subst e1_1
    refine zz_tabIn X (off := 48) 49 dX13_count_1 (by decide) (by decide) (by decide) (by decide) ?_
    refine zz_aload_n X 0 dX13_count_49 rfl rfl ?_
    refine zz_get X 0 14 rfl rfl (by decide) (fun w h => List.mem_cons_of_mem _ (zf_X13 w h)) rfl (List.mem_cons_of_mem _ zm_447) hf1_14 dX13_count_50 ?_
    refine zz_get X 1 2 rfl rfl (by decide) (fun w h => List.mem_cons_of_mem _ (zf_X1 w h)) rfl (List.mem_cons_of_mem _ zm_907) hf2_2 dX13_count_53 ?_
    exact zz_iret X hr (()) [] (by decide) rfl rfl (Nat.le_of_ble_eq_true rfl) (Nat.le_of_ble_eq_true rfl) ((by decide)) dX13_count_56
  by_cases e1_2 : x2 = 2
  · skip
    subst e1_2
    refine zz_tabIn X (off := 56) 57 dX13_count_1 (by decide) (by decide) (by decide) (by decide) ?_
    refine zz_iconst X 0 dX13_count_57 rfl ?_
    refine zz_istore_n X [(2, .int 0), (0, .ref x1), (1, .int 2)] dX13_count_58 rfl (by decide) rfl ?_
    refine zz_iconst X 0 dX13_count_59 rfl ?_
    refine zz_istore_n X [(3, .int 0), (2, .int 0), (0, .ref x1), (1, .int 2)] dX13_count_60 rfl (by decide) rfl ?_
    refine zz_iload_n X 0 dX13_count_61 rfl rfl ?_
    refine zz_iconst X 4 dX13_count_62 rfl ?_
    refine zz_icmp_ge X 89 dX13_count_63 (by decide) (fun h => absurd h (by decide)) (fun _ => ?_)
    refine zz_iload_n X 1 dX13_count_66 rfl rfl ?_
    refine zz_aload_n X 2 dX13_count_67 rfl rfl ?_
    refine zz_get X 0 15 rfl rfl (by decide) (fun w h => List.mem_cons_of_mem _ (zf_X13 w h)) rfl (List.mem_cons_of_mem _ zm_309) hf1_15 dX13_count_68 ?_
    refine zz_iload_n X 0 dX13_count_71 rfl rfl ?_
    refine zz_aald X 2 4 rfl rfl (vp_in_nI (n := 0) (by decide) (by decide)) (.null) rfl dX13_count_72 ?_
    refine zz_ifnonnullN X dX13_count_73 ?_
    refine zz_iconst X 0 dX13_count_76 rfl ?_
    refine zz_goto X 81 dX13_count_77 (by decide) ?_
    refine zz_iadd X (0) dX13_count_81 (by decide) ?_
    refine zz_istore_n X [(2, .int 0), (3, .int 0), (0, .ref x1), (1, .int 2)] dX13_count_82 rfl (by decide) rfl ?_
    refine zz_iinc X 1 (1) [(3, .int 1), (2, .int 0), (0, .ref x1), (1, .int 2)] dX13_count_83 rfl (by decide) (by decide) rfl ?_
    refine zz_goto X 61 dX13_count_86 (by decide) ?_
    refine zz_iload_n X 0 dX13_count_61 rfl rfl ?_
    refine zz_iconst X 4 dX13_count_62 rfl ?_
    refine zz_icmp_ge X 89 dX13_count_63 (by decide) (fun h => absurd h (by decide)) (fun _ => ?_)
    refine zz_iload_n X 1 dX13_count_66 rfl rfl ?_
    refine zz_aload_n X 2 dX13_count_67 rfl rfl ?_
    refine zz_get X 0 15 rfl rfl (by decide) (fun w h => List.mem_cons_of_mem _ (zf_X13 w h)) rfl (List.mem_cons_of_mem _ zm_309) hf1_15 dX13_count_68 ?_
    refine zz_iload_n X 0 dX13_count_71 rfl rfl ?_
    refine zz_aald X 2 4 rfl rfl (vp_in_nI (n := 1) (by decide) (by decide)) (.null) rfl dX13_count_72 ?_
    refine zz_ifnonnullN X dX13_count_73 ?_
    refine zz_iconst X 0 dX13_count_76 rfl ?_
    refine zz_goto X 81 dX13_count_77 (by decide) ?_
    refine zz_iadd X (0) dX13_count_81 (by decide) ?_
    refine zz_istore_n X [(2, .int 0), (3, .int 1), (0, .ref x1), (1, .int 2)] dX13_count_82 rfl (by decide) rfl ?_
    refine zz_iinc X 1 (2) [(3, .int 2), (2, .int 0), (0, .ref x1), (1, .int 2)] dX13_count_83 rfl (by decide) (by decide) rfl ?_
    refine zz_goto X 61 dX13_count_86 (by decide) ?_
    refine zz_iload_n X 0 dX13_count_61 rfl rfl ?_
    refine zz_iconst X 4 dX13_count_62 rfl ?_
    refine zz_icmp_ge X 89 dX13_count_63 (by decide) (fun h => absurd h (by decide)) (fun _ => ?_)
    refine zz_iload_n X 1 dX13_count_66 rfl rfl ?_
    refine zz_aload_n X 2 dX13_count_67 rfl rfl ?_
    refine zz_get X 0 15 rfl rfl (by decide) (fun w h => List.mem_cons_of_mem _ (zf_X13 w h)) rfl (List.mem_cons_of_mem _ zm_309) hf1_15 dX13_count_68 ?_
    refine zz_iload_n X 0 dX13_count_71 rfl rfl ?_
    refine zz_aald X 2 4 rfl rfl (vp_in_nI (n := 2) (by decide) (by decide)) (.null) rfl dX13_count_72 ?_
    refine zz_ifnonnullN X dX13_count_73 ?_
    refine zz_iconst X 0 dX13_count_76 rfl ?_
    refine zz_goto X 81 dX13_count_77 (by decide) ?_
    refine zz_iadd X (0) dX13_count_81 (by decide) ?_
    refine zz_istore_n X [(2, .int 0), (3, .int 2), (0, .ref x1), (1, .int 2)] dX13_count_82 rfl (by decide) rfl ?_
    refine zz_iinc X 1 (3) [(3, .int 3), (2, .int 0), (0, .ref x1), (1, .int 2)] dX13_count_83 rfl (by decide) (by decide) rfl ?_
    refine zz_goto X 61 dX13_count_86 (by decide) ?_
    refine zz_iload_n X 0 dX13_count_61 rfl rfl ?_
    refine zz_iconst X 4 dX13_count_62 rfl ?_
    refine zz_icmp_ge X 89 dX13_count_63 (by decide) (fun h => absurd h (by decide)) (fun _ => ?_)
    refine zz_iload_n X 1 dX13_count_66 rfl rfl ?_
    refine zz_aload_n X 2 dX13_count_67 rfl rfl ?_
    refine zz_get X 0 15 rfl rfl (by decide) (fun w h => List.mem_cons_of_mem _ (zf_X13 w h)) rfl (List.mem_cons_of_mem _ zm_309) hf1_15 dX13_count_68 ?_
    refine zz_iload_n X 0 dX13_count_71 rfl rfl ?_
    refine zz_aald X 2 4 rfl rfl (vp_in_nI (n := 3) (by decide) (by decide)) (.null) rfl dX13_count_72 ?_
    refine zz_ifnonnullN X dX13_count_73 ?_
    refine zz_iconst X 0 dX13_count_76 rfl ?_
    refine zz_goto X 81 dX13_count_77 (by decide) ?_
    refine zz_iadd X (0) dX13_count_81 (by decide) ?_
    refine zz_istore_n X [(2, .int 0), (3, .int 3), (0, .ref x1), (1, .int 2)] dX13_count_82 rfl (by decide) rfl ?_
    refine zz_iinc X 1 (4) [(3, .int 4), (2, .int 0), (0, .ref x1), (1, .int 2)] dX13_count_83 rfl (by decide) (by decide) rfl ?_
    refine zz_goto X 61 dX13_count_86 (by decide) ?_
    refine zz_iload_n X 0 dX13_count_61 rfl rfl ?_
    refine zz_iconst X 4 dX13_count_62 rfl ?_
    refine zz_icmp_ge X 89 dX13_count_63 (by decide) (fun _ => ?_) (fun h => absurd (by decide) h)
    refine zz_iload_n X 1 dX13_count_89 rfl rfl ?_
    exact zz_iret X hr (()) [] (by decide) rfl rfl (Nat.le_of_ble_eq_true rfl) (Nat.le_of_ble_eq_true rfl) ((by decide)) dX13_count_90
  by_cases e1_3 : x2 = 3
  · skip
    subst e1_3
    refine zz_tabIn X (off := 90) 91 dX13_count_1 (by decide) (by decide) (by decide) (by decide) ?_
    refine zz_aload_n X 0 dX13_count_91 rfl rfl ?_
    refine zz_get X 0 0 rfl rfl (by decide) (fun w h => List.mem_cons_of_mem _ (zf_X13 w h)) rfl (List.mem_cons_of_mem _ zm_209) hf1_0 dX13_count_92 ?_
    refine zz_aload_n X 0 dX13_count_95 rfl rfl ?_
    refine zz_get X 0 17 rfl rfl (by decide) (fun w h => List.mem_cons_of_mem _ (zf_X13 w h)) rfl (List.mem_cons_of_mem _ zm_360) hf1_17 dX13_count_96 ?_
    refine zz_callVi X (rest := []) (As := [.int 60000]) (kX4_weight_1 hE l D cA K V x5 f3 x6 f4 hss (zq_len hf3_n (by simp only [List.length_set])) hf3_0 hf4_60000 hf4_60001) 1 (zgV zm_1210 zm_1211 zm_1212 zm_178 zm_1209) rfl (by decide +kernel) [3, 4] [0, 1, 2] [(x1, .inr (13, f1)), (x3, .inr (1, f2)), (x4, .inl (cA 4, 4, .inr (.inr (.inr (.inr (fun _ => none))))))] rfl rfl (by decide) rfl (by decide) (by decide) ⟨Nat.le_of_ble_eq_true rfl, Nat.le_of_ble_eq_true rfl⟩ 0 rfl rfl rfl rfl rfl (Nat.le_of_ble_eq_true rfl) dX13_count_99 (Nat.le_of_ble_eq_true rfl) (Nat.le_of_ble_eq_true rfl) (fun r1 _ hw2 => ?_)
    obtain rfl := hw2
    refine zz_show (ws' := [(x1, .inr (13, f1)), (x3, .inr (1, f2)), (x4, .inl (cA 4, 4, .inr (.inr (.inr (.inr (fun _ => none)))))), (x5, .inr (4, f3)), (x6, .inl (cA 1, 886000, .inl f4))]) rfl ?_
    exact zz_iret X hr (()) [] (by decide) rfl rfl (Nat.le_of_ble_eq_true rfl) (Nat.le_of_ble_eq_true rfl) ((by decide)) dX13_count_102
  by_cases e1_4 : x2 = 4
  · skip
    subst e1_4
    refine zz_tabIn X (off := 102) 103 dX13_count_1 (by decide) (by decide) (by decide) (by decide) ?_
    refine zz_aload_n X 0 dX13_count_103 rfl rfl ?_
    refine zz_get X 0 18 rfl rfl (by decide) (fun w h => List.mem_cons_of_mem _ (zf_X13 w h)) rfl (List.mem_cons_of_mem _ zm_311) hf1_18 dX13_count_104 ?_
    refine zz_if_ne X 114 dX13_count_107 (by decide) (fun h => absurd (by decide) h) (fun _ => ?_)
    refine zz_iconst X 0 dX13_count_110 rfl ?_
    refine zz_goto X 125 dX13_count_111 (by decide) ?_
    exact zz_iret X hr (()) [] (by decide) rfl rfl (Nat.le_of_ble_eq_true rfl) (Nat.le_of_ble_eq_true rfl) ((by decide)) dX13_count_125
  by_cases e1_5 : x2 = 5
  · skip
    subst e1_5
    refine zz_tabIn X (off := 125) 126 dX13_count_1 (by decide) (by decide) (by decide) (by decide) ?_
    refine zz_aload_n X 0 dX13_count_126 rfl rfl ?_
    refine zz_get X 0 9 rfl rfl (by decide) (fun w h => List.mem_cons_of_mem _ (zf_X13 w h)) rfl (List.mem_cons_of_mem _ zm_302) hf1_9 dX13_count_127 ?_
    exact zz_iret X hr (()) [] (by decide) rfl rfl (Nat.le_of_ble_eq_true rfl) (Nat.le_of_ble_eq_true rfl) ((by decide)) dX13_count_130
  by_cases e1_6 : x2 = 6
  · skip
    subst e1_6
    refine zz_tabIn X (off := 130) 131 dX13_count_1 (by decide) (by decide) (by decide) (by decide) ?_
    refine zz_aload_n X 0 dX13_count_131 rfl rfl ?_
    refine zz_get X 0 22 rfl rfl (by decide) (fun w h => List.mem_cons_of_mem _ (zf_X13 w h)) rfl (List.mem_cons_of_mem _ zm_316) hf1_22 dX13_count_132 ?_
    exact zz_iret X hr (()) [] (by decide) rfl rfl (Nat.le_of_ble_eq_true rfl) (Nat.le_of_ble_eq_true rfl) ((by decide)) dX13_count_135
  refine zz_tabOut X 136 dX13_count_1 (zq_out7 e1_0 e1_1 e1_2 e1_3 e1_4 e1_5 e1_6) (by decide) ?_
  refine zz_iconst X (-1) dX13_count_136 rfl ?_
  exact zz_iret X hr (()) [] (by decide) rfl rfl (Nat.le_of_ble_eq_true rfl) (Nat.le_of_ble_eq_true rfl) ((zCount_out e1_0 e1_1 e1_2 e1_3 e1_4 e1_5 e1_6).symm) dX13_count_137
