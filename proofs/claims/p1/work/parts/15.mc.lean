set_option maxHeartbeats 4000000 in
set_option maxRecDepth 100000 in
/-- feed -/
theorem kX16_feed_1 {E : zEn} (hE : zOk E) (l : Launch) (D : va_G) (cA : Nat → ClassId) (K : Nat → Nat) (V : Nat → Nat) (x1 : Nat) (x2 : Int32) (x3 : Int32) (x4 : Int32) (x5 : Int32) (x6 : Int32) (f1 : List Value) (x7 : Nat) (hss : zSS E K V) (hf1_n : f1.length = 243) (hf1_229 : f1[229]? = some (.int 0)) (hf1_228 : f1[228]? = some (.ref x7)) : zMi E l yX16_feed zwX16_feed ({ frames := 0, cells := 0, slots := 0, locals := 0 }) D vwCl (zT cA) [.ref x1, .int x2, .int x3, .int x4, .int x5, .int x6] [(x1, .inr (16, f1)), (x7, .inl (cA 0, 6000, .inl (fun _ => 0)))] (S := Unit) (fun (r : Int32) (u : Unit) => (r = 1)) (fun (u : Unit) => []) := by
  refine zz_enterz (cc := cX16_feed) (lv := [(0, .ref x1), (1, .int x2), (2, .int x3), (3, .int x4), (4, .int x5), (5, .int x6)]) hE 8 (by decide) rfl (Nat.le_of_ble_eq_true rfl) rfl ?_
  intro p e s m args below meth c X hr hin
  refine zz_aload_n X 0 dX16_feed_0 rfl rfl ?_
  refine zz_iconst X 0 dX16_feed_1 rfl ?_
  refine zz_put X 0 227 rfl rfl (by decide) (fun w h => List.mem_cons_of_mem _ (zf_X16 w h)) rfl (List.mem_cons_of_mem _ zm_655) tyX16 tyX16_ok nmX16 rfl (ty := .int) rfl rfl rfl (zq_lt hf1_n (by decide) (by simp only [List.length_set])) dX16_feed_2 [(x1, .inr (16, (f1.set 227 (.int 0)))), (x7, .inl (cA 0, 6000, .inl (fun _ => 0)))] rfl ?_
  refine zz_aload_n X 0 dX16_feed_5 rfl rfl ?_
  refine zz_get X 0 229 rfl rfl (by decide) (fun w h => List.mem_cons_of_mem _ (zf_X16 w h)) rfl (List.mem_cons_of_mem _ zm_656) (zq_oth (by decide) (hf1_229)) dX16_feed_6 ?_
  refine zz_bipush X 20 dX16_feed_9 rfl ?_
  refine zz_iadd X (20) dX16_feed_11 (by decide) ?_
  refine zz_sipush X 6000 dX16_feed_12 rfl ?_
  refine zz_icmp_le X 20 dX16_feed_15 (by decide) (fun _ => ?_) (fun h => absurd (by decide) h)
  refine zz_iconst X 0 dX16_feed_20 rfl ?_
  refine zz_istore X [(6, .int 0), (0, .ref x1), (1, .int x2), (2, .int x3), (3, .int x4), (4, .int x5), (5, .int x6)] dX16_feed_21 (by decide) rfl ?_
  refine zz_iload X 0 dX16_feed_23 rfl ?_
  refine zz_bipush X 20 dX16_feed_25 rfl ?_
  refine zz_icmp_ge X 117 dX16_feed_27 (by decide) (fun h => absurd h (by decide)) (fun _ => ?_)
  refine zz_iload X 0 dX16_feed_30 rfl ?_
  refine zz_iconst X 4 dX16_feed_32 rfl ?_
  refine zz_icmp_ge X 40 dX16_feed_33 (by decide) (fun h => absurd h (by decide)) (fun _ => ?_)
  refine zz_iload_n X 2 dX16_feed_36 rfl rfl ?_
  refine zz_goto X 76 dX16_feed_37 (by decide) ?_
  refine zz_istore X [(7, .int x2), (6, .int 0), (0, .ref x1), (1, .int x2), (2, .int x3), (3, .int x4), (4, .int x5), (5, .int x6)] dX16_feed_76 (by decide) rfl ?_
  refine zz_aload_n X 2 dX16_feed_78 rfl rfl ?_
  refine zz_get X 0 228 rfl rfl (by decide) (fun w h => List.mem_cons_of_mem _ (zf_X16 w h)) rfl (List.mem_cons_of_mem _ zm_623) (zq_oth (by decide) (hf1_228)) dX16_feed_79 ?_
  refine zz_aload_n X 2 dX16_feed_82 rfl rfl ?_
  refine zz_get X 0 229 rfl rfl (by decide) (fun w h => List.mem_cons_of_mem _ (zf_X16 w h)) rfl (List.mem_cons_of_mem _ zm_656) (zq_oth (by decide) (hf1_229)) dX16_feed_83 ?_
  refine zz_iload X 0 dX16_feed_86 rfl ?_
  refine zz_bipush X 24 dX16_feed_88 rfl ?_
  refine zz_iload X 1 dX16_feed_90 rfl ?_
  refine zz_iconst X 4 dX16_feed_92 rfl ?_
  refine zz_irem X (0) dX16_feed_93 (by decide) (by decide) ?_
  refine zz_bipush X 8 dX16_feed_94 rfl ?_
  refine zz_imul X (0) dX16_feed_96 (by decide) ?_
  refine zz_isub X (24) dX16_feed_97 (by decide) ?_
  refine zz_ishr X ((x2 >>> (24 &&& 31))) dX16_feed_98 rfl ?_
  refine zz_i2b X ((((x2 >>> (24 &&& 31))).toInt8.toInt32)) dX16_feed_99 rfl ?_
  refine zz_bast X 1 0 rfl rfl (vp_in_nI (n := 0) (by decide) (by decide)) 0 (by decide) ((vp_nar .byte (((x2 >>> (24 &&& 31))).toInt8.toInt32))) rfl dX16_feed_100 [(x1, .inr (16, (f1.set 227 (.int 0)))), (x7, .inl (cA 0, 6000, .inl (upd (fun _ => 0) 0 (vp_nar .byte (((x2 >>> (24 &&& 31))).toInt8.toInt32)))))] rfl ?_
  refine zz_aload_n X 2 dX16_feed_101 rfl rfl ?_
  refine zz_dup X dX16_feed_102 rfl ?_
  refine zz_get X 0 229 rfl rfl (by decide) (fun w h => List.mem_cons_of_mem _ (zf_X16 w h)) rfl (List.mem_cons_of_mem _ zm_656) (zq_oth (by decide) (hf1_229)) dX16_feed_103 ?_
  refine zz_iconst X 1 dX16_feed_106 rfl ?_
  refine zz_iadd X (1) dX16_feed_107 (by decide) ?_
  refine zz_put X 0 229 rfl rfl (by decide) (fun w h => List.mem_cons_of_mem _ (zf_X16 w h)) rfl (List.mem_cons_of_mem _ zm_656) tyX16 tyX16_ok nmX16 rfl (ty := .int) rfl rfl rfl (zq_lt hf1_n (by decide) (by simp only [List.length_set])) dX16_feed_108 [(x1, .inr (16, ((f1.set 227 (.int 0)).set 229 (.int 1)))), (x7, .inl (cA 0, 6000, .inl (upd (fun _ => 0) 0 (vp_nar .byte (((x2 >>> (24 &&& 31))).toInt8.toInt32)))))] rfl ?_
  refine zz_iinc X 1 (1) [(6, .int 1), (7, .int x2), (0, .ref x1), (1, .int x2), (2, .int x3), (3, .int x4), (4, .int x5), (5, .int x6)] dX16_feed_111 rfl (by decide) (by decide) rfl ?_
  refine zz_goto X 23 dX16_feed_114 (by decide) ?_
  refine zz_iload X 0 dX16_feed_23 rfl ?_
  refine zz_bipush X 20 dX16_feed_25 rfl ?_
  refine zz_icmp_ge X 117 dX16_feed_27 (by decide) (fun h => absurd h (by decide)) (fun _ => ?_)
  refine zz_iload X 0 dX16_feed_30 rfl ?_
  refine zz_iconst X 4 dX16_feed_32 rfl ?_
  refine zz_icmp_ge X 40 dX16_feed_33 (by decide) (fun h => absurd h (by decide)) (fun _ => ?_)
  refine zz_iload_n X 3 dX16_feed_36 rfl rfl ?_
  refine zz_goto X 76 dX16_feed_37 (by decide) ?_
  refine zz_istore X [(7, .int x2), (6, .int 1), (0, .ref x1), (1, .int x2), (2, .int x3), (3, .int x4), (4, .int x5), (5, .int x6)] dX16_feed_76 (by decide) rfl ?_
  refine zz_aload_n X 2 dX16_feed_78 rfl rfl ?_
  refine zz_get X 0 228 rfl rfl (by decide) (fun w h => List.mem_cons_of_mem _ (zf_X16 w h)) rfl (List.mem_cons_of_mem _ zm_623) (zq_oth (by decide) (zq_oth (by decide) (hf1_228))) dX16_feed_79 ?_
  refine zz_aload_n X 2 dX16_feed_82 rfl rfl ?_
  refine zz_get X 0 229 rfl rfl (by decide) (fun w h => List.mem_cons_of_mem _ (zf_X16 w h)) rfl (List.mem_cons_of_mem _ zm_656) (zq_same (zq_lt hf1_n (by decide) (by simp only [List.length_set]))) dX16_feed_83 ?_
  refine zz_iload X 0 dX16_feed_86 rfl ?_
  refine zz_bipush X 24 dX16_feed_88 rfl ?_
  refine zz_iload X 1 dX16_feed_90 rfl ?_
  refine zz_iconst X 4 dX16_feed_92 rfl ?_
  refine zz_irem X (1) dX16_feed_93 (by decide) (by decide) ?_
  refine zz_bipush X 8 dX16_feed_94 rfl ?_
  refine zz_imul X (8) dX16_feed_96 (by decide) ?_
  refine zz_isub X (16) dX16_feed_97 (by decide) ?_
  refine zz_ishr X ((x2 >>> (16 &&& 31))) dX16_feed_98 rfl ?_
  refine zz_i2b X ((((x2 >>> (16 &&& 31))).toInt8.toInt32)) dX16_feed_99 rfl ?_
  refine zz_bast X 1 0 rfl rfl (vp_in_nI (n := 1) (by decide) (by decide)) 1 (by decide) ((vp_nar .byte (((x2 >>> (16 &&& 31))).toInt8.toInt32))) rfl dX16_feed_100 [(x1, .inr (16, ((f1.set 227 (.int 0)).set 229 (.int 1)))), (x7, .inl (cA 0, 6000, .inl (upd (upd (fun _ => 0) 0 (vp_nar .byte (((x2 >>> (24 &&& 31))).toInt8.toInt32))) 1 (vp_nar .byte (((x2 >>> (16 &&& 31))).toInt8.toInt32)))))] rfl ?_
  refine zz_aload_n X 2 dX16_feed_101 rfl rfl ?_
  refine zz_dup X dX16_feed_102 rfl ?_
  refine zz_get X 0 229 rfl rfl (by decide) (fun w h => List.mem_cons_of_mem _ (zf_X16 w h)) rfl (List.mem_cons_of_mem _ zm_656) (zq_same (zq_lt hf1_n (by decide) (by simp only [List.length_set]))) dX16_feed_103 ?_
  refine zz_iconst X 1 dX16_feed_106 rfl ?_
  refine zz_iadd X (2) dX16_feed_107 (by decide) ?_
  refine zz_put X 0 229 rfl rfl (by decide) (fun w h => List.mem_cons_of_mem _ (zf_X16 w h)) rfl (List.mem_cons_of_mem _ zm_656) tyX16 tyX16_ok nmX16 rfl (ty := .int) rfl rfl rfl (zq_lt hf1_n (by decide) (by simp only [List.length_set])) dX16_feed_108 [(x1, .inr (16, (((f1.set 227 (.int 0)).set 229 (.int 1)).set 229 (.int 2)))), (x7, .inl (cA 0, 6000, .inl (upd (upd (fun _ => 0) 0 (vp_nar .byte (((x2 >>> (24 &&& 31))).toInt8.toInt32))) 1 (vp_nar .byte (((x2 >>> (16 &&& 31))).toInt8.toInt32)))))] rfl ?_
  refine zz_iinc X 1 (2) [(6, .int 2), (7, .int x2), (0, .ref x1), (1, .int x2), (2, .int x3), (3, .int x4), (4, .int x5), (5, .int x6)] dX16_feed_111 rfl (by decide) (by decide) rfl ?_
  refine zz_goto X 23 dX16_feed_114 (by decide) ?_
  refine zz_iload X 0 dX16_feed_23 rfl ?_
  refine zz_bipush X 20 dX16_feed_25 rfl ?_
  refine zz_icmp_ge X 117 dX16_feed_27 (by decide) (fun h => absurd h (by decide)) (fun _ => ?_)
  refine zz_iload X 0 dX16_feed_30 rfl ?_
  refine zz_iconst X 4 dX16_feed_32 rfl ?_
  refine zz_icmp_ge X 40 dX16_feed_33 (by decide) (fun h => absurd h (by decide)) (fun _ => ?_)
  refine zz_iload_n X 3 dX16_feed_36 rfl rfl ?_
  refine zz_goto X 76 dX16_feed_37 (by decide) ?_
  refine zz_istore X [(7, .int x2), (6, .int 2), (0, .ref x1), (1, .int x2), (2, .int x3), (3, .int x4), (4, .int x5), (5, .int x6)] dX16_feed_76 (by decide) rfl ?_
  refine zz_aload_n X 2 dX16_feed_78 rfl rfl ?_
  refine zz_get X 0 228 rfl rfl (by decide) (fun w h => List.mem_cons_of_mem _ (zf_X16 w h)) rfl (List.mem_cons_of_mem _ zm_623) (zq_oth (by decide) (zq_oth (by decide) (zq_oth (by decide) (hf1_228)))) dX16_feed_79 ?_
  refine zz_aload_n X 2 dX16_feed_82 rfl rfl ?_
  refine zz_get X 0 229 rfl rfl (by decide) (fun w h => List.mem_cons_of_mem _ (zf_X16 w h)) rfl (List.mem_cons_of_mem _ zm_656) (zq_same (zq_lt hf1_n (by decide) (by simp only [List.length_set]))) dX16_feed_83 ?_
  refine zz_iload X 0 dX16_feed_86 rfl ?_
  refine zz_bipush X 24 dX16_feed_88 rfl ?_
  refine zz_iload X 1 dX16_feed_90 rfl ?_
  refine zz_iconst X 4 dX16_feed_92 rfl ?_
  refine zz_irem X (2) dX16_feed_93 (by decide) (by decide) ?_
  refine zz_bipush X 8 dX16_feed_94 rfl ?_
  refine zz_imul X (16) dX16_feed_96 (by decide) ?_
  refine zz_isub X (8) dX16_feed_97 (by decide) ?_
  refine zz_ishr X ((x2 >>> (8 &&& 31))) dX16_feed_98 rfl ?_
  refine zz_i2b X ((((x2 >>> (8 &&& 31))).toInt8.toInt32)) dX16_feed_99 rfl ?_
  refine zz_bast X 1 0 rfl rfl (vp_in_nI (n := 2) (by decide) (by decide)) 2 (by decide) ((vp_nar .byte (((x2 >>> (8 &&& 31))).toInt8.toInt32))) rfl dX16_feed_100 [(x1, .inr (16, (((f1.set 227 (.int 0)).set 229 (.int 1)).set 229 (.int 2)))), (x7, .inl (cA 0, 6000, .inl (upd (upd (upd (fun _ => 0) 0 (vp_nar .byte (((x2 >>> (24 &&& 31))).toInt8.toInt32))) 1 (vp_nar .byte (((x2 >>> (16 &&& 31))).toInt8.toInt32))) 2 (vp_nar .byte (((x2 >>> (8 &&& 31))).toInt8.toInt32)))))] rfl ?_
  refine zz_aload_n X 2 dX16_feed_101 rfl rfl ?_
  refine zz_dup X dX16_feed_102 rfl ?_
  refine zz_get X 0 229 rfl rfl (by decide) (fun w h => List.mem_cons_of_mem _ (zf_X16 w h)) rfl (List.mem_cons_of_mem _ zm_656) (zq_same (zq_lt hf1_n (by decide) (by simp only [List.length_set]))) dX16_feed_103 ?_
  refine zz_iconst X 1 dX16_feed_106 rfl ?_
  refine zz_iadd X (3) dX16_feed_107 (by decide) ?_
  refine zz_put X 0 229 rfl rfl (by decide) (fun w h => List.mem_cons_of_mem _ (zf_X16 w h)) rfl (List.mem_cons_of_mem _ zm_656) tyX16 tyX16_ok nmX16 rfl (ty := .int) rfl rfl rfl (zq_lt hf1_n (by decide) (by simp only [List.length_set])) dX16_feed_108 [(x1, .inr (16, ((((f1.set 227 (.int 0)).set 229 (.int 1)).set 229 (.int 2)).set 229 (.int 3)))), (x7, .inl (cA 0, 6000, .inl (upd (upd (upd (fun _ => 0) 0 (vp_nar .byte (((x2 >>> (24 &&& 31))).toInt8.toInt32))) 1 (vp_nar .byte (((x2 >>> (16 &&& 31))).toInt8.toInt32))) 2 (vp_nar .byte (((x2 >>> (8 &&& 31))).toInt8.toInt32)))))] rfl ?_
  refine zz_iinc X 1 (3) [(6, .int 3), (7, .int x2), (0, .ref x1), (1, .int x2), (2, .int x3), (3, .int x4), (4, .int x5), (5, .int x6)] dX16_feed_111 rfl (by decide) (by decide) rfl ?_
  refine zz_goto X 23 dX16_feed_114 (by decide) ?_
  refine zz_iload X 0 dX16_feed_23 rfl ?_
  refine zz_bipush X 20 dX16_feed_25 rfl ?_
  refine zz_icmp_ge X 117 dX16_feed_27 (by decide) (fun h => absurd h (by decide)) (fun _ => ?_)
  refine zz_iload X 0 dX16_feed_30 rfl ?_
  refine zz_iconst X 4 dX16_feed_32 rfl ?_
  refine zz_icmp_ge X 40 dX16_feed_33 (by decide) (fun h => absurd h (by decide)) (fun _ => ?_)
  refine zz_iload_n X 3 dX16_feed_36 rfl rfl ?_
  refine zz_goto X 76 dX16_feed_37 (by decide) ?_
  refine zz_istore X [(7, .int x2), (6, .int 3), (0, .ref x1), (1, .int x2), (2, .int x3), (3, .int x4), (4, .int x5), (5, .int x6)] dX16_feed_76 (by decide) rfl ?_
  refine zz_aload_n X 2 dX16_feed_78 rfl rfl ?_
  refine zz_get X 0 228 rfl rfl (by decide) (fun w h => List.mem_cons_of_mem _ (zf_X16 w h)) rfl (List.mem_cons_of_mem _ zm_623) (zq_oth (by decide) (zq_oth (by decide) (zq_oth (by decide) (zq_oth (by decide) (hf1_228))))) dX16_feed_79 ?_
  refine zz_aload_n X 2 dX16_feed_82 rfl rfl ?_
  refine zz_get X 0 229 rfl rfl (by decide) (fun w h => List.mem_cons_of_mem _ (zf_X16 w h)) rfl (List.mem_cons_of_mem _ zm_656) (zq_same (zq_lt hf1_n (by decide) (by simp only [List.length_set]))) dX16_feed_83 ?_
  refine zz_iload X 0 dX16_feed_86 rfl ?_
  refine zz_bipush X 24 dX16_feed_88 rfl ?_
  refine zz_iload X 1 dX16_feed_90 rfl ?_
  refine zz_iconst X 4 dX16_feed_92 rfl ?_
  refine zz_irem X (3) dX16_feed_93 (by decide) (by decide) ?_
  refine zz_bipush X 8 dX16_feed_94 rfl ?_
  refine zz_imul X (24) dX16_feed_96 (by decide) ?_
  refine zz_isub X (0) dX16_feed_97 (by decide) ?_
  refine zz_ishr X ((x2 >>> (0 &&& 31))) dX16_feed_98 rfl ?_
  refine zz_i2b X ((((x2 >>> (0 &&& 31))).toInt8.toInt32)) dX16_feed_99 rfl ?_
  refine zz_bast X 1 0 rfl rfl (vp_in_nI (n := 3) (by decide) (by decide)) 3 (by decide) ((vp_nar .byte (((x2 >>> (0 &&& 31))).toInt8.toInt32))) rfl dX16_feed_100 [(x1, .inr (16, ((((f1.set 227 (.int 0)).set 229 (.int 1)).set 229 (.int 2)).set 229 (.int 3)))), (x7, .inl (cA 0, 6000, .inl (upd (upd (upd (upd (fun _ => 0) 0 (vp_nar .byte (((x2 >>> (24 &&& 31))).toInt8.toInt32))) 1 (vp_nar .byte (((x2 >>> (16 &&& 31))).toInt8.toInt32))) 2 (vp_nar .byte (((x2 >>> (8 &&& 31))).toInt8.toInt32))) 3 (vp_nar .byte (((x2 >>> (0 &&& 31))).toInt8.toInt32)))))] rfl ?_
  refine zz_aload_n X 2 dX16_feed_101 rfl rfl ?_
  refine zz_dup X dX16_feed_102 rfl ?_
  refine zz_get X 0 229 rfl rfl (by decide) (fun w h => List.mem_cons_of_mem _ (zf_X16 w h)) rfl (List.mem_cons_of_mem _ zm_656) (zq_same (zq_lt hf1_n (by decide) (by simp only [List.length_set]))) dX16_feed_103 ?_
  refine zz_iconst X 1 dX16_feed_106 rfl ?_
  refine zz_iadd X (4) dX16_feed_107 (by decide) ?_
  refine zz_put X 0 229 rfl rfl (by decide) (fun w h => List.mem_cons_of_mem _ (zf_X16 w h)) rfl (List.mem_cons_of_mem _ zm_656) tyX16 tyX16_ok nmX16 rfl (ty := .int) rfl rfl rfl (zq_lt hf1_n (by decide) (by simp only [List.length_set])) dX16_feed_108 [(x1, .inr (16, (((((f1.set 227 (.int 0)).set 229 (.int 1)).set 229 (.int 2)).set 229 (.int 3)).set 229 (.int 4)))), (x7, .inl (cA 0, 6000, .inl (upd (upd (upd (upd (fun _ => 0) 0 (vp_nar .byte (((x2 >>> (24 &&& 31))).toInt8.toInt32))) 1 (vp_nar .byte (((x2 >>> (16 &&& 31))).toInt8.toInt32))) 2 (vp_nar .byte (((x2 >>> (8 &&& 31))).toInt8.toInt32))) 3 (vp_nar .byte (((x2 >>> (0 &&& 31))).toInt8.toInt32)))))] rfl ?_
  refine zz_iinc X 1 (4) [(6, .int 4), (7, .int x2), (0, .ref x1), (1, .int x2), (2, .int x3), (3, .int x4), (4, .int x5), (5, .int x6)] dX16_feed_111 rfl (by decide) (by decide) rfl ?_
  refine zz_goto X 23 dX16_feed_114 (by decide) ?_
  refine zz_iload X 0 dX16_feed_23 rfl ?_
  refine zz_bipush X 20 dX16_feed_25 rfl ?_
  refine zz_icmp_ge X 117 dX16_feed_27 (by decide) (fun h => absurd h (by decide)) (fun _ => ?_)
  refine zz_iload X 0 dX16_feed_30 rfl ?_
  refine zz_iconst X 4 dX16_feed_32 rfl ?_
  refine zz_icmp_ge X 40 dX16_feed_33 (by decide) (fun _ => ?_) (fun h => absurd (by decide) h)
  refine zz_iload X 0 dX16_feed_40 rfl ?_
  refine zz_bipush X 8 dX16_feed_42 rfl ?_
  refine zz_icmp_ge X 51 dX16_feed_44 (by decide) (fun h => absurd h (by decide)) (fun _ => ?_)
  refine zz_iload_n X 4 dX16_feed_47 rfl rfl ?_
  refine zz_goto X 76 dX16_feed_48 (by decide) ?_
  refine zz_istore X [(7, .int x3), (6, .int 4), (0, .ref x1), (1, .int x2), (2, .int x3), (3, .int x4), (4, .int x5), (5, .int x6)] dX16_feed_76 (by decide) rfl ?_
  refine zz_aload_n X 2 dX16_feed_78 rfl rfl ?_
  refine zz_get X 0 228 rfl rfl (by decide) (fun w h => List.mem_cons_of_mem _ (zf_X16 w h)) rfl (List.mem_cons_of_mem _ zm_623) (zq_oth (by decide) (zq_oth (by decide) (zq_oth (by decide) (zq_oth (by decide) (zq_oth (by decide) (hf1_228)))))) dX16_feed_79 ?_
  refine zz_aload_n X 2 dX16_feed_82 rfl rfl ?_
  refine zz_get X 0 229 rfl rfl (by decide) (fun w h => List.mem_cons_of_mem _ (zf_X16 w h)) rfl (List.mem_cons_of_mem _ zm_656) (zq_same (zq_lt hf1_n (by decide) (by simp only [List.length_set]))) dX16_feed_83 ?_
  refine zz_iload X 0 dX16_feed_86 rfl ?_
  refine zz_bipush X 24 dX16_feed_88 rfl ?_
  refine zz_iload X 1 dX16_feed_90 rfl ?_
  refine zz_iconst X 4 dX16_feed_92 rfl ?_
  refine zz_irem X (0) dX16_feed_93 (by decide) (by decide) ?_
  refine zz_bipush X 8 dX16_feed_94 rfl ?_
  refine zz_imul X (0) dX16_feed_96 (by decide) ?_
  refine zz_isub X (24) dX16_feed_97 (by decide) ?_
  refine zz_ishr X ((x3 >>> (24 &&& 31))) dX16_feed_98 rfl ?_
  refine zz_i2b X ((((x3 >>> (24 &&& 31))).toInt8.toInt32)) dX16_feed_99 rfl ?_
  refine zz_bast X 1 0 rfl rfl (vp_in_nI (n := 4) (by decide) (by decide)) 4 (by decide) ((vp_nar .byte (((x3 >>> (24 &&& 31))).toInt8.toInt32))) rfl dX16_feed_100 [(x1, .inr (16, (((((f1.set 227 (.int 0)).set 229 (.int 1)).set 229 (.int 2)).set 229 (.int 3)).set 229 (.int 4)))), (x7, .inl (cA 0, 6000, .inl (upd (upd (upd (upd (upd (fun _ => 0) 0 (vp_nar .byte (((x2 >>> (24 &&& 31))).toInt8.toInt32))) 1 (vp_nar .byte (((x2 >>> (16 &&& 31))).toInt8.toInt32))) 2 (vp_nar .byte (((x2 >>> (8 &&& 31))).toInt8.toInt32))) 3 (vp_nar .byte (((x2 >>> (0 &&& 31))).toInt8.toInt32))) 4 (vp_nar .byte (((x3 >>> (24 &&& 31))).toInt8.toInt32)))))] rfl ?_
  refine zz_aload_n X 2 dX16_feed_101 rfl rfl ?_
  refine zz_dup X dX16_feed_102 rfl ?_
  refine zz_get X 0 229 rfl rfl (by decide) (fun w h => List.mem_cons_of_mem _ (zf_X16 w h)) rfl (List.mem_cons_of_mem _ zm_656) (zq_same (zq_lt hf1_n (by decide) (by simp only [List.length_set]))) dX16_feed_103 ?_
  refine zz_iconst X 1 dX16_feed_106 rfl ?_
  refine zz_iadd X (5) dX16_feed_107 (by decide) ?_
  refine zz_put X 0 229 rfl rfl (by decide) (fun w h => List.mem_cons_of_mem _ (zf_X16 w h)) rfl (List.mem_cons_of_mem _ zm_656) tyX16 tyX16_ok nmX16 rfl (ty := .int) rfl rfl rfl (zq_lt hf1_n (by decide) (by simp only [List.length_set])) dX16_feed_108 [(x1, .inr (16, ((((((f1.set 227 (.int 0)).set 229 (.int 1)).set 229 (.int 2)).set 229 (.int 3)).set 229 (.int 4)).set 229 (.int 5)))), (x7, .inl (cA 0, 6000, .inl (upd (upd (upd (upd (upd (fun _ => 0) 0 (vp_nar .byte (((x2 >>> (24 &&& 31))).toInt8.toInt32))) 1 (vp_nar .byte (((x2 >>> (16 &&& 31))).toInt8.toInt32))) 2 (vp_nar .byte (((x2 >>> (8 &&& 31))).toInt8.toInt32))) 3 (vp_nar .byte (((x2 >>> (0 &&& 31))).toInt8.toInt32))) 4 (vp_nar .byte (((x3 >>> (24 &&& 31))).toInt8.toInt32)))))] rfl ?_
  refine zz_iinc X 1 (5) [(6, .int 5), (7, .int x3), (0, .ref x1), (1, .int x2), (2, .int x3), (3, .int x4), (4, .int x5), (5, .int x6)] dX16_feed_111 rfl (by decide) (by decide) rfl ?_
  refine zz_goto X 23 dX16_feed_114 (by decide) ?_
  refine zz_iload X 0 dX16_feed_23 rfl ?_
  refine zz_bipush X 20 dX16_feed_25 rfl ?_
  refine zz_icmp_ge X 117 dX16_feed_27 (by decide) (fun h => absurd h (by decide)) (fun _ => ?_)
  refine zz_iload X 0 dX16_feed_30 rfl ?_
  refine zz_iconst X 4 dX16_feed_32 rfl ?_
  refine zz_icmp_ge X 40 dX16_feed_33 (by decide) (fun _ => ?_) (fun h => absurd (by decide) h)
  refine zz_iload X 0 dX16_feed_40 rfl ?_
  refine zz_bipush X 8 dX16_feed_42 rfl ?_
  refine zz_icmp_ge X 51 dX16_feed_44 (by decide) (fun h => absurd h (by decide)) (fun _ => ?_)
  refine zz_iload_n X 4 dX16_feed_47 rfl rfl ?_
  refine zz_goto X 76 dX16_feed_48 (by decide) ?_
  refine zz_istore X [(7, .int x3), (6, .int 5), (0, .ref x1), (1, .int x2), (2, .int x3), (3, .int x4), (4, .int x5), (5, .int x6)] dX16_feed_76 (by decide) rfl ?_
  refine zz_aload_n X 2 dX16_feed_78 rfl rfl ?_
  refine zz_get X 0 228 rfl rfl (by decide) (fun w h => List.mem_cons_of_mem _ (zf_X16 w h)) rfl (List.mem_cons_of_mem _ zm_623) (zq_oth (by decide) (zq_oth (by decide) (zq_oth (by decide) (zq_oth (by decide) (zq_oth (by decide) (zq_oth (by decide) (hf1_228))))))) dX16_feed_79 ?_
  refine zz_aload_n X 2 dX16_feed_82 rfl rfl ?_
  refine zz_get X 0 229 rfl rfl (by decide) (fun w h => List.mem_cons_of_mem _ (zf_X16 w h)) rfl (List.mem_cons_of_mem _ zm_656) (zq_same (zq_lt hf1_n (by decide) (by simp only [List.length_set]))) dX16_feed_83 ?_
  refine zz_iload X 0 dX16_feed_86 rfl ?_
  refine zz_bipush X 24 dX16_feed_88 rfl ?_
  refine zz_iload X 1 dX16_feed_90 rfl ?_
  refine zz_iconst X 4 dX16_feed_92 rfl ?_
  refine zz_irem X (1) dX16_feed_93 (by decide) (by decide) ?_
  refine zz_bipush X 8 dX16_feed_94 rfl ?_
  refine zz_imul X (8) dX16_feed_96 (by decide) ?_
  refine zz_isub X (16) dX16_feed_97 (by decide) ?_
  refine zz_ishr X ((x3 >>> (16 &&& 31))) dX16_feed_98 rfl ?_
  refine zz_i2b X ((((x3 >>> (16 &&& 31))).toInt8.toInt32)) dX16_feed_99 rfl ?_
  refine zz_bast X 1 0 rfl rfl (vp_in_nI (n := 5) (by decide) (by decide)) 5 (by decide) ((vp_nar .byte (((x3 >>> (16 &&& 31))).toInt8.toInt32))) rfl dX16_feed_100 [(x1, .inr (16, ((((((f1.set 227 (.int 0)).set 229 (.int 1)).set 229 (.int 2)).set 229 (.int 3)).set 229 (.int 4)).set 229 (.int 5)))), (x7, .inl (cA 0, 6000, .inl (upd (upd (upd (upd (upd (upd (fun _ => 0) 0 (vp_nar .byte (((x2 >>> (24 &&& 31))).toInt8.toInt32))) 1 (vp_nar .byte (((x2 >>> (16 &&& 31))).toInt8.toInt32))) 2 (vp_nar .byte (((x2 >>> (8 &&& 31))).toInt8.toInt32))) 3 (vp_nar .byte (((x2 >>> (0 &&& 31))).toInt8.toInt32))) 4 (vp_nar .byte (((x3 >>> (24 &&& 31))).toInt8.toInt32))) 5 (vp_nar .byte (((x3 >>> (16 &&& 31))).toInt8.toInt32)))))] rfl ?_
  refine zz_aload_n X 2 dX16_feed_101 rfl rfl ?_
  refine zz_dup X dX16_feed_102 rfl ?_
  refine zz_get X 0 229 rfl rfl (by decide) (fun w h => List.mem_cons_of_mem _ (zf_X16 w h)) rfl (List.mem_cons_of_mem _ zm_656) (zq_same (zq_lt hf1_n (by decide) (by simp only [List.length_set]))) dX16_feed_103 ?_
  refine zz_iconst X 1 dX16_feed_106 rfl ?_
  refine zz_iadd X (6) dX16_feed_107 (by decide) ?_
  refine zz_put X 0 229 rfl rfl (by decide) (fun w h => List.mem_cons_of_mem _ (zf_X16 w h)) rfl (List.mem_cons_of_mem _ zm_656) tyX16 tyX16_ok nmX16 rfl (ty := .int) rfl rfl rfl (zq_lt hf1_n (by decide) (by simp only [List.length_set])) dX16_feed_108 [(x1, .inr (16, (((((((f1.set 227 (.int 0)).set 229 (.int 1)).set 229 (.int 2)).set 229 (.int 3)).set 229 (.int 4)).set 229 (.int 5)).set 229 (.int 6)))), (x7, .inl (cA 0, 6000, .inl (upd (upd (upd (upd (upd (upd (fun _ => 0) 0 (vp_nar .byte (((x2 >>> (24 &&& 31))).toInt8.toInt32))) 1 (vp_nar .byte (((x2 >>> (16 &&& 31))).toInt8.toInt32))) 2 (vp_nar .byte (((x2 >>> (8 &&& 31))).toInt8.toInt32))) 3 (vp_nar .byte (((x2 >>> (0 &&& 31))).toInt8.toInt32))) 4 (vp_nar .byte (((x3 >>> (24 &&& 31))).toInt8.toInt32))) 5 (vp_nar .byte (((x3 >>> (16 &&& 31))).toInt8.toInt32)))))] rfl ?_
  refine zz_iinc X 1 (6) [(6, .int 6), (7, .int x3), (0, .ref x1), (1, .int x2), (2, .int x3), (3, .int x4), (4, .int x5), (5, .int x6)] dX16_feed_111 rfl (by decide) (by decide) rfl ?_
  refine zz_goto X 23 dX16_feed_114 (by decide) ?_
  refine zz_iload X 0 dX16_feed_23 rfl ?_
  refine zz_bipush X 20 dX16_feed_25 rfl ?_
  refine zz_icmp_ge X 117 dX16_feed_27 (by decide) (fun h => absurd h (by decide)) (fun _ => ?_)
  refine zz_iload X 0 dX16_feed_30 rfl ?_
  refine zz_iconst X 4 dX16_feed_32 rfl ?_
  refine zz_icmp_ge X 40 dX16_feed_33 (by decide) (fun _ => ?_) (fun h => absurd (by decide) h)
  refine zz_iload X 0 dX16_feed_40 rfl ?_
  refine zz_bipush X 8 dX16_feed_42 rfl ?_
  refine zz_icmp_ge X 51 dX16_feed_44 (by decide) (fun h => absurd h (by decide)) (fun _ => ?_)
  refine zz_iload_n X 4 dX16_feed_47 rfl rfl ?_
  refine zz_goto X 76 dX16_feed_48 (by decide) ?_
  refine zz_istore X [(7, .int x3), (6, .int 6), (0, .ref x1), (1, .int x2), (2, .int x3), (3, .int x4), (4, .int x5), (5, .int x6)] dX16_feed_76 (by decide) rfl ?_
  refine zz_aload_n X 2 dX16_feed_78 rfl rfl ?_
  refine zz_get X 0 228 rfl rfl (by decide) (fun w h => List.mem_cons_of_mem _ (zf_X16 w h)) rfl (List.mem_cons_of_mem _ zm_623) (zq_oth (by decide) (zq_oth (by decide) (zq_oth (by decide) (zq_oth (by decide) (zq_oth (by decide) (zq_oth (by decide) (zq_oth (by decide) (hf1_228)))))))) dX16_feed_79 ?_
  refine zz_aload_n X 2 dX16_feed_82 rfl rfl ?_
  refine zz_get X 0 229 rfl rfl (by decide) (fun w h => List.mem_cons_of_mem _ (zf_X16 w h)) rfl (List.mem_cons_of_mem _ zm_656) (zq_same (zq_lt hf1_n (by decide) (by simp only [List.length_set]))) dX16_feed_83 ?_
  refine zz_iload X 0 dX16_feed_86 rfl ?_
  refine zz_bipush X 24 dX16_feed_88 rfl ?_
  refine zz_iload X 1 dX16_feed_90 rfl ?_
  refine zz_iconst X 4 dX16_feed_92 rfl ?_
  refine zz_irem X (2) dX16_feed_93 (by decide) (by decide) ?_
  refine zz_bipush X 8 dX16_feed_94 rfl ?_
  refine zz_imul X (16) dX16_feed_96 (by decide) ?_
  refine zz_isub X (8) dX16_feed_97 (by decide) ?_
  refine zz_ishr X ((x3 >>> (8 &&& 31))) dX16_feed_98 rfl ?_
  refine zz_i2b X ((((x3 >>> (8 &&& 31))).toInt8.toInt32)) dX16_feed_99 rfl ?_
  refine zz_bast X 1 0 rfl rfl (vp_in_nI (n := 6) (by decide) (by decide)) 6 (by decide) ((vp_nar .byte (((x3 >>> (8 &&& 31))).toInt8.toInt32))) rfl dX16_feed_100 [(x1, .inr (16, (((((((f1.set 227 (.int 0)).set 229 (.int 1)).set 229 (.int 2)).set 229 (.int 3)).set 229 (.int 4)).set 229 (.int 5)).set 229 (.int 6)))), (x7, .inl (cA 0, 6000, .inl (upd (upd (upd (upd (upd (upd (upd (fun _ => 0) 0 (vp_nar .byte (((x2 >>> (24 &&& 31))).toInt8.toInt32))) 1 (vp_nar .byte (((x2 >>> (16 &&& 31))).toInt8.toInt32))) 2 (vp_nar .byte (((x2 >>> (8 &&& 31))).toInt8.toInt32))) 3 (vp_nar .byte (((x2 >>> (0 &&& 31))).toInt8.toInt32))) 4 (vp_nar .byte (((x3 >>> (24 &&& 31))).toInt8.toInt32))) 5 (vp_nar .byte (((x3 >>> (16 &&& 31))).toInt8.toInt32))) 6 (vp_nar .byte (((x3 >>> (8 &&& 31))).toInt8.toInt32)))))] rfl ?_
  refine zz_aload_n X 2 dX16_feed_101 rfl rfl ?_
  refine zz_dup X dX16_feed_102 rfl ?_
  refine zz_get X 0 229 rfl rfl (by decide) (fun w h => List.mem_cons_of_mem _ (zf_X16 w h)) rfl (List.mem_cons_of_mem _ zm_656) (zq_same (zq_lt hf1_n (by decide) (by simp only [List.length_set]))) dX16_feed_103 ?_
  refine zz_iconst X 1 dX16_feed_106 rfl ?_
  refine zz_iadd X (7) dX16_feed_107 (by decide) ?_
  refine zz_put X 0 229 rfl rfl (by decide) (fun w h => List.mem_cons_of_mem _ (zf_X16 w h)) rfl (List.mem_cons_of_mem _ zm_656) tyX16 tyX16_ok nmX16 rfl (ty := .int) rfl rfl rfl (zq_lt hf1_n (by decide) (by simp only [List.length_set])) dX16_feed_108 [(x1, .inr (16, ((((((((f1.set 227 (.int 0)).set 229 (.int 1)).set 229 (.int 2)).set 229 (.int 3)).set 229 (.int 4)).set 229 (.int 5)).set 229 (.int 6)).set 229 (.int 7)))), (x7, .inl (cA 0, 6000, .inl (upd (upd (upd (upd (upd (upd (upd (fun _ => 0) 0 (vp_nar .byte (((x2 >>> (24 &&& 31))).toInt8.toInt32))) 1 (vp_nar .byte (((x2 >>> (16 &&& 31))).toInt8.toInt32))) 2 (vp_nar .byte (((x2 >>> (8 &&& 31))).toInt8.toInt32))) 3 (vp_nar .byte (((x2 >>> (0 &&& 31))).toInt8.toInt32))) 4 (vp_nar .byte (((x3 >>> (24 &&& 31))).toInt8.toInt32))) 5 (vp_nar .byte (((x3 >>> (16 &&& 31))).toInt8.toInt32))) 6 (vp_nar .byte (((x3 >>> (8 &&& 31))).toInt8.toInt32)))))] rfl ?_
  refine zz_iinc X 1 (7) [(6, .int 7), (7, .int x3), (0, .ref x1), (1, .int x2), (2, .int x3), (3, .int x4), (4, .int x5), (5, .int x6)] dX16_feed_111 rfl (by decide) (by decide) rfl ?_
  refine zz_goto X 23 dX16_feed_114 (by decide) ?_
  refine zz_iload X 0 dX16_feed_23 rfl ?_
  refine zz_bipush X 20 dX16_feed_25 rfl ?_
  refine zz_icmp_ge X 117 dX16_feed_27 (by decide) (fun h => absurd h (by decide)) (fun _ => ?_)
  refine zz_iload X 0 dX16_feed_30 rfl ?_
  refine zz_iconst X 4 dX16_feed_32 rfl ?_
  refine zz_icmp_ge X 40 dX16_feed_33 (by decide) (fun _ => ?_) (fun h => absurd (by decide) h)
  refine zz_iload X 0 dX16_feed_40 rfl ?_
  refine zz_bipush X 8 dX16_feed_42 rfl ?_
  refine zz_icmp_ge X 51 dX16_feed_44 (by decide) (fun h => absurd h (by decide)) (fun _ => ?_)
  refine zz_iload_n X 4 dX16_feed_47 rfl rfl ?_
  refine zz_goto X 76 dX16_feed_48 (by decide) ?_
  refine zz_istore X [(7, .int x3), (6, .int 7), (0, .ref x1), (1, .int x2), (2, .int x3), (3, .int x4), (4, .int x5), (5, .int x6)] dX16_feed_76 (by decide) rfl ?_
  refine zz_aload_n X 2 dX16_feed_78 rfl rfl ?_
  refine zz_get X 0 228 rfl rfl (by decide) (fun w h => List.mem_cons_of_mem _ (zf_X16 w h)) rfl (List.mem_cons_of_mem _ zm_623) (zq_oth (by decide) (zq_oth (by decide) (zq_oth (by decide) (zq_oth (by decide) (zq_oth (by decide) (zq_oth (by decide) (zq_oth (by decide) (zq_oth (by decide) (hf1_228))))))))) dX16_feed_79 ?_
  refine zz_aload_n X 2 dX16_feed_82 rfl rfl ?_
  refine zz_get X 0 229 rfl rfl (by decide) (fun w h => List.mem_cons_of_mem _ (zf_X16 w h)) rfl (List.mem_cons_of_mem _ zm_656) (zq_same (zq_lt hf1_n (by decide) (by simp only [List.length_set]))) dX16_feed_83 ?_
  refine zz_iload X 0 dX16_feed_86 rfl ?_
  refine zz_bipush X 24 dX16_feed_88 rfl ?_
  refine zz_iload X 1 dX16_feed_90 rfl ?_
  refine zz_iconst X 4 dX16_feed_92 rfl ?_
  refine zz_irem X (3) dX16_feed_93 (by decide) (by decide) ?_
  refine zz_bipush X 8 dX16_feed_94 rfl ?_
  refine zz_imul X (24) dX16_feed_96 (by decide) ?_
  refine zz_isub X (0) dX16_feed_97 (by decide) ?_
  refine zz_ishr X ((x3 >>> (0 &&& 31))) dX16_feed_98 rfl ?_
  refine zz_i2b X ((((x3 >>> (0 &&& 31))).toInt8.toInt32)) dX16_feed_99 rfl ?_
  refine zz_bast X 1 0 rfl rfl (vp_in_nI (n := 7) (by decide) (by decide)) 7 (by decide) ((vp_nar .byte (((x3 >>> (0 &&& 31))).toInt8.toInt32))) rfl dX16_feed_100 [(x1, .inr (16, ((((((((f1.set 227 (.int 0)).set 229 (.int 1)).set 229 (.int 2)).set 229 (.int 3)).set 229 (.int 4)).set 229 (.int 5)).set 229 (.int 6)).set 229 (.int 7)))), (x7, .inl (cA 0, 6000, .inl (upd (upd (upd (upd (upd (upd (upd (upd (fun _ => 0) 0 (vp_nar .byte (((x2 >>> (24 &&& 31))).toInt8.toInt32))) 1 (vp_nar .byte (((x2 >>> (16 &&& 31))).toInt8.toInt32))) 2 (vp_nar .byte (((x2 >>> (8 &&& 31))).toInt8.toInt32))) 3 (vp_nar .byte (((x2 >>> (0 &&& 31))).toInt8.toInt32))) 4 (vp_nar .byte (((x3 >>> (24 &&& 31))).toInt8.toInt32))) 5 (vp_nar .byte (((x3 >>> (16 &&& 31))).toInt8.toInt32))) 6 (vp_nar .byte (((x3 >>> (8 &&& 31))).toInt8.toInt32))) 7 (vp_nar .byte (((x3 >>> (0 &&& 31))).toInt8.toInt32)))))] rfl ?_
  refine zz_aload_n X 2 dX16_feed_101 rfl rfl ?_
  refine zz_dup X dX16_feed_102 rfl ?_
  refine zz_get X 0 229 rfl rfl (by decide) (fun w h => List.mem_cons_of_mem _ (zf_X16 w h)) rfl (List.mem_cons_of_mem _ zm_656) (zq_same (zq_lt hf1_n (by decide) (by simp only [List.length_set]))) dX16_feed_103 ?_
  refine zz_iconst X 1 dX16_feed_106 rfl ?_
  refine zz_iadd X (8) dX16_feed_107 (by decide) ?_
  refine zz_put X 0 229 rfl rfl (by decide) (fun w h => List.mem_cons_of_mem _ (zf_X16 w h)) rfl (List.mem_cons_of_mem _ zm_656) tyX16 tyX16_ok nmX16 rfl (ty := .int) rfl rfl rfl (zq_lt hf1_n (by decide) (by simp only [List.length_set])) dX16_feed_108 [(x1, .inr (16, (((((((((f1.set 227 (.int 0)).set 229 (.int 1)).set 229 (.int 2)).set 229 (.int 3)).set 229 (.int 4)).set 229 (.int 5)).set 229 (.int 6)).set 229 (.int 7)).set 229 (.int 8)))), (x7, .inl (cA 0, 6000, .inl (upd (upd (upd (upd (upd (upd (upd (upd (fun _ => 0) 0 (vp_nar .byte (((x2 >>> (24 &&& 31))).toInt8.toInt32))) 1 (vp_nar .byte (((x2 >>> (16 &&& 31))).toInt8.toInt32))) 2 (vp_nar .byte (((x2 >>> (8 &&& 31))).toInt8.toInt32))) 3 (vp_nar .byte (((x2 >>> (0 &&& 31))).toInt8.toInt32))) 4 (vp_nar .byte (((x3 >>> (24 &&& 31))).toInt8.toInt32))) 5 (vp_nar .byte (((x3 >>> (16 &&& 31))).toInt8.toInt32))) 6 (vp_nar .byte (((x3 >>> (8 &&& 31))).toInt8.toInt32))) 7 (vp_nar .byte (((x3 >>> (0 &&& 31))).toInt8.toInt32)))))] rfl ?_
  refine zz_iinc X 1 (8) [(6, .int 8), (7, .int x3), (0, .ref x1), (1, .int x2), (2, .int x3), (3, .int x4), (4, .int x5), (5, .int x6)] dX16_feed_111 rfl (by decide) (by decide) rfl ?_
  refine zz_goto X 23 dX16_feed_114 (by decide) ?_
  refine zz_iload X 0 dX16_feed_23 rfl ?_
  refine zz_bipush X 20 dX16_feed_25 rfl ?_
  refine zz_icmp_ge X 117 dX16_feed_27 (by decide) (fun h => absurd h (by decide)) (fun _ => ?_)
  refine zz_iload X 0 dX16_feed_30 rfl ?_
  refine zz_iconst X 4 dX16_feed_32 rfl ?_
  refine zz_icmp_ge X 40 dX16_feed_33 (by decide) (fun _ => ?_) (fun h => absurd (by decide) h)
  refine zz_iload X 0 dX16_feed_40 rfl ?_
  refine zz_bipush X 8 dX16_feed_42 rfl ?_
  refine zz_icmp_ge X 51 dX16_feed_44 (by decide) (fun _ => ?_) (fun h => absurd (by decide) h)
  refine zz_iload X 0 dX16_feed_51 rfl ?_
  refine zz_bipush X 12 dX16_feed_53 rfl ?_
  refine zz_icmp_ge X 62 dX16_feed_55 (by decide) (fun h => absurd h (by decide)) (fun _ => ?_)
  refine zz_iload_n X 5 dX16_feed_58 rfl rfl ?_
  refine zz_goto X 76 dX16_feed_59 (by decide) ?_
  refine zz_istore X [(7, .int x4), (6, .int 8), (0, .ref x1), (1, .int x2), (2, .int x3), (3, .int x4), (4, .int x5), (5, .int x6)] dX16_feed_76 (by decide) rfl ?_
  refine zz_aload_n X 2 dX16_feed_78 rfl rfl ?_
  refine zz_get X 0 228 rfl rfl (by decide) (fun w h => List.mem_cons_of_mem _ (zf_X16 w h)) rfl (List.mem_cons_of_mem _ zm_623) (zq_oth (by decide) (zq_oth (by decide) (zq_oth (by decide) (zq_oth (by decide) (zq_oth (by decide) (zq_oth (by decide) (zq_oth (by decide) (zq_oth (by decide) (zq_oth (by decide) (hf1_228)))))))))) dX16_feed_79 ?_
  refine zz_aload_n X 2 dX16_feed_82 rfl rfl ?_
  refine zz_get X 0 229 rfl rfl (by decide) (fun w h => List.mem_cons_of_mem _ (zf_X16 w h)) rfl (List.mem_cons_of_mem _ zm_656) (zq_same (zq_lt hf1_n (by decide) (by simp only [List.length_set]))) dX16_feed_83 ?_
  refine zz_iload X 0 dX16_feed_86 rfl ?_
  refine zz_bipush X 24 dX16_feed_88 rfl ?_
  refine zz_iload X 1 dX16_feed_90 rfl ?_
  refine zz_iconst X 4 dX16_feed_92 rfl ?_
  refine zz_irem X (0) dX16_feed_93 (by decide) (by decide) ?_
  refine zz_bipush X 8 dX16_feed_94 rfl ?_
  refine zz_imul X (0) dX16_feed_96 (by decide) ?_
  refine zz_isub X (24) dX16_feed_97 (by decide) ?_
  refine zz_ishr X ((x4 >>> (24 &&& 31))) dX16_feed_98 rfl ?_
  refine zz_i2b X ((((x4 >>> (24 &&& 31))).toInt8.toInt32)) dX16_feed_99 rfl ?_
  refine zz_bast X 1 0 rfl rfl (vp_in_nI (n := 8) (by decide) (by decide)) 8 (by decide) ((vp_nar .byte (((x4 >>> (24 &&& 31))).toInt8.toInt32))) rfl dX16_feed_100 [(x1, .inr (16, (((((((((f1.set 227 (.int 0)).set 229 (.int 1)).set 229 (.int 2)).set 229 (.int 3)).set 229 (.int 4)).set 229 (.int 5)).set 229 (.int 6)).set 229 (.int 7)).set 229 (.int 8)))), (x7, .inl (cA 0, 6000, .inl (upd (upd (upd (upd (upd (upd (upd (upd (upd (fun _ => 0) 0 (vp_nar .byte (((x2 >>> (24 &&& 31))).toInt8.toInt32))) 1 (vp_nar .byte (((x2 >>> (16 &&& 31))).toInt8.toInt32))) 2 (vp_nar .byte (((x2 >>> (8 &&& 31))).toInt8.toInt32))) 3 (vp_nar .byte (((x2 >>> (0 &&& 31))).toInt8.toInt32))) 4 (vp_nar .byte (((x3 >>> (24 &&& 31))).toInt8.toInt32))) 5 (vp_nar .byte (((x3 >>> (16 &&& 31))).toInt8.toInt32))) 6 (vp_nar .byte (((x3 >>> (8 &&& 31))).toInt8.toInt32))) 7 (vp_nar .byte (((x3 >>> (0 &&& 31))).toInt8.toInt32))) 8 (vp_nar .byte (((x4 >>> (24 &&& 31))).toInt8.toInt32)))))] rfl ?_
  refine zz_aload_n X 2 dX16_feed_101 rfl rfl ?_
  refine zz_dup X dX16_feed_102 rfl ?_
  refine zz_get X 0 229 rfl rfl (by decide) (fun w h => List.mem_cons_of_mem _ (zf_X16 w h)) rfl (List.mem_cons_of_mem _ zm_656) (zq_same (zq_lt hf1_n (by decide) (by simp only [List.length_set]))) dX16_feed_103 ?_
  refine zz_iconst X 1 dX16_feed_106 rfl ?_
  refine zz_iadd X (9) dX16_feed_107 (by decide) ?_
  refine zz_put X 0 229 rfl rfl (by decide) (fun w h => List.mem_cons_of_mem _ (zf_X16 w h)) rfl (List.mem_cons_of_mem _ zm_656) tyX16 tyX16_ok nmX16 rfl (ty := .int) rfl rfl rfl (zq_lt hf1_n (by decide) (by simp only [List.length_set])) dX16_feed_108 [(x1, .inr (16, ((((((((((f1.set 227 (.int 0)).set 229 (.int 1)).set 229 (.int 2)).set 229 (.int 3)).set 229 (.int 4)).set 229 (.int 5)).set 229 (.int 6)).set 229 (.int 7)).set 229 (.int 8)).set 229 (.int 9)))), (x7, .inl (cA 0, 6000, .inl (upd (upd (upd (upd (upd (upd (upd (upd (upd (fun _ => 0) 0 (vp_nar .byte (((x2 >>> (24 &&& 31))).toInt8.toInt32))) 1 (vp_nar .byte (((x2 >>> (16 &&& 31))).toInt8.toInt32))) 2 (vp_nar .byte (((x2 >>> (8 &&& 31))).toInt8.toInt32))) 3 (vp_nar .byte (((x2 >>> (0 &&& 31))).toInt8.toInt32))) 4 (vp_nar .byte (((x3 >>> (24 &&& 31))).toInt8.toInt32))) 5 (vp_nar .byte (((x3 >>> (16 &&& 31))).toInt8.toInt32))) 6 (vp_nar .byte (((x3 >>> (8 &&& 31))).toInt8.toInt32))) 7 (vp_nar .byte (((x3 >>> (0 &&& 31))).toInt8.toInt32))) 8 (vp_nar .byte (((x4 >>> (24 &&& 31))).toInt8.toInt32)))))] rfl ?_
  refine zz_iinc X 1 (9) [(6, .int 9), (7, .int x4), (0, .ref x1), (1, .int x2), (2, .int x3), (3, .int x4), (4, .int x5), (5, .int x6)] dX16_feed_111 rfl (by decide) (by decide) rfl ?_
  refine zz_goto X 23 dX16_feed_114 (by decide) ?_
  refine zz_iload X 0 dX16_feed_23 rfl ?_
  refine zz_bipush X 20 dX16_feed_25 rfl ?_
  refine zz_icmp_ge X 117 dX16_feed_27 (by decide) (fun h => absurd h (by decide)) (fun _ => ?_)
  refine zz_iload X 0 dX16_feed_30 rfl ?_
  refine zz_iconst X 4 dX16_feed_32 rfl ?_
  refine zz_icmp_ge X 40 dX16_feed_33 (by decide) (fun _ => ?_) (fun h => absurd (by decide) h)
  refine zz_iload X 0 dX16_feed_40 rfl ?_
  refine zz_bipush X 8 dX16_feed_42 rfl ?_
  refine zz_icmp_ge X 51 dX16_feed_44 (by decide) (fun _ => ?_) (fun h => absurd (by decide) h)
  refine zz_iload X 0 dX16_feed_51 rfl ?_
  refine zz_bipush X 12 dX16_feed_53 rfl ?_
  refine zz_icmp_ge X 62 dX16_feed_55 (by decide) (fun h => absurd h (by decide)) (fun _ => ?_)
  refine zz_iload_n X 5 dX16_feed_58 rfl rfl ?_
  refine zz_goto X 76 dX16_feed_59 (by decide) ?_
  refine zz_istore X [(7, .int x4), (6, .int 9), (0, .ref x1), (1, .int x2), (2, .int x3), (3, .int x4), (4, .int x5), (5, .int x6)] dX16_feed_76 (by decide) rfl ?_
  refine zz_aload_n X 2 dX16_feed_78 rfl rfl ?_
  refine zz_get X 0 228 rfl rfl (by decide) (fun w h => List.mem_cons_of_mem _ (zf_X16 w h)) rfl (List.mem_cons_of_mem _ zm_623) (zq_oth (by decide) (zq_oth (by decide) (zq_oth (by decide) (zq_oth (by decide) (zq_oth (by decide) (zq_oth (by decide) (zq_oth (by decide) (zq_oth (by decide) (zq_oth (by decide) (zq_oth (by decide) (hf1_228))))))))))) dX16_feed_79 ?_
  refine zz_aload_n X 2 dX16_feed_82 rfl rfl ?_
  refine zz_get X 0 229 rfl rfl (by decide) (fun w h => List.mem_cons_of_mem _ (zf_X16 w h)) rfl (List.mem_cons_of_mem _ zm_656) (zq_same (zq_lt hf1_n (by decide) (by simp only [List.length_set]))) dX16_feed_83 ?_
  refine zz_iload X 0 dX16_feed_86 rfl ?_
  refine zz_bipush X 24 dX16_feed_88 rfl ?_
  refine zz_iload X 1 dX16_feed_90 rfl ?_
  refine zz_iconst X 4 dX16_feed_92 rfl ?_
  refine zz_irem X (1) dX16_feed_93 (by decide) (by decide) ?_
  refine zz_bipush X 8 dX16_feed_94 rfl ?_
  refine zz_imul X (8) dX16_feed_96 (by decide) ?_
  refine zz_isub X (16) dX16_feed_97 (by decide) ?_
  refine zz_ishr X ((x4 >>> (16 &&& 31))) dX16_feed_98 rfl ?_
  refine zz_i2b X ((((x4 >>> (16 &&& 31))).toInt8.toInt32)) dX16_feed_99 rfl ?_
  refine zz_bast X 1 0 rfl rfl (vp_in_nI (n := 9) (by decide) (by decide)) 9 (by decide) ((vp_nar .byte (((x4 >>> (16 &&& 31))).toInt8.toInt32))) rfl dX16_feed_100 [(x1, .inr (16, ((((((((((f1.set 227 (.int 0)).set 229 (.int 1)).set 229 (.int 2)).set 229 (.int 3)).set 229 (.int 4)).set 229 (.int 5)).set 229 (.int 6)).set 229 (.int 7)).set 229 (.int 8)).set 229 (.int 9)))), (x7, .inl (cA 0, 6000, .inl (upd (upd (upd (upd (upd (upd (upd (upd (upd (upd (fun _ => 0) 0 (vp_nar .byte (((x2 >>> (24 &&& 31))).toInt8.toInt32))) 1 (vp_nar .byte (((x2 >>> (16 &&& 31))).toInt8.toInt32))) 2 (vp_nar .byte (((x2 >>> (8 &&& 31))).toInt8.toInt32))) 3 (vp_nar .byte (((x2 >>> (0 &&& 31))).toInt8.toInt32))) 4 (vp_nar .byte (((x3 >>> (24 &&& 31))).toInt8.toInt32))) 5 (vp_nar .byte (((x3 >>> (16 &&& 31))).toInt8.toInt32))) 6 (vp_nar .byte (((x3 >>> (8 &&& 31))).toInt8.toInt32))) 7 (vp_nar .byte (((x3 >>> (0 &&& 31))).toInt8.toInt32))) 8 (vp_nar .byte (((x4 >>> (24 &&& 31))).toInt8.toInt32))) 9 (vp_nar .byte (((x4 >>> (16 &&& 31))).toInt8.toInt32)))))] rfl ?_
  refine zz_aload_n X 2 dX16_feed_101 rfl rfl ?_
  refine zz_dup X dX16_feed_102 rfl ?_
  refine zz_get X 0 229 rfl rfl (by decide) (fun w h => List.mem_cons_of_mem _ (zf_X16 w h)) rfl (List.mem_cons_of_mem _ zm_656) (zq_same (zq_lt hf1_n (by decide) (by simp only [List.length_set]))) dX16_feed_103 ?_
  refine zz_iconst X 1 dX16_feed_106 rfl ?_
  refine zz_iadd X (10) dX16_feed_107 (by decide) ?_
  refine zz_put X 0 229 rfl rfl (by decide) (fun w h => List.mem_cons_of_mem _ (zf_X16 w h)) rfl (List.mem_cons_of_mem _ zm_656) tyX16 tyX16_ok nmX16 rfl (ty := .int) rfl rfl rfl (zq_lt hf1_n (by decide) (by simp only [List.length_set])) dX16_feed_108 [(x1, .inr (16, (((((((((((f1.set 227 (.int 0)).set 229 (.int 1)).set 229 (.int 2)).set 229 (.int 3)).set 229 (.int 4)).set 229 (.int 5)).set 229 (.int 6)).set 229 (.int 7)).set 229 (.int 8)).set 229 (.int 9)).set 229 (.int 10)))), (x7, .inl (cA 0, 6000, .inl (upd (upd (upd (upd (upd (upd (upd (upd (upd (upd (fun _ => 0) 0 (vp_nar .byte (((x2 >>> (24 &&& 31))).toInt8.toInt32))) 1 (vp_nar .byte (((x2 >>> (16 &&& 31))).toInt8.toInt32))) 2 (vp_nar .byte (((x2 >>> (8 &&& 31))).toInt8.toInt32))) 3 (vp_nar .byte (((x2 >>> (0 &&& 31))).toInt8.toInt32))) 4 (vp_nar .byte (((x3 >>> (24 &&& 31))).toInt8.toInt32))) 5 (vp_nar .byte (((x3 >>> (16 &&& 31))).toInt8.toInt32))) 6 (vp_nar .byte (((x3 >>> (8 &&& 31))).toInt8.toInt32))) 7 (vp_nar .byte (((x3 >>> (0 &&& 31))).toInt8.toInt32))) 8 (vp_nar .byte (((x4 >>> (24 &&& 31))).toInt8.toInt32))) 9 (vp_nar .byte (((x4 >>> (16 &&& 31))).toInt8.toInt32)))))] rfl ?_
  refine zz_iinc X 1 (10) [(6, .int 10), (7, .int x4), (0, .ref x1), (1, .int x2), (2, .int x3), (3, .int x4), (4, .int x5), (5, .int x6)] dX16_feed_111 rfl (by decide) (by decide) rfl ?_
  refine zz_goto X 23 dX16_feed_114 (by decide) ?_
  refine zz_iload X 0 dX16_feed_23 rfl ?_
  refine zz_bipush X 20 dX16_feed_25 rfl ?_
  refine zz_icmp_ge X 117 dX16_feed_27 (by decide) (fun h => absurd h (by decide)) (fun _ => ?_)
  refine zz_iload X 0 dX16_feed_30 rfl ?_
  refine zz_iconst X 4 dX16_feed_32 rfl ?_
  refine zz_icmp_ge X 40 dX16_feed_33 (by decide) (fun _ => ?_) (fun h => absurd (by decide) h)
  refine zz_iload X 0 dX16_feed_40 rfl ?_
  refine zz_bipush X 8 dX16_feed_42 rfl ?_
  refine zz_icmp_ge X 51 dX16_feed_44 (by decide) (fun _ => ?_) (fun h => absurd (by decide) h)
  refine zz_iload X 0 dX16_feed_51 rfl ?_
  refine zz_bipush X 12 dX16_feed_53 rfl ?_
  refine zz_icmp_ge X 62 dX16_feed_55 (by decide) (fun h => absurd h (by decide)) (fun _ => ?_)
  refine zz_iload_n X 5 dX16_feed_58 rfl rfl ?_
  refine zz_goto X 76 dX16_feed_59 (by decide) ?_
  refine zz_istore X [(7, .int x4), (6, .int 10), (0, .ref x1), (1, .int x2), (2, .int x3), (3, .int x4), (4, .int x5), (5, .int x6)] dX16_feed_76 (by decide) rfl ?_
  refine zz_aload_n X 2 dX16_feed_78 rfl rfl ?_
  refine zz_get X 0 228 rfl rfl (by decide) (fun w h => List.mem_cons_of_mem _ (zf_X16 w h)) rfl (List.mem_cons_of_mem _ zm_623) (zq_oth (by decide) (zq_oth (by decide) (zq_oth (by decide) (zq_oth (by decide) (zq_oth (by decide) (zq_oth (by decide) (zq_oth (by decide) (zq_oth (by decide) (zq_oth (by decide) (zq_oth (by decide) (zq_oth (by decide) (hf1_228)))))))))))) dX16_feed_79 ?_
  refine zz_aload_n X 2 dX16_feed_82 rfl rfl ?_
  refine zz_get X 0 229 rfl rfl (by decide) (fun w h => List.mem_cons_of_mem _ (zf_X16 w h)) rfl (List.mem_cons_of_mem _ zm_656) (zq_same (zq_lt hf1_n (by decide) (by simp only [List.length_set]))) dX16_feed_83 ?_
  refine zz_iload X 0 dX16_feed_86 rfl ?_
  refine zz_bipush X 24 dX16_feed_88 rfl ?_
  refine zz_iload X 1 dX16_feed_90 rfl ?_
  refine zz_iconst X 4 dX16_feed_92 rfl ?_
  refine zz_irem X (2) dX16_feed_93 (by decide) (by decide) ?_
  refine zz_bipush X 8 dX16_feed_94 rfl ?_
  refine zz_imul X (16) dX16_feed_96 (by decide) ?_
  refine zz_isub X (8) dX16_feed_97 (by decide) ?_
  refine zz_ishr X ((x4 >>> (8 &&& 31))) dX16_feed_98 rfl ?_
  refine zz_i2b X ((((x4 >>> (8 &&& 31))).toInt8.toInt32)) dX16_feed_99 rfl ?_
  refine zz_bast X 1 0 rfl rfl (vp_in_nI (n := 10) (by decide) (by decide)) 10 (by decide) ((vp_nar .byte (((x4 >>> (8 &&& 31))).toInt8.toInt32))) rfl dX16_feed_100 [(x1, .inr (16, (((((((((((f1.set 227 (.int 0)).set 229 (.int 1)).set 229 (.int 2)).set 229 (.int 3)).set 229 (.int 4)).set 229 (.int 5)).set 229 (.int 6)).set 229 (.int 7)).set 229 (.int 8)).set 229 (.int 9)).set 229 (.int 10)))), (x7, .inl (cA 0, 6000, .inl (upd (upd (upd (upd (upd (upd (upd (upd (upd (upd (upd (fun _ => 0) 0 (vp_nar .byte (((x2 >>> (24 &&& 31))).toInt8.toInt32))) 1 (vp_nar .byte (((x2 >>> (16 &&& 31))).toInt8.toInt32))) 2 (vp_nar .byte (((x2 >>> (8 &&& 31))).toInt8.toInt32))) 3 (vp_nar .byte (((x2 >>> (0 &&& 31))).toInt8.toInt32))) 4 (vp_nar .byte (((x3 >>> (24 &&& 31))).toInt8.toInt32))) 5 (vp_nar .byte (((x3 >>> (16 &&& 31))).toInt8.toInt32))) 6 (vp_nar .byte (((x3 >>> (8 &&& 31))).toInt8.toInt32))) 7 (vp_nar .byte (((x3 >>> (0 &&& 31))).toInt8.toInt32))) 8 (vp_nar .byte (((x4 >>> (24 &&& 31))).toInt8.toInt32))) 9 (vp_nar .byte (((x4 >>> (16 &&& 31))).toInt8.toInt32))) 10 (vp_nar .byte (((x4 >>> (8 &&& 31))).toInt8.toInt32)))))] rfl ?_
  refine zz_aload_n X 2 dX16_feed_101 rfl rfl ?_
  refine zz_dup X dX16_feed_102 rfl ?_
  refine zz_get X 0 229 rfl rfl (by decide) (fun w h => List.mem_cons_of_mem _ (zf_X16 w h)) rfl (List.mem_cons_of_mem _ zm_656) (zq_same (zq_lt hf1_n (by decide) (by simp only [List.length_set]))) dX16_feed_103 ?_
  refine zz_iconst X 1 dX16_feed_106 rfl ?_
  refine zz_iadd X (11) dX16_feed_107 (by decide) ?_
  refine zz_put X 0 229 rfl rfl (by decide) (fun w h => List.mem_cons_of_mem _ (zf_X16 w h)) rfl (List.mem_cons_of_mem _ zm_656) tyX16 tyX16_ok nmX16 rfl (ty := .int) rfl rfl rfl (zq_lt hf1_n (by decide) (by simp only [List.length_set])) dX16_feed_108 [(x1, .inr (16, ((((((((((((f1.set 227 (.int 0)).set 229 (.int 1)).set 229 (.int 2)).set 229 (.int 3)).set 229 (.int 4)).set 229 (.int 5)).set 229 (.int 6)).set 229 (.int 7)).set 229 (.int 8)).set 229 (.int 9)).set 229 (.int 10)).set 229 (.int 11)))), (x7, .inl (cA 0, 6000, .inl (upd (upd (upd (upd (upd (upd (upd (upd (upd (upd (upd (fun _ => 0) 0 (vp_nar .byte (((x2 >>> (24 &&& 31))).toInt8.toInt32))) 1 (vp_nar .byte (((x2 >>> (16 &&& 31))).toInt8.toInt32))) 2 (vp_nar .byte (((x2 >>> (8 &&& 31))).toInt8.toInt32))) 3 (vp_nar .byte (((x2 >>> (0 &&& 31))).toInt8.toInt32))) 4 (vp_nar .byte (((x3 >>> (24 &&& 31))).toInt8.toInt32))) 5 (vp_nar .byte (((x3 >>> (16 &&& 31))).toInt8.toInt32))) 6 (vp_nar .byte (((x3 >>> (8 &&& 31))).toInt8.toInt32))) 7 (vp_nar .byte (((x3 >>> (0 &&& 31))).toInt8.toInt32))) 8 (vp_nar .byte (((x4 >>> (24 &&& 31))).toInt8.toInt32))) 9 (vp_nar .byte (((x4 >>> (16 &&& 31))).toInt8.toInt32))) 10 (vp_nar .byte (((x4 >>> (8 &&& 31))).toInt8.toInt32)))))] rfl ?_
  refine zz_iinc X 1 (11) [(6, .int 11), (7, .int x4), (0, .ref x1), (1, .int x2), (2, .int x3), (3, .int x4), (4, .int x5), (5, .int x6)] dX16_feed_111 rfl (by decide) (by decide) rfl ?_
  refine zz_goto X 23 dX16_feed_114 (by decide) ?_
  refine zz_iload X 0 dX16_feed_23 rfl ?_
  refine zz_bipush X 20 dX16_feed_25 rfl ?_
  refine zz_icmp_ge X 117 dX16_feed_27 (by decide) (fun h => absurd h (by decide)) (fun _ => ?_)
  refine zz_iload X 0 dX16_feed_30 rfl ?_
  refine zz_iconst X 4 dX16_feed_32 rfl ?_
  refine zz_icmp_ge X 40 dX16_feed_33 (by decide) (fun _ => ?_) (fun h => absurd (by decide) h)
  refine zz_iload X 0 dX16_feed_40 rfl ?_
  refine zz_bipush X 8 dX16_feed_42 rfl ?_
  refine zz_icmp_ge X 51 dX16_feed_44 (by decide) (fun _ => ?_) (fun h => absurd (by decide) h)
  refine zz_iload X 0 dX16_feed_51 rfl ?_
  refine zz_bipush X 12 dX16_feed_53 rfl ?_
  refine zz_icmp_ge X 62 dX16_feed_55 (by decide) (fun h => absurd h (by decide)) (fun _ => ?_)
  refine zz_iload_n X 5 dX16_feed_58 rfl rfl ?_
  refine zz_goto X 76 dX16_feed_59 (by decide) ?_
  refine zz_istore X [(7, .int x4), (6, .int 11), (0, .ref x1), (1, .int x2), (2, .int x3), (3, .int x4), (4, .int x5), (5, .int x6)] dX16_feed_76 (by decide) rfl ?_
  refine zz_aload_n X 2 dX16_feed_78 rfl rfl ?_
  refine zz_get X 0 228 rfl rfl (by decide) (fun w h => List.mem_cons_of_mem _ (zf_X16 w h)) rfl (List.mem_cons_of_mem _ zm_623) (zq_oth (by decide) (zq_oth (by decide) (zq_oth (by decide) (zq_oth (by decide) (zq_oth (by decide) (zq_oth (by decide) (zq_oth (by decide) (zq_oth (by decide) (zq_oth (by decide) (zq_oth (by decide) (zq_oth (by decide) (zq_oth (by decide) (hf1_228))))))))))))) dX16_feed_79 ?_
  refine zz_aload_n X 2 dX16_feed_82 rfl rfl ?_
  refine zz_get X 0 229 rfl rfl (by decide) (fun w h => List.mem_cons_of_mem _ (zf_X16 w h)) rfl (List.mem_cons_of_mem _ zm_656) (zq_same (zq_lt hf1_n (by decide) (by simp only [List.length_set]))) dX16_feed_83 ?_
  refine zz_iload X 0 dX16_feed_86 rfl ?_
  refine zz_bipush X 24 dX16_feed_88 rfl ?_
  refine zz_iload X 1 dX16_feed_90 rfl ?_
  refine zz_iconst X 4 dX16_feed_92 rfl ?_
  refine zz_irem X (3) dX16_feed_93 (by decide) (by decide) ?_
  refine zz_bipush X 8 dX16_feed_94 rfl ?_
  refine zz_imul X (24) dX16_feed_96 (by decide) ?_
  refine zz_isub X (0) dX16_feed_97 (by decide) ?_
  refine zz_ishr X ((x4 >>> (0 &&& 31))) dX16_feed_98 rfl ?_
  refine zz_i2b X ((((x4 >>> (0 &&& 31))).toInt8.toInt32)) dX16_feed_99 rfl ?_
  refine zz_bast X 1 0 rfl rfl (vp_in_nI (n := 11) (by decide) (by decide)) 11 (by decide) ((vp_nar .byte (((x4 >>> (0 &&& 31))).toInt8.toInt32))) rfl dX16_feed_100 [(x1, .inr (16, ((((((((((((f1.set 227 (.int 0)).set 229 (.int 1)).set 229 (.int 2)).set 229 (.int 3)).set 229 (.int 4)).set 229 (.int 5)).set 229 (.int 6)).set 229 (.int 7)).set 229 (.int 8)).set 229 (.int 9)).set 229 (.int 10)).set 229 (.int 11)))), (x7, .inl (cA 0, 6000, .inl (upd (upd (upd (upd (upd (upd (upd (upd (upd (upd (upd (upd (fun _ => 0) 0 (vp_nar .byte (((x2 >>> (24 &&& 31))).toInt8.toInt32))) 1 (vp_nar .byte (((x2 >>> (16 &&& 31))).toInt8.toInt32))) 2 (vp_nar .byte (((x2 >>> (8 &&& 31))).toInt8.toInt32))) 3 (vp_nar .byte (((x2 >>> (0 &&& 31))).toInt8.toInt32))) 4 (vp_nar .byte (((x3 >>> (24 &&& 31))).toInt8.toInt32))) 5 (vp_nar .byte (((x3 >>> (16 &&& 31))).toInt8.toInt32))) 6 (vp_nar .byte (((x3 >>> (8 &&& 31))).toInt8.toInt32))) 7 (vp_nar .byte (((x3 >>> (0 &&& 31))).toInt8.toInt32))) 8 (vp_nar .byte (((x4 >>> (24 &&& 31))).toInt8.toInt32))) 9 (vp_nar .byte (((x4 >>> (16 &&& 31))).toInt8.toInt32))) 10 (vp_nar .byte (((x4 >>> (8 &&& 31))).toInt8.toInt32))) 11 (vp_nar .byte (((x4 >>> (0 &&& 31))).toInt8.toInt32)))))] rfl ?_
  refine zz_aload_n X 2 dX16_feed_101 rfl rfl ?_
  refine zz_dup X dX16_feed_102 rfl ?_
  refine zz_get X 0 229 rfl rfl (by decide) (fun w h => List.mem_cons_of_mem _ (zf_X16 w h)) rfl (List.mem_cons_of_mem _ zm_656) (zq_same (zq_lt hf1_n (by decide) (by simp only [List.length_set]))) dX16_feed_103 ?_
  refine zz_iconst X 1 dX16_feed_106 rfl ?_
  refine zz_iadd X (12) dX16_feed_107 (by decide) ?_
  refine zz_put X 0 229 rfl rfl (by decide) (fun w h => List.mem_cons_of_mem _ (zf_X16 w h)) rfl (List.mem_cons_of_mem _ zm_656) tyX16 tyX16_ok nmX16 rfl (ty := .int) rfl rfl rfl (zq_lt hf1_n (by decide) (by simp only [List.length_set])) dX16_feed_108 [(x1, .inr (16, (((((((((((((f1.set 227 (.int 0)).set 229 (.int 1)).set 229 (.int 2)).set 229 (.int 3)).set 229 (.int 4)).set 229 (.int 5)).set 229 (.int 6)).set 229 (.int 7)).set 229 (.int 8)).set 229 (.int 9)).set 229 (.int 10)).set 229 (.int 11)).set 229 (.int 12)))), (x7, .inl (cA 0, 6000, .inl (upd (upd (upd (upd (upd (upd (upd (upd (upd (upd (upd (upd (fun _ => 0) 0 (vp_nar .byte (((x2 >>> (24 &&& 31))).toInt8.toInt32))) 1 (vp_nar .byte (((x2 >>> (16 &&& 31))).toInt8.toInt32))) 2 (vp_nar .byte (((x2 >>> (8 &&& 31))).toInt8.toInt32))) 3 (vp_nar .byte (((x2 >>> (0 &&& 31))).toInt8.toInt32))) 4 (vp_nar .byte (((x3 >>> (24 &&& 31))).toInt8.toInt32))) 5 (vp_nar .byte (((x3 >>> (16 &&& 31))).toInt8.toInt32))) 6 (vp_nar .byte (((x3 >>> (8 &&& 31))).toInt8.toInt32))) 7 (vp_nar .byte (((x3 >>> (0 &&& 31))).toInt8.toInt32))) 8 (vp_nar .byte (((x4 >>> (24 &&& 31))).toInt8.toInt32))) 9 (vp_nar .byte (((x4 >>> (16 &&& 31))).toInt8.toInt32))) 10 (vp_nar .byte (((x4 >>> (8 &&& 31))).toInt8.toInt32))) 11 (vp_nar .byte (((x4 >>> (0 &&& 31))).toInt8.toInt32)))))] rfl ?_
  refine zz_iinc X 1 (12) [(6, .int 12), (7, .int x4), (0, .ref x1), (1, .int x2), (2, .int x3), (3, .int x4), (4, .int x5), (5, .int x6)] dX16_feed_111 rfl (by decide) (by decide) rfl ?_
  refine zz_goto X 23 dX16_feed_114 (by decide) ?_
  refine zz_iload X 0 dX16_feed_23 rfl ?_
  refine zz_bipush X 20 dX16_feed_25 rfl ?_
  refine zz_icmp_ge X 117 dX16_feed_27 (by decide) (fun h => absurd h (by decide)) (fun _ => ?_)
  refine zz_iload X 0 dX16_feed_30 rfl ?_
  refine zz_iconst X 4 dX16_feed_32 rfl ?_
  refine zz_icmp_ge X 40 dX16_feed_33 (by decide) (fun _ => ?_) (fun h => absurd (by decide) h)
  refine zz_iload X 0 dX16_feed_40 rfl ?_
  refine zz_bipush X 8 dX16_feed_42 rfl ?_
  refine zz_icmp_ge X 51 dX16_feed_44 (by decide) (fun _ => ?_) (fun h => absurd (by decide) h)
  refine zz_iload X 0 dX16_feed_51 rfl ?_
  refine zz_bipush X 12 dX16_feed_53 rfl ?_
  refine zz_icmp_ge X 62 dX16_feed_55 (by decide) (fun _ => ?_) (fun h => absurd (by decide) h)
  refine zz_iload X 0 dX16_feed_62 rfl ?_
  refine zz_bipush X 16 dX16_feed_64 rfl ?_
  refine zz_icmp_ge X 74 dX16_feed_66 (by decide) (fun h => absurd h (by decide)) (fun _ => ?_)
  refine zz_iload X 6 dX16_feed_69 rfl ?_
  refine zz_goto X 76 dX16_feed_71 (by decide) ?_
  refine zz_istore X [(7, .int x5), (6, .int 12), (0, .ref x1), (1, .int x2), (2, .int x3), (3, .int x4), (4, .int x5), (5, .int x6)] dX16_feed_76 (by decide) rfl ?_
  refine zz_aload_n X 2 dX16_feed_78 rfl rfl ?_
  refine zz_get X 0 228 rfl rfl (by decide) (fun w h => List.mem_cons_of_mem _ (zf_X16 w h)) rfl (List.mem_cons_of_mem _ zm_623) (zq_oth (by decide) (zq_oth (by decide) (zq_oth (by decide) (zq_oth (by decide) (zq_oth (by decide) (zq_oth (by decide) (zq_oth (by decide) (zq_oth (by decide) (zq_oth (by decide) (zq_oth (by decide) (zq_oth (by decide) (zq_oth (by decide) (zq_oth (by decide) (hf1_228)))))))))))))) dX16_feed_79 ?_
  refine zz_aload_n X 2 dX16_feed_82 rfl rfl ?_
  refine zz_get X 0 229 rfl rfl (by decide) (fun w h => List.mem_cons_of_mem _ (zf_X16 w h)) rfl (List.mem_cons_of_mem _ zm_656) (zq_same (zq_lt hf1_n (by decide) (by simp only [List.length_set]))) dX16_feed_83 ?_
  refine zz_iload X 0 dX16_feed_86 rfl ?_
  refine zz_bipush X 24 dX16_feed_88 rfl ?_
  refine zz_iload X 1 dX16_feed_90 rfl ?_
  refine zz_iconst X 4 dX16_feed_92 rfl ?_
  refine zz_irem X (0) dX16_feed_93 (by decide) (by decide) ?_
  refine zz_bipush X 8 dX16_feed_94 rfl ?_
  refine zz_imul X (0) dX16_feed_96 (by decide) ?_
  refine zz_isub X (24) dX16_feed_97 (by decide) ?_
  refine zz_ishr X ((x5 >>> (24 &&& 31))) dX16_feed_98 rfl ?_
  refine zz_i2b X ((((x5 >>> (24 &&& 31))).toInt8.toInt32)) dX16_feed_99 rfl ?_
  refine zz_bast X 1 0 rfl rfl (vp_in_nI (n := 12) (by decide) (by decide)) 12 (by decide) ((vp_nar .byte (((x5 >>> (24 &&& 31))).toInt8.toInt32))) rfl dX16_feed_100 [(x1, .inr (16, (((((((((((((f1.set 227 (.int 0)).set 229 (.int 1)).set 229 (.int 2)).set 229 (.int 3)).set 229 (.int 4)).set 229 (.int 5)).set 229 (.int 6)).set 229 (.int 7)).set 229 (.int 8)).set 229 (.int 9)).set 229 (.int 10)).set 229 (.int 11)).set 229 (.int 12)))), (x7, .inl (cA 0, 6000, .inl (upd (upd (upd (upd (upd (upd (upd (upd (upd (upd (upd (upd (upd (fun _ => 0) 0 (vp_nar .byte (((x2 >>> (24 &&& 31))).toInt8.toInt32))) 1 (vp_nar .byte (((x2 >>> (16 &&& 31))).toInt8.toInt32))) 2 (vp_nar .byte (((x2 >>> (8 &&& 31))).toInt8.toInt32))) 3 (vp_nar .byte (((x2 >>> (0 &&& 31))).toInt8.toInt32))) 4 (vp_nar .byte (((x3 >>> (24 &&& 31))).toInt8.toInt32))) 5 (vp_nar .byte (((x3 >>> (16 &&& 31))).toInt8.toInt32))) 6 (vp_nar .byte (((x3 >>> (8 &&& 31))).toInt8.toInt32))) 7 (vp_nar .byte (((x3 >>> (0 &&& 31))).toInt8.toInt32))) 8 (vp_nar .byte (((x4 >>> (24 &&& 31))).toInt8.toInt32))) 9 (vp_nar .byte (((x4 >>> (16 &&& 31))).toInt8.toInt32))) 10 (vp_nar .byte (((x4 >>> (8 &&& 31))).toInt8.toInt32))) 11 (vp_nar .byte (((x4 >>> (0 &&& 31))).toInt8.toInt32))) 12 (vp_nar .byte (((x5 >>> (24 &&& 31))).toInt8.toInt32)))))] rfl ?_
  refine zz_aload_n X 2 dX16_feed_101 rfl rfl ?_
  refine zz_dup X dX16_feed_102 rfl ?_
  refine zz_get X 0 229 rfl rfl (by decide) (fun w h => List.mem_cons_of_mem _ (zf_X16 w h)) rfl (List.mem_cons_of_mem _ zm_656) (zq_same (zq_lt hf1_n (by decide) (by simp only [List.length_set]))) dX16_feed_103 ?_
  refine zz_iconst X 1 dX16_feed_106 rfl ?_
  refine zz_iadd X (13) dX16_feed_107 (by decide) ?_
  refine zz_put X 0 229 rfl rfl (by decide) (fun w h => List.mem_cons_of_mem _ (zf_X16 w h)) rfl (List.mem_cons_of_mem _ zm_656) tyX16 tyX16_ok nmX16 rfl (ty := .int) rfl rfl rfl (zq_lt hf1_n (by decide) (by simp only [List.length_set])) dX16_feed_108 [(x1, .inr (16, ((((((((((((((f1.set 227 (.int 0)).set 229 (.int 1)).set 229 (.int 2)).set 229 (.int 3)).set 229 (.int 4)).set 229 (.int 5)).set 229 (.int 6)).set 229 (.int 7)).set 229 (.int 8)).set 229 (.int 9)).set 229 (.int 10)).set 229 (.int 11)).set 229 (.int 12)).set 229 (.int 13)))), (x7, .inl (cA 0, 6000, .inl (upd (upd (upd (upd (upd (upd (upd (upd (upd (upd (upd (upd (upd (fun _ => 0) 0 (vp_nar .byte (((x2 >>> (24 &&& 31))).toInt8.toInt32))) 1 (vp_nar .byte (((x2 >>> (16 &&& 31))).toInt8.toInt32))) 2 (vp_nar .byte (((x2 >>> (8 &&& 31))).toInt8.toInt32))) 3 (vp_nar .byte (((x2 >>> (0 &&& 31))).toInt8.toInt32))) 4 (vp_nar .byte (((x3 >>> (24 &&& 31))).toInt8.toInt32))) 5 (vp_nar .byte (((x3 >>> (16 &&& 31))).toInt8.toInt32))) 6 (vp_nar .byte (((x3 >>> (8 &&& 31))).toInt8.toInt32))) 7 (vp_nar .byte (((x3 >>> (0 &&& 31))).toInt8.toInt32))) 8 (vp_nar .byte (((x4 >>> (24 &&& 31))).toInt8.toInt32))) 9 (vp_nar .byte (((x4 >>> (16 &&& 31))).toInt8.toInt32))) 10 (vp_nar .byte (((x4 >>> (8 &&& 31))).toInt8.toInt32))) 11 (vp_nar .byte (((x4 >>> (0 &&& 31))).toInt8.toInt32))) 12 (vp_nar .byte (((x5 >>> (24 &&& 31))).toInt8.toInt32)))))] rfl ?_
  refine zz_iinc X 1 (13) [(6, .int 13), (7, .int x5), (0, .ref x1), (1, .int x2), (2, .int x3), (3, .int x4), (4, .int x5), (5, .int x6)] dX16_feed_111 rfl (by decide) (by decide) rfl ?_
  refine zz_goto X 23 dX16_feed_114 (by decide) ?_
  refine zz_iload X 0 dX16_feed_23 rfl ?_
  refine zz_bipush X 20 dX16_feed_25 rfl ?_
  refine zz_icmp_ge X 117 dX16_feed_27 (by decide) (fun h => absurd h (by decide)) (fun _ => ?_)
  refine zz_iload X 0 dX16_feed_30 rfl ?_
  refine zz_iconst X 4 dX16_feed_32 rfl ?_
  refine zz_icmp_ge X 40 dX16_feed_33 (by decide) (fun _ => ?_) (fun h => absurd (by decide) h)
  refine zz_iload X 0 dX16_feed_40 rfl ?_
  refine zz_bipush X 8 dX16_feed_42 rfl ?_
  refine zz_icmp_ge X 51 dX16_feed_44 (by decide) (fun _ => ?_) (fun h => absurd (by decide) h)
  refine zz_iload X 0 dX16_feed_51 rfl ?_
  refine zz_bipush X 12 dX16_feed_53 rfl ?_
  refine zz_icmp_ge X 62 dX16_feed_55 (by decide) (fun _ => ?_) (fun h => absurd (by decide) h)
  refine zz_iload X 0 dX16_feed_62 rfl ?_
  refine zz_bipush X 16 dX16_feed_64 rfl ?_
  refine zz_icmp_ge X 74 dX16_feed_66 (by decide) (fun h => absurd h (by decide)) (fun _ => ?_)
  refine zz_iload X 6 dX16_feed_69 rfl ?_
  refine zz_goto X 76 dX16_feed_71 (by decide) ?_
  refine zz_istore X [(7, .int x5), (6, .int 13), (0, .ref x1), (1, .int x2), (2, .int x3), (3, .int x4), (4, .int x5), (5, .int x6)] dX16_feed_76 (by decide) rfl ?_
  refine zz_aload_n X 2 dX16_feed_78 rfl rfl ?_
  refine zz_get X 0 228 rfl rfl (by decide) (fun w h => List.mem_cons_of_mem _ (zf_X16 w h)) rfl (List.mem_cons_of_mem _ zm_623) (zq_oth (by decide) (zq_oth (by decide) (zq_oth (by decide) (zq_oth (by decide) (zq_oth (by decide) (zq_oth (by decide) (zq_oth (by decide) (zq_oth (by decide) (zq_oth (by decide) (zq_oth (by decide) (zq_oth (by decide) (zq_oth (by decide) (zq_oth (by decide) (zq_oth (by decide) (hf1_228))))))))))))))) dX16_feed_79 ?_
  refine zz_aload_n X 2 dX16_feed_82 rfl rfl ?_
  refine zz_get X 0 229 rfl rfl (by decide) (fun w h => List.mem_cons_of_mem _ (zf_X16 w h)) rfl (List.mem_cons_of_mem _ zm_656) (zq_same (zq_lt hf1_n (by decide) (by simp only [List.length_set]))) dX16_feed_83 ?_
  refine zz_iload X 0 dX16_feed_86 rfl ?_
  refine zz_bipush X 24 dX16_feed_88 rfl ?_
  refine zz_iload X 1 dX16_feed_90 rfl ?_
  refine zz_iconst X 4 dX16_feed_92 rfl ?_
  refine zz_irem X (1) dX16_feed_93 (by decide) (by decide) ?_
  refine zz_bipush X 8 dX16_feed_94 rfl ?_
  refine zz_imul X (8) dX16_feed_96 (by decide) ?_
  refine zz_isub X (16) dX16_feed_97 (by decide) ?_
  refine zz_ishr X ((x5 >>> (16 &&& 31))) dX16_feed_98 rfl ?_
  refine zz_i2b X ((((x5 >>> (16 &&& 31))).toInt8.toInt32)) dX16_feed_99 rfl ?_
  refine zz_bast X 1 0 rfl rfl (vp_in_nI (n := 13) (by decide) (by decide)) 13 (by decide) ((vp_nar .byte (((x5 >>> (16 &&& 31))).toInt8.toInt32))) rfl dX16_feed_100 [(x1, .inr (16, ((((((((((((((f1.set 227 (.int 0)).set 229 (.int 1)).set 229 (.int 2)).set 229 (.int 3)).set 229 (.int 4)).set 229 (.int 5)).set 229 (.int 6)).set 229 (.int 7)).set 229 (.int 8)).set 229 (.int 9)).set 229 (.int 10)).set 229 (.int 11)).set 229 (.int 12)).set 229 (.int 13)))), (x7, .inl (cA 0, 6000, .inl (upd (upd (upd (upd (upd (upd (upd (upd (upd (upd (upd (upd (upd (upd (fun _ => 0) 0 (vp_nar .byte (((x2 >>> (24 &&& 31))).toInt8.toInt32))) 1 (vp_nar .byte (((x2 >>> (16 &&& 31))).toInt8.toInt32))) 2 (vp_nar .byte (((x2 >>> (8 &&& 31))).toInt8.toInt32))) 3 (vp_nar .byte (((x2 >>> (0 &&& 31))).toInt8.toInt32))) 4 (vp_nar .byte (((x3 >>> (24 &&& 31))).toInt8.toInt32))) 5 (vp_nar .byte (((x3 >>> (16 &&& 31))).toInt8.toInt32))) 6 (vp_nar .byte (((x3 >>> (8 &&& 31))).toInt8.toInt32))) 7 (vp_nar .byte (((x3 >>> (0 &&& 31))).toInt8.toInt32))) 8 (vp_nar .byte (((x4 >>> (24 &&& 31))).toInt8.toInt32))) 9 (vp_nar .byte (((x4 >>> (16 &&& 31))).toInt8.toInt32))) 10 (vp_nar .byte (((x4 >>> (8 &&& 31))).toInt8.toInt32))) 11 (vp_nar .byte (((x4 >>> (0 &&& 31))).toInt8.toInt32))) 12 (vp_nar .byte (((x5 >>> (24 &&& 31))).toInt8.toInt32))) 13 (vp_nar .byte (((x5 >>> (16 &&& 31))).toInt8.toInt32)))))] rfl ?_
  refine zz_aload_n X 2 dX16_feed_101 rfl rfl ?_
  refine zz_dup X dX16_feed_102 rfl ?_
  refine zz_get X 0 229 rfl rfl (by decide) (fun w h => List.mem_cons_of_mem _ (zf_X16 w h)) rfl (List.mem_cons_of_mem _ zm_656) (zq_same (zq_lt hf1_n (by decide) (by simp only [List.length_set]))) dX16_feed_103 ?_
  refine zz_iconst X 1 dX16_feed_106 rfl ?_
  refine zz_iadd X (14) dX16_feed_107 (by decide) ?_
  refine zz_put X 0 229 rfl rfl (by decide) (fun w h => List.mem_cons_of_mem _ (zf_X16 w h)) rfl (List.mem_cons_of_mem _ zm_656) tyX16 tyX16_ok nmX16 rfl (ty := .int) rfl rfl rfl (zq_lt hf1_n (by decide) (by simp only [List.length_set])) dX16_feed_108 [(x1, .inr (16, (((((((((((((((f1.set 227 (.int 0)).set 229 (.int 1)).set 229 (.int 2)).set 229 (.int 3)).set 229 (.int 4)).set 229 (.int 5)).set 229 (.int 6)).set 229 (.int 7)).set 229 (.int 8)).set 229 (.int 9)).set 229 (.int 10)).set 229 (.int 11)).set 229 (.int 12)).set 229 (.int 13)).set 229 (.int 14)))), (x7, .inl (cA 0, 6000, .inl (upd (upd (upd (upd (upd (upd (upd (upd (upd (upd (upd (upd (upd (upd (fun _ => 0) 0 (vp_nar .byte (((x2 >>> (24 &&& 31))).toInt8.toInt32))) 1 (vp_nar .byte (((x2 >>> (16 &&& 31))).toInt8.toInt32))) 2 (vp_nar .byte (((x2 >>> (8 &&& 31))).toInt8.toInt32))) 3 (vp_nar .byte (((x2 >>> (0 &&& 31))).toInt8.toInt32))) 4 (vp_nar .byte (((x3 >>> (24 &&& 31))).toInt8.toInt32))) 5 (vp_nar .byte (((x3 >>> (16 &&& 31))).toInt8.toInt32))) 6 (vp_nar .byte (((x3 >>> (8 &&& 31))).toInt8.toInt32))) 7 (vp_nar .byte (((x3 >>> (0 &&& 31))).toInt8.toInt32))) 8 (vp_nar .byte (((x4 >>> (24 &&& 31))).toInt8.toInt32))) 9 (vp_nar .byte (((x4 >>> (16 &&& 31))).toInt8.toInt32))) 10 (vp_nar .byte (((x4 >>> (8 &&& 31))).toInt8.toInt32))) 11 (vp_nar .byte (((x4 >>> (0 &&& 31))).toInt8.toInt32))) 12 (vp_nar .byte (((x5 >>> (24 &&& 31))).toInt8.toInt32))) 13 (vp_nar .byte (((x5 >>> (16 &&& 31))).toInt8.toInt32)))))] rfl ?_
  refine zz_iinc X 1 (14) [(6, .int 14), (7, .int x5), (0, .ref x1), (1, .int x2), (2, .int x3), (3, .int x4), (4, .int x5), (5, .int x6)] dX16_feed_111 rfl (by decide) (by decide) rfl ?_
  refine zz_goto X 23 dX16_feed_114 (by decide) ?_
  refine zz_iload X 0 dX16_feed_23 rfl ?_
  refine zz_bipush X 20 dX16_feed_25 rfl ?_
  refine zz_icmp_ge X 117 dX16_feed_27 (by decide) (fun h => absurd h (by decide)) (fun _ => ?_)
  refine zz_iload X 0 dX16_feed_30 rfl ?_
  refine zz_iconst X 4 dX16_feed_32 rfl ?_
  refine zz_icmp_ge X 40 dX16_feed_33 (by decide) (fun _ => ?_) (fun h => absurd (by decide) h)
  refine zz_iload X 0 dX16_feed_40 rfl ?_
  refine zz_bipush X 8 dX16_feed_42 rfl ?_
  refine zz_icmp_ge X 51 dX16_feed_44 (by decide) (fun _ => ?_) (fun h => absurd (by decide) h)
  refine zz_iload X 0 dX16_feed_51 rfl ?_
  refine zz_bipush X 12 dX16_feed_53 rfl ?_
  refine zz_icmp_ge X 62 dX16_feed_55 (by decide) (fun _ => ?_) (fun h => absurd (by decide) h)
  refine zz_iload X 0 dX16_feed_62 rfl ?_
  refine zz_bipush X 16 dX16_feed_64 rfl ?_
  refine zz_icmp_ge X 74 dX16_feed_66 (by decide) (fun h => absurd h (by decide)) (fun _ => ?_)
  refine zz_iload X 6 dX16_feed_69 rfl ?_
  refine zz_goto X 76 dX16_feed_71 (by decide) ?_
  refine zz_istore X [(7, .int x5), (6, .int 14), (0, .ref x1), (1, .int x2), (2, .int x3), (3, .int x4), (4, .int x5), (5, .int x6)] dX16_feed_76 (by decide) rfl ?_
  refine zz_aload_n X 2 dX16_feed_78 rfl rfl ?_
  refine zz_get X 0 228 rfl rfl (by decide) (fun w h => List.mem_cons_of_mem _ (zf_X16 w h)) rfl (List.mem_cons_of_mem _ zm_623) (zq_oth (by decide) (zq_oth (by decide) (zq_oth (by decide) (zq_oth (by decide) (zq_oth (by decide) (zq_oth (by decide) (zq_oth (by decide) (zq_oth (by decide) (zq_oth (by decide) (zq_oth (by decide) (zq_oth (by decide) (zq_oth (by decide) (zq_oth (by decide) (zq_oth (by decide) (zq_oth (by decide) (hf1_228)))))))))))))))) dX16_feed_79 ?_
  refine zz_aload_n X 2 dX16_feed_82 rfl rfl ?_
  refine zz_get X 0 229 rfl rfl (by decide) (fun w h => List.mem_cons_of_mem _ (zf_X16 w h)) rfl (List.mem_cons_of_mem _ zm_656) (zq_same (zq_lt hf1_n (by decide) (by simp only [List.length_set]))) dX16_feed_83 ?_
  refine zz_iload X 0 dX16_feed_86 rfl ?_
  refine zz_bipush X 24 dX16_feed_88 rfl ?_
  refine zz_iload X 1 dX16_feed_90 rfl ?_
  refine zz_iconst X 4 dX16_feed_92 rfl ?_
  refine zz_irem X (2) dX16_feed_93 (by decide) (by decide) ?_
  refine zz_bipush X 8 dX16_feed_94 rfl ?_
  refine zz_imul X (16) dX16_feed_96 (by decide) ?_
  refine zz_isub X (8) dX16_feed_97 (by decide) ?_
  refine zz_ishr X ((x5 >>> (8 &&& 31))) dX16_feed_98 rfl ?_
  refine zz_i2b X ((((x5 >>> (8 &&& 31))).toInt8.toInt32)) dX16_feed_99 rfl ?_
  refine zz_bast X 1 0 rfl rfl (vp_in_nI (n := 14) (by decide) (by decide)) 14 (by decide) ((vp_nar .byte (((x5 >>> (8 &&& 31))).toInt8.toInt32))) rfl dX16_feed_100 [(x1, .inr (16, (((((((((((((((f1.set 227 (.int 0)).set 229 (.int 1)).set 229 (.int 2)).set 229 (.int 3)).set 229 (.int 4)).set 229 (.int 5)).set 229 (.int 6)).set 229 (.int 7)).set 229 (.int 8)).set 229 (.int 9)).set 229 (.int 10)).set 229 (.int 11)).set 229 (.int 12)).set 229 (.int 13)).set 229 (.int 14)))), (x7, .inl (cA 0, 6000, .inl (upd (upd (upd (upd (upd (upd (upd (upd (upd (upd (upd (upd (upd (upd (upd (fun _ => 0) 0 (vp_nar .byte (((x2 >>> (24 &&& 31))).toInt8.toInt32))) 1 (vp_nar .byte (((x2 >>> (16 &&& 31))).toInt8.toInt32))) 2 (vp_nar .byte (((x2 >>> (8 &&& 31))).toInt8.toInt32))) 3 (vp_nar .byte (((x2 >>> (0 &&& 31))).toInt8.toInt32))) 4 (vp_nar .byte (((x3 >>> (24 &&& 31))).toInt8.toInt32))) 5 (vp_nar .byte (((x3 >>> (16 &&& 31))).toInt8.toInt32))) 6 (vp_nar .byte (((x3 >>> (8 &&& 31))).toInt8.toInt32))) 7 (vp_nar .byte (((x3 >>> (0 &&& 31))).toInt8.toInt32))) 8 (vp_nar .byte (((x4 >>> (24 &&& 31))).toInt8.toInt32))) 9 (vp_nar .byte (((x4 >>> (16 &&& 31))).toInt8.toInt32))) 10 (vp_nar .byte (((x4 >>> (8 &&& 31))).toInt8.toInt32))) 11 (vp_nar .byte (((x4 >>> (0 &&& 31))).toInt8.toInt32))) 12 (vp_nar .byte (((x5 >>> (24 &&& 31))).toInt8.toInt32))) 13 (vp_nar .byte (((x5 >>> (16 &&& 31))).toInt8.toInt32))) 14 (vp_nar .byte (((x5 >>> (8 &&& 31))).toInt8.toInt32)))))] rfl ?_
  refine zz_aload_n X 2 dX16_feed_101 rfl rfl ?_
  refine zz_dup X dX16_feed_102 rfl ?_
  refine zz_get X 0 229 rfl rfl (by decide) (fun w h => List.mem_cons_of_mem _ (zf_X16 w h)) rfl (List.mem_cons_of_mem _ zm_656) (zq_same (zq_lt hf1_n (by decide) (by simp only [List.length_set]))) dX16_feed_103 ?_
  refine zz_iconst X 1 dX16_feed_106 rfl ?_
  refine zz_iadd X (15) dX16_feed_107 (by decide) ?_
  refine zz_put X 0 229 rfl rfl (by decide) (fun w h => List.mem_cons_of_mem _ (zf_X16 w h)) rfl (List.mem_cons_of_mem _ zm_656) tyX16 tyX16_ok nmX16 rfl (ty := .int) rfl rfl rfl (zq_lt hf1_n (by decide) (by simp only [List.length_set])) dX16_feed_108 [(x1, .inr (16, ((((((((((((((((f1.set 227 (.int 0)).set 229 (.int 1)).set 229 (.int 2)).set 229 (.int 3)).set 229 (.int 4)).set 229 (.int 5)).set 229 (.int 6)).set 229 (.int 7)).set 229 (.int 8)).set 229 (.int 9)).set 229 (.int 10)).set 229 (.int 11)).set 229 (.int 12)).set 229 (.int 13)).set 229 (.int 14)).set 229 (.int 15)))), (x7, .inl (cA 0, 6000, .inl (upd (upd (upd (upd (upd (upd (upd (upd (upd (upd (upd (upd (upd (upd (upd (fun _ => 0) 0 (vp_nar .byte (((x2 >>> (24 &&& 31))).toInt8.toInt32))) 1 (vp_nar .byte (((x2 >>> (16 &&& 31))).toInt8.toInt32))) 2 (vp_nar .byte (((x2 >>> (8 &&& 31))).toInt8.toInt32))) 3 (vp_nar .byte (((x2 >>> (0 &&& 31))).toInt8.toInt32))) 4 (vp_nar .byte (((x3 >>> (24 &&& 31))).toInt8.toInt32))) 5 (vp_nar .byte (((x3 >>> (16 &&& 31))).toInt8.toInt32))) 6 (vp_nar .byte (((x3 >>> (8 &&& 31))).toInt8.toInt32))) 7 (vp_nar .byte (((x3 >>> (0 &&& 31))).toInt8.toInt32))) 8 (vp_nar .byte (((x4 >>> (24 &&& 31))).toInt8.toInt32))) 9 (vp_nar .byte (((x4 >>> (16 &&& 31))).toInt8.toInt32))) 10 (vp_nar .byte (((x4 >>> (8 &&& 31))).toInt8.toInt32))) 11 (vp_nar .byte (((x4 >>> (0 &&& 31))).toInt8.toInt32))) 12 (vp_nar .byte (((x5 >>> (24 &&& 31))).toInt8.toInt32))) 13 (vp_nar .byte (((x5 >>> (16 &&& 31))).toInt8.toInt32))) 14 (vp_nar .byte (((x5 >>> (8 &&& 31))).toInt8.toInt32)))))] rfl ?_
  refine zz_iinc X 1 (15) [(6, .int 15), (7, .int x5), (0, .ref x1), (1, .int x2), (2, .int x3), (3, .int x4), (4, .int x5), (5, .int x6)] dX16_feed_111 rfl (by decide) (by decide) rfl ?_
  refine zz_goto X 23 dX16_feed_114 (by decide) ?_
  refine zz_iload X 0 dX16_feed_23 rfl ?_
  refine zz_bipush X 20 dX16_feed_25 rfl ?_
  refine zz_icmp_ge X 117 dX16_feed_27 (by decide) (fun h => absurd h (by decide)) (fun _ => ?_)
  refine zz_iload X 0 dX16_feed_30 rfl ?_
  refine zz_iconst X 4 dX16_feed_32 rfl ?_
  refine zz_icmp_ge X 40 dX16_feed_33 (by decide) (fun _ => ?_) (fun h => absurd (by decide) h)
  refine zz_iload X 0 dX16_feed_40 rfl ?_
  refine zz_bipush X 8 dX16_feed_42 rfl ?_
  refine zz_icmp_ge X 51 dX16_feed_44 (by decide) (fun _ => ?_) (fun h => absurd (by decide) h)
  refine zz_iload X 0 dX16_feed_51 rfl ?_
  refine zz_bipush X 12 dX16_feed_53 rfl ?_
  refine zz_icmp_ge X 62 dX16_feed_55 (by decide) (fun _ => ?_) (fun h => absurd (by decide) h)
  refine zz_iload X 0 dX16_feed_62 rfl ?_
  refine zz_bipush X 16 dX16_feed_64 rfl ?_
  refine zz_icmp_ge X 74 dX16_feed_66 (by decide) (fun h => absurd h (by decide)) (fun _ => ?_)
  refine zz_iload X 6 dX16_feed_69 rfl ?_
  refine zz_goto X 76 dX16_feed_71 (by decide) ?_
  refine zz_istore X [(7, .int x5), (6, .int 15), (0, .ref x1), (1, .int x2), (2, .int x3), (3, .int x4), (4, .int x5), (5, .int x6)] dX16_feed_76 (by decide) rfl ?_
  refine zz_aload_n X 2 dX16_feed_78 rfl rfl ?_
  refine zz_get X 0 228 rfl rfl (by decide) (fun w h => List.mem_cons_of_mem _ (zf_X16 w h)) rfl (List.mem_cons_of_mem _ zm_623) (zq_oth (by decide) (zq_oth (by decide) (zq_oth (by decide) (zq_oth (by decide) (zq_oth (by decide) (zq_oth (by decide) (zq_oth (by decide) (zq_oth (by decide) (zq_oth (by decide) (zq_oth (by decide) (zq_oth (by decide) (zq_oth (by decide) (zq_oth (by decide) (zq_oth (by decide) (zq_oth (by decide) (zq_oth (by decide) (hf1_228))))))))))))))))) dX16_feed_79 ?_
  refine zz_aload_n X 2 dX16_feed_82 rfl rfl ?_
  refine zz_get X 0 229 rfl rfl (by decide) (fun w h => List.mem_cons_of_mem _ (zf_X16 w h)) rfl (List.mem_cons_of_mem _ zm_656) (zq_same (zq_lt hf1_n (by decide) (by simp only [List.length_set]))) dX16_feed_83 ?_
  refine zz_iload X 0 dX16_feed_86 rfl ?_
  refine zz_bipush X 24 dX16_feed_88 rfl ?_
  refine zz_iload X 1 dX16_feed_90 rfl ?_
  refine zz_iconst X 4 dX16_feed_92 rfl ?_
  refine zz_irem X (3) dX16_feed_93 (by decide) (by decide) ?_
  refine zz_bipush X 8 dX16_feed_94 rfl ?_
  refine zz_imul X (24) dX16_feed_96 (by decide) ?_
  refine zz_isub X (0) dX16_feed_97 (by decide) ?_
  refine zz_ishr X ((x5 >>> (0 &&& 31))) dX16_feed_98 rfl ?_
  refine zz_i2b X ((((x5 >>> (0 &&& 31))).toInt8.toInt32)) dX16_feed_99 rfl ?_
  refine zz_bast X 1 0 rfl rfl (vp_in_nI (n := 15) (by decide) (by decide)) 15 (by decide) ((vp_nar .byte (((x5 >>> (0 &&& 31))).toInt8.toInt32))) rfl dX16_feed_100 [(x1, .inr (16, ((((((((((((((((f1.set 227 (.int 0)).set 229 (.int 1)).set 229 (.int 2)).set 229 (.int 3)).set 229 (.int 4)).set 229 (.int 5)).set 229 (.int 6)).set 229 (.int 7)).set 229 (.int 8)).set 229 (.int 9)).set 229 (.int 10)).set 229 (.int 11)).set 229 (.int 12)).set 229 (.int 13)).set 229 (.int 14)).set 229 (.int 15)))), (x7, .inl (cA 0, 6000, .inl (upd (upd (upd (upd (upd (upd (upd (upd (upd (upd (upd (upd (upd (upd (upd (upd (fun _ => 0) 0 (vp_nar .byte (((x2 >>> (24 &&& 31))).toInt8.toInt32))) 1 (vp_nar .byte (((x2 >>> (16 &&& 31))).toInt8.toInt32))) 2 (vp_nar .byte (((x2 >>> (8 &&& 31))).toInt8.toInt32))) 3 (vp_nar .byte (((x2 >>> (0 &&& 31))).toInt8.toInt32))) 4 (vp_nar .byte (((x3 >>> (24 &&& 31))).toInt8.toInt32))) 5 (vp_nar .byte (((x3 >>> (16 &&& 31))).toInt8.toInt32))) 6 (vp_nar .byte (((x3 >>> (8 &&& 31))).toInt8.toInt32))) 7 (vp_nar .byte (((x3 >>> (0 &&& 31))).toInt8.toInt32))) 8 (vp_nar .byte (((x4 >>> (24 &&& 31))).toInt8.toInt32))) 9 (vp_nar .byte (((x4 >>> (16 &&& 31))).toInt8.toInt32))) 10 (vp_nar .byte (((x4 >>> (8 &&& 31))).toInt8.toInt32))) 11 (vp_nar .byte (((x4 >>> (0 &&& 31))).toInt8.toInt32))) 12 (vp_nar .byte (((x5 >>> (24 &&& 31))).toInt8.toInt32))) 13 (vp_nar .byte (((x5 >>> (16 &&& 31))).toInt8.toInt32))) 14 (vp_nar .byte (((x5 >>> (8 &&& 31))).toInt8.toInt32))) 15 (vp_nar .byte (((x5 >>> (0 &&& 31))).toInt8.toInt32)))))] rfl ?_
  refine zz_aload_n X 2 dX16_feed_101 rfl rfl ?_
  refine zz_dup X dX16_feed_102 rfl ?_
  refine zz_get X 0 229 rfl rfl (by decide) (fun w h => List.mem_cons_of_mem _ (zf_X16 w h)) rfl (List.mem_cons_of_mem _ zm_656) (zq_same (zq_lt hf1_n (by decide) (by simp only [List.length_set]))) dX16_feed_103 ?_
  refine zz_iconst X 1 dX16_feed_106 rfl ?_
  refine zz_iadd X (16) dX16_feed_107 (by decide) ?_
  refine zz_put X 0 229 rfl rfl (by decide) (fun w h => List.mem_cons_of_mem _ (zf_X16 w h)) rfl (List.mem_cons_of_mem _ zm_656) tyX16 tyX16_ok nmX16 rfl (ty := .int) rfl rfl rfl (zq_lt hf1_n (by decide) (by simp only [List.length_set])) dX16_feed_108 [(x1, .inr (16, (((((((((((((((((f1.set 227 (.int 0)).set 229 (.int 1)).set 229 (.int 2)).set 229 (.int 3)).set 229 (.int 4)).set 229 (.int 5)).set 229 (.int 6)).set 229 (.int 7)).set 229 (.int 8)).set 229 (.int 9)).set 229 (.int 10)).set 229 (.int 11)).set 229 (.int 12)).set 229 (.int 13)).set 229 (.int 14)).set 229 (.int 15)).set 229 (.int 16)))), (x7, .inl (cA 0, 6000, .inl (upd (upd (upd (upd (upd (upd (upd (upd (upd (upd (upd (upd (upd (upd (upd (upd (fun _ => 0) 0 (vp_nar .byte (((x2 >>> (24 &&& 31))).toInt8.toInt32))) 1 (vp_nar .byte (((x2 >>> (16 &&& 31))).toInt8.toInt32))) 2 (vp_nar .byte (((x2 >>> (8 &&& 31))).toInt8.toInt32))) 3 (vp_nar .byte (((x2 >>> (0 &&& 31))).toInt8.toInt32))) 4 (vp_nar .byte (((x3 >>> (24 &&& 31))).toInt8.toInt32))) 5 (vp_nar .byte (((x3 >>> (16 &&& 31))).toInt8.toInt32))) 6 (vp_nar .byte (((x3 >>> (8 &&& 31))).toInt8.toInt32))) 7 (vp_nar .byte (((x3 >>> (0 &&& 31))).toInt8.toInt32))) 8 (vp_nar .byte (((x4 >>> (24 &&& 31))).toInt8.toInt32))) 9 (vp_nar .byte (((x4 >>> (16 &&& 31))).toInt8.toInt32))) 10 (vp_nar .byte (((x4 >>> (8 &&& 31))).toInt8.toInt32))) 11 (vp_nar .byte (((x4 >>> (0 &&& 31))).toInt8.toInt32))) 12 (vp_nar .byte (((x5 >>> (24 &&& 31))).toInt8.toInt32))) 13 (vp_nar .byte (((x5 >>> (16 &&& 31))).toInt8.toInt32))) 14 (vp_nar .byte (((x5 >>> (8 &&& 31))).toInt8.toInt32))) 15 (vp_nar .byte (((x5 >>> (0 &&& 31))).toInt8.toInt32)))))] rfl ?_
  refine zz_iinc X 1 (16) [(6, .int 16), (7, .int x5), (0, .ref x1), (1, .int x2), (2, .int x3), (3, .int x4), (4, .int x5), (5, .int x6)] dX16_feed_111 rfl (by decide) (by decide) rfl ?_
  refine zz_goto X 23 dX16_feed_114 (by decide) ?_
  refine zz_iload X 0 dX16_feed_23 rfl ?_
  refine zz_bipush X 20 dX16_feed_25 rfl ?_
  refine zz_icmp_ge X 117 dX16_feed_27 (by decide) (fun h => absurd h (by decide)) (fun _ => ?_)
  refine zz_iload X 0 dX16_feed_30 rfl ?_
  refine zz_iconst X 4 dX16_feed_32 rfl ?_
  refine zz_icmp_ge X 40 dX16_feed_33 (by decide) (fun _ => ?_) (fun h => absurd (by decide) h)
  refine zz_iload X 0 dX16_feed_40 rfl ?_
  refine zz_bipush X 8 dX16_feed_42 rfl ?_
  refine zz_icmp_ge X 51 dX16_feed_44 (by decide) (fun _ => ?_) (fun h => absurd (by decide) h)
  refine zz_iload X 0 dX16_feed_51 rfl ?_
  refine zz_bipush X 12 dX16_feed_53 rfl ?_
  refine zz_icmp_ge X 62 dX16_feed_55 (by decide) (fun _ => ?_) (fun h => absurd (by decide) h)
  refine zz_iload X 0 dX16_feed_62 rfl ?_
  refine zz_bipush X 16 dX16_feed_64 rfl ?_
  refine zz_icmp_ge X 74 dX16_feed_66 (by decide) (fun _ => ?_) (fun h => absurd (by decide) h)
  refine zz_iload X 7 dX16_feed_74 rfl ?_
  refine zz_istore X [(7, .int x6), (6, .int 16), (0, .ref x1), (1, .int x2), (2, .int x3), (3, .int x4), (4, .int x5), (5, .int x6)] dX16_feed_76 (by decide) rfl ?_
  refine zz_aload_n X 2 dX16_feed_78 rfl rfl ?_
  refine zz_get X 0 228 rfl rfl (by decide) (fun w h => List.mem_cons_of_mem _ (zf_X16 w h)) rfl (List.mem_cons_of_mem _ zm_623) (zq_oth (by decide) (zq_oth (by decide) (zq_oth (by decide) (zq_oth (by decide) (zq_oth (by decide) (zq_oth (by decide) (zq_oth (by decide) (zq_oth (by decide) (zq_oth (by decide) (zq_oth (by decide) (zq_oth (by decide) (zq_oth (by decide) (zq_oth (by decide) (zq_oth (by decide) (zq_oth (by decide) (zq_oth (by decide) (zq_oth (by decide) (hf1_228)))))))))))))))))) dX16_feed_79 ?_
  refine zz_aload_n X 2 dX16_feed_82 rfl rfl ?_
  refine zz_get X 0 229 rfl rfl (by decide) (fun w h => List.mem_cons_of_mem _ (zf_X16 w h)) rfl (List.mem_cons_of_mem _ zm_656) (zq_same (zq_lt hf1_n (by decide) (by simp only [List.length_set]))) dX16_feed_83 ?_
  refine zz_iload X 0 dX16_feed_86 rfl ?_
  refine zz_bipush X 24 dX16_feed_88 rfl ?_
  refine zz_iload X 1 dX16_feed_90 rfl ?_
  refine zz_iconst X 4 dX16_feed_92 rfl ?_
  refine zz_irem X (0) dX16_feed_93 (by decide) (by decide) ?_
  refine zz_bipush X 8 dX16_feed_94 rfl ?_
  refine zz_imul X (0) dX16_feed_96 (by decide) ?_
  refine zz_isub X (24) dX16_feed_97 (by decide) ?_
  refine zz_ishr X ((x6 >>> (24 &&& 31))) dX16_feed_98 rfl ?_
  refine zz_i2b X ((((x6 >>> (24 &&& 31))).toInt8.toInt32)) dX16_feed_99 rfl ?_
  refine zz_bast X 1 0 rfl rfl (vp_in_nI (n := 16) (by decide) (by decide)) 16 (by decide) ((vp_nar .byte (((x6 >>> (24 &&& 31))).toInt8.toInt32))) rfl dX16_feed_100 [(x1, .inr (16, (((((((((((((((((f1.set 227 (.int 0)).set 229 (.int 1)).set 229 (.int 2)).set 229 (.int 3)).set 229 (.int 4)).set 229 (.int 5)).set 229 (.int 6)).set 229 (.int 7)).set 229 (.int 8)).set 229 (.int 9)).set 229 (.int 10)).set 229 (.int 11)).set 229 (.int 12)).set 229 (.int 13)).set 229 (.int 14)).set 229 (.int 15)).set 229 (.int 16)))), (x7, .inl (cA 0, 6000, .inl (upd (upd (upd (upd (upd (upd (upd (upd (upd (upd (upd (upd (upd (upd (upd (upd (upd (fun _ => 0) 0 (vp_nar .byte (((x2 >>> (24 &&& 31))).toInt8.toInt32))) 1 (vp_nar .byte (((x2 >>> (16 &&& 31))).toInt8.toInt32))) 2 (vp_nar .byte (((x2 >>> (8 &&& 31))).toInt8.toInt32))) 3 (vp_nar .byte (((x2 >>> (0 &&& 31))).toInt8.toInt32))) 4 (vp_nar .byte (((x3 >>> (24 &&& 31))).toInt8.toInt32))) 5 (vp_nar .byte (((x3 >>> (16 &&& 31))).toInt8.toInt32))) 6 (vp_nar .byte (((x3 >>> (8 &&& 31))).toInt8.toInt32))) 7 (vp_nar .byte (((x3 >>> (0 &&& 31))).toInt8.toInt32))) 8 (vp_nar .byte (((x4 >>> (24 &&& 31))).toInt8.toInt32))) 9 (vp_nar .byte (((x4 >>> (16 &&& 31))).toInt8.toInt32))) 10 (vp_nar .byte (((x4 >>> (8 &&& 31))).toInt8.toInt32))) 11 (vp_nar .byte (((x4 >>> (0 &&& 31))).toInt8.toInt32))) 12 (vp_nar .byte (((x5 >>> (24 &&& 31))).toInt8.toInt32))) 13 (vp_nar .byte (((x5 >>> (16 &&& 31))).toInt8.toInt32))) 14 (vp_nar .byte (((x5 >>> (8 &&& 31))).toInt8.toInt32))) 15 (vp_nar .byte (((x5 >>> (0 &&& 31))).toInt8.toInt32))) 16 (vp_nar .byte (((x6 >>> (24 &&& 31))).toInt8.toInt32)))))] rfl ?_
  refine zz_aload_n X 2 dX16_feed_101 rfl rfl ?_
  refine zz_dup X dX16_feed_102 rfl ?_
  refine zz_get X 0 229 rfl rfl (by decide) (fun w h => List.mem_cons_of_mem _ (zf_X16 w h)) rfl (List.mem_cons_of_mem _ zm_656) (zq_same (zq_lt hf1_n (by decide) (by simp only [List.length_set]))) dX16_feed_103 ?_
  refine zz_iconst X 1 dX16_feed_106 rfl ?_
  refine zz_iadd X (17) dX16_feed_107 (by decide) ?_
  refine zz_put X 0 229 rfl rfl (by decide) (fun w h => List.mem_cons_of_mem _ (zf_X16 w h)) rfl (List.mem_cons_of_mem _ zm_656) tyX16 tyX16_ok nmX16 rfl (ty := .int) rfl rfl rfl (zq_lt hf1_n (by decide) (by simp only [List.length_set])) dX16_feed_108 [(x1, .inr (16, ((((((((((((((((((f1.set 227 (.int 0)).set 229 (.int 1)).set 229 (.int 2)).set 229 (.int 3)).set 229 (.int 4)).set 229 (.int 5)).set 229 (.int 6)).set 229 (.int 7)).set 229 (.int 8)).set 229 (.int 9)).set 229 (.int 10)).set 229 (.int 11)).set 229 (.int 12)).set 229 (.int 13)).set 229 (.int 14)).set 229 (.int 15)).set 229 (.int 16)).set 229 (.int 17)))), (x7, .inl (cA 0, 6000, .inl (upd (upd (upd (upd (upd (upd (upd (upd (upd (upd (upd (upd (upd (upd (upd (upd (upd (fun _ => 0) 0 (vp_nar .byte (((x2 >>> (24 &&& 31))).toInt8.toInt32))) 1 (vp_nar .byte (((x2 >>> (16 &&& 31))).toInt8.toInt32))) 2 (vp_nar .byte (((x2 >>> (8 &&& 31))).toInt8.toInt32))) 3 (vp_nar .byte (((x2 >>> (0 &&& 31))).toInt8.toInt32))) 4 (vp_nar .byte (((x3 >>> (24 &&& 31))).toInt8.toInt32))) 5 (vp_nar .byte (((x3 >>> (16 &&& 31))).toInt8.toInt32))) 6 (vp_nar .byte (((x3 >>> (8 &&& 31))).toInt8.toInt32))) 7 (vp_nar .byte (((x3 >>> (0 &&& 31))).toInt8.toInt32))) 8 (vp_nar .byte (((x4 >>> (24 &&& 31))).toInt8.toInt32))) 9 (vp_nar .byte (((x4 >>> (16 &&& 31))).toInt8.toInt32))) 10 (vp_nar .byte (((x4 >>> (8 &&& 31))).toInt8.toInt32))) 11 (vp_nar .byte (((x4 >>> (0 &&& 31))).toInt8.toInt32))) 12 (vp_nar .byte (((x5 >>> (24 &&& 31))).toInt8.toInt32))) 13 (vp_nar .byte (((x5 >>> (16 &&& 31))).toInt8.toInt32))) 14 (vp_nar .byte (((x5 >>> (8 &&& 31))).toInt8.toInt32))) 15 (vp_nar .byte (((x5 >>> (0 &&& 31))).toInt8.toInt32))) 16 (vp_nar .byte (((x6 >>> (24 &&& 31))).toInt8.toInt32)))))] rfl ?_
  refine zz_iinc X 1 (17) [(6, .int 17), (7, .int x6), (0, .ref x1), (1, .int x2), (2, .int x3), (3, .int x4), (4, .int x5), (5, .int x6)] dX16_feed_111 rfl (by decide) (by decide) rfl ?_
  refine zz_goto X 23 dX16_feed_114 (by decide) ?_
  refine zz_iload X 0 dX16_feed_23 rfl ?_
  refine zz_bipush X 20 dX16_feed_25 rfl ?_
  refine zz_icmp_ge X 117 dX16_feed_27 (by decide) (fun h => absurd h (by decide)) (fun _ => ?_)
  refine zz_iload X 0 dX16_feed_30 rfl ?_
  refine zz_iconst X 4 dX16_feed_32 rfl ?_
  refine zz_icmp_ge X 40 dX16_feed_33 (by decide) (fun _ => ?_) (fun h => absurd (by decide) h)
  refine zz_iload X 0 dX16_feed_40 rfl ?_
  refine zz_bipush X 8 dX16_feed_42 rfl ?_
  refine zz_icmp_ge X 51 dX16_feed_44 (by decide) (fun _ => ?_) (fun h => absurd (by decide) h)
  refine zz_iload X 0 dX16_feed_51 rfl ?_
  refine zz_bipush X 12 dX16_feed_53 rfl ?_
  refine zz_icmp_ge X 62 dX16_feed_55 (by decide) (fun _ => ?_) (fun h => absurd (by decide) h)
  refine zz_iload X 0 dX16_feed_62 rfl ?_
  refine zz_bipush X 16 dX16_feed_64 rfl ?_
  refine zz_icmp_ge X 74 dX16_feed_66 (by decide) (fun _ => ?_) (fun h => absurd (by decide) h)
  refine zz_iload X 7 dX16_feed_74 rfl ?_
  refine zz_istore X [(7, .int x6), (6, .int 17), (0, .ref x1), (1, .int x2), (2, .int x3), (3, .int x4), (4, .int x5), (5, .int x6)] dX16_feed_76 (by decide) rfl ?_
  refine zz_aload_n X 2 dX16_feed_78 rfl rfl ?_
  refine zz_get X 0 228 rfl rfl (by decide) (fun w h => List.mem_cons_of_mem _ (zf_X16 w h)) rfl (List.mem_cons_of_mem _ zm_623) (zq_oth (by decide) (zq_oth (by decide) (zq_oth (by decide) (zq_oth (by decide) (zq_oth (by decide) (zq_oth (by decide) (zq_oth (by decide) (zq_oth (by decide) (zq_oth (by decide) (zq_oth (by decide) (zq_oth (by decide) (zq_oth (by decide) (zq_oth (by decide) (zq_oth (by decide) (zq_oth (by decide) (zq_oth (by decide) (zq_oth (by decide) (zq_oth (by decide) (hf1_228))))))))))))))))))) dX16_feed_79 ?_
  refine zz_aload_n X 2 dX16_feed_82 rfl rfl ?_
  refine zz_get X 0 229 rfl rfl (by decide) (fun w h => List.mem_cons_of_mem _ (zf_X16 w h)) rfl (List.mem_cons_of_mem _ zm_656) (zq_same (zq_lt hf1_n (by decide) (by simp only [List.length_set]))) dX16_feed_83 ?_
  refine zz_iload X 0 dX16_feed_86 rfl ?_
  refine zz_bipush X 24 dX16_feed_88 rfl ?_
  refine zz_iload X 1 dX16_feed_90 rfl ?_
  refine zz_iconst X 4 dX16_feed_92 rfl ?_
  refine zz_irem X (1) dX16_feed_93 (by decide) (by decide) ?_
  refine zz_bipush X 8 dX16_feed_94 rfl ?_
  refine zz_imul X (8) dX16_feed_96 (by decide) ?_
  refine zz_isub X (16) dX16_feed_97 (by decide) ?_
  refine zz_ishr X ((x6 >>> (16 &&& 31))) dX16_feed_98 rfl ?_
  refine zz_i2b X ((((x6 >>> (16 &&& 31))).toInt8.toInt32)) dX16_feed_99 rfl ?_
  refine zz_bast X 1 0 rfl rfl (vp_in_nI (n := 17) (by decide) (by decide)) 17 (by decide) ((vp_nar .byte (((x6 >>> (16 &&& 31))).toInt8.toInt32))) rfl dX16_feed_100 [(x1, .inr (16, ((((((((((((((((((f1.set 227 (.int 0)).set 229 (.int 1)).set 229 (.int 2)).set 229 (.int 3)).set 229 (.int 4)).set 229 (.int 5)).set 229 (.int 6)).set 229 (.int 7)).set 229 (.int 8)).set 229 (.int 9)).set 229 (.int 10)).set 229 (.int 11)).set 229 (.int 12)).set 229 (.int 13)).set 229 (.int 14)).set 229 (.int 15)).set 229 (.int 16)).set 229 (.int 17)))), (x7, .inl (cA 0, 6000, .inl (upd (upd (upd (upd (upd (upd (upd (upd (upd (upd (upd (upd (upd (upd (upd (upd (upd (upd (fun _ => 0) 0 (vp_nar .byte (((x2 >>> (24 &&& 31))).toInt8.toInt32))) 1 (vp_nar .byte (((x2 >>> (16 &&& 31))).toInt8.toInt32))) 2 (vp_nar .byte (((x2 >>> (8 &&& 31))).toInt8.toInt32))) 3 (vp_nar .byte (((x2 >>> (0 &&& 31))).toInt8.toInt32))) 4 (vp_nar .byte (((x3 >>> (24 &&& 31))).toInt8.toInt32))) 5 (vp_nar .byte (((x3 >>> (16 &&& 31))).toInt8.toInt32))) 6 (vp_nar .byte (((x3 >>> (8 &&& 31))).toInt8.toInt32))) 7 (vp_nar .byte (((x3 >>> (0 &&& 31))).toInt8.toInt32))) 8 (vp_nar .byte (((x4 >>> (24 &&& 31))).toInt8.toInt32))) 9 (vp_nar .byte (((x4 >>> (16 &&& 31))).toInt8.toInt32))) 10 (vp_nar .byte (((x4 >>> (8 &&& 31))).toInt8.toInt32))) 11 (vp_nar .byte (((x4 >>> (0 &&& 31))).toInt8.toInt32))) 12 (vp_nar .byte (((x5 >>> (24 &&& 31))).toInt8.toInt32))) 13 (vp_nar .byte (((x5 >>> (16 &&& 31))).toInt8.toInt32))) 14 (vp_nar .byte (((x5 >>> (8 &&& 31))).toInt8.toInt32))) 15 (vp_nar .byte (((x5 >>> (0 &&& 31))).toInt8.toInt32))) 16 (vp_nar .byte (((x6 >>> (24 &&& 31))).toInt8.toInt32))) 17 (vp_nar .byte (((x6 >>> (16 &&& 31))).toInt8.toInt32)))))] rfl ?_
  refine zz_aload_n X 2 dX16_feed_101 rfl rfl ?_
  refine zz_dup X dX16_feed_102 rfl ?_
  refine zz_get X 0 229 rfl rfl (by decide) (fun w h => List.mem_cons_of_mem _ (zf_X16 w h)) rfl (List.mem_cons_of_mem _ zm_656) (zq_same (zq_lt hf1_n (by decide) (by simp only [List.length_set]))) dX16_feed_103 ?_
  refine zz_iconst X 1 dX16_feed_106 rfl ?_
  refine zz_iadd X (18) dX16_feed_107 (by decide) ?_
  refine zz_put X 0 229 rfl rfl (by decide) (fun w h => List.mem_cons_of_mem _ (zf_X16 w h)) rfl (List.mem_cons_of_mem _ zm_656) tyX16 tyX16_ok nmX16 rfl (ty := .int) rfl rfl rfl (zq_lt hf1_n (by decide) (by simp only [List.length_set])) dX16_feed_108 [(x1, .inr (16, (((((((((((((((((((f1.set 227 (.int 0)).set 229 (.int 1)).set 229 (.int 2)).set 229 (.int 3)).set 229 (.int 4)).set 229 (.int 5)).set 229 (.int 6)).set 229 (.int 7)).set 229 (.int 8)).set 229 (.int 9)).set 229 (.int 10)).set 229 (.int 11)).set 229 (.int 12)).set 229 (.int 13)).set 229 (.int 14)).set 229 (.int 15)).set 229 (.int 16)).set 229 (.int 17)).set 229 (.int 18)))), (x7, .inl (cA 0, 6000, .inl (upd (upd (upd (upd (upd (upd (upd (upd (upd (upd (upd (upd (upd (upd (upd (upd (upd (upd (fun _ => 0) 0 (vp_nar .byte (((x2 >>> (24 &&& 31))).toInt8.toInt32))) 1 (vp_nar .byte (((x2 >>> (16 &&& 31))).toInt8.toInt32))) 2 (vp_nar .byte (((x2 >>> (8 &&& 31))).toInt8.toInt32))) 3 (vp_nar .byte (((x2 >>> (0 &&& 31))).toInt8.toInt32))) 4 (vp_nar .byte (((x3 >>> (24 &&& 31))).toInt8.toInt32))) 5 (vp_nar .byte (((x3 >>> (16 &&& 31))).toInt8.toInt32))) 6 (vp_nar .byte (((x3 >>> (8 &&& 31))).toInt8.toInt32))) 7 (vp_nar .byte (((x3 >>> (0 &&& 31))).toInt8.toInt32))) 8 (vp_nar .byte (((x4 >>> (24 &&& 31))).toInt8.toInt32))) 9 (vp_nar .byte (((x4 >>> (16 &&& 31))).toInt8.toInt32))) 10 (vp_nar .byte (((x4 >>> (8 &&& 31))).toInt8.toInt32))) 11 (vp_nar .byte (((x4 >>> (0 &&& 31))).toInt8.toInt32))) 12 (vp_nar .byte (((x5 >>> (24 &&& 31))).toInt8.toInt32))) 13 (vp_nar .byte (((x5 >>> (16 &&& 31))).toInt8.toInt32))) 14 (vp_nar .byte (((x5 >>> (8 &&& 31))).toInt8.toInt32))) 15 (vp_nar .byte (((x5 >>> (0 &&& 31))).toInt8.toInt32))) 16 (vp_nar .byte (((x6 >>> (24 &&& 31))).toInt8.toInt32))) 17 (vp_nar .byte (((x6 >>> (16 &&& 31))).toInt8.toInt32)))))] rfl ?_
  refine zz_iinc X 1 (18) [(6, .int 18), (7, .int x6), (0, .ref x1), (1, .int x2), (2, .int x3), (3, .int x4), (4, .int x5), (5, .int x6)] dX16_feed_111 rfl (by decide) (by decide) rfl ?_
  refine zz_goto X 23 dX16_feed_114 (by decide) ?_
  refine zz_iload X 0 dX16_feed_23 rfl ?_
  refine zz_bipush X 20 dX16_feed_25 rfl ?_
  refine zz_icmp_ge X 117 dX16_feed_27 (by decide) (fun h => absurd h (by decide)) (fun _ => ?_)
  refine zz_iload X 0 dX16_feed_30 rfl ?_
  refine zz_iconst X 4 dX16_feed_32 rfl ?_
  refine zz_icmp_ge X 40 dX16_feed_33 (by decide) (fun _ => ?_) (fun h => absurd (by decide) h)
  refine zz_iload X 0 dX16_feed_40 rfl ?_
  refine zz_bipush X 8 dX16_feed_42 rfl ?_
  refine zz_icmp_ge X 51 dX16_feed_44 (by decide) (fun _ => ?_) (fun h => absurd (by decide) h)
  refine zz_iload X 0 dX16_feed_51 rfl ?_
  refine zz_bipush X 12 dX16_feed_53 rfl ?_
  refine zz_icmp_ge X 62 dX16_feed_55 (by decide) (fun _ => ?_) (fun h => absurd (by decide) h)
  refine zz_iload X 0 dX16_feed_62 rfl ?_
  refine zz_bipush X 16 dX16_feed_64 rfl ?_
  refine zz_icmp_ge X 74 dX16_feed_66 (by decide) (fun _ => ?_) (fun h => absurd (by decide) h)
  refine zz_iload X 7 dX16_feed_74 rfl ?_
  refine zz_istore X [(7, .int x6), (6, .int 18), (0, .ref x1), (1, .int x2), (2, .int x3), (3, .int x4), (4, .int x5), (5, .int x6)] dX16_feed_76 (by decide) rfl ?_
  refine zz_aload_n X 2 dX16_feed_78 rfl rfl ?_
  refine zz_get X 0 228 rfl rfl (by decide) (fun w h => List.mem_cons_of_mem _ (zf_X16 w h)) rfl (List.mem_cons_of_mem _ zm_623) (zq_oth (by decide) (zq_oth (by decide) (zq_oth (by decide) (zq_oth (by decide) (zq_oth (by decide) (zq_oth (by decide) (zq_oth (by decide) (zq_oth (by decide) (zq_oth (by decide) (zq_oth (by decide) (zq_oth (by decide) (zq_oth (by decide) (zq_oth (by decide) (zq_oth (by decide) (zq_oth (by decide) (zq_oth (by decide) (zq_oth (by decide) (zq_oth (by decide) (zq_oth (by decide) (hf1_228)))))))))))))))))))) dX16_feed_79 ?_
  refine zz_aload_n X 2 dX16_feed_82 rfl rfl ?_
  refine zz_get X 0 229 rfl rfl (by decide) (fun w h => List.mem_cons_of_mem _ (zf_X16 w h)) rfl (List.mem_cons_of_mem _ zm_656) (zq_same (zq_lt hf1_n (by decide) (by simp only [List.length_set]))) dX16_feed_83 ?_
  refine zz_iload X 0 dX16_feed_86 rfl ?_
  refine zz_bipush X 24 dX16_feed_88 rfl ?_
  refine zz_iload X 1 dX16_feed_90 rfl ?_
  refine zz_iconst X 4 dX16_feed_92 rfl ?_
  refine zz_irem X (2) dX16_feed_93 (by decide) (by decide) ?_
  refine zz_bipush X 8 dX16_feed_94 rfl ?_
  refine zz_imul X (16) dX16_feed_96 (by decide) ?_
  refine zz_isub X (8) dX16_feed_97 (by decide) ?_
  refine zz_ishr X ((x6 >>> (8 &&& 31))) dX16_feed_98 rfl ?_
  refine zz_i2b X ((((x6 >>> (8 &&& 31))).toInt8.toInt32)) dX16_feed_99 rfl ?_
  refine zz_bast X 1 0 rfl rfl (vp_in_nI (n := 18) (by decide) (by decide)) 18 (by decide) ((vp_nar .byte (((x6 >>> (8 &&& 31))).toInt8.toInt32))) rfl dX16_feed_100 [(x1, .inr (16, (((((((((((((((((((f1.set 227 (.int 0)).set 229 (.int 1)).set 229 (.int 2)).set 229 (.int 3)).set 229 (.int 4)).set 229 (.int 5)).set 229 (.int 6)).set 229 (.int 7)).set 229 (.int 8)).set 229 (.int 9)).set 229 (.int 10)).set 229 (.int 11)).set 229 (.int 12)).set 229 (.int 13)).set 229 (.int 14)).set 229 (.int 15)).set 229 (.int 16)).set 229 (.int 17)).set 229 (.int 18)))), (x7, .inl (cA 0, 6000, .inl (upd (upd (upd (upd (upd (upd (upd (upd (upd (upd (upd (upd (upd (upd (upd (upd (upd (upd (upd (fun _ => 0) 0 (vp_nar .byte (((x2 >>> (24 &&& 31))).toInt8.toInt32))) 1 (vp_nar .byte (((x2 >>> (16 &&& 31))).toInt8.toInt32))) 2 (vp_nar .byte (((x2 >>> (8 &&& 31))).toInt8.toInt32))) 3 (vp_nar .byte (((x2 >>> (0 &&& 31))).toInt8.toInt32))) 4 (vp_nar .byte (((x3 >>> (24 &&& 31))).toInt8.toInt32))) 5 (vp_nar .byte (((x3 >>> (16 &&& 31))).toInt8.toInt32))) 6 (vp_nar .byte (((x3 >>> (8 &&& 31))).toInt8.toInt32))) 7 (vp_nar .byte (((x3 >>> (0 &&& 31))).toInt8.toInt32))) 8 (vp_nar .byte (((x4 >>> (24 &&& 31))).toInt8.toInt32))) 9 (vp_nar .byte (((x4 >>> (16 &&& 31))).toInt8.toInt32))) 10 (vp_nar .byte (((x4 >>> (8 &&& 31))).toInt8.toInt32))) 11 (vp_nar .byte (((x4 >>> (0 &&& 31))).toInt8.toInt32))) 12 (vp_nar .byte (((x5 >>> (24 &&& 31))).toInt8.toInt32))) 13 (vp_nar .byte (((x5 >>> (16 &&& 31))).toInt8.toInt32))) 14 (vp_nar .byte (((x5 >>> (8 &&& 31))).toInt8.toInt32))) 15 (vp_nar .byte (((x5 >>> (0 &&& 31))).toInt8.toInt32))) 16 (vp_nar .byte (((x6 >>> (24 &&& 31))).toInt8.toInt32))) 17 (vp_nar .byte (((x6 >>> (16 &&& 31))).toInt8.toInt32))) 18 (vp_nar .byte (((x6 >>> (8 &&& 31))).toInt8.toInt32)))))] rfl ?_
  refine zz_aload_n X 2 dX16_feed_101 rfl rfl ?_
  refine zz_dup X dX16_feed_102 rfl ?_
  refine zz_get X 0 229 rfl rfl (by decide) (fun w h => List.mem_cons_of_mem _ (zf_X16 w h)) rfl (List.mem_cons_of_mem _ zm_656) (zq_same (zq_lt hf1_n (by decide) (by simp only [List.length_set]))) dX16_feed_103 ?_
  refine zz_iconst X 1 dX16_feed_106 rfl ?_
  refine zz_iadd X (19) dX16_feed_107 (by decide) ?_
  refine zz_put X 0 229 rfl rfl (by decide) (fun w h => List.mem_cons_of_mem _ (zf_X16 w h)) rfl (List.mem_cons_of_mem _ zm_656) tyX16 tyX16_ok nmX16 rfl (ty := .int) rfl rfl rfl (zq_lt hf1_n (by decide) (by simp only [List.length_set])) dX16_feed_108 [(x1, .inr (16, ((((((((((((((((((((f1.set 227 (.int 0)).set 229 (.int 1)).set 229 (.int 2)).set 229 (.int 3)).set 229 (.int 4)).set 229 (.int 5)).set 229 (.int 6)).set 229 (.int 7)).set 229 (.int 8)).set 229 (.int 9)).set 229 (.int 10)).set 229 (.int 11)).set 229 (.int 12)).set 229 (.int 13)).set 229 (.int 14)).set 229 (.int 15)).set 229 (.int 16)).set 229 (.int 17)).set 229 (.int 18)).set 229 (.int 19)))), (x7, .inl (cA 0, 6000, .inl (upd (upd (upd (upd (upd (upd (upd (upd (upd (upd (upd (upd (upd (upd (upd (upd (upd (upd (upd (fun _ => 0) 0 (vp_nar .byte (((x2 >>> (24 &&& 31))).toInt8.toInt32))) 1 (vp_nar .byte (((x2 >>> (16 &&& 31))).toInt8.toInt32))) 2 (vp_nar .byte (((x2 >>> (8 &&& 31))).toInt8.toInt32))) 3 (vp_nar .byte (((x2 >>> (0 &&& 31))).toInt8.toInt32))) 4 (vp_nar .byte (((x3 >>> (24 &&& 31))).toInt8.toInt32))) 5 (vp_nar .byte (((x3 >>> (16 &&& 31))).toInt8.toInt32))) 6 (vp_nar .byte (((x3 >>> (8 &&& 31))).toInt8.toInt32))) 7 (vp_nar .byte (((x3 >>> (0 &&& 31))).toInt8.toInt32))) 8 (vp_nar .byte (((x4 >>> (24 &&& 31))).toInt8.toInt32))) 9 (vp_nar .byte (((x4 >>> (16 &&& 31))).toInt8.toInt32))) 10 (vp_nar .byte (((x4 >>> (8 &&& 31))).toInt8.toInt32))) 11 (vp_nar .byte (((x4 >>> (0 &&& 31))).toInt8.toInt32))) 12 (vp_nar .byte (((x5 >>> (24 &&& 31))).toInt8.toInt32))) 13 (vp_nar .byte (((x5 >>> (16 &&& 31))).toInt8.toInt32))) 14 (vp_nar .byte (((x5 >>> (8 &&& 31))).toInt8.toInt32))) 15 (vp_nar .byte (((x5 >>> (0 &&& 31))).toInt8.toInt32))) 16 (vp_nar .byte (((x6 >>> (24 &&& 31))).toInt8.toInt32))) 17 (vp_nar .byte (((x6 >>> (16 &&& 31))).toInt8.toInt32))) 18 (vp_nar .byte (((x6 >>> (8 &&& 31))).toInt8.toInt32)))))] rfl ?_
  refine zz_iinc X 1 (19) [(6, .int 19), (7, .int x6), (0, .ref x1), (1, .int x2), (2, .int x3), (3, .int x4), (4, .int x5), (5, .int x6)] dX16_feed_111 rfl (by decide) (by decide) rfl ?_
  refine zz_goto X 23 dX16_feed_114 (by decide) ?_
  refine zz_iload X 0 dX16_feed_23 rfl ?_
  refine zz_bipush X 20 dX16_feed_25 rfl ?_
  refine zz_icmp_ge X 117 dX16_feed_27 (by decide) (fun h => absurd h (by decide)) (fun _ => ?_)
  refine zz_iload X 0 dX16_feed_30 rfl ?_
  refine zz_iconst X 4 dX16_feed_32 rfl ?_
  refine zz_icmp_ge X 40 dX16_feed_33 (by decide) (fun _ => ?_) (fun h => absurd (by decide) h)
  refine zz_iload X 0 dX16_feed_40 rfl ?_
  refine zz_bipush X 8 dX16_feed_42 rfl ?_
  refine zz_icmp_ge X 51 dX16_feed_44 (by decide) (fun _ => ?_) (fun h => absurd (by decide) h)
  refine zz_iload X 0 dX16_feed_51 rfl ?_
  refine zz_bipush X 12 dX16_feed_53 rfl ?_
  refine zz_icmp_ge X 62 dX16_feed_55 (by decide) (fun _ => ?_) (fun h => absurd (by decide) h)
  refine zz_iload X 0 dX16_feed_62 rfl ?_
  refine zz_bipush X 16 dX16_feed_64 rfl ?_
  refine zz_icmp_ge X 74 dX16_feed_66 (by decide) (fun _ => ?_) (fun h => absurd (by decide) h)
  refine zz_iload X 7 dX16_feed_74 rfl ?_
  refine zz_istore X [(7, .int x6), (6, .int 19), (0, .ref x1), (1, .int x2), (2, .int x3), (3, .int x4), (4, .int x5), (5, .int x6)] dX16_feed_76 (by decide) rfl ?_
  refine zz_aload_n X 2 dX16_feed_78 rfl rfl ?_
  refine zz_get X 0 228 rfl rfl (by decide) (fun w h => List.mem_cons_of_mem _ (zf_X16 w h)) rfl (List.mem_cons_of_mem _ zm_623) (zq_oth (by decide) (zq_oth (by decide) (zq_oth (by decide) (zq_oth (by decide) (zq_oth (by decide) (zq_oth (by decide) (zq_oth (by decide) (zq_oth (by decide) (zq_oth (by decide) (zq_oth (by decide) (zq_oth (by decide) (zq_oth (by decide) (zq_oth (by decide) (zq_oth (by decide) (zq_oth (by decide) (zq_oth (by decide) (zq_oth (by decide) (zq_oth (by decide) (zq_oth (by decide) (zq_oth (by decide) (hf1_228))))))))))))))))))))) dX16_feed_79 ?_
  refine zz_aload_n X 2 dX16_feed_82 rfl rfl ?_
  refine zz_get X 0 229 rfl rfl (by decide) (fun w h => List.mem_cons_of_mem _ (zf_X16 w h)) rfl (List.mem_cons_of_mem _ zm_656) (zq_same (zq_lt hf1_n (by decide) (by simp only [List.length_set]))) dX16_feed_83 ?_
  refine zz_iload X 0 dX16_feed_86 rfl ?_
  refine zz_bipush X 24 dX16_feed_88 rfl ?_
  refine zz_iload X 1 dX16_feed_90 rfl ?_
  refine zz_iconst X 4 dX16_feed_92 rfl ?_
  refine zz_irem X (3) dX16_feed_93 (by decide) (by decide) ?_
  refine zz_bipush X 8 dX16_feed_94 rfl ?_
  refine zz_imul X (24) dX16_feed_96 (by decide) ?_
  refine zz_isub X (0) dX16_feed_97 (by decide) ?_
  refine zz_ishr X ((x6 >>> (0 &&& 31))) dX16_feed_98 rfl ?_
  refine zz_i2b X ((((x6 >>> (0 &&& 31))).toInt8.toInt32)) dX16_feed_99 rfl ?_
  refine zz_bast X 1 0 rfl rfl (vp_in_nI (n := 19) (by decide) (by decide)) 19 (by decide) ((vp_nar .byte (((x6 >>> (0 &&& 31))).toInt8.toInt32))) rfl dX16_feed_100 [(x1, .inr (16, ((((((((((((((((((((f1.set 227 (.int 0)).set 229 (.int 1)).set 229 (.int 2)).set 229 (.int 3)).set 229 (.int 4)).set 229 (.int 5)).set 229 (.int 6)).set 229 (.int 7)).set 229 (.int 8)).set 229 (.int 9)).set 229 (.int 10)).set 229 (.int 11)).set 229 (.int 12)).set 229 (.int 13)).set 229 (.int 14)).set 229 (.int 15)).set 229 (.int 16)).set 229 (.int 17)).set 229 (.int 18)).set 229 (.int 19)))), (x7, .inl (cA 0, 6000, .inl (upd (upd (upd (upd (upd (upd (upd (upd (upd (upd (upd (upd (upd (upd (upd (upd (upd (upd (upd (upd (fun _ => 0) 0 (vp_nar .byte (((x2 >>> (24 &&& 31))).toInt8.toInt32))) 1 (vp_nar .byte (((x2 >>> (16 &&& 31))).toInt8.toInt32))) 2 (vp_nar .byte (((x2 >>> (8 &&& 31))).toInt8.toInt32))) 3 (vp_nar .byte (((x2 >>> (0 &&& 31))).toInt8.toInt32))) 4 (vp_nar .byte (((x3 >>> (24 &&& 31))).toInt8.toInt32))) 5 (vp_nar .byte (((x3 >>> (16 &&& 31))).toInt8.toInt32))) 6 (vp_nar .byte (((x3 >>> (8 &&& 31))).toInt8.toInt32))) 7 (vp_nar .byte (((x3 >>> (0 &&& 31))).toInt8.toInt32))) 8 (vp_nar .byte (((x4 >>> (24 &&& 31))).toInt8.toInt32))) 9 (vp_nar .byte (((x4 >>> (16 &&& 31))).toInt8.toInt32))) 10 (vp_nar .byte (((x4 >>> (8 &&& 31))).toInt8.toInt32))) 11 (vp_nar .byte (((x4 >>> (0 &&& 31))).toInt8.toInt32))) 12 (vp_nar .byte (((x5 >>> (24 &&& 31))).toInt8.toInt32))) 13 (vp_nar .byte (((x5 >>> (16 &&& 31))).toInt8.toInt32))) 14 (vp_nar .byte (((x5 >>> (8 &&& 31))).toInt8.toInt32))) 15 (vp_nar .byte (((x5 >>> (0 &&& 31))).toInt8.toInt32))) 16 (vp_nar .byte (((x6 >>> (24 &&& 31))).toInt8.toInt32))) 17 (vp_nar .byte (((x6 >>> (16 &&& 31))).toInt8.toInt32))) 18 (vp_nar .byte (((x6 >>> (8 &&& 31))).toInt8.toInt32))) 19 (vp_nar .byte (((x6 >>> (0 &&& 31))).toInt8.toInt32)))))] rfl ?_
  refine zz_aload_n X 2 dX16_feed_101 rfl rfl ?_
  refine zz_dup X dX16_feed_102 rfl ?_
  refine zz_get X 0 229 rfl rfl (by decide) (fun w h => List.mem_cons_of_mem _ (zf_X16 w h)) rfl (List.mem_cons_of_mem _ zm_656) (zq_same (zq_lt hf1_n (by decide) (by simp only [List.length_set]))) dX16_feed_103 ?_
  refine zz_iconst X 1 dX16_feed_106 rfl ?_
  refine zz_iadd X (20) dX16_feed_107 (by decide) ?_
  refine zz_put X 0 229 rfl rfl (by decide) (fun w h => List.mem_cons_of_mem _ (zf_X16 w h)) rfl (List.mem_cons_of_mem _ zm_656) tyX16 tyX16_ok nmX16 rfl (ty := .int) rfl rfl rfl (zq_lt hf1_n (by decide) (by simp only [List.length_set])) dX16_feed_108 [(x1, .inr (16, (((((((((((((((((((((f1.set 227 (.int 0)).set 229 (.int 1)).set 229 (.int 2)).set 229 (.int 3)).set 229 (.int 4)).set 229 (.int 5)).set 229 (.int 6)).set 229 (.int 7)).set 229 (.int 8)).set 229 (.int 9)).set 229 (.int 10)).set 229 (.int 11)).set 229 (.int 12)).set 229 (.int 13)).set 229 (.int 14)).set 229 (.int 15)).set 229 (.int 16)).set 229 (.int 17)).set 229 (.int 18)).set 229 (.int 19)).set 229 (.int 20)))), (x7, .inl (cA 0, 6000, .inl (upd (upd (upd (upd (upd (upd (upd (upd (upd (upd (upd (upd (upd (upd (upd (upd (upd (upd (upd (upd (fun _ => 0) 0 (vp_nar .byte (((x2 >>> (24 &&& 31))).toInt8.toInt32))) 1 (vp_nar .byte (((x2 >>> (16 &&& 31))).toInt8.toInt32))) 2 (vp_nar .byte (((x2 >>> (8 &&& 31))).toInt8.toInt32))) 3 (vp_nar .byte (((x2 >>> (0 &&& 31))).toInt8.toInt32))) 4 (vp_nar .byte (((x3 >>> (24 &&& 31))).toInt8.toInt32))) 5 (vp_nar .byte (((x3 >>> (16 &&& 31))).toInt8.toInt32))) 6 (vp_nar .byte (((x3 >>> (8 &&& 31))).toInt8.toInt32))) 7 (vp_nar .byte (((x3 >>> (0 &&& 31))).toInt8.toInt32))) 8 (vp_nar .byte (((x4 >>> (24 &&& 31))).toInt8.toInt32))) 9 (vp_nar .byte (((x4 >>> (16 &&& 31))).toInt8.toInt32))) 10 (vp_nar .byte (((x4 >>> (8 &&& 31))).toInt8.toInt32))) 11 (vp_nar .byte (((x4 >>> (0 &&& 31))).toInt8.toInt32))) 12 (vp_nar .byte (((x5 >>> (24 &&& 31))).toInt8.toInt32))) 13 (vp_nar .byte (((x5 >>> (16 &&& 31))).toInt8.toInt32))) 14 (vp_nar .byte (((x5 >>> (8 &&& 31))).toInt8.toInt32))) 15 (vp_nar .byte (((x5 >>> (0 &&& 31))).toInt8.toInt32))) 16 (vp_nar .byte (((x6 >>> (24 &&& 31))).toInt8.toInt32))) 17 (vp_nar .byte (((x6 >>> (16 &&& 31))).toInt8.toInt32))) 18 (vp_nar .byte (((x6 >>> (8 &&& 31))).toInt8.toInt32))) 19 (vp_nar .byte (((x6 >>> (0 &&& 31))).toInt8.toInt32)))))] rfl ?_
  refine zz_iinc X 1 (20) [(6, .int 20), (7, .int x6), (0, .ref x1), (1, .int x2), (2, .int x3), (3, .int x4), (4, .int x5), (5, .int x6)] dX16_feed_111 rfl (by decide) (by decide) rfl ?_
  refine zz_goto X 23 dX16_feed_114 (by decide) ?_
  refine zz_iload X 0 dX16_feed_23 rfl ?_
  refine zz_bipush X 20 dX16_feed_25 rfl ?_
  refine zz_icmp_ge X 117 dX16_feed_27 (by decide) (fun _ => ?_) (fun h => absurd (by decide) h)
  refine zz_iconst X 1 dX16_feed_117 rfl ?_
  exact zz_zret X hr (by decide) (()) [] (by decide) rfl rfl (Nat.le_of_ble_eq_true rfl) (Nat.le_of_ble_eq_true rfl) (rfl) dX16_feed_118

set_option maxHeartbeats 4000000 in
set_option maxRecDepth 100000 in
/-- end -/
theorem kX16_end_1 {E : zEn} (hE : zOk E) (l : Launch) (D : va_G) (cA : Nat → ClassId) (K : Nat → Nat) (V : Nat → Nat) (x1 : Nat) (x2 : Int32) (f1 : List Value) (hss : zSS E K V) (hf1_n : f1.length = 243) (hf1_229 : f1[229]? = some (.int 0)) : zMi E l yX16_end zwX16_end ({ frames := 0, cells := 0, slots := 0, locals := 0 }) D vwCl (zT cA) [.ref x1, .int x2] [(x1, .inr (16, f1))] (S := Unit) (fun (r : Int32) (u : Unit) => (r = (if x2 = 0 then 1 else 0 : Int32))) (fun (u : Unit) => []) := by
  refine zz_enterz (cc := cX16_end) (lv := [(0, .ref x1), (1, .int x2)]) hE 2 (by decide) rfl (Nat.le_of_ble_eq_true rfl) rfl ?_
  intro p e s m args below meth c X hr hin
  refine zz_aload_n X 0 dX16_end_0 rfl rfl ?_
  refine zz_iconst X 0 dX16_end_1 rfl ?_
  refine zz_put X 0 227 rfl rfl (by decide) (fun w h => List.mem_cons_of_mem _ (zf_X16 w h)) rfl (List.mem_cons_of_mem _ zm_655) tyX16 tyX16_ok nmX16 rfl (ty := .int) rfl rfl rfl (zq_lt hf1_n (by decide) (by simp only [List.length_set])) dX16_end_2 [(x1, .inr (16, (f1.set 227 (.int 0))))] rfl ?_
  refine zz_iload_n X 1 dX16_end_5 rfl rfl ?_
  refine zz_if_lt X 17 dX16_end_6 (by decide) (fun c6_1 => ?_) (fun c6_1 => ?_)
  · skip
    refine zz_iconst X 0 dX16_end_17 rfl ?_
    exact zz_zret X hr (by decide) (()) [] (by decide) rfl rfl (Nat.le_of_ble_eq_true rfl) (Nat.le_of_ble_eq_true rfl) ((if_neg (zq_ltne c6_1)).symm) dX16_end_18
  · skip
    refine zz_iload_n X 1 dX16_end_9 rfl rfl ?_
    refine zz_aload_n X 0 dX16_end_10 rfl rfl ?_
    refine zz_get X 0 229 rfl rfl (by decide) (fun w h => List.mem_cons_of_mem _ (zf_X16 w h)) rfl (List.mem_cons_of_mem _ zm_656) (zq_oth (by decide) (hf1_229)) dX16_end_11 ?_
    refine zz_icmp_le X 19 dX16_end_14 (by decide) (fun c14_2 => ?_) (fun c14_2 => ?_)
    · skip
      refine zz_aload_n X 0 dX16_end_19 rfl rfl ?_
      refine zz_iload_n X 1 dX16_end_20 rfl rfl ?_
      refine zz_put X 0 229 rfl rfl (by decide) (fun w h => List.mem_cons_of_mem _ (zf_X16 w h)) rfl (List.mem_cons_of_mem _ zm_656) tyX16 tyX16_ok nmX16 rfl (ty := .int) rfl rfl rfl (zq_lt hf1_n (by decide) (by simp only [List.length_set])) dX16_end_21 [(x1, .inr (16, ((f1.set 227 (.int 0)).set 229 (.int x2))))] rfl ?_
      refine zz_iconst X 1 dX16_end_24 rfl ?_
      exact zz_zret X hr (by decide) (()) [] (by decide) rfl rfl (Nat.le_of_ble_eq_true rfl) (Nat.le_of_ble_eq_true rfl) ((if_pos (zq_eq0 (zq_nlt c6_1) c14_2)).symm) dX16_end_25
    · skip
      refine zz_iconst X 0 dX16_end_17 rfl ?_
      exact zz_zret X hr (by decide) (()) [] (by decide) rfl rfl (Nat.le_of_ble_eq_true rfl) (Nat.le_of_ble_eq_true rfl) ((if_neg (zq_gtne (zq_nle c14_2))).symm) dX16_end_18

set_option maxHeartbeats 4000000 in
set_option maxRecDepth 100000 in
/-- take -/
theorem kX16_take_1 {E : zEn} (hE : zOk E) (l : Launch) (D : va_G) (cA : Nat → ClassId) (K : Nat → Nat) (V : Nat → Nat) (x1 : Nat) (f1 : List Value) (hss : zSS E K V) (hf1_n : f1.length = 243) (hf1_229 : f1[229]? = some (.int 0)) : zMi E l yX16_take zwX16_take ({ frames := 0, cells := 0, slots := 0, locals := 0 }) D vwCl (zT cA) [.ref x1] [(x1, .inr (16, f1))] (S := Unit) (fun (r : Int32) (u : Unit) => (r = 0)) (fun (u : Unit) => [(x1, .inr (16, ((f1.set 227 (.int 0)).set 229 (.int 0))))]) := by
  refine zz_enteri (cc := cX16_take) (lv := [(0, .ref x1)]) hE 2 (by decide) rfl (Nat.le_of_ble_eq_true rfl) rfl ?_
  intro p e s m args below meth c X hr hin
  refine zz_aload_n X 0 dX16_take_0 rfl rfl ?_
  refine zz_iconst X 0 dX16_take_1 rfl ?_
  refine zz_put X 0 227 rfl rfl (by decide) (fun w h => List.mem_cons_of_mem _ (zf_X16 w h)) rfl (List.mem_cons_of_mem _ zm_655) tyX16 tyX16_ok nmX16 rfl (ty := .int) rfl rfl rfl (zq_lt hf1_n (by decide) (by simp only [List.length_set])) dX16_take_2 [(x1, .inr (16, (f1.set 227 (.int 0))))] rfl ?_
  refine zz_aload_n X 0 dX16_take_5 rfl rfl ?_
  refine zz_get X 0 229 rfl rfl (by decide) (fun w h => List.mem_cons_of_mem _ (zf_X16 w h)) rfl (List.mem_cons_of_mem _ zm_656) (zq_oth (by decide) (hf1_229)) dX16_take_6 ?_
  refine zz_istore_n X [(1, .int 0), (0, .ref x1)] dX16_take_9 rfl (by decide) rfl ?_
  refine zz_aload_n X 1 dX16_take_10 rfl rfl ?_
  refine zz_iconst X 0 dX16_take_11 rfl ?_
  refine zz_put X 0 229 rfl rfl (by decide) (fun w h => List.mem_cons_of_mem _ (zf_X16 w h)) rfl (List.mem_cons_of_mem _ zm_656) tyX16 tyX16_ok nmX16 rfl (ty := .int) rfl rfl rfl (zq_lt hf1_n (by decide) (by simp only [List.length_set])) dX16_take_12 [(x1, .inr (16, ((f1.set 227 (.int 0)).set 229 (.int 0))))] rfl ?_
  refine zz_iload_n X 0 dX16_take_15 rfl rfl ?_
  exact zz_iret X hr (()) [0] (by decide) rfl rfl (Nat.le_of_ble_eq_true rfl) (Nat.le_of_ble_eq_true rfl) (rfl) dX16_take_16

set_option maxHeartbeats 4000000 in
set_option maxRecDepth 100000 in
/-- name -/
theorem kX16_name_1 {E : zEn} (hE : zOk E) (l : Launch) (D : va_G) (cA : Nat → ClassId) (K : Nat → Nat) (V : Nat → Nat) (x1 : Nat) (x2 : Nat) (f1 : List Value) (x3 : Nat) (x4 : Nat) (x5 : Nat) (x6 : Nat) (f2 : Nat → Int32) (hss : zSS E K V) (hf1_n : f1.length = 243) (hf1_19 : f1[19]? = some (.ref x3)) (hf1_16 : f1[16]? = some (.ref x4)) (hf1_17 : f1[17]? = some (.ref x5)) (hf1_20 : f1[20]? = some (.int 0)) (hf1_18 : f1[18]? = some (.ref x6)) (hf2_95 : f2 95 = 0) : zMi E l yX16_name zwX16_name ({ frames := 0, cells := 0, slots := 0, locals := 0 }) D vwCl (zT cA) [.ref x1, .ref x2, .int 0, .int 1] [(x1, .inr (16, f1)), (x2, .inl (cA 0, 17000, .inl (upd (fun _ => 0) 0 95))), (x3, .inl (cA 1, 4096, .inl f2)), (x5, .inl (cA 1, 13001, .inl (fun _ => 0))), (x4, .inl (cA 0, 40000, .inl (fun _ => 0))), (x6, .inl (cA 1, 13000, .inl (fun _ => 0)))] (S := Unit) (fun (r : Int32) (u : Unit) => (r = 0)) (fun (u : Unit) => [(x1, .inr (16, (f1.set 20 (.int 1)))), (x2, .inl (cA 0, 17000, .inl (upd (fun _ => 0) 0 95))), (x3, .inl (cA 1, 4096, .inl (upd f2 95 1))), (x5, .inl (cA 1, 13001, .inl (upd (fun _ => 0) 1 1))), (x4, .inl (cA 0, 40000, .inl (upd (fun _ => 0) 0 95))), (x6, .inl (cA 1, 13000, .inl (upd (fun _ => 0) 0 0)))]) := by
  refine zz_enteri (cc := cX16_name) (lv := [(0, .ref x1), (1, .ref x2), (2, .int 0), (3, .int 1)]) hE 6 (by decide) rfl (Nat.le_of_ble_eq_true rfl) rfl ?_
  intro p e s m args below meth c X hr hin
  refine zz_iconst X 0 dX16_name_0 rfl ?_
  refine zz_istore X [(4, .int 0), (0, .ref x1), (1, .ref x2), (2, .int 0), (3, .int 1)] dX16_name_1 (by decide) rfl ?_
  refine zz_iconst X 0 dX16_name_3 rfl ?_
  refine zz_istore X [(5, .int 0), (4, .int 0), (0, .ref x1), (1, .ref x2), (2, .int 0), (3, .int 1)] dX16_name_4 (by decide) rfl ?_
  refine zz_iload X 0 dX16_name_6 rfl ?_
  refine zz_iload_n X 5 dX16_name_8 rfl rfl ?_
  refine zz_icmp_ge X 36 dX16_name_9 (by decide) (fun h => absurd h (by decide)) (fun _ => ?_)
  refine zz_bipush X 31 dX16_name_12 rfl ?_
  refine zz_iload X 1 dX16_name_14 rfl ?_
  refine zz_imul X (0) dX16_name_16 (by decide) ?_
  refine zz_aload_n X 3 dX16_name_17 rfl rfl ?_
  refine zz_iload_n X 4 dX16_name_18 rfl rfl ?_
  refine zz_iload X 0 dX16_name_19 rfl ?_
  refine zz_iadd X (0) dX16_name_21 (by decide) ?_
  refine zz_bald X 1 0 rfl rfl (vp_in_nI (n := 0) (by decide) (by decide)) (95) rfl dX16_name_22 ?_
  refine zz_iadd X (95) dX16_name_23 (by decide) ?_
  refine zz_sipush X 4095 dX16_name_24 rfl ?_
  refine zz_iand X (95) dX16_name_27 (by decide) ?_
  refine zz_istore X [(4, .int 95), (5, .int 0), (0, .ref x1), (1, .ref x2), (2, .int 0), (3, .int 1)] dX16_name_28 (by decide) rfl ?_
  refine zz_iinc X 1 (1) [(5, .int 1), (4, .int 95), (0, .ref x1), (1, .ref x2), (2, .int 0), (3, .int 1)] dX16_name_30 rfl (by decide) (by decide) rfl ?_
  refine zz_goto X 6 dX16_name_33 (by decide) ?_
  refine zz_iload X 0 dX16_name_6 rfl ?_
  refine zz_iload_n X 5 dX16_name_8 rfl rfl ?_
  refine zz_icmp_ge X 36 dX16_name_9 (by decide) (fun _ => ?_) (fun h => absurd (by decide) h)
  refine zz_aload_n X 2 dX16_name_36 rfl rfl ?_
  refine zz_get X 0 19 rfl rfl (by decide) (fun w h => List.mem_cons_of_mem _ (zf_X16 w h)) rfl (List.mem_cons_of_mem _ zm_466) hf1_19 dX16_name_37 ?_
  refine zz_iload X 1 dX16_name_40 rfl ?_
  refine zz_iald X 2 1 rfl rfl (vp_in_nI (n := 95) (by decide) (by decide)) (0) hf2_95 dX16_name_42 ?_
  refine zz_iconst X 1 dX16_name_43 rfl ?_
  refine zz_isub X ((-1)) dX16_name_44 (by decide) ?_
  refine zz_istore X [(5, .int (-1)), (4, .int 95), (0, .ref x1), (1, .ref x2), (2, .int 0), (3, .int 1)] dX16_name_45 (by decide) rfl ?_
  refine zz_iload X 0 dX16_name_47 rfl ?_
  refine zz_if_lt X 81 dX16_name_49 (by decide) (fun _ => ?_) (fun h => absurd (by decide) h)
  refine zz_iconst X 0 dX16_name_81 rfl ?_
  refine zz_istore X [(5, .int 0), (4, .int 95), (0, .ref x1), (1, .ref x2), (2, .int 0), (3, .int 1)] dX16_name_82 (by decide) rfl ?_
  refine zz_iload X 0 dX16_name_84 rfl ?_
  refine zz_iload_n X 5 dX16_name_86 rfl rfl ?_
  refine zz_icmp_ge X 119 dX16_name_87 (by decide) (fun h => absurd h (by decide)) (fun _ => ?_)
  refine zz_aload_n X 2 dX16_name_90 rfl rfl ?_
  refine zz_get X 0 16 rfl rfl (by decide) (fun w h => List.mem_cons_of_mem _ (zf_X16 w h)) rfl (List.mem_cons_of_mem _ zm_463) hf1_16 dX16_name_91 ?_
  refine zz_aload_n X 2 dX16_name_94 rfl rfl ?_
  refine zz_get X 0 17 rfl rfl (by decide) (fun w h => List.mem_cons_of_mem _ (zf_X16 w h)) rfl (List.mem_cons_of_mem _ zm_464) hf1_17 dX16_name_95 ?_
  refine zz_aload_n X 2 dX16_name_98 rfl rfl ?_
  refine zz_get X 0 20 rfl rfl (by decide) (fun w h => List.mem_cons_of_mem _ (zf_X16 w h)) rfl (List.mem_cons_of_mem _ zm_760) hf1_20 dX16_name_99 ?_
  refine zz_iald X 3 1 rfl rfl (vp_in_nI (n := 0) (by decide) (by decide)) (0) rfl dX16_name_102 ?_
  refine zz_iload X 0 dX16_name_103 rfl ?_
  refine zz_iadd X (0) dX16_name_105 (by decide) ?_
  refine zz_aload_n X 3 dX16_name_106 rfl rfl ?_
  refine zz_iload_n X 4 dX16_name_107 rfl rfl ?_
  refine zz_iload X 0 dX16_name_108 rfl ?_
  refine zz_iadd X (0) dX16_name_110 (by decide) ?_
  refine zz_bald X 1 0 rfl rfl (vp_in_nI (n := 0) (by decide) (by decide)) (95) rfl dX16_name_111 ?_
  refine zz_bast X 4 0 rfl rfl (vp_in_nI (n := 0) (by decide) (by decide)) 0 (by decide) (95) (by decide) dX16_name_112 [(x1, .inr (16, f1)), (x2, .inl (cA 0, 17000, .inl (upd (fun _ => 0) 0 95))), (x3, .inl (cA 1, 4096, .inl f2)), (x5, .inl (cA 1, 13001, .inl (fun _ => 0))), (x4, .inl (cA 0, 40000, .inl (upd (fun _ => 0) 0 95))), (x6, .inl (cA 1, 13000, .inl (fun _ => 0)))] rfl ?_
  refine zz_iinc X 0 (1) [(5, .int 1), (4, .int 95), (0, .ref x1), (1, .ref x2), (2, .int 0), (3, .int 1)] dX16_name_113 rfl (by decide) (by decide) rfl ?_
  refine zz_goto X 84 dX16_name_116 (by decide) ?_
  refine zz_iload X 0 dX16_name_84 rfl ?_
  refine zz_iload_n X 5 dX16_name_86 rfl rfl ?_
  refine zz_icmp_ge X 119 dX16_name_87 (by decide) (fun _ => ?_) (fun h => absurd (by decide) h)
  refine zz_aload_n X 2 dX16_name_119 rfl rfl ?_
  refine zz_get X 0 17 rfl rfl (by decide) (fun w h => List.mem_cons_of_mem _ (zf_X16 w h)) rfl (List.mem_cons_of_mem _ zm_464) hf1_17 dX16_name_120 ?_
  refine zz_aload_n X 2 dX16_name_123 rfl rfl ?_
  refine zz_get X 0 20 rfl rfl (by decide) (fun w h => List.mem_cons_of_mem _ (zf_X16 w h)) rfl (List.mem_cons_of_mem _ zm_760) hf1_20 dX16_name_124 ?_
  refine zz_iconst X 1 dX16_name_127 rfl ?_
  refine zz_iadd X (1) dX16_name_128 (by decide) ?_
  refine zz_aload_n X 2 dX16_name_129 rfl rfl ?_
  refine zz_get X 0 17 rfl rfl (by decide) (fun w h => List.mem_cons_of_mem _ (zf_X16 w h)) rfl (List.mem_cons_of_mem _ zm_464) hf1_17 dX16_name_130 ?_
  refine zz_aload_n X 2 dX16_name_133 rfl rfl ?_
  refine zz_get X 0 20 rfl rfl (by decide) (fun w h => List.mem_cons_of_mem _ (zf_X16 w h)) rfl (List.mem_cons_of_mem _ zm_760) hf1_20 dX16_name_134 ?_
  refine zz_iald X 3 1 rfl rfl (vp_in_nI (n := 0) (by decide) (by decide)) (0) rfl dX16_name_137 ?_
  refine zz_iload_n X 5 dX16_name_138 rfl rfl ?_
  refine zz_iadd X (1) dX16_name_139 (by decide) ?_
  refine zz_iast X 3 1 rfl rfl (vp_in_nI (n := 1) (by decide) (by decide)) 1 (by decide) dX16_name_140 [(x1, .inr (16, f1)), (x2, .inl (cA 0, 17000, .inl (upd (fun _ => 0) 0 95))), (x3, .inl (cA 1, 4096, .inl f2)), (x5, .inl (cA 1, 13001, .inl (upd (fun _ => 0) 1 1))), (x4, .inl (cA 0, 40000, .inl (upd (fun _ => 0) 0 95))), (x6, .inl (cA 1, 13000, .inl (fun _ => 0)))] rfl ?_
  refine zz_aload_n X 2 dX16_name_141 rfl rfl ?_
  refine zz_get X 0 18 rfl rfl (by decide) (fun w h => List.mem_cons_of_mem _ (zf_X16 w h)) rfl (List.mem_cons_of_mem _ zm_465) hf1_18 dX16_name_142 ?_
  refine zz_aload_n X 2 dX16_name_145 rfl rfl ?_
  refine zz_get X 0 20 rfl rfl (by decide) (fun w h => List.mem_cons_of_mem _ (zf_X16 w h)) rfl (List.mem_cons_of_mem _ zm_760) hf1_20 dX16_name_146 ?_
  refine zz_aload_n X 2 dX16_name_149 rfl rfl ?_
  refine zz_get X 0 19 rfl rfl (by decide) (fun w h => List.mem_cons_of_mem _ (zf_X16 w h)) rfl (List.mem_cons_of_mem _ zm_466) hf1_19 dX16_name_150 ?_
  refine zz_iload X 1 dX16_name_153 rfl ?_
  refine zz_iald X 2 1 rfl rfl (vp_in_nI (n := 95) (by decide) (by decide)) (0) hf2_95 dX16_name_155 ?_
  refine zz_iast X 5 1 rfl rfl (vp_in_nI (n := 0) (by decide) (by decide)) 0 (by decide) dX16_name_156 [(x1, .inr (16, f1)), (x2, .inl (cA 0, 17000, .inl (upd (fun _ => 0) 0 95))), (x3, .inl (cA 1, 4096, .inl f2)), (x5, .inl (cA 1, 13001, .inl (upd (fun _ => 0) 1 1))), (x4, .inl (cA 0, 40000, .inl (upd (fun _ => 0) 0 95))), (x6, .inl (cA 1, 13000, .inl (upd (fun _ => 0) 0 0)))] rfl ?_
  refine zz_aload_n X 2 dX16_name_157 rfl rfl ?_
  refine zz_get X 0 19 rfl rfl (by decide) (fun w h => List.mem_cons_of_mem _ (zf_X16 w h)) rfl (List.mem_cons_of_mem _ zm_466) hf1_19 dX16_name_158 ?_
  refine zz_iload X 1 dX16_name_161 rfl ?_
  refine zz_aload_n X 2 dX16_name_163 rfl rfl ?_
  refine zz_get X 0 20 rfl rfl (by decide) (fun w h => List.mem_cons_of_mem _ (zf_X16 w h)) rfl (List.mem_cons_of_mem _ zm_760) hf1_20 dX16_name_164 ?_
  refine zz_iconst X 1 dX16_name_167 rfl ?_
  refine zz_iadd X (1) dX16_name_168 (by decide) ?_
  refine zz_iast X 2 1 rfl rfl (vp_in_nI (n := 95) (by decide) (by decide)) 95 (by decide) dX16_name_169 [(x1, .inr (16, f1)), (x2, .inl (cA 0, 17000, .inl (upd (fun _ => 0) 0 95))), (x3, .inl (cA 1, 4096, .inl (upd f2 95 1))), (x5, .inl (cA 1, 13001, .inl (upd (fun _ => 0) 1 1))), (x4, .inl (cA 0, 40000, .inl (upd (fun _ => 0) 0 95))), (x6, .inl (cA 1, 13000, .inl (upd (fun _ => 0) 0 0)))] rfl ?_
  refine zz_aload_n X 2 dX16_name_170 rfl rfl ?_
  refine zz_dup X dX16_name_171 rfl ?_
  refine zz_get X 0 20 rfl rfl (by decide) (fun w h => List.mem_cons_of_mem _ (zf_X16 w h)) rfl (List.mem_cons_of_mem _ zm_760) hf1_20 dX16_name_172 ?_
  refine zz_iconst X 1 dX16_name_175 rfl ?_
  refine zz_iadd X (1) dX16_name_176 (by decide) ?_
  refine zz_put X 0 20 rfl rfl (by decide) (fun w h => List.mem_cons_of_mem _ (zf_X16 w h)) rfl (List.mem_cons_of_mem _ zm_760) tyX16 tyX16_ok nmX16 rfl (ty := .int) rfl rfl rfl (zq_lt hf1_n (by decide) (by simp only [List.length_set])) dX16_name_177 [(x1, .inr (16, (f1.set 20 (.int 1)))), (x2, .inl (cA 0, 17000, .inl (upd (fun _ => 0) 0 95))), (x3, .inl (cA 1, 4096, .inl (upd f2 95 1))), (x5, .inl (cA 1, 13001, .inl (upd (fun _ => 0) 1 1))), (x4, .inl (cA 0, 40000, .inl (upd (fun _ => 0) 0 95))), (x6, .inl (cA 1, 13000, .inl (upd (fun _ => 0) 0 0)))] rfl ?_
  refine zz_aload_n X 2 dX16_name_180 rfl rfl ?_
  refine zz_get X 0 20 rfl rfl (by decide) (fun w h => List.mem_cons_of_mem _ (zf_X16 w h)) rfl (List.mem_cons_of_mem _ zm_760) (zq_same (zq_lt hf1_n (by decide) (by simp only [List.length_set]))) dX16_name_181 ?_
  refine zz_iconst X 1 dX16_name_184 rfl ?_
  refine zz_isub X (0) dX16_name_185 (by decide) ?_
  exact zz_iret X hr (()) [0, 1, 2, 3, 4, 5] (by decide) rfl rfl (Nat.le_of_ble_eq_true rfl) (Nat.le_of_ble_eq_true rfl) (rfl) dX16_name_186

set_option maxHeartbeats 4000000 in
set_option maxRecDepth 100000 in
/-- nameOf -/
theorem kX16_nameOf_1 {E : zEn} (hE : zOk E) (l : Launch) (D : va_G) (cA : Nat → ClassId) (K : Nat → Nat) (V : Nat → Nat) (x1 : Nat) (f1 : List Value) (x2 : Nat) (x3 : Nat) (x4 : Nat) (x5 : Nat) (x6 : Nat) (f2 : Nat → Int32) (hss : zSS E K V) (hf1_n : f1.length = 243) (hf1_0 : f1[0]? = some (.ref x2)) (hf1_19 : f1[19]? = some (.ref x3)) (hf1_16 : f1[16]? = some (.ref x4)) (hf1_17 : f1[17]? = some (.ref x5)) (hf1_20 : f1[20]? = some (.int 0)) (hf1_18 : f1[18]? = some (.ref x6)) (hf2_95 : f2 95 = 0) : zMi E l yX16_nameOf zwX16_nameOf ({ frames := 4, cells := 0, slots := 0, locals := 85 }) D vwCl (zT cA) [.ref x1, .ref (K 3)] [(x1, .inr (16, f1)), (x2, .inl (cA 0, 17000, .inl (fun _ => 0))), (x3, .inl (cA 1, 4096, .inl f2)), (x5, .inl (cA 1, 13001, .inl (fun _ => 0))), (x4, .inl (cA 0, 40000, .inl (fun _ => 0))), (x6, .inl (cA 1, 13000, .inl (fun _ => 0)))] (S := Unit) (fun (r : Int32) (u : Unit) => (r = 0)) (fun (u : Unit) => [(x1, .inr (16, (f1.set 20 (.int 1)))), (x2, .inl (cA 0, 17000, .inl (upd (fun _ => 0) 0 95))), (x3, .inl (cA 1, 4096, .inl (upd f2 95 1))), (x5, .inl (cA 1, 13001, .inl (upd (fun _ => 0) 1 1))), (x4, .inl (cA 0, 40000, .inl (upd (fun _ => 0) 0 95))), (x6, .inl (cA 1, 13000, .inl (upd (fun _ => 0) 0 0)))]) := by
  refine zz_enteri (cc := cX16_nameOf) (lv := [(0, .ref x1), (1, .ref (K 3))]) hE 3 (by decide) rfl (Nat.le_of_ble_eq_true rfl) rfl ?_
  intro p e s m args below meth c X hr hin
  refine zz_iconst X 0 dX16_nameOf_0 rfl ?_
  refine zz_istore_n X [(2, .int 0), (0, .ref x1), (1, .ref (K 3))] dX16_nameOf_1 rfl (by decide) rfl ?_
  refine zz_iload_n X 0 dX16_nameOf_2 rfl rfl ?_
  refine zz_aload_n X 2 dX16_nameOf_3 rfl rfl ?_
  refine zz_callTi X (rest := [.int 0]) (As := []) (kJ0_length hE l D cA 8 zLn zBy K V 3 (zSS_st hss) (by decide)) 0 (zgV zm_764 zm_241 zm_242 zm_141 zm_239) rfl (by decide +kernel) [] [0, 1, 2, 3, 4, 5] [(x1, .inr (16, f1)), (x2, .inl (cA 0, 17000, .inl (fun _ => 0))), (x3, .inl (cA 1, 4096, .inl f2)), (x5, .inl (cA 1, 13001, .inl (fun _ => 0))), (x4, .inl (cA 0, 40000, .inl (fun _ => 0))), (x6, .inl (cA 1, 13000, .inl (fun _ => 0)))] rfl rfl (by decide) rfl (by decide) (by decide) ⟨Nat.le_of_ble_eq_true rfl, Nat.le_of_ble_eq_true rfl⟩ (zz_recvS X (zSS_st hss) (by decide)) rfl rfl rfl (Nat.le_of_ble_eq_true rfl) dX16_nameOf_4 (Nat.le_of_ble_eq_true rfl) (Nat.le_of_ble_eq_true rfl) (fun r1 _ hw2 => ?_)
  obtain rfl := hw2
  refine zz_show (ws' := [(x1, .inr (16, f1)), (x2, .inl (cA 0, 17000, .inl (fun _ => 0))), (x3, .inl (cA 1, 4096, .inl f2)), (x5, .inl (cA 1, 13001, .inl (fun _ => 0))), (x4, .inl (cA 0, 40000, .inl (fun _ => 0))), (x6, .inl (cA 1, 13000, .inl (fun _ => 0)))]) rfl ?_
  refine zz_st (st' := [.int 1, .int 0]) rfl ?_
  refine zz_icmp_ge X 28 dX16_nameOf_7 (by decide) (fun h => absurd h (by decide)) (fun _ => ?_)
  refine zz_aload_n X 1 dX16_nameOf_10 rfl rfl ?_
  refine zz_get X 0 0 rfl rfl (by decide) (fun w h => List.mem_cons_of_mem _ (zf_X16 w h)) rfl (List.mem_cons_of_mem _ zm_456) hf1_0 dX16_nameOf_11 ?_
  refine zz_iload_n X 0 dX16_nameOf_14 rfl rfl ?_
  refine zz_aload_n X 2 dX16_nameOf_15 rfl rfl ?_
  refine zz_iload_n X 0 dX16_nameOf_16 rfl rfl ?_
  refine zz_st (st' := [.int (nI 0), .ref (K 3), .int 0, .ref x2]) rfl ?_
  refine zz_callTi X (rest := [.int 0, .ref x2]) (As := [.int (nI 0)]) (kJ0_charAt hE l D cA 8 zLn zBy K V 3 0 (zSS_st hss) (by decide) (by decide)) 1 (zgV zm_765 zm_139 zm_140 zm_141 zm_137) rfl (by decide +kernel) [] [0, 1, 2, 3, 4, 5] [(x1, .inr (16, f1)), (x2, .inl (cA 0, 17000, .inl (fun _ => 0))), (x3, .inl (cA 1, 4096, .inl f2)), (x5, .inl (cA 1, 13001, .inl (fun _ => 0))), (x4, .inl (cA 0, 40000, .inl (fun _ => 0))), (x6, .inl (cA 1, 13000, .inl (fun _ => 0)))] rfl rfl (by decide) rfl (by decide) (by decide) ⟨Nat.le_of_ble_eq_true rfl, Nat.le_of_ble_eq_true rfl⟩ (zz_recvS X (zSS_st hss) (by decide)) rfl rfl rfl (Nat.le_of_ble_eq_true rfl) dX16_nameOf_17 (Nat.le_of_ble_eq_true rfl) (Nat.le_of_ble_eq_true rfl) (fun r3 _ hw4 => ?_)
  obtain rfl := hw4
  refine zz_show (ws' := [(x1, .inr (16, f1)), (x2, .inl (cA 0, 17000, .inl (fun _ => 0))), (x3, .inl (cA 1, 4096, .inl f2)), (x5, .inl (cA 1, 13001, .inl (fun _ => 0))), (x4, .inl (cA 0, 40000, .inl (fun _ => 0))), (x6, .inl (cA 1, 13000, .inl (fun _ => 0)))]) rfl ?_
  refine zz_st (st' := [.int 95, .int 0, .ref x2]) (by rfl) ?_
  refine zz_i2b X (95) dX16_nameOf_20 (by decide) ?_
  refine zz_bast X 1 0 rfl rfl (vp_in_nI (n := 0) (by decide) (by decide)) 0 (by decide) (95) (by decide) dX16_nameOf_21 [(x1, .inr (16, f1)), (x2, .inl (cA 0, 17000, .inl (upd (fun _ => 0) 0 95))), (x3, .inl (cA 1, 4096, .inl f2)), (x5, .inl (cA 1, 13001, .inl (fun _ => 0))), (x4, .inl (cA 0, 40000, .inl (fun _ => 0))), (x6, .inl (cA 1, 13000, .inl (fun _ => 0)))] rfl ?_
  refine zz_iinc X 0 (1) [(2, .int 1), (0, .ref x1), (1, .ref (K 3))] dX16_nameOf_22 rfl (by decide) (by decide) rfl ?_
  refine zz_goto X 2 dX16_nameOf_25 (by decide) ?_
  refine zz_iload_n X 0 dX16_nameOf_2 rfl rfl ?_
  refine zz_aload_n X 2 dX16_nameOf_3 rfl rfl ?_
  refine zz_callTi X (rest := [.int 1]) (As := []) (kJ0_length hE l D cA 8 zLn zBy K V 3 (zSS_st hss) (by decide)) 0 (zgV zm_764 zm_241 zm_242 zm_141 zm_239) rfl (by decide +kernel) [] [0, 1, 2, 3, 4, 5] [(x1, .inr (16, f1)), (x2, .inl (cA 0, 17000, .inl (upd (fun _ => 0) 0 95))), (x3, .inl (cA 1, 4096, .inl f2)), (x5, .inl (cA 1, 13001, .inl (fun _ => 0))), (x4, .inl (cA 0, 40000, .inl (fun _ => 0))), (x6, .inl (cA 1, 13000, .inl (fun _ => 0)))] rfl rfl (by decide) rfl (by decide) (by decide) ⟨Nat.le_of_ble_eq_true rfl, Nat.le_of_ble_eq_true rfl⟩ (zz_recvS X (zSS_st hss) (by decide)) rfl rfl rfl (Nat.le_of_ble_eq_true rfl) dX16_nameOf_4 (Nat.le_of_ble_eq_true rfl) (Nat.le_of_ble_eq_true rfl) (fun r5 _ hw6 => ?_)
  obtain rfl := hw6
  refine zz_show (ws' := [(x1, .inr (16, f1)), (x2, .inl (cA 0, 17000, .inl (upd (fun _ => 0) 0 95))), (x3, .inl (cA 1, 4096, .inl f2)), (x5, .inl (cA 1, 13001, .inl (fun _ => 0))), (x4, .inl (cA 0, 40000, .inl (fun _ => 0))), (x6, .inl (cA 1, 13000, .inl (fun _ => 0)))]) rfl ?_
  refine zz_st (st' := [.int 1, .int 1]) rfl ?_
  refine zz_icmp_ge X 28 dX16_nameOf_7 (by decide) (fun _ => ?_) (fun h => absurd (by decide) h)
  refine zz_aload_n X 1 dX16_nameOf_28 rfl rfl ?_
  refine zz_aload_n X 1 dX16_nameOf_29 rfl rfl ?_
  refine zz_get X 0 0 rfl rfl (by decide) (fun w h => List.mem_cons_of_mem _ (zf_X16 w h)) rfl (List.mem_cons_of_mem _ zm_456) hf1_0 dX16_nameOf_30 ?_
  refine zz_iconst X 0 dX16_nameOf_33 rfl ?_
  refine zz_aload_n X 2 dX16_nameOf_34 rfl rfl ?_
  refine zz_callTi X (rest := [.int 0, .ref x2, .ref x1]) (As := []) (kJ0_length hE l D cA 8 zLn zBy K V 3 (zSS_st hss) (by decide)) 0 (zgV zm_764 zm_241 zm_242 zm_141 zm_239) rfl (by decide +kernel) [] [0, 1, 2, 3, 4, 5] [(x1, .inr (16, f1)), (x2, .inl (cA 0, 17000, .inl (upd (fun _ => 0) 0 95))), (x3, .inl (cA 1, 4096, .inl f2)), (x5, .inl (cA 1, 13001, .inl (fun _ => 0))), (x4, .inl (cA 0, 40000, .inl (fun _ => 0))), (x6, .inl (cA 1, 13000, .inl (fun _ => 0)))] rfl rfl (by decide) rfl (by decide) (by decide) ⟨Nat.le_of_ble_eq_true rfl, Nat.le_of_ble_eq_true rfl⟩ (zz_recvS X (zSS_st hss) (by decide)) rfl rfl rfl (Nat.le_of_ble_eq_true rfl) dX16_nameOf_35 (Nat.le_of_ble_eq_true rfl) (Nat.le_of_ble_eq_true rfl) (fun r7 _ hw8 => ?_)
  obtain rfl := hw8
  refine zz_show (ws' := [(x1, .inr (16, f1)), (x2, .inl (cA 0, 17000, .inl (upd (fun _ => 0) 0 95))), (x3, .inl (cA 1, 4096, .inl f2)), (x5, .inl (cA 1, 13001, .inl (fun _ => 0))), (x4, .inl (cA 0, 40000, .inl (fun _ => 0))), (x6, .inl (cA 1, 13000, .inl (fun _ => 0)))]) rfl ?_
  refine zz_st (st' := [.int 1, .int 0, .ref x2, .ref x1]) rfl ?_
  refine zz_callVi X (rest := []) (As := [.ref x2, .int 0, .int 1]) (kX16_name_1 hE l D cA K V x1 x2 f1 x3 x4 x5 x6 f2 hss (zq_len hf1_n (by simp only [List.length_set])) hf1_19 hf1_16 hf1_17 hf1_20 hf1_18 hf2_95) 3 (zgV zm_767 zm_768 zm_769 zm_451 zm_766) rfl (by decide +kernel) [0, 1, 2, 3, 4, 5] [] [] rfl rfl (by decide) rfl (by decide) (by decide) ⟨Nat.le_of_ble_eq_true rfl, Nat.le_of_ble_eq_true rfl⟩ 0 rfl rfl rfl rfl rfl (Nat.le_of_ble_eq_true rfl) dX16_nameOf_38 (Nat.le_of_ble_eq_true rfl) (Nat.le_of_ble_eq_true rfl) (fun r9 _ hw10 => ?_)
  obtain rfl := hw10
  refine zz_show (ws' := [(x1, .inr (16, (f1.set 20 (.int 1)))), (x2, .inl (cA 0, 17000, .inl (upd (fun _ => 0) 0 95))), (x3, .inl (cA 1, 4096, .inl (upd f2 95 1))), (x5, .inl (cA 1, 13001, .inl (upd (fun _ => 0) 1 1))), (x4, .inl (cA 0, 40000, .inl (upd (fun _ => 0) 0 95))), (x6, .inl (cA 1, 13000, .inl (upd (fun _ => 0) 0 0)))]) rfl ?_
  exact zz_iret X hr (()) [0, 1, 2, 3, 4, 5] (by decide) rfl rfl (Nat.le_of_ble_eq_true rfl) (Nat.le_of_ble_eq_true rfl) (rfl) dX16_nameOf_41

set_option maxHeartbeats 4000000 in
set_option maxRecDepth 100000 in
/-- name -/
theorem kX16_name_2 {E : zEn} (hE : zOk E) (l : Launch) (D : va_G) (cA : Nat → ClassId) (K : Nat → Nat) (V : Nat → Nat) (x1 : Nat) (x2 : Nat) (f1 : List Value) (x3 : Nat) (x4 : Nat) (x5 : Nat) (x6 : Nat) (f2 : Nat → Int32) (f3 : Nat → Int32) (hss : zSS E K V) (hf1_n : f1.length = 243) (hf1_19 : f1[19]? = some (.ref x3)) (hf1_16 : f1[16]? = some (.ref x4)) (hf1_17 : f1[17]? = some (.ref x5)) (hf1_20 : f1[20]? = some (.int 1)) (hf1_18 : f1[18]? = some (.ref x6)) (hf2_0 : f2 0 = 115) (hf2_1 : f2 1 = 101) (hf2_2 : f2 2 = 116) (hf3_3170 : f3 3170 = 0) : zMi E l yX16_name zwX16_name ({ frames := 0, cells := 0, slots := 0, locals := 0 }) D vwCl (zT cA) [.ref x1, .ref x2, .int 0, .int 3] [(x1, .inr (16, f1)), (x2, .inl (cA 0, 17000, .inl f2)), (x3, .inl (cA 1, 4096, .inl f3)), (x5, .inl (cA 1, 13001, .inl (upd (fun _ => 0) 1 1))), (x4, .inl (cA 0, 40000, .inl (upd (fun _ => 0) 0 95))), (x6, .inl (cA 1, 13000, .inl (upd (fun _ => 0) 0 0)))] (S := Unit) (fun (r : Int32) (u : Unit) => (r = 1)) (fun (u : Unit) => [(x1, .inr (16, (f1.set 20 (.int 2)))), (x2, .inl (cA 0, 17000, .inl f2)), (x3, .inl (cA 1, 4096, .inl (upd f3 3170 2))), (x5, .inl (cA 1, 13001, .inl (upd (upd (fun _ => 0) 1 1) 2 4))), (x4, .inl (cA 0, 40000, .inl (upd (upd (upd (upd (fun _ => 0) 0 95) 1 115) 2 101) 3 116))), (x6, .inl (cA 1, 13000, .inl (upd (upd (fun _ => 0) 0 0) 1 0)))]) := by
  refine zz_enteri (cc := cX16_name) (lv := [(0, .ref x1), (1, .ref x2), (2, .int 0), (3, .int 3)]) hE 6 (by decide) rfl (Nat.le_of_ble_eq_true rfl) rfl ?_
  intro p e s m args below meth c X hr hin
  refine zz_iconst X 0 dX16_name_0 rfl ?_
  refine zz_istore X [(4, .int 0), (0, .ref x1), (1, .ref x2), (2, .int 0), (3, .int 3)] dX16_name_1 (by decide) rfl ?_
  refine zz_iconst X 0 dX16_name_3 rfl ?_
  refine zz_istore X [(5, .int 0), (4, .int 0), (0, .ref x1), (1, .ref x2), (2, .int 0), (3, .int 3)] dX16_name_4 (by decide) rfl ?_
  refine zz_iload X 0 dX16_name_6 rfl ?_
  refine zz_iload_n X 5 dX16_name_8 rfl rfl ?_
  refine zz_icmp_ge X 36 dX16_name_9 (by decide) (fun h => absurd h (by decide)) (fun _ => ?_)
  refine zz_bipush X 31 dX16_name_12 rfl ?_
  refine zz_iload X 1 dX16_name_14 rfl ?_
  refine zz_imul X (0) dX16_name_16 (by decide) ?_
  refine zz_aload_n X 3 dX16_name_17 rfl rfl ?_
  refine zz_iload_n X 4 dX16_name_18 rfl rfl ?_
  refine zz_iload X 0 dX16_name_19 rfl ?_
  refine zz_iadd X (0) dX16_name_21 (by decide) ?_
  refine zz_bald X 1 0 rfl rfl (vp_in_nI (n := 0) (by decide) (by decide)) (115) hf2_0 dX16_name_22 ?_
  refine zz_iadd X (115) dX16_name_23 (by decide) ?_
  refine zz_sipush X 4095 dX16_name_24 rfl ?_
  refine zz_iand X (115) dX16_name_27 (by decide) ?_
  refine zz_istore X [(4, .int 115), (5, .int 0), (0, .ref x1), (1, .ref x2), (2, .int 0), (3, .int 3)] dX16_name_28 (by decide) rfl ?_
  refine zz_iinc X 1 (1) [(5, .int 1), (4, .int 115), (0, .ref x1), (1, .ref x2), (2, .int 0), (3, .int 3)] dX16_name_30 rfl (by decide) (by decide) rfl ?_
  refine zz_goto X 6 dX16_name_33 (by decide) ?_
  refine zz_iload X 0 dX16_name_6 rfl ?_
  refine zz_iload_n X 5 dX16_name_8 rfl rfl ?_
  refine zz_icmp_ge X 36 dX16_name_9 (by decide) (fun h => absurd h (by decide)) (fun _ => ?_)
  refine zz_bipush X 31 dX16_name_12 rfl ?_
  refine zz_iload X 1 dX16_name_14 rfl ?_
  refine zz_imul X (3565) dX16_name_16 (by decide) ?_
  refine zz_aload_n X 3 dX16_name_17 rfl rfl ?_
  refine zz_iload_n X 4 dX16_name_18 rfl rfl ?_
  refine zz_iload X 0 dX16_name_19 rfl ?_
  refine zz_iadd X (1) dX16_name_21 (by decide) ?_
  refine zz_bald X 1 0 rfl rfl (vp_in_nI (n := 1) (by decide) (by decide)) (101) hf2_1 dX16_name_22 ?_
  refine zz_iadd X (3666) dX16_name_23 (by decide) ?_
  refine zz_sipush X 4095 dX16_name_24 rfl ?_
  refine zz_iand X (3666) dX16_name_27 (by decide) ?_
  refine zz_istore X [(4, .int 3666), (5, .int 1), (0, .ref x1), (1, .ref x2), (2, .int 0), (3, .int 3)] dX16_name_28 (by decide) rfl ?_
  refine zz_iinc X 1 (2) [(5, .int 2), (4, .int 3666), (0, .ref x1), (1, .ref x2), (2, .int 0), (3, .int 3)] dX16_name_30 rfl (by decide) (by decide) rfl ?_
  refine zz_goto X 6 dX16_name_33 (by decide) ?_
  refine zz_iload X 0 dX16_name_6 rfl ?_
  refine zz_iload_n X 5 dX16_name_8 rfl rfl ?_
  refine zz_icmp_ge X 36 dX16_name_9 (by decide) (fun h => absurd h (by decide)) (fun _ => ?_)
  refine zz_bipush X 31 dX16_name_12 rfl ?_
  refine zz_iload X 1 dX16_name_14 rfl ?_
  refine zz_imul X (113646) dX16_name_16 (by decide) ?_
  refine zz_aload_n X 3 dX16_name_17 rfl rfl ?_
  refine zz_iload_n X 4 dX16_name_18 rfl rfl ?_
  refine zz_iload X 0 dX16_name_19 rfl ?_
  refine zz_iadd X (2) dX16_name_21 (by decide) ?_
  refine zz_bald X 1 0 rfl rfl (vp_in_nI (n := 2) (by decide) (by decide)) (116) hf2_2 dX16_name_22 ?_
  refine zz_iadd X (113762) dX16_name_23 (by decide) ?_
  refine zz_sipush X 4095 dX16_name_24 rfl ?_
  refine zz_iand X (3170) dX16_name_27 (by decide) ?_
  refine zz_istore X [(4, .int 3170), (5, .int 2), (0, .ref x1), (1, .ref x2), (2, .int 0), (3, .int 3)] dX16_name_28 (by decide) rfl ?_
  refine zz_iinc X 1 (3) [(5, .int 3), (4, .int 3170), (0, .ref x1), (1, .ref x2), (2, .int 0), (3, .int 3)] dX16_name_30 rfl (by decide) (by decide) rfl ?_
  refine zz_goto X 6 dX16_name_33 (by decide) ?_
  refine zz_iload X 0 dX16_name_6 rfl ?_
  refine zz_iload_n X 5 dX16_name_8 rfl rfl ?_
  refine zz_icmp_ge X 36 dX16_name_9 (by decide) (fun _ => ?_) (fun h => absurd (by decide) h)
  refine zz_aload_n X 2 dX16_name_36 rfl rfl ?_
  refine zz_get X 0 19 rfl rfl (by decide) (fun w h => List.mem_cons_of_mem _ (zf_X16 w h)) rfl (List.mem_cons_of_mem _ zm_466) hf1_19 dX16_name_37 ?_
  refine zz_iload X 1 dX16_name_40 rfl ?_
  refine zz_iald X 2 1 rfl rfl (vp_in_nI (n := 3170) (by decide) (by decide)) (0) hf3_3170 dX16_name_42 ?_
  refine zz_iconst X 1 dX16_name_43 rfl ?_
  refine zz_isub X ((-1)) dX16_name_44 (by decide) ?_
  refine zz_istore X [(5, .int (-1)), (4, .int 3170), (0, .ref x1), (1, .ref x2), (2, .int 0), (3, .int 3)] dX16_name_45 (by decide) rfl ?_
  refine zz_iload X 0 dX16_name_47 rfl ?_
  refine zz_if_lt X 81 dX16_name_49 (by decide) (fun _ => ?_) (fun h => absurd (by decide) h)
  refine zz_iconst X 0 dX16_name_81 rfl ?_
  refine zz_istore X [(5, .int 0), (4, .int 3170), (0, .ref x1), (1, .ref x2), (2, .int 0), (3, .int 3)] dX16_name_82 (by decide) rfl ?_
  refine zz_iload X 0 dX16_name_84 rfl ?_
  refine zz_iload_n X 5 dX16_name_86 rfl rfl ?_
  refine zz_icmp_ge X 119 dX16_name_87 (by decide) (fun h => absurd h (by decide)) (fun _ => ?_)
  refine zz_aload_n X 2 dX16_name_90 rfl rfl ?_
  refine zz_get X 0 16 rfl rfl (by decide) (fun w h => List.mem_cons_of_mem _ (zf_X16 w h)) rfl (List.mem_cons_of_mem _ zm_463) hf1_16 dX16_name_91 ?_
  refine zz_aload_n X 2 dX16_name_94 rfl rfl ?_
  refine zz_get X 0 17 rfl rfl (by decide) (fun w h => List.mem_cons_of_mem _ (zf_X16 w h)) rfl (List.mem_cons_of_mem _ zm_464) hf1_17 dX16_name_95 ?_
  refine zz_aload_n X 2 dX16_name_98 rfl rfl ?_
  refine zz_get X 0 20 rfl rfl (by decide) (fun w h => List.mem_cons_of_mem _ (zf_X16 w h)) rfl (List.mem_cons_of_mem _ zm_760) hf1_20 dX16_name_99 ?_
  refine zz_iald X 3 1 rfl rfl (vp_in_nI (n := 1) (by decide) (by decide)) (1) rfl dX16_name_102 ?_
  refine zz_iload X 0 dX16_name_103 rfl ?_
  refine zz_iadd X (1) dX16_name_105 (by decide) ?_
  refine zz_aload_n X 3 dX16_name_106 rfl rfl ?_
  refine zz_iload_n X 4 dX16_name_107 rfl rfl ?_
  refine zz_iload X 0 dX16_name_108 rfl ?_
  refine zz_iadd X (0) dX16_name_110 (by decide) ?_
  refine zz_bald X 1 0 rfl rfl (vp_in_nI (n := 0) (by decide) (by decide)) (115) hf2_0 dX16_name_111 ?_
  refine zz_bast X 4 0 rfl rfl (vp_in_nI (n := 1) (by decide) (by decide)) 1 (by decide) (115) (by decide) dX16_name_112 [(x1, .inr (16, f1)), (x2, .inl (cA 0, 17000, .inl f2)), (x3, .inl (cA 1, 4096, .inl f3)), (x5, .inl (cA 1, 13001, .inl (upd (fun _ => 0) 1 1))), (x4, .inl (cA 0, 40000, .inl (upd (upd (fun _ => 0) 0 95) 1 115))), (x6, .inl (cA 1, 13000, .inl (upd (fun _ => 0) 0 0)))] rfl ?_
  refine zz_iinc X 0 (1) [(5, .int 1), (4, .int 3170), (0, .ref x1), (1, .ref x2), (2, .int 0), (3, .int 3)] dX16_name_113 rfl (by decide) (by decide) rfl ?_
  refine zz_goto X 84 dX16_name_116 (by decide) ?_
  refine zz_iload X 0 dX16_name_84 rfl ?_
  refine zz_iload_n X 5 dX16_name_86 rfl rfl ?_
  refine zz_icmp_ge X 119 dX16_name_87 (by decide) (fun h => absurd h (by decide)) (fun _ => ?_)
  refine zz_aload_n X 2 dX16_name_90 rfl rfl ?_
  refine zz_get X 0 16 rfl rfl (by decide) (fun w h => List.mem_cons_of_mem _ (zf_X16 w h)) rfl (List.mem_cons_of_mem _ zm_463) hf1_16 dX16_name_91 ?_
  refine zz_aload_n X 2 dX16_name_94 rfl rfl ?_
  refine zz_get X 0 17 rfl rfl (by decide) (fun w h => List.mem_cons_of_mem _ (zf_X16 w h)) rfl (List.mem_cons_of_mem _ zm_464) hf1_17 dX16_name_95 ?_
  refine zz_aload_n X 2 dX16_name_98 rfl rfl ?_
  refine zz_get X 0 20 rfl rfl (by decide) (fun w h => List.mem_cons_of_mem _ (zf_X16 w h)) rfl (List.mem_cons_of_mem _ zm_760) hf1_20 dX16_name_99 ?_
  refine zz_iald X 3 1 rfl rfl (vp_in_nI (n := 1) (by decide) (by decide)) (1) rfl dX16_name_102 ?_
  refine zz_iload X 0 dX16_name_103 rfl ?_
  refine zz_iadd X (2) dX16_name_105 (by decide) ?_
  refine zz_aload_n X 3 dX16_name_106 rfl rfl ?_
  refine zz_iload_n X 4 dX16_name_107 rfl rfl ?_
  refine zz_iload X 0 dX16_name_108 rfl ?_
  refine zz_iadd X (1) dX16_name_110 (by decide) ?_
  refine zz_bald X 1 0 rfl rfl (vp_in_nI (n := 1) (by decide) (by decide)) (101) hf2_1 dX16_name_111 ?_
  refine zz_bast X 4 0 rfl rfl (vp_in_nI (n := 2) (by decide) (by decide)) 2 (by decide) (101) (by decide) dX16_name_112 [(x1, .inr (16, f1)), (x2, .inl (cA 0, 17000, .inl f2)), (x3, .inl (cA 1, 4096, .inl f3)), (x5, .inl (cA 1, 13001, .inl (upd (fun _ => 0) 1 1))), (x4, .inl (cA 0, 40000, .inl (upd (upd (upd (fun _ => 0) 0 95) 1 115) 2 101))), (x6, .inl (cA 1, 13000, .inl (upd (fun _ => 0) 0 0)))] rfl ?_
  refine zz_iinc X 0 (2) [(5, .int 2), (4, .int 3170), (0, .ref x1), (1, .ref x2), (2, .int 0), (3, .int 3)] dX16_name_113 rfl (by decide) (by decide) rfl ?_
  refine zz_goto X 84 dX16_name_116 (by decide) ?_
  refine zz_iload X 0 dX16_name_84 rfl ?_
  refine zz_iload_n X 5 dX16_name_86 rfl rfl ?_
  refine zz_icmp_ge X 119 dX16_name_87 (by decide) (fun h => absurd h (by decide)) (fun _ => ?_)
  refine zz_aload_n X 2 dX16_name_90 rfl rfl ?_
  refine zz_get X 0 16 rfl rfl (by decide) (fun w h => List.mem_cons_of_mem _ (zf_X16 w h)) rfl (List.mem_cons_of_mem _ zm_463) hf1_16 dX16_name_91 ?_
  refine zz_aload_n X 2 dX16_name_94 rfl rfl ?_
  refine zz_get X 0 17 rfl rfl (by decide) (fun w h => List.mem_cons_of_mem _ (zf_X16 w h)) rfl (List.mem_cons_of_mem _ zm_464) hf1_17 dX16_name_95 ?_
  refine zz_aload_n X 2 dX16_name_98 rfl rfl ?_
  refine zz_get X 0 20 rfl rfl (by decide) (fun w h => List.mem_cons_of_mem _ (zf_X16 w h)) rfl (List.mem_cons_of_mem _ zm_760) hf1_20 dX16_name_99 ?_
  refine zz_iald X 3 1 rfl rfl (vp_in_nI (n := 1) (by decide) (by decide)) (1) rfl dX16_name_102 ?_
  refine zz_iload X 0 dX16_name_103 rfl ?_
  refine zz_iadd X (3) dX16_name_105 (by decide) ?_
  refine zz_aload_n X 3 dX16_name_106 rfl rfl ?_
  refine zz_iload_n X 4 dX16_name_107 rfl rfl ?_
  refine zz_iload X 0 dX16_name_108 rfl ?_
  refine zz_iadd X (2) dX16_name_110 (by decide) ?_
  refine zz_bald X 1 0 rfl rfl (vp_in_nI (n := 2) (by decide) (by decide)) (116) hf2_2 dX16_name_111 ?_
  refine zz_bast X 4 0 rfl rfl (vp_in_nI (n := 3) (by decide) (by decide)) 3 (by decide) (116) (by decide) dX16_name_112 [(x1, .inr (16, f1)), (x2, .inl (cA 0, 17000, .inl f2)), (x3, .inl (cA 1, 4096, .inl f3)), (x5, .inl (cA 1, 13001, .inl (upd (fun _ => 0) 1 1))), (x4, .inl (cA 0, 40000, .inl (upd (upd (upd (upd (fun _ => 0) 0 95) 1 115) 2 101) 3 116))), (x6, .inl (cA 1, 13000, .inl (upd (fun _ => 0) 0 0)))] rfl ?_
  refine zz_iinc X 0 (3) [(5, .int 3), (4, .int 3170), (0, .ref x1), (1, .ref x2), (2, .int 0), (3, .int 3)] dX16_name_113 rfl (by decide) (by decide) rfl ?_
  refine zz_goto X 84 dX16_name_116 (by decide) ?_
  refine zz_iload X 0 dX16_name_84 rfl ?_
  refine zz_iload_n X 5 dX16_name_86 rfl rfl ?_
  refine zz_icmp_ge X 119 dX16_name_87 (by decide) (fun _ => ?_) (fun h => absurd (by decide) h)
  refine zz_aload_n X 2 dX16_name_119 rfl rfl ?_
  refine zz_get X 0 17 rfl rfl (by decide) (fun w h => List.mem_cons_of_mem _ (zf_X16 w h)) rfl (List.mem_cons_of_mem _ zm_464) hf1_17 dX16_name_120 ?_
  refine zz_aload_n X 2 dX16_name_123 rfl rfl ?_
  refine zz_get X 0 20 rfl rfl (by decide) (fun w h => List.mem_cons_of_mem _ (zf_X16 w h)) rfl (List.mem_cons_of_mem _ zm_760) hf1_20 dX16_name_124 ?_
  refine zz_iconst X 1 dX16_name_127 rfl ?_
  refine zz_iadd X (2) dX16_name_128 (by decide) ?_
  refine zz_aload_n X 2 dX16_name_129 rfl rfl ?_
  refine zz_get X 0 17 rfl rfl (by decide) (fun w h => List.mem_cons_of_mem _ (zf_X16 w h)) rfl (List.mem_cons_of_mem _ zm_464) hf1_17 dX16_name_130 ?_
  refine zz_aload_n X 2 dX16_name_133 rfl rfl ?_
  refine zz_get X 0 20 rfl rfl (by decide) (fun w h => List.mem_cons_of_mem _ (zf_X16 w h)) rfl (List.mem_cons_of_mem _ zm_760) hf1_20 dX16_name_134 ?_
  refine zz_iald X 3 1 rfl rfl (vp_in_nI (n := 1) (by decide) (by decide)) (1) rfl dX16_name_137 ?_
  refine zz_iload_n X 5 dX16_name_138 rfl rfl ?_
  refine zz_iadd X (4) dX16_name_139 (by decide) ?_
  refine zz_iast X 3 1 rfl rfl (vp_in_nI (n := 2) (by decide) (by decide)) 2 (by decide) dX16_name_140 [(x1, .inr (16, f1)), (x2, .inl (cA 0, 17000, .inl f2)), (x3, .inl (cA 1, 4096, .inl f3)), (x5, .inl (cA 1, 13001, .inl (upd (upd (fun _ => 0) 1 1) 2 4))), (x4, .inl (cA 0, 40000, .inl (upd (upd (upd (upd (fun _ => 0) 0 95) 1 115) 2 101) 3 116))), (x6, .inl (cA 1, 13000, .inl (upd (fun _ => 0) 0 0)))] rfl ?_
  refine zz_aload_n X 2 dX16_name_141 rfl rfl ?_
  refine zz_get X 0 18 rfl rfl (by decide) (fun w h => List.mem_cons_of_mem _ (zf_X16 w h)) rfl (List.mem_cons_of_mem _ zm_465) hf1_18 dX16_name_142 ?_
  refine zz_aload_n X 2 dX16_name_145 rfl rfl ?_
  refine zz_get X 0 20 rfl rfl (by decide) (fun w h => List.mem_cons_of_mem _ (zf_X16 w h)) rfl (List.mem_cons_of_mem _ zm_760) hf1_20 dX16_name_146 ?_
  refine zz_aload_n X 2 dX16_name_149 rfl rfl ?_
  refine zz_get X 0 19 rfl rfl (by decide) (fun w h => List.mem_cons_of_mem _ (zf_X16 w h)) rfl (List.mem_cons_of_mem _ zm_466) hf1_19 dX16_name_150 ?_
  refine zz_iload X 1 dX16_name_153 rfl ?_
  refine zz_iald X 2 1 rfl rfl (vp_in_nI (n := 3170) (by decide) (by decide)) (0) hf3_3170 dX16_name_155 ?_
  refine zz_iast X 5 1 rfl rfl (vp_in_nI (n := 1) (by decide) (by decide)) 1 (by decide) dX16_name_156 [(x1, .inr (16, f1)), (x2, .inl (cA 0, 17000, .inl f2)), (x3, .inl (cA 1, 4096, .inl f3)), (x5, .inl (cA 1, 13001, .inl (upd (upd (fun _ => 0) 1 1) 2 4))), (x4, .inl (cA 0, 40000, .inl (upd (upd (upd (upd (fun _ => 0) 0 95) 1 115) 2 101) 3 116))), (x6, .inl (cA 1, 13000, .inl (upd (upd (fun _ => 0) 0 0) 1 0)))] rfl ?_
  refine zz_aload_n X 2 dX16_name_157 rfl rfl ?_
  refine zz_get X 0 19 rfl rfl (by decide) (fun w h => List.mem_cons_of_mem _ (zf_X16 w h)) rfl (List.mem_cons_of_mem _ zm_466) hf1_19 dX16_name_158 ?_
  refine zz_iload X 1 dX16_name_161 rfl ?_
  refine zz_aload_n X 2 dX16_name_163 rfl rfl ?_
  refine zz_get X 0 20 rfl rfl (by decide) (fun w h => List.mem_cons_of_mem _ (zf_X16 w h)) rfl (List.mem_cons_of_mem _ zm_760) hf1_20 dX16_name_164 ?_
  refine zz_iconst X 1 dX16_name_167 rfl ?_
  refine zz_iadd X (2) dX16_name_168 (by decide) ?_
  refine zz_iast X 2 1 rfl rfl (vp_in_nI (n := 3170) (by decide) (by decide)) 3170 (by decide) dX16_name_169 [(x1, .inr (16, f1)), (x2, .inl (cA 0, 17000, .inl f2)), (x3, .inl (cA 1, 4096, .inl (upd f3 3170 2))), (x5, .inl (cA 1, 13001, .inl (upd (upd (fun _ => 0) 1 1) 2 4))), (x4, .inl (cA 0, 40000, .inl (upd (upd (upd (upd (fun _ => 0) 0 95) 1 115) 2 101) 3 116))), (x6, .inl (cA 1, 13000, .inl (upd (upd (fun _ => 0) 0 0) 1 0)))] rfl ?_
  refine zz_aload_n X 2 dX16_name_170 rfl rfl ?_
  refine zz_dup X dX16_name_171 rfl ?_
  refine zz_get X 0 20 rfl rfl (by decide) (fun w h => List.mem_cons_of_mem _ (zf_X16 w h)) rfl (List.mem_cons_of_mem _ zm_760) hf1_20 dX16_name_172 ?_
  refine zz_iconst X 1 dX16_name_175 rfl ?_
  refine zz_iadd X (2) dX16_name_176 (by decide) ?_
  refine zz_put X 0 20 rfl rfl (by decide) (fun w h => List.mem_cons_of_mem _ (zf_X16 w h)) rfl (List.mem_cons_of_mem _ zm_760) tyX16 tyX16_ok nmX16 rfl (ty := .int) rfl rfl rfl (zq_lt hf1_n (by decide) (by simp only [List.length_set])) dX16_name_177 [(x1, .inr (16, (f1.set 20 (.int 2)))), (x2, .inl (cA 0, 17000, .inl f2)), (x3, .inl (cA 1, 4096, .inl (upd f3 3170 2))), (x5, .inl (cA 1, 13001, .inl (upd (upd (fun _ => 0) 1 1) 2 4))), (x4, .inl (cA 0, 40000, .inl (upd (upd (upd (upd (fun _ => 0) 0 95) 1 115) 2 101) 3 116))), (x6, .inl (cA 1, 13000, .inl (upd (upd (fun _ => 0) 0 0) 1 0)))] rfl ?_
  refine zz_aload_n X 2 dX16_name_180 rfl rfl ?_
  refine zz_get X 0 20 rfl rfl (by decide) (fun w h => List.mem_cons_of_mem _ (zf_X16 w h)) rfl (List.mem_cons_of_mem _ zm_760) (zq_same (zq_lt hf1_n (by decide) (by simp only [List.length_set]))) dX16_name_181 ?_
  refine zz_iconst X 1 dX16_name_184 rfl ?_
  refine zz_isub X (1) dX16_name_185 (by decide) ?_
  exact zz_iret X hr (()) [0, 1, 2, 3, 4, 5] (by decide) rfl rfl (Nat.le_of_ble_eq_true rfl) (Nat.le_of_ble_eq_true rfl) (rfl) dX16_name_186

set_option maxHeartbeats 4000000 in
set_option maxRecDepth 100000 in
/-- nameOf -/
theorem kX16_nameOf_2 {E : zEn} (hE : zOk E) (l : Launch) (D : va_G) (cA : Nat → ClassId) (K : Nat → Nat) (V : Nat → Nat) (x1 : Nat) (f1 : List Value) (x2 : Nat) (x3 : Nat) (x4 : Nat) (x5 : Nat) (x6 : Nat) (f2 : Nat → Int32) (hss : zSS E K V) (hf1_n : f1.length = 243) (hf1_0 : f1[0]? = some (.ref x2)) (hf1_19 : f1[19]? = some (.ref x3)) (hf1_16 : f1[16]? = some (.ref x4)) (hf1_17 : f1[17]? = some (.ref x5)) (hf1_20 : f1[20]? = some (.int 1)) (hf1_18 : f1[18]? = some (.ref x6)) (hf2_3170 : f2 3170 = 0) : zMi E l yX16_nameOf zwX16_nameOf ({ frames := 4, cells := 0, slots := 0, locals := 85 }) D vwCl (zT cA) [.ref x1, .ref (K 4)] [(x1, .inr (16, f1)), (x2, .inl (cA 0, 17000, .inl (upd (fun _ => 0) 0 95))), (x3, .inl (cA 1, 4096, .inl f2)), (x5, .inl (cA 1, 13001, .inl (upd (fun _ => 0) 1 1))), (x4, .inl (cA 0, 40000, .inl (upd (fun _ => 0) 0 95))), (x6, .inl (cA 1, 13000, .inl (upd (fun _ => 0) 0 0)))] (S := Unit) (fun (r : Int32) (u : Unit) => (r = 1)) (fun (u : Unit) => [(x1, .inr (16, (f1.set 20 (.int 2)))), (x2, .inl (cA 0, 17000, .inl ((upd (upd (upd (upd (fun _ => 0) 0 95) 0 115) 1 101) 2 116)))), (x3, .inl (cA 1, 4096, .inl (upd f2 3170 2))), (x5, .inl (cA 1, 13001, .inl (upd (upd (fun _ => 0) 1 1) 2 4))), (x4, .inl (cA 0, 40000, .inl (upd (upd (upd (upd (fun _ => 0) 0 95) 1 115) 2 101) 3 116))), (x6, .inl (cA 1, 13000, .inl (upd (upd (fun _ => 0) 0 0) 1 0)))]) := by
  refine zz_enteri (cc := cX16_nameOf) (lv := [(0, .ref x1), (1, .ref (K 4))]) hE 3 (by decide) rfl (Nat.le_of_ble_eq_true rfl) rfl ?_
  intro p e s m args below meth c X hr hin
  refine zz_iconst X 0 dX16_nameOf_0 rfl ?_
  refine zz_istore_n X [(2, .int 0), (0, .ref x1), (1, .ref (K 4))] dX16_nameOf_1 rfl (by decide) rfl ?_
  refine zz_iload_n X 0 dX16_nameOf_2 rfl rfl ?_
  refine zz_aload_n X 2 dX16_nameOf_3 rfl rfl ?_
  refine zz_callTi X (rest := [.int 0]) (As := []) (kJ0_length hE l D cA 8 zLn zBy K V 4 (zSS_st hss) (by decide)) 0 (zgV zm_764 zm_241 zm_242 zm_141 zm_239) rfl (by decide +kernel) [] [0, 1, 2, 3, 4, 5] [(x1, .inr (16, f1)), (x2, .inl (cA 0, 17000, .inl (upd (fun _ => 0) 0 95))), (x3, .inl (cA 1, 4096, .inl f2)), (x5, .inl (cA 1, 13001, .inl (upd (fun _ => 0) 1 1))), (x4, .inl (cA 0, 40000, .inl (upd (fun _ => 0) 0 95))), (x6, .inl (cA 1, 13000, .inl (upd (fun _ => 0) 0 0)))] rfl rfl (by decide) rfl (by decide) (by decide) ⟨Nat.le_of_ble_eq_true rfl, Nat.le_of_ble_eq_true rfl⟩ (zz_recvS X (zSS_st hss) (by decide)) rfl rfl rfl (Nat.le_of_ble_eq_true rfl) dX16_nameOf_4 (Nat.le_of_ble_eq_true rfl) (Nat.le_of_ble_eq_true rfl) (fun r1 _ hw2 => ?_)
  obtain rfl := hw2
  refine zz_show (ws' := [(x1, .inr (16, f1)), (x2, .inl (cA 0, 17000, .inl (upd (fun _ => 0) 0 95))), (x3, .inl (cA 1, 4096, .inl f2)), (x5, .inl (cA 1, 13001, .inl (upd (fun _ => 0) 1 1))), (x4, .inl (cA 0, 40000, .inl (upd (fun _ => 0) 0 95))), (x6, .inl (cA 1, 13000, .inl (upd (fun _ => 0) 0 0)))]) rfl ?_
  refine zz_st (st' := [.int 3, .int 0]) rfl ?_
  refine zz_icmp_ge X 28 dX16_nameOf_7 (by decide) (fun h => absurd h (by decide)) (fun _ => ?_)
  refine zz_aload_n X 1 dX16_nameOf_10 rfl rfl ?_
  refine zz_get X 0 0 rfl rfl (by decide) (fun w h => List.mem_cons_of_mem _ (zf_X16 w h)) rfl (List.mem_cons_of_mem _ zm_456) hf1_0 dX16_nameOf_11 ?_
  refine zz_iload_n X 0 dX16_nameOf_14 rfl rfl ?_
  refine zz_aload_n X 2 dX16_nameOf_15 rfl rfl ?_
  refine zz_iload_n X 0 dX16_nameOf_16 rfl rfl ?_
  refine zz_st (st' := [.int (nI 0), .ref (K 4), .int 0, .ref x2]) rfl ?_
  refine zz_callTi X (rest := [.int 0, .ref x2]) (As := [.int (nI 0)]) (kJ0_charAt hE l D cA 8 zLn zBy K V 4 0 (zSS_st hss) (by decide) (by decide)) 1 (zgV zm_765 zm_139 zm_140 zm_141 zm_137) rfl (by decide +kernel) [] [0, 1, 2, 3, 4, 5] [(x1, .inr (16, f1)), (x2, .inl (cA 0, 17000, .inl (upd (fun _ => 0) 0 95))), (x3, .inl (cA 1, 4096, .inl f2)), (x5, .inl (cA 1, 13001, .inl (upd (fun _ => 0) 1 1))), (x4, .inl (cA 0, 40000, .inl (upd (fun _ => 0) 0 95))), (x6, .inl (cA 1, 13000, .inl (upd (fun _ => 0) 0 0)))] rfl rfl (by decide) rfl (by decide) (by decide) ⟨Nat.le_of_ble_eq_true rfl, Nat.le_of_ble_eq_true rfl⟩ (zz_recvS X (zSS_st hss) (by decide)) rfl rfl rfl (Nat.le_of_ble_eq_true rfl) dX16_nameOf_17 (Nat.le_of_ble_eq_true rfl) (Nat.le_of_ble_eq_true rfl) (fun r3 _ hw4 => ?_)
  obtain rfl := hw4
  refine zz_show (ws' := [(x1, .inr (16, f1)), (x2, .inl (cA 0, 17000, .inl (upd (fun _ => 0) 0 95))), (x3, .inl (cA 1, 4096, .inl f2)), (x5, .inl (cA 1, 13001, .inl (upd (fun _ => 0) 1 1))), (x4, .inl (cA 0, 40000, .inl (upd (fun _ => 0) 0 95))), (x6, .inl (cA 1, 13000, .inl (upd (fun _ => 0) 0 0)))]) rfl ?_
  refine zz_st (st' := [.int 115, .int 0, .ref x2]) (by rfl) ?_
  refine zz_i2b X (115) dX16_nameOf_20 (by decide) ?_
  refine zz_bast X 1 0 rfl rfl (vp_in_nI (n := 0) (by decide) (by decide)) 0 (by decide) (115) (by decide) dX16_nameOf_21 [(x1, .inr (16, f1)), (x2, .inl (cA 0, 17000, .inl (upd (upd (fun _ => 0) 0 95) 0 115))), (x3, .inl (cA 1, 4096, .inl f2)), (x5, .inl (cA 1, 13001, .inl (upd (fun _ => 0) 1 1))), (x4, .inl (cA 0, 40000, .inl (upd (fun _ => 0) 0 95))), (x6, .inl (cA 1, 13000, .inl (upd (fun _ => 0) 0 0)))] rfl ?_
  refine zz_iinc X 0 (1) [(2, .int 1), (0, .ref x1), (1, .ref (K 4))] dX16_nameOf_22 rfl (by decide) (by decide) rfl ?_
  refine zz_goto X 2 dX16_nameOf_25 (by decide) ?_
  refine zz_iload_n X 0 dX16_nameOf_2 rfl rfl ?_
  refine zz_aload_n X 2 dX16_nameOf_3 rfl rfl ?_
  refine zz_callTi X (rest := [.int 1]) (As := []) (kJ0_length hE l D cA 8 zLn zBy K V 4 (zSS_st hss) (by decide)) 0 (zgV zm_764 zm_241 zm_242 zm_141 zm_239) rfl (by decide +kernel) [] [0, 1, 2, 3, 4, 5] [(x1, .inr (16, f1)), (x2, .inl (cA 0, 17000, .inl (upd (upd (fun _ => 0) 0 95) 0 115))), (x3, .inl (cA 1, 4096, .inl f2)), (x5, .inl (cA 1, 13001, .inl (upd (fun _ => 0) 1 1))), (x4, .inl (cA 0, 40000, .inl (upd (fun _ => 0) 0 95))), (x6, .inl (cA 1, 13000, .inl (upd (fun _ => 0) 0 0)))] rfl rfl (by decide) rfl (by decide) (by decide) ⟨Nat.le_of_ble_eq_true rfl, Nat.le_of_ble_eq_true rfl⟩ (zz_recvS X (zSS_st hss) (by decide)) rfl rfl rfl (Nat.le_of_ble_eq_true rfl) dX16_nameOf_4 (Nat.le_of_ble_eq_true rfl) (Nat.le_of_ble_eq_true rfl) (fun r5 _ hw6 => ?_)
  obtain rfl := hw6
  refine zz_show (ws' := [(x1, .inr (16, f1)), (x2, .inl (cA 0, 17000, .inl (upd (upd (fun _ => 0) 0 95) 0 115))), (x3, .inl (cA 1, 4096, .inl f2)), (x5, .inl (cA 1, 13001, .inl (upd (fun _ => 0) 1 1))), (x4, .inl (cA 0, 40000, .inl (upd (fun _ => 0) 0 95))), (x6, .inl (cA 1, 13000, .inl (upd (fun _ => 0) 0 0)))]) rfl ?_
  refine zz_st (st' := [.int 3, .int 1]) rfl ?_
  refine zz_icmp_ge X 28 dX16_nameOf_7 (by decide) (fun h => absurd h (by decide)) (fun _ => ?_)
  refine zz_aload_n X 1 dX16_nameOf_10 rfl rfl ?_
  refine zz_get X 0 0 rfl rfl (by decide) (fun w h => List.mem_cons_of_mem _ (zf_X16 w h)) rfl (List.mem_cons_of_mem _ zm_456) hf1_0 dX16_nameOf_11 ?_
  refine zz_iload_n X 0 dX16_nameOf_14 rfl rfl ?_
  refine zz_aload_n X 2 dX16_nameOf_15 rfl rfl ?_
  refine zz_iload_n X 0 dX16_nameOf_16 rfl rfl ?_
  refine zz_st (st' := [.int (nI 1), .ref (K 4), .int 1, .ref x2]) rfl ?_
  refine zz_callTi X (rest := [.int 1, .ref x2]) (As := [.int (nI 1)]) (kJ0_charAt hE l D cA 8 zLn zBy K V 4 1 (zSS_st hss) (by decide) (by decide)) 1 (zgV zm_765 zm_139 zm_140 zm_141 zm_137) rfl (by decide +kernel) [] [0, 1, 2, 3, 4, 5] [(x1, .inr (16, f1)), (x2, .inl (cA 0, 17000, .inl (upd (upd (fun _ => 0) 0 95) 0 115))), (x3, .inl (cA 1, 4096, .inl f2)), (x5, .inl (cA 1, 13001, .inl (upd (fun _ => 0) 1 1))), (x4, .inl (cA 0, 40000, .inl (upd (fun _ => 0) 0 95))), (x6, .inl (cA 1, 13000, .inl (upd (fun _ => 0) 0 0)))] rfl rfl (by decide) rfl (by decide) (by decide) ⟨Nat.le_of_ble_eq_true rfl, Nat.le_of_ble_eq_true rfl⟩ (zz_recvS X (zSS_st hss) (by decide)) rfl rfl rfl (Nat.le_of_ble_eq_true rfl) dX16_nameOf_17 (Nat.le_of_ble_eq_true rfl) (Nat.le_of_ble_eq_true rfl) (fun r7 _ hw8 => ?_)
  obtain rfl := hw8
  refine zz_show (ws' := [(x1, .inr (16, f1)), (x2, .inl (cA 0, 17000, .inl (upd (upd (fun _ => 0) 0 95) 0 115))), (x3, .inl (cA 1, 4096, .inl f2)), (x5, .inl (cA 1, 13001, .inl (upd (fun _ => 0) 1 1))), (x4, .inl (cA 0, 40000, .inl (upd (fun _ => 0) 0 95))), (x6, .inl (cA 1, 13000, .inl (upd (fun _ => 0) 0 0)))]) rfl ?_
  refine zz_st (st' := [.int 101, .int 1, .ref x2]) (by rfl) ?_
  refine zz_i2b X (101) dX16_nameOf_20 (by decide) ?_
  refine zz_bast X 1 0 rfl rfl (vp_in_nI (n := 1) (by decide) (by decide)) 1 (by decide) (101) (by decide) dX16_nameOf_21 [(x1, .inr (16, f1)), (x2, .inl (cA 0, 17000, .inl (upd (upd (upd (fun _ => 0) 0 95) 0 115) 1 101))), (x3, .inl (cA 1, 4096, .inl f2)), (x5, .inl (cA 1, 13001, .inl (upd (fun _ => 0) 1 1))), (x4, .inl (cA 0, 40000, .inl (upd (fun _ => 0) 0 95))), (x6, .inl (cA 1, 13000, .inl (upd (fun _ => 0) 0 0)))] rfl ?_
  refine zz_iinc X 0 (2) [(2, .int 2), (0, .ref x1), (1, .ref (K 4))] dX16_nameOf_22 rfl (by decide) (by decide) rfl ?_
  refine zz_goto X 2 dX16_nameOf_25 (by decide) ?_
  refine zz_iload_n X 0 dX16_nameOf_2 rfl rfl ?_
  refine zz_aload_n X 2 dX16_nameOf_3 rfl rfl ?_
  refine zz_callTi X (rest := [.int 2]) (As := []) (kJ0_length hE l D cA 8 zLn zBy K V 4 (zSS_st hss) (by decide)) 0 (zgV zm_764 zm_241 zm_242 zm_141 zm_239) rfl (by decide +kernel) [] [0, 1, 2, 3, 4, 5] [(x1, .inr (16, f1)), (x2, .inl (cA 0, 17000, .inl (upd (upd (upd (fun _ => 0) 0 95) 0 115) 1 101))), (x3, .inl (cA 1, 4096, .inl f2)), (x5, .inl (cA 1, 13001, .inl (upd (fun _ => 0) 1 1))), (x4, .inl (cA 0, 40000, .inl (upd (fun _ => 0) 0 95))), (x6, .inl (cA 1, 13000, .inl (upd (fun _ => 0) 0 0)))] rfl rfl (by decide) rfl (by decide) (by decide) ⟨Nat.le_of_ble_eq_true rfl, Nat.le_of_ble_eq_true rfl⟩ (zz_recvS X (zSS_st hss) (by decide)) rfl rfl rfl (Nat.le_of_ble_eq_true rfl) dX16_nameOf_4 (Nat.le_of_ble_eq_true rfl) (Nat.le_of_ble_eq_true rfl) (fun r9 _ hw10 => ?_)
  obtain rfl := hw10
  refine zz_show (ws' := [(x1, .inr (16, f1)), (x2, .inl (cA 0, 17000, .inl (upd (upd (upd (fun _ => 0) 0 95) 0 115) 1 101))), (x3, .inl (cA 1, 4096, .inl f2)), (x5, .inl (cA 1, 13001, .inl (upd (fun _ => 0) 1 1))), (x4, .inl (cA 0, 40000, .inl (upd (fun _ => 0) 0 95))), (x6, .inl (cA 1, 13000, .inl (upd (fun _ => 0) 0 0)))]) rfl ?_
  refine zz_st (st' := [.int 3, .int 2]) rfl ?_
  refine zz_icmp_ge X 28 dX16_nameOf_7 (by decide) (fun h => absurd h (by decide)) (fun _ => ?_)
  refine zz_aload_n X 1 dX16_nameOf_10 rfl rfl ?_
  refine zz_get X 0 0 rfl rfl (by decide) (fun w h => List.mem_cons_of_mem _ (zf_X16 w h)) rfl (List.mem_cons_of_mem _ zm_456) hf1_0 dX16_nameOf_11 ?_
  refine zz_iload_n X 0 dX16_nameOf_14 rfl rfl ?_
  refine zz_aload_n X 2 dX16_nameOf_15 rfl rfl ?_
  refine zz_iload_n X 0 dX16_nameOf_16 rfl rfl ?_
  refine zz_st (st' := [.int (nI 2), .ref (K 4), .int 2, .ref x2]) rfl ?_
  refine zz_callTi X (rest := [.int 2, .ref x2]) (As := [.int (nI 2)]) (kJ0_charAt hE l D cA 8 zLn zBy K V 4 2 (zSS_st hss) (by decide) (by decide)) 1 (zgV zm_765 zm_139 zm_140 zm_141 zm_137) rfl (by decide +kernel) [] [0, 1, 2, 3, 4, 5] [(x1, .inr (16, f1)), (x2, .inl (cA 0, 17000, .inl (upd (upd (upd (fun _ => 0) 0 95) 0 115) 1 101))), (x3, .inl (cA 1, 4096, .inl f2)), (x5, .inl (cA 1, 13001, .inl (upd (fun _ => 0) 1 1))), (x4, .inl (cA 0, 40000, .inl (upd (fun _ => 0) 0 95))), (x6, .inl (cA 1, 13000, .inl (upd (fun _ => 0) 0 0)))] rfl rfl (by decide) rfl (by decide) (by decide) ⟨Nat.le_of_ble_eq_true rfl, Nat.le_of_ble_eq_true rfl⟩ (zz_recvS X (zSS_st hss) (by decide)) rfl rfl rfl (Nat.le_of_ble_eq_true rfl) dX16_nameOf_17 (Nat.le_of_ble_eq_true rfl) (Nat.le_of_ble_eq_true rfl) (fun r11 _ hw12 => ?_)
  obtain rfl := hw12
  refine zz_show (ws' := [(x1, .inr (16, f1)), (x2, .inl (cA 0, 17000, .inl (upd (upd (upd (fun _ => 0) 0 95) 0 115) 1 101))), (x3, .inl (cA 1, 4096, .inl f2)), (x5, .inl (cA 1, 13001, .inl (upd (fun _ => 0) 1 1))), (x4, .inl (cA 0, 40000, .inl (upd (fun _ => 0) 0 95))), (x6, .inl (cA 1, 13000, .inl (upd (fun _ => 0) 0 0)))]) rfl ?_
  refine zz_st (st' := [.int 116, .int 2, .ref x2]) (by rfl) ?_
  refine zz_i2b X (116) dX16_nameOf_20 (by decide) ?_
  refine zz_bast X 1 0 rfl rfl (vp_in_nI (n := 2) (by decide) (by decide)) 2 (by decide) (116) (by decide) dX16_nameOf_21 [(x1, .inr (16, f1)), (x2, .inl (cA 0, 17000, .inl (upd (upd (upd (upd (fun _ => 0) 0 95) 0 115) 1 101) 2 116))), (x3, .inl (cA 1, 4096, .inl f2)), (x5, .inl (cA 1, 13001, .inl (upd (fun _ => 0) 1 1))), (x4, .inl (cA 0, 40000, .inl (upd (fun _ => 0) 0 95))), (x6, .inl (cA 1, 13000, .inl (upd (fun _ => 0) 0 0)))] rfl ?_
  refine zz_iinc X 0 (3) [(2, .int 3), (0, .ref x1), (1, .ref (K 4))] dX16_nameOf_22 rfl (by decide) (by decide) rfl ?_
  refine zz_goto X 2 dX16_nameOf_25 (by decide) ?_
  refine zz_iload_n X 0 dX16_nameOf_2 rfl rfl ?_
  refine zz_aload_n X 2 dX16_nameOf_3 rfl rfl ?_
  refine zz_callTi X (rest := [.int 3]) (As := []) (kJ0_length hE l D cA 8 zLn zBy K V 4 (zSS_st hss) (by decide)) 0 (zgV zm_764 zm_241 zm_242 zm_141 zm_239) rfl (by decide +kernel) [] [0, 1, 2, 3, 4, 5] [(x1, .inr (16, f1)), (x2, .inl (cA 0, 17000, .inl (upd (upd (upd (upd (fun _ => 0) 0 95) 0 115) 1 101) 2 116))), (x3, .inl (cA 1, 4096, .inl f2)), (x5, .inl (cA 1, 13001, .inl (upd (fun _ => 0) 1 1))), (x4, .inl (cA 0, 40000, .inl (upd (fun _ => 0) 0 95))), (x6, .inl (cA 1, 13000, .inl (upd (fun _ => 0) 0 0)))] rfl rfl (by decide) rfl (by decide) (by decide) ⟨Nat.le_of_ble_eq_true rfl, Nat.le_of_ble_eq_true rfl⟩ (zz_recvS X (zSS_st hss) (by decide)) rfl rfl rfl (Nat.le_of_ble_eq_true rfl) dX16_nameOf_4 (Nat.le_of_ble_eq_true rfl) (Nat.le_of_ble_eq_true rfl) (fun r13 _ hw14 => ?_)
  obtain rfl := hw14
  refine zz_show (ws' := [(x1, .inr (16, f1)), (x2, .inl (cA 0, 17000, .inl (upd (upd (upd (upd (fun _ => 0) 0 95) 0 115) 1 101) 2 116))), (x3, .inl (cA 1, 4096, .inl f2)), (x5, .inl (cA 1, 13001, .inl (upd (fun _ => 0) 1 1))), (x4, .inl (cA 0, 40000, .inl (upd (fun _ => 0) 0 95))), (x6, .inl (cA 1, 13000, .inl (upd (fun _ => 0) 0 0)))]) rfl ?_
  refine zz_st (st' := [.int 3, .int 3]) rfl ?_
  refine zz_icmp_ge X 28 dX16_nameOf_7 (by decide) (fun _ => ?_) (fun h => absurd (by decide) h)
  refine zz_aload_n X 1 dX16_nameOf_28 rfl rfl ?_
  refine zz_aload_n X 1 dX16_nameOf_29 rfl rfl ?_
  refine zz_get X 0 0 rfl rfl (by decide) (fun w h => List.mem_cons_of_mem _ (zf_X16 w h)) rfl (List.mem_cons_of_mem _ zm_456) hf1_0 dX16_nameOf_30 ?_
  refine zz_iconst X 0 dX16_nameOf_33 rfl ?_
  refine zz_aload_n X 2 dX16_nameOf_34 rfl rfl ?_
  refine zz_callTi X (rest := [.int 0, .ref x2, .ref x1]) (As := []) (kJ0_length hE l D cA 8 zLn zBy K V 4 (zSS_st hss) (by decide)) 0 (zgV zm_764 zm_241 zm_242 zm_141 zm_239) rfl (by decide +kernel) [] [0, 1, 2, 3, 4, 5] [(x1, .inr (16, f1)), (x2, .inl (cA 0, 17000, .inl (upd (upd (upd (upd (fun _ => 0) 0 95) 0 115) 1 101) 2 116))), (x3, .inl (cA 1, 4096, .inl f2)), (x5, .inl (cA 1, 13001, .inl (upd (fun _ => 0) 1 1))), (x4, .inl (cA 0, 40000, .inl (upd (fun _ => 0) 0 95))), (x6, .inl (cA 1, 13000, .inl (upd (fun _ => 0) 0 0)))] rfl rfl (by decide) rfl (by decide) (by decide) ⟨Nat.le_of_ble_eq_true rfl, Nat.le_of_ble_eq_true rfl⟩ (zz_recvS X (zSS_st hss) (by decide)) rfl rfl rfl (Nat.le_of_ble_eq_true rfl) dX16_nameOf_35 (Nat.le_of_ble_eq_true rfl) (Nat.le_of_ble_eq_true rfl) (fun r15 _ hw16 => ?_)
  obtain rfl := hw16
  refine zz_show (ws' := [(x1, .inr (16, f1)), (x2, .inl (cA 0, 17000, .inl (upd (upd (upd (upd (fun _ => 0) 0 95) 0 115) 1 101) 2 116))), (x3, .inl (cA 1, 4096, .inl f2)), (x5, .inl (cA 1, 13001, .inl (upd (fun _ => 0) 1 1))), (x4, .inl (cA 0, 40000, .inl (upd (fun _ => 0) 0 95))), (x6, .inl (cA 1, 13000, .inl (upd (fun _ => 0) 0 0)))]) rfl ?_
  refine zz_st (st' := [.int 3, .int 0, .ref x2, .ref x1]) rfl ?_
  refine zz_callVi X (rest := []) (As := [.ref x2, .int 0, .int 3]) (kX16_name_2 hE l D cA K V x1 x2 f1 x3 x4 x5 x6 (upd (upd (upd (upd (fun _ => 0) 0 95) 0 115) 1 101) 2 116) f2 hss (zq_len hf1_n (by simp only [List.length_set])) hf1_19 hf1_16 hf1_17 hf1_20 hf1_18 rfl rfl rfl hf2_3170) 3 (zgV zm_767 zm_768 zm_769 zm_451 zm_766) rfl (by decide +kernel) [0, 1, 2, 3, 4, 5] [] [] rfl rfl (by decide) rfl (by decide) (by decide) ⟨Nat.le_of_ble_eq_true rfl, Nat.le_of_ble_eq_true rfl⟩ 0 rfl rfl rfl rfl rfl (Nat.le_of_ble_eq_true rfl) dX16_nameOf_38 (Nat.le_of_ble_eq_true rfl) (Nat.le_of_ble_eq_true rfl) (fun r17 _ hw18 => ?_)
  obtain rfl := hw18
  refine zz_show (ws' := [(x1, .inr (16, (f1.set 20 (.int 2)))), (x2, .inl (cA 0, 17000, .inl ((upd (upd (upd (upd (fun _ => 0) 0 95) 0 115) 1 101) 2 116)))), (x3, .inl (cA 1, 4096, .inl (upd f2 3170 2))), (x5, .inl (cA 1, 13001, .inl (upd (upd (fun _ => 0) 1 1) 2 4))), (x4, .inl (cA 0, 40000, .inl (upd (upd (upd (upd (fun _ => 0) 0 95) 1 115) 2 101) 3 116))), (x6, .inl (cA 1, 13000, .inl (upd (upd (fun _ => 0) 0 0) 1 0)))]) rfl ?_
  exact zz_iret X hr (()) [0, 1, 2, 3, 4, 5] (by decide) rfl rfl (Nat.le_of_ble_eq_true rfl) (Nat.le_of_ble_eq_true rfl) (rfl) dX16_nameOf_41

set_option maxHeartbeats 4000000 in
set_option maxRecDepth 100000 in
/-- name -/
theorem kX16_name_3 {E : zEn} (hE : zOk E) (l : Launch) (D : va_G) (cA : Nat → ClassId) (K : Nat → Nat) (V : Nat → Nat) (x1 : Nat) (x2 : Nat) (f1 : List Value) (x3 : Nat) (x4 : Nat) (x5 : Nat) (x6 : Nat) (f2 : Nat → Int32) (f3 : Nat → Int32) (f4 : Nat → Int32) (hss : zSS E K V) (hf1_n : f1.length = 243) (hf1_19 : f1[19]? = some (.ref x3)) (hf1_16 : f1[16]? = some (.ref x4)) (hf1_17 : f1[17]? = some (.ref x5)) (hf1_20 : f1[20]? = some (.int 2)) (hf1_18 : f1[18]? = some (.ref x6)) (hf2_0 : f2 0 = 105) (hf2_1 : f2 1 = 110) (hf2_2 : f2 2 = 112) (hf2_3 : f2 3 = 117) (hf2_4 : f2 4 = 116) (hf3_1994 : f3 1994 = 0) : zMi E l yX16_name zwX16_name ({ frames := 0, cells := 0, slots := 0, locals := 0 }) D vwCl (zT cA) [.ref x1, .ref x2, .int 0, .int 5] [(x1, .inr (16, f1)), (x2, .inl (cA 0, 17000, .inl f2)), (x3, .inl (cA 1, 4096, .inl f3)), (x5, .inl (cA 1, 13001, .inl (upd (upd (fun _ => 0) 1 1) 2 4))), (x4, .inl (cA 0, 40000, .inl f4)), (x6, .inl (cA 1, 13000, .inl (upd (upd (fun _ => 0) 0 0) 1 0)))] (S := Unit) (fun (r : Int32) (u : Unit) => (r = 2)) (fun (u : Unit) => [(x1, .inr (16, (f1.set 20 (.int 3)))), (x2, .inl (cA 0, 17000, .inl f2)), (x3, .inl (cA 1, 4096, .inl (upd f3 1994 3))), (x5, .inl (cA 1, 13001, .inl (upd (upd (upd (fun _ => 0) 1 1) 2 4) 3 9))), (x4, .inl (cA 0, 40000, .inl (upd (upd (upd (upd (upd f4 4 105) 5 110) 6 112) 7 117) 8 116))), (x6, .inl (cA 1, 13000, .inl (upd (upd (upd (fun _ => 0) 0 0) 1 0) 2 0)))]) := by
  refine zz_enteri (cc := cX16_name) (lv := [(0, .ref x1), (1, .ref x2), (2, .int 0), (3, .int 5)]) hE 6 (by decide) rfl (Nat.le_of_ble_eq_true rfl) rfl ?_
  intro p e s m args below meth c X hr hin
  refine zz_iconst X 0 dX16_name_0 rfl ?_
  refine zz_istore X [(4, .int 0), (0, .ref x1), (1, .ref x2), (2, .int 0), (3, .int 5)] dX16_name_1 (by decide) rfl ?_
  refine zz_iconst X 0 dX16_name_3 rfl ?_
  refine zz_istore X [(5, .int 0), (4, .int 0), (0, .ref x1), (1, .ref x2), (2, .int 0), (3, .int 5)] dX16_name_4 (by decide) rfl ?_
  refine zz_iload X 0 dX16_name_6 rfl ?_
  refine zz_iload_n X 5 dX16_name_8 rfl rfl ?_
  refine zz_icmp_ge X 36 dX16_name_9 (by decide) (fun h => absurd h (by decide)) (fun _ => ?_)
  refine zz_bipush X 31 dX16_name_12 rfl ?_
  refine zz_iload X 1 dX16_name_14 rfl ?_
  refine zz_imul X (0) dX16_name_16 (by decide) ?_
  refine zz_aload_n X 3 dX16_name_17 rfl rfl ?_
  refine zz_iload_n X 4 dX16_name_18 rfl rfl ?_
  refine zz_iload X 0 dX16_name_19 rfl ?_
  refine zz_iadd X (0) dX16_name_21 (by decide) ?_
  refine zz_bald X 1 0 rfl rfl (vp_in_nI (n := 0) (by decide) (by decide)) (105) hf2_0 dX16_name_22 ?_
  refine zz_iadd X (105) dX16_name_23 (by decide) ?_
  refine zz_sipush X 4095 dX16_name_24 rfl ?_
  refine zz_iand X (105) dX16_name_27 (by decide) ?_
  refine zz_istore X [(4, .int 105), (5, .int 0), (0, .ref x1), (1, .ref x2), (2, .int 0), (3, .int 5)] dX16_name_28 (by decide) rfl ?_
  refine zz_iinc X 1 (1) [(5, .int 1), (4, .int 105), (0, .ref x1), (1, .ref x2), (2, .int 0), (3, .int 5)] dX16_name_30 rfl (by decide) (by decide) rfl ?_
  refine zz_goto X 6 dX16_name_33 (by decide) ?_
  refine zz_iload X 0 dX16_name_6 rfl ?_
  refine zz_iload_n X 5 dX16_name_8 rfl rfl ?_
  refine zz_icmp_ge X 36 dX16_name_9 (by decide) (fun h => absurd h (by decide)) (fun _ => ?_)
  refine zz_bipush X 31 dX16_name_12 rfl ?_
  refine zz_iload X 1 dX16_name_14 rfl ?_
  refine zz_imul X (3255) dX16_name_16 (by decide) ?_
  refine zz_aload_n X 3 dX16_name_17 rfl rfl ?_
  refine zz_iload_n X 4 dX16_name_18 rfl rfl ?_
  refine zz_iload X 0 dX16_name_19 rfl ?_
  refine zz_iadd X (1) dX16_name_21 (by decide) ?_
  refine zz_bald X 1 0 rfl rfl (vp_in_nI (n := 1) (by decide) (by decide)) (110) hf2_1 dX16_name_22 ?_
  refine zz_iadd X (3365) dX16_name_23 (by decide) ?_
  refine zz_sipush X 4095 dX16_name_24 rfl ?_
  refine zz_iand X (3365) dX16_name_27 (by decide) ?_
  refine zz_istore X [(4, .int 3365), (5, .int 1), (0, .ref x1), (1, .ref x2), (2, .int 0), (3, .int 5)] dX16_name_28 (by decide) rfl ?_
  refine zz_iinc X 1 (2) [(5, .int 2), (4, .int 3365), (0, .ref x1), (1, .ref x2), (2, .int 0), (3, .int 5)] dX16_name_30 rfl (by decide) (by decide) rfl ?_
  refine zz_goto X 6 dX16_name_33 (by decide) ?_
  refine zz_iload X 0 dX16_name_6 rfl ?_
  refine zz_iload_n X 5 dX16_name_8 rfl rfl ?_
  refine zz_icmp_ge X 36 dX16_name_9 (by decide) (fun h => absurd h (by decide)) (fun _ => ?_)
  refine zz_bipush X 31 dX16_name_12 rfl ?_
  refine zz_iload X 1 dX16_name_14 rfl ?_
  refine zz_imul X (104315) dX16_name_16 (by decide) ?_
  refine zz_aload_n X 3 dX16_name_17 rfl rfl ?_
  refine zz_iload_n X 4 dX16_name_18 rfl rfl ?_
  refine zz_iload X 0 dX16_name_19 rfl ?_
  refine zz_iadd X (2) dX16_name_21 (by decide) ?_
  refine zz_bald X 1 0 rfl rfl (vp_in_nI (n := 2) (by decide) (by decide)) (112) hf2_2 dX16_name_22 ?_
  refine zz_iadd X (104427) dX16_name_23 (by decide) ?_
  refine zz_sipush X 4095 dX16_name_24 rfl ?_
  refine zz_iand X (2027) dX16_name_27 (by decide) ?_
  refine zz_istore X [(4, .int 2027), (5, .int 2), (0, .ref x1), (1, .ref x2), (2, .int 0), (3, .int 5)] dX16_name_28 (by decide) rfl ?_
  refine zz_iinc X 1 (3) [(5, .int 3), (4, .int 2027), (0, .ref x1), (1, .ref x2), (2, .int 0), (3, .int 5)] dX16_name_30 rfl (by decide) (by decide) rfl ?_
  refine zz_goto X 6 dX16_name_33 (by decide) ?_
  refine zz_iload X 0 dX16_name_6 rfl ?_
  refine zz_iload_n X 5 dX16_name_8 rfl rfl ?_
  refine zz_icmp_ge X 36 dX16_name_9 (by decide) (fun h => absurd h (by decide)) (fun _ => ?_)
  refine zz_bipush X 31 dX16_name_12 rfl ?_
  refine zz_iload X 1 dX16_name_14 rfl ?_
  refine zz_imul X (62837) dX16_name_16 (by decide) ?_
  refine zz_aload_n X 3 dX16_name_17 rfl rfl ?_
  refine zz_iload_n X 4 dX16_name_18 rfl rfl ?_
  refine zz_iload X 0 dX16_name_19 rfl ?_
  refine zz_iadd X (3) dX16_name_21 (by decide) ?_
  refine zz_bald X 1 0 rfl rfl (vp_in_nI (n := 3) (by decide) (by decide)) (117) hf2_3 dX16_name_22 ?_
  refine zz_iadd X (62954) dX16_name_23 (by decide) ?_
  refine zz_sipush X 4095 dX16_name_24 rfl ?_
  refine zz_iand X (1514) dX16_name_27 (by decide) ?_
  refine zz_istore X [(4, .int 1514), (5, .int 3), (0, .ref x1), (1, .ref x2), (2, .int 0), (3, .int 5)] dX16_name_28 (by decide) rfl ?_
  refine zz_iinc X 1 (4) [(5, .int 4), (4, .int 1514), (0, .ref x1), (1, .ref x2), (2, .int 0), (3, .int 5)] dX16_name_30 rfl (by decide) (by decide) rfl ?_
  refine zz_goto X 6 dX16_name_33 (by decide) ?_
  refine zz_iload X 0 dX16_name_6 rfl ?_
  refine zz_iload_n X 5 dX16_name_8 rfl rfl ?_
  refine zz_icmp_ge X 36 dX16_name_9 (by decide) (fun h => absurd h (by decide)) (fun _ => ?_)
  refine zz_bipush X 31 dX16_name_12 rfl ?_
  refine zz_iload X 1 dX16_name_14 rfl ?_
  refine zz_imul X (46934) dX16_name_16 (by decide) ?_
  refine zz_aload_n X 3 dX16_name_17 rfl rfl ?_
  refine zz_iload_n X 4 dX16_name_18 rfl rfl ?_
  refine zz_iload X 0 dX16_name_19 rfl ?_
  refine zz_iadd X (4) dX16_name_21 (by decide) ?_
  refine zz_bald X 1 0 rfl rfl (vp_in_nI (n := 4) (by decide) (by decide)) (116) hf2_4 dX16_name_22 ?_
  refine zz_iadd X (47050) dX16_name_23 (by decide) ?_
  refine zz_sipush X 4095 dX16_name_24 rfl ?_
  refine zz_iand X (1994) dX16_name_27 (by decide) ?_
  refine zz_istore X [(4, .int 1994), (5, .int 4), (0, .ref x1), (1, .ref x2), (2, .int 0), (3, .int 5)] dX16_name_28 (by decide) rfl ?_
  refine zz_iinc X 1 (5) [(5, .int 5), (4, .int 1994), (0, .ref x1), (1, .ref x2), (2, .int 0), (3, .int 5)] dX16_name_30 rfl (by decide) (by decide) rfl ?_
  refine zz_goto X 6 dX16_name_33 (by decide) ?_
  refine zz_iload X 0 dX16_name_6 rfl ?_
  refine zz_iload_n X 5 dX16_name_8 rfl rfl ?_
  refine zz_icmp_ge X 36 dX16_name_9 (by decide) (fun _ => ?_) (fun h => absurd (by decide) h)
  refine zz_aload_n X 2 dX16_name_36 rfl rfl ?_
  refine zz_get X 0 19 rfl rfl (by decide) (fun w h => List.mem_cons_of_mem _ (zf_X16 w h)) rfl (List.mem_cons_of_mem _ zm_466) hf1_19 dX16_name_37 ?_
  refine zz_iload X 1 dX16_name_40 rfl ?_
  refine zz_iald X 2 1 rfl rfl (vp_in_nI (n := 1994) (by decide) (by decide)) (0) hf3_1994 dX16_name_42 ?_
  refine zz_iconst X 1 dX16_name_43 rfl ?_
  refine zz_isub X ((-1)) dX16_name_44 (by decide) ?_
  refine zz_istore X [(5, .int (-1)), (4, .int 1994), (0, .ref x1), (1, .ref x2), (2, .int 0), (3, .int 5)] dX16_name_45 (by decide) rfl ?_
  refine zz_iload X 0 dX16_name_47 rfl ?_
  refine zz_if_lt X 81 dX16_name_49 (by decide) (fun _ => ?_) (fun h => absurd (by decide) h)
  refine zz_iconst X 0 dX16_name_81 rfl ?_
  refine zz_istore X [(5, .int 0), (4, .int 1994), (0, .ref x1), (1, .ref x2), (2, .int 0), (3, .int 5)] dX16_name_82 (by decide) rfl ?_
  refine zz_iload X 0 dX16_name_84 rfl ?_
  refine zz_iload_n X 5 dX16_name_86 rfl rfl ?_
  refine zz_icmp_ge X 119 dX16_name_87 (by decide) (fun h => absurd h (by decide)) (fun _ => ?_)
  refine zz_aload_n X 2 dX16_name_90 rfl rfl ?_
  refine zz_get X 0 16 rfl rfl (by decide) (fun w h => List.mem_cons_of_mem _ (zf_X16 w h)) rfl (List.mem_cons_of_mem _ zm_463) hf1_16 dX16_name_91 ?_
  refine zz_aload_n X 2 dX16_name_94 rfl rfl ?_
  refine zz_get X 0 17 rfl rfl (by decide) (fun w h => List.mem_cons_of_mem _ (zf_X16 w h)) rfl (List.mem_cons_of_mem _ zm_464) hf1_17 dX16_name_95 ?_
  refine zz_aload_n X 2 dX16_name_98 rfl rfl ?_
  refine zz_get X 0 20 rfl rfl (by decide) (fun w h => List.mem_cons_of_mem _ (zf_X16 w h)) rfl (List.mem_cons_of_mem _ zm_760) hf1_20 dX16_name_99 ?_
  refine zz_iald X 3 1 rfl rfl (vp_in_nI (n := 2) (by decide) (by decide)) (4) rfl dX16_name_102 ?_
  refine zz_iload X 0 dX16_name_103 rfl ?_
  refine zz_iadd X (4) dX16_name_105 (by decide) ?_
  refine zz_aload_n X 3 dX16_name_106 rfl rfl ?_
  refine zz_iload_n X 4 dX16_name_107 rfl rfl ?_
  refine zz_iload X 0 dX16_name_108 rfl ?_
  refine zz_iadd X (0) dX16_name_110 (by decide) ?_
  refine zz_bald X 1 0 rfl rfl (vp_in_nI (n := 0) (by decide) (by decide)) (105) hf2_0 dX16_name_111 ?_
  refine zz_bast X 4 0 rfl rfl (vp_in_nI (n := 4) (by decide) (by decide)) 4 (by decide) (105) (by decide) dX16_name_112 [(x1, .inr (16, f1)), (x2, .inl (cA 0, 17000, .inl f2)), (x3, .inl (cA 1, 4096, .inl f3)), (x5, .inl (cA 1, 13001, .inl (upd (upd (fun _ => 0) 1 1) 2 4))), (x4, .inl (cA 0, 40000, .inl (upd f4 4 105))), (x6, .inl (cA 1, 13000, .inl (upd (upd (fun _ => 0) 0 0) 1 0)))] rfl ?_
  refine zz_iinc X 0 (1) [(5, .int 1), (4, .int 1994), (0, .ref x1), (1, .ref x2), (2, .int 0), (3, .int 5)] dX16_name_113 rfl (by decide) (by decide) rfl ?_
  refine zz_goto X 84 dX16_name_116 (by decide) ?_
  refine zz_iload X 0 dX16_name_84 rfl ?_
  refine zz_iload_n X 5 dX16_name_86 rfl rfl ?_
  refine zz_icmp_ge X 119 dX16_name_87 (by decide) (fun h => absurd h (by decide)) (fun _ => ?_)
  refine zz_aload_n X 2 dX16_name_90 rfl rfl ?_
  refine zz_get X 0 16 rfl rfl (by decide) (fun w h => List.mem_cons_of_mem _ (zf_X16 w h)) rfl (List.mem_cons_of_mem _ zm_463) hf1_16 dX16_name_91 ?_
  refine zz_aload_n X 2 dX16_name_94 rfl rfl ?_
  refine zz_get X 0 17 rfl rfl (by decide) (fun w h => List.mem_cons_of_mem _ (zf_X16 w h)) rfl (List.mem_cons_of_mem _ zm_464) hf1_17 dX16_name_95 ?_
  refine zz_aload_n X 2 dX16_name_98 rfl rfl ?_
  refine zz_get X 0 20 rfl rfl (by decide) (fun w h => List.mem_cons_of_mem _ (zf_X16 w h)) rfl (List.mem_cons_of_mem _ zm_760) hf1_20 dX16_name_99 ?_
  refine zz_iald X 3 1 rfl rfl (vp_in_nI (n := 2) (by decide) (by decide)) (4) rfl dX16_name_102 ?_
  refine zz_iload X 0 dX16_name_103 rfl ?_
  refine zz_iadd X (5) dX16_name_105 (by decide) ?_
  refine zz_aload_n X 3 dX16_name_106 rfl rfl ?_
  refine zz_iload_n X 4 dX16_name_107 rfl rfl ?_
  refine zz_iload X 0 dX16_name_108 rfl ?_
  refine zz_iadd X (1) dX16_name_110 (by decide) ?_
  refine zz_bald X 1 0 rfl rfl (vp_in_nI (n := 1) (by decide) (by decide)) (110) hf2_1 dX16_name_111 ?_
  refine zz_bast X 4 0 rfl rfl (vp_in_nI (n := 5) (by decide) (by decide)) 5 (by decide) (110) (by decide) dX16_name_112 [(x1, .inr (16, f1)), (x2, .inl (cA 0, 17000, .inl f2)), (x3, .inl (cA 1, 4096, .inl f3)), (x5, .inl (cA 1, 13001, .inl (upd (upd (fun _ => 0) 1 1) 2 4))), (x4, .inl (cA 0, 40000, .inl (upd (upd f4 4 105) 5 110))), (x6, .inl (cA 1, 13000, .inl (upd (upd (fun _ => 0) 0 0) 1 0)))] rfl ?_
  refine zz_iinc X 0 (2) [(5, .int 2), (4, .int 1994), (0, .ref x1), (1, .ref x2), (2, .int 0), (3, .int 5)] dX16_name_113 rfl (by decide) (by decide) rfl ?_
  refine zz_goto X 84 dX16_name_116 (by decide) ?_
  refine zz_iload X 0 dX16_name_84 rfl ?_
  refine zz_iload_n X 5 dX16_name_86 rfl rfl ?_
  refine zz_icmp_ge X 119 dX16_name_87 (by decide) (fun h => absurd h (by decide)) (fun _ => ?_)
  refine zz_aload_n X 2 dX16_name_90 rfl rfl ?_
  refine zz_get X 0 16 rfl rfl (by decide) (fun w h => List.mem_cons_of_mem _ (zf_X16 w h)) rfl (List.mem_cons_of_mem _ zm_463) hf1_16 dX16_name_91 ?_
  refine zz_aload_n X 2 dX16_name_94 rfl rfl ?_
  refine zz_get X 0 17 rfl rfl (by decide) (fun w h => List.mem_cons_of_mem _ (zf_X16 w h)) rfl (List.mem_cons_of_mem _ zm_464) hf1_17 dX16_name_95 ?_
  refine zz_aload_n X 2 dX16_name_98 rfl rfl ?_
  refine zz_get X 0 20 rfl rfl (by decide) (fun w h => List.mem_cons_of_mem _ (zf_X16 w h)) rfl (List.mem_cons_of_mem _ zm_760) hf1_20 dX16_name_99 ?_
  refine zz_iald X 3 1 rfl rfl (vp_in_nI (n := 2) (by decide) (by decide)) (4) rfl dX16_name_102 ?_
  refine zz_iload X 0 dX16_name_103 rfl ?_
  refine zz_iadd X (6) dX16_name_105 (by decide) ?_
  refine zz_aload_n X 3 dX16_name_106 rfl rfl ?_
  refine zz_iload_n X 4 dX16_name_107 rfl rfl ?_
  refine zz_iload X 0 dX16_name_108 rfl ?_
  refine zz_iadd X (2) dX16_name_110 (by decide) ?_
  refine zz_bald X 1 0 rfl rfl (vp_in_nI (n := 2) (by decide) (by decide)) (112) hf2_2 dX16_name_111 ?_
  refine zz_bast X 4 0 rfl rfl (vp_in_nI (n := 6) (by decide) (by decide)) 6 (by decide) (112) (by decide) dX16_name_112 [(x1, .inr (16, f1)), (x2, .inl (cA 0, 17000, .inl f2)), (x3, .inl (cA 1, 4096, .inl f3)), (x5, .inl (cA 1, 13001, .inl (upd (upd (fun _ => 0) 1 1) 2 4))), (x4, .inl (cA 0, 40000, .inl (upd (upd (upd f4 4 105) 5 110) 6 112))), (x6, .inl (cA 1, 13000, .inl (upd (upd (fun _ => 0) 0 0) 1 0)))] rfl ?_
  refine zz_iinc X 0 (3) [(5, .int 3), (4, .int 1994), (0, .ref x1), (1, .ref x2), (2, .int 0), (3, .int 5)] dX16_name_113 rfl (by decide) (by decide) rfl ?_
  refine zz_goto X 84 dX16_name_116 (by decide) ?_
  refine zz_iload X 0 dX16_name_84 rfl ?_
  refine zz_iload_n X 5 dX16_name_86 rfl rfl ?_
  refine zz_icmp_ge X 119 dX16_name_87 (by decide) (fun h => absurd h (by decide)) (fun _ => ?_)
  refine zz_aload_n X 2 dX16_name_90 rfl rfl ?_
  refine zz_get X 0 16 rfl rfl (by decide) (fun w h => List.mem_cons_of_mem _ (zf_X16 w h)) rfl (List.mem_cons_of_mem _ zm_463) hf1_16 dX16_name_91 ?_
  refine zz_aload_n X 2 dX16_name_94 rfl rfl ?_
  refine zz_get X 0 17 rfl rfl (by decide) (fun w h => List.mem_cons_of_mem _ (zf_X16 w h)) rfl (List.mem_cons_of_mem _ zm_464) hf1_17 dX16_name_95 ?_
  refine zz_aload_n X 2 dX16_name_98 rfl rfl ?_
  refine zz_get X 0 20 rfl rfl (by decide) (fun w h => List.mem_cons_of_mem _ (zf_X16 w h)) rfl (List.mem_cons_of_mem _ zm_760) hf1_20 dX16_name_99 ?_
  refine zz_iald X 3 1 rfl rfl (vp_in_nI (n := 2) (by decide) (by decide)) (4) rfl dX16_name_102 ?_
  refine zz_iload X 0 dX16_name_103 rfl ?_
  refine zz_iadd X (7) dX16_name_105 (by decide) ?_
  refine zz_aload_n X 3 dX16_name_106 rfl rfl ?_
  refine zz_iload_n X 4 dX16_name_107 rfl rfl ?_
  refine zz_iload X 0 dX16_name_108 rfl ?_
  refine zz_iadd X (3) dX16_name_110 (by decide) ?_
  refine zz_bald X 1 0 rfl rfl (vp_in_nI (n := 3) (by decide) (by decide)) (117) hf2_3 dX16_name_111 ?_
  refine zz_bast X 4 0 rfl rfl (vp_in_nI (n := 7) (by decide) (by decide)) 7 (by decide) (117) (by decide) dX16_name_112 [(x1, .inr (16, f1)), (x2, .inl (cA 0, 17000, .inl f2)), (x3, .inl (cA 1, 4096, .inl f3)), (x5, .inl (cA 1, 13001, .inl (upd (upd (fun _ => 0) 1 1) 2 4))), (x4, .inl (cA 0, 40000, .inl (upd (upd (upd (upd f4 4 105) 5 110) 6 112) 7 117))), (x6, .inl (cA 1, 13000, .inl (upd (upd (fun _ => 0) 0 0) 1 0)))] rfl ?_
  refine zz_iinc X 0 (4) [(5, .int 4), (4, .int 1994), (0, .ref x1), (1, .ref x2), (2, .int 0), (3, .int 5)] dX16_name_113 rfl (by decide) (by decide) rfl ?_
  refine zz_goto X 84 dX16_name_116 (by decide) ?_
  refine zz_iload X 0 dX16_name_84 rfl ?_
  refine zz_iload_n X 5 dX16_name_86 rfl rfl ?_
  refine zz_icmp_ge X 119 dX16_name_87 (by decide) (fun h => absurd h (by decide)) (fun _ => ?_)
  refine zz_aload_n X 2 dX16_name_90 rfl rfl ?_
  refine zz_get X 0 16 rfl rfl (by decide) (fun w h => List.mem_cons_of_mem _ (zf_X16 w h)) rfl (List.mem_cons_of_mem _ zm_463) hf1_16 dX16_name_91 ?_
  refine zz_aload_n X 2 dX16_name_94 rfl rfl ?_
  refine zz_get X 0 17 rfl rfl (by decide) (fun w h => List.mem_cons_of_mem _ (zf_X16 w h)) rfl (List.mem_cons_of_mem _ zm_464) hf1_17 dX16_name_95 ?_
  refine zz_aload_n X 2 dX16_name_98 rfl rfl ?_
  refine zz_get X 0 20 rfl rfl (by decide) (fun w h => List.mem_cons_of_mem _ (zf_X16 w h)) rfl (List.mem_cons_of_mem _ zm_760) hf1_20 dX16_name_99 ?_
  refine zz_iald X 3 1 rfl rfl (vp_in_nI (n := 2) (by decide) (by decide)) (4) rfl dX16_name_102 ?_
  refine zz_iload X 0 dX16_name_103 rfl ?_
  refine zz_iadd X (8) dX16_name_105 (by decide) ?_
  refine zz_aload_n X 3 dX16_name_106 rfl rfl ?_
  refine zz_iload_n X 4 dX16_name_107 rfl rfl ?_
  refine zz_iload X 0 dX16_name_108 rfl ?_
  refine zz_iadd X (4) dX16_name_110 (by decide) ?_
  refine zz_bald X 1 0 rfl rfl (vp_in_nI (n := 4) (by decide) (by decide)) (116) hf2_4 dX16_name_111 ?_
  refine zz_bast X 4 0 rfl rfl (vp_in_nI (n := 8) (by decide) (by decide)) 8 (by decide) (116) (by decide) dX16_name_112 [(x1, .inr (16, f1)), (x2, .inl (cA 0, 17000, .inl f2)), (x3, .inl (cA 1, 4096, .inl f3)), (x5, .inl (cA 1, 13001, .inl (upd (upd (fun _ => 0) 1 1) 2 4))), (x4, .inl (cA 0, 40000, .inl (upd (upd (upd (upd (upd f4 4 105) 5 110) 6 112) 7 117) 8 116))), (x6, .inl (cA 1, 13000, .inl (upd (upd (fun _ => 0) 0 0) 1 0)))] rfl ?_
  refine zz_iinc X 0 (5) [(5, .int 5), (4, .int 1994), (0, .ref x1), (1, .ref x2), (2, .int 0), (3, .int 5)] dX16_name_113 rfl (by decide) (by decide) rfl ?_
  refine zz_goto X 84 dX16_name_116 (by decide) ?_
  refine zz_iload X 0 dX16_name_84 rfl ?_
  refine zz_iload_n X 5 dX16_name_86 rfl rfl ?_
  refine zz_icmp_ge X 119 dX16_name_87 (by decide) (fun _ => ?_) (fun h => absurd (by decide) h)
  refine zz_aload_n X 2 dX16_name_119 rfl rfl ?_
  refine zz_get X 0 17 rfl rfl (by decide) (fun w h => List.mem_cons_of_mem _ (zf_X16 w h)) rfl (List.mem_cons_of_mem _ zm_464) hf1_17 dX16_name_120 ?_
  refine zz_aload_n X 2 dX16_name_123 rfl rfl ?_
  refine zz_get X 0 20 rfl rfl (by decide) (fun w h => List.mem_cons_of_mem _ (zf_X16 w h)) rfl (List.mem_cons_of_mem _ zm_760) hf1_20 dX16_name_124 ?_
  refine zz_iconst X 1 dX16_name_127 rfl ?_
  refine zz_iadd X (3) dX16_name_128 (by decide) ?_
  refine zz_aload_n X 2 dX16_name_129 rfl rfl ?_
  refine zz_get X 0 17 rfl rfl (by decide) (fun w h => List.mem_cons_of_mem _ (zf_X16 w h)) rfl (List.mem_cons_of_mem _ zm_464) hf1_17 dX16_name_130 ?_
  refine zz_aload_n X 2 dX16_name_133 rfl rfl ?_
  refine zz_get X 0 20 rfl rfl (by decide) (fun w h => List.mem_cons_of_mem _ (zf_X16 w h)) rfl (List.mem_cons_of_mem _ zm_760) hf1_20 dX16_name_134 ?_
  refine zz_iald X 3 1 rfl rfl (vp_in_nI (n := 2) (by decide) (by decide)) (4) rfl dX16_name_137 ?_
  refine zz_iload_n X 5 dX16_name_138 rfl rfl ?_
  refine zz_iadd X (9) dX16_name_139 (by decide) ?_
  refine zz_iast X 3 1 rfl rfl (vp_in_nI (n := 3) (by decide) (by decide)) 3 (by decide) dX16_name_140 [(x1, .inr (16, f1)), (x2, .inl (cA 0, 17000, .inl f2)), (x3, .inl (cA 1, 4096, .inl f3)), (x5, .inl (cA 1, 13001, .inl (upd (upd (upd (fun _ => 0) 1 1) 2 4) 3 9))), (x4, .inl (cA 0, 40000, .inl (upd (upd (upd (upd (upd f4 4 105) 5 110) 6 112) 7 117) 8 116))), (x6, .inl (cA 1, 13000, .inl (upd (upd (fun _ => 0) 0 0) 1 0)))] rfl ?_
  refine zz_aload_n X 2 dX16_name_141 rfl rfl ?_
  refine zz_get X 0 18 rfl rfl (by decide) (fun w h => List.mem_cons_of_mem _ (zf_X16 w h)) rfl (List.mem_cons_of_mem _ zm_465) hf1_18 dX16_name_142 ?_
  refine zz_aload_n X 2 dX16_name_145 rfl rfl ?_
  refine zz_get X 0 20 rfl rfl (by decide) (fun w h => List.mem_cons_of_mem _ (zf_X16 w h)) rfl (List.mem_cons_of_mem _ zm_760) hf1_20 dX16_name_146 ?_
  refine zz_aload_n X 2 dX16_name_149 rfl rfl ?_
  refine zz_get X 0 19 rfl rfl (by decide) (fun w h => List.mem_cons_of_mem _ (zf_X16 w h)) rfl (List.mem_cons_of_mem _ zm_466) hf1_19 dX16_name_150 ?_
  refine zz_iload X 1 dX16_name_153 rfl ?_
  refine zz_iald X 2 1 rfl rfl (vp_in_nI (n := 1994) (by decide) (by decide)) (0) hf3_1994 dX16_name_155 ?_
  refine zz_iast X 5 1 rfl rfl (vp_in_nI (n := 2) (by decide) (by decide)) 2 (by decide) dX16_name_156 [(x1, .inr (16, f1)), (x2, .inl (cA 0, 17000, .inl f2)), (x3, .inl (cA 1, 4096, .inl f3)), (x5, .inl (cA 1, 13001, .inl (upd (upd (upd (fun _ => 0) 1 1) 2 4) 3 9))), (x4, .inl (cA 0, 40000, .inl (upd (upd (upd (upd (upd f4 4 105) 5 110) 6 112) 7 117) 8 116))), (x6, .inl (cA 1, 13000, .inl (upd (upd (upd (fun _ => 0) 0 0) 1 0) 2 0)))] rfl ?_
  refine zz_aload_n X 2 dX16_name_157 rfl rfl ?_
  refine zz_get X 0 19 rfl rfl (by decide) (fun w h => List.mem_cons_of_mem _ (zf_X16 w h)) rfl (List.mem_cons_of_mem _ zm_466) hf1_19 dX16_name_158 ?_
  refine zz_iload X 1 dX16_name_161 rfl ?_
  refine zz_aload_n X 2 dX16_name_163 rfl rfl ?_
  refine zz_get X 0 20 rfl rfl (by decide) (fun w h => List.mem_cons_of_mem _ (zf_X16 w h)) rfl (List.mem_cons_of_mem _ zm_760) hf1_20 dX16_name_164 ?_
  refine zz_iconst X 1 dX16_name_167 rfl ?_
  refine zz_iadd X (3) dX16_name_168 (by decide) ?_
  refine zz_iast X 2 1 rfl rfl (vp_in_nI (n := 1994) (by decide) (by decide)) 1994 (by decide) dX16_name_169 [(x1, .inr (16, f1)), (x2, .inl (cA 0, 17000, .inl f2)), (x3, .inl (cA 1, 4096, .inl (upd f3 1994 3))), (x5, .inl (cA 1, 13001, .inl (upd (upd (upd (fun _ => 0) 1 1) 2 4) 3 9))), (x4, .inl (cA 0, 40000, .inl (upd (upd (upd (upd (upd f4 4 105) 5 110) 6 112) 7 117) 8 116))), (x6, .inl (cA 1, 13000, .inl (upd (upd (upd (fun _ => 0) 0 0) 1 0) 2 0)))] rfl ?_
  refine zz_aload_n X 2 dX16_name_170 rfl rfl ?_
  refine zz_dup X dX16_name_171 rfl ?_
  refine zz_get X 0 20 rfl rfl (by decide) (fun w h => List.mem_cons_of_mem _ (zf_X16 w h)) rfl (List.mem_cons_of_mem _ zm_760) hf1_20 dX16_name_172 ?_
  refine zz_iconst X 1 dX16_name_175 rfl ?_
  refine zz_iadd X (3) dX16_name_176 (by decide) ?_
  refine zz_put X 0 20 rfl rfl (by decide) (fun w h => List.mem_cons_of_mem _ (zf_X16 w h)) rfl (List.mem_cons_of_mem _ zm_760) tyX16 tyX16_ok nmX16 rfl (ty := .int) rfl rfl rfl (zq_lt hf1_n (by decide) (by simp only [List.length_set])) dX16_name_177 [(x1, .inr (16, (f1.set 20 (.int 3)))), (x2, .inl (cA 0, 17000, .inl f2)), (x3, .inl (cA 1, 4096, .inl (upd f3 1994 3))), (x5, .inl (cA 1, 13001, .inl (upd (upd (upd (fun _ => 0) 1 1) 2 4) 3 9))), (x4, .inl (cA 0, 40000, .inl (upd (upd (upd (upd (upd f4 4 105) 5 110) 6 112) 7 117) 8 116))), (x6, .inl (cA 1, 13000, .inl (upd (upd (upd (fun _ => 0) 0 0) 1 0) 2 0)))] rfl ?_
  refine zz_aload_n X 2 dX16_name_180 rfl rfl ?_
  refine zz_get X 0 20 rfl rfl (by decide) (fun w h => List.mem_cons_of_mem _ (zf_X16 w h)) rfl (List.mem_cons_of_mem _ zm_760) (zq_same (zq_lt hf1_n (by decide) (by simp only [List.length_set]))) dX16_name_181 ?_
  refine zz_iconst X 1 dX16_name_184 rfl ?_
  refine zz_isub X (2) dX16_name_185 (by decide) ?_
  exact zz_iret X hr (()) [0, 1, 2, 3, 4, 5] (by decide) rfl rfl (Nat.le_of_ble_eq_true rfl) (Nat.le_of_ble_eq_true rfl) (rfl) dX16_name_186

set_option maxHeartbeats 4000000 in
set_option maxRecDepth 100000 in
/-- nameOf -/
theorem kX16_nameOf_3 {E : zEn} (hE : zOk E) (l : Launch) (D : va_G) (cA : Nat → ClassId) (K : Nat → Nat) (V : Nat → Nat) (x1 : Nat) (f1 : List Value) (x2 : Nat) (x3 : Nat) (x4 : Nat) (x5 : Nat) (x6 : Nat) (f2 : Nat → Int32) (f3 : Nat → Int32) (f4 : Nat → Int32) (hss : zSS E K V) (hf1_n : f1.length = 243) (hf1_0 : f1[0]? = some (.ref x2)) (hf1_19 : f1[19]? = some (.ref x3)) (hf1_16 : f1[16]? = some (.ref x4)) (hf1_17 : f1[17]? = some (.ref x5)) (hf1_20 : f1[20]? = some (.int 2)) (hf1_18 : f1[18]? = some (.ref x6)) (hf3_1994 : f3 1994 = 0) : zMi E l yX16_nameOf zwX16_nameOf ({ frames := 4, cells := 0, slots := 0, locals := 85 }) D vwCl (zT cA) [.ref x1, .ref (K 5)] [(x1, .inr (16, f1)), (x2, .inl (cA 0, 17000, .inl f2)), (x3, .inl (cA 1, 4096, .inl f3)), (x5, .inl (cA 1, 13001, .inl (upd (upd (fun _ => 0) 1 1) 2 4))), (x4, .inl (cA 0, 40000, .inl f4)), (x6, .inl (cA 1, 13000, .inl (upd (upd (fun _ => 0) 0 0) 1 0)))] (S := Unit) (fun (r : Int32) (u : Unit) => (r = 2)) (fun (u : Unit) => [(x1, .inr (16, (f1.set 20 (.int 3)))), (x2, .inl (cA 0, 17000, .inl ((upd (upd (upd (upd (upd f2 0 105) 1 110) 2 112) 3 117) 4 116)))), (x3, .inl (cA 1, 4096, .inl (upd f3 1994 3))), (x5, .inl (cA 1, 13001, .inl (upd (upd (upd (fun _ => 0) 1 1) 2 4) 3 9))), (x4, .inl (cA 0, 40000, .inl (upd (upd (upd (upd (upd f4 4 105) 5 110) 6 112) 7 117) 8 116))), (x6, .inl (cA 1, 13000, .inl (upd (upd (upd (fun _ => 0) 0 0) 1 0) 2 0)))]) := by
  refine zz_enteri (cc := cX16_nameOf) (lv := [(0, .ref x1), (1, .ref (K 5))]) hE 3 (by decide) rfl (Nat.le_of_ble_eq_true rfl) rfl ?_
  intro p e s m args below meth c X hr hin
  refine zz_iconst X 0 dX16_nameOf_0 rfl ?_
  refine zz_istore_n X [(2, .int 0), (0, .ref x1), (1, .ref (K 5))] dX16_nameOf_1 rfl (by decide) rfl ?_
  refine zz_iload_n X 0 dX16_nameOf_2 rfl rfl ?_
  refine zz_aload_n X 2 dX16_nameOf_3 rfl rfl ?_
  refine zz_callTi X (rest := [.int 0]) (As := []) (kJ0_length hE l D cA 8 zLn zBy K V 5 (zSS_st hss) (by decide)) 0 (zgV zm_764 zm_241 zm_242 zm_141 zm_239) rfl (by decide +kernel) [] [0, 1, 2, 3, 4, 5] [(x1, .inr (16, f1)), (x2, .inl (cA 0, 17000, .inl f2)), (x3, .inl (cA 1, 4096, .inl f3)), (x5, .inl (cA 1, 13001, .inl (upd (upd (fun _ => 0) 1 1) 2 4))), (x4, .inl (cA 0, 40000, .inl f4)), (x6, .inl (cA 1, 13000, .inl (upd (upd (fun _ => 0) 0 0) 1 0)))] rfl rfl (by decide) rfl (by decide) (by decide) ⟨Nat.le_of_ble_eq_true rfl, Nat.le_of_ble_eq_true rfl⟩ (zz_recvS X (zSS_st hss) (by decide)) rfl rfl rfl (Nat.le_of_ble_eq_true rfl) dX16_nameOf_4 (Nat.le_of_ble_eq_true rfl) (Nat.le_of_ble_eq_true rfl) (fun r1 _ hw2 => ?_)
  obtain rfl := hw2
  refine zz_show (ws' := [(x1, .inr (16, f1)), (x2, .inl (cA 0, 17000, .inl f2)), (x3, .inl (cA 1, 4096, .inl f3)), (x5, .inl (cA 1, 13001, .inl (upd (upd (fun _ => 0) 1 1) 2 4))), (x4, .inl (cA 0, 40000, .inl f4)), (x6, .inl (cA 1, 13000, .inl (upd (upd (fun _ => 0) 0 0) 1 0)))]) rfl ?_
  refine zz_st (st' := [.int 5, .int 0]) rfl ?_
  refine zz_icmp_ge X 28 dX16_nameOf_7 (by decide) (fun h => absurd h (by decide)) (fun _ => ?_)
  refine zz_aload_n X 1 dX16_nameOf_10 rfl rfl ?_
  refine zz_get X 0 0 rfl rfl (by decide) (fun w h => List.mem_cons_of_mem _ (zf_X16 w h)) rfl (List.mem_cons_of_mem _ zm_456) hf1_0 dX16_nameOf_11 ?_
  refine zz_iload_n X 0 dX16_nameOf_14 rfl rfl ?_
  refine zz_aload_n X 2 dX16_nameOf_15 rfl rfl ?_
  refine zz_iload_n X 0 dX16_nameOf_16 rfl rfl ?_
  refine zz_st (st' := [.int (nI 0), .ref (K 5), .int 0, .ref x2]) rfl ?_
  refine zz_callTi X (rest := [.int 0, .ref x2]) (As := [.int (nI 0)]) (kJ0_charAt hE l D cA 8 zLn zBy K V 5 0 (zSS_st hss) (by decide) (by decide)) 1 (zgV zm_765 zm_139 zm_140 zm_141 zm_137) rfl (by decide +kernel) [] [0, 1, 2, 3, 4, 5] [(x1, .inr (16, f1)), (x2, .inl (cA 0, 17000, .inl f2)), (x3, .inl (cA 1, 4096, .inl f3)), (x5, .inl (cA 1, 13001, .inl (upd (upd (fun _ => 0) 1 1) 2 4))), (x4, .inl (cA 0, 40000, .inl f4)), (x6, .inl (cA 1, 13000, .inl (upd (upd (fun _ => 0) 0 0) 1 0)))] rfl rfl (by decide) rfl (by decide) (by decide) ⟨Nat.le_of_ble_eq_true rfl, Nat.le_of_ble_eq_true rfl⟩ (zz_recvS X (zSS_st hss) (by decide)) rfl rfl rfl (Nat.le_of_ble_eq_true rfl) dX16_nameOf_17 (Nat.le_of_ble_eq_true rfl) (Nat.le_of_ble_eq_true rfl) (fun r3 _ hw4 => ?_)
  obtain rfl := hw4
  refine zz_show (ws' := [(x1, .inr (16, f1)), (x2, .inl (cA 0, 17000, .inl f2)), (x3, .inl (cA 1, 4096, .inl f3)), (x5, .inl (cA 1, 13001, .inl (upd (upd (fun _ => 0) 1 1) 2 4))), (x4, .inl (cA 0, 40000, .inl f4)), (x6, .inl (cA 1, 13000, .inl (upd (upd (fun _ => 0) 0 0) 1 0)))]) rfl ?_
  refine zz_st (st' := [.int 105, .int 0, .ref x2]) (by rfl) ?_
  refine zz_i2b X (105) dX16_nameOf_20 (by decide) ?_
  refine zz_bast X 1 0 rfl rfl (vp_in_nI (n := 0) (by decide) (by decide)) 0 (by decide) (105) (by decide) dX16_nameOf_21 [(x1, .inr (16, f1)), (x2, .inl (cA 0, 17000, .inl (upd f2 0 105))), (x3, .inl (cA 1, 4096, .inl f3)), (x5, .inl (cA 1, 13001, .inl (upd (upd (fun _ => 0) 1 1) 2 4))), (x4, .inl (cA 0, 40000, .inl f4)), (x6, .inl (cA 1, 13000, .inl (upd (upd (fun _ => 0) 0 0) 1 0)))] rfl ?_
  refine zz_iinc X 0 (1) [(2, .int 1), (0, .ref x1), (1, .ref (K 5))] dX16_nameOf_22 rfl (by decide) (by decide) rfl ?_
  refine zz_goto X 2 dX16_nameOf_25 (by decide) ?_
  refine zz_iload_n X 0 dX16_nameOf_2 rfl rfl ?_
  refine zz_aload_n X 2 dX16_nameOf_3 rfl rfl ?_
  refine zz_callTi X (rest := [.int 1]) (As := []) (kJ0_length hE l D cA 8 zLn zBy K V 5 (zSS_st hss) (by decide)) 0 (zgV zm_764 zm_241 zm_242 zm_141 zm_239) rfl (by decide +kernel) [] [0, 1, 2, 3, 4, 5] [(x1, .inr (16, f1)), (x2, .inl (cA 0, 17000, .inl (upd f2 0 105))), (x3, .inl (cA 1, 4096, .inl f3)), (x5, .inl (cA 1, 13001, .inl (upd (upd (fun _ => 0) 1 1) 2 4))), (x4, .inl (cA 0, 40000, .inl f4)), (x6, .inl (cA 1, 13000, .inl (upd (upd (fun _ => 0) 0 0) 1 0)))] rfl rfl (by decide) rfl (by decide) (by decide) ⟨Nat.le_of_ble_eq_true rfl, Nat.le_of_ble_eq_true rfl⟩ (zz_recvS X (zSS_st hss) (by decide)) rfl rfl rfl (Nat.le_of_ble_eq_true rfl) dX16_nameOf_4 (Nat.le_of_ble_eq_true rfl) (Nat.le_of_ble_eq_true rfl) (fun r5 _ hw6 => ?_)
  obtain rfl := hw6
  refine zz_show (ws' := [(x1, .inr (16, f1)), (x2, .inl (cA 0, 17000, .inl (upd f2 0 105))), (x3, .inl (cA 1, 4096, .inl f3)), (x5, .inl (cA 1, 13001, .inl (upd (upd (fun _ => 0) 1 1) 2 4))), (x4, .inl (cA 0, 40000, .inl f4)), (x6, .inl (cA 1, 13000, .inl (upd (upd (fun _ => 0) 0 0) 1 0)))]) rfl ?_
  refine zz_st (st' := [.int 5, .int 1]) rfl ?_
  refine zz_icmp_ge X 28 dX16_nameOf_7 (by decide) (fun h => absurd h (by decide)) (fun _ => ?_)
  refine zz_aload_n X 1 dX16_nameOf_10 rfl rfl ?_
  refine zz_get X 0 0 rfl rfl (by decide) (fun w h => List.mem_cons_of_mem _ (zf_X16 w h)) rfl (List.mem_cons_of_mem _ zm_456) hf1_0 dX16_nameOf_11 ?_
  refine zz_iload_n X 0 dX16_nameOf_14 rfl rfl ?_
  refine zz_aload_n X 2 dX16_nameOf_15 rfl rfl ?_
  refine zz_iload_n X 0 dX16_nameOf_16 rfl rfl ?_
  refine zz_st (st' := [.int (nI 1), .ref (K 5), .int 1, .ref x2]) rfl ?_
  refine zz_callTi X (rest := [.int 1, .ref x2]) (As := [.int (nI 1)]) (kJ0_charAt hE l D cA 8 zLn zBy K V 5 1 (zSS_st hss) (by decide) (by decide)) 1 (zgV zm_765 zm_139 zm_140 zm_141 zm_137) rfl (by decide +kernel) [] [0, 1, 2, 3, 4, 5] [(x1, .inr (16, f1)), (x2, .inl (cA 0, 17000, .inl (upd f2 0 105))), (x3, .inl (cA 1, 4096, .inl f3)), (x5, .inl (cA 1, 13001, .inl (upd (upd (fun _ => 0) 1 1) 2 4))), (x4, .inl (cA 0, 40000, .inl f4)), (x6, .inl (cA 1, 13000, .inl (upd (upd (fun _ => 0) 0 0) 1 0)))] rfl rfl (by decide) rfl (by decide) (by decide) ⟨Nat.le_of_ble_eq_true rfl, Nat.le_of_ble_eq_true rfl⟩ (zz_recvS X (zSS_st hss) (by decide)) rfl rfl rfl (Nat.le_of_ble_eq_true rfl) dX16_nameOf_17 (Nat.le_of_ble_eq_true rfl) (Nat.le_of_ble_eq_true rfl) (fun r7 _ hw8 => ?_)
  obtain rfl := hw8
  refine zz_show (ws' := [(x1, .inr (16, f1)), (x2, .inl (cA 0, 17000, .inl (upd f2 0 105))), (x3, .inl (cA 1, 4096, .inl f3)), (x5, .inl (cA 1, 13001, .inl (upd (upd (fun _ => 0) 1 1) 2 4))), (x4, .inl (cA 0, 40000, .inl f4)), (x6, .inl (cA 1, 13000, .inl (upd (upd (fun _ => 0) 0 0) 1 0)))]) rfl ?_
  refine zz_st (st' := [.int 110, .int 1, .ref x2]) (by rfl) ?_
  refine zz_i2b X (110) dX16_nameOf_20 (by decide) ?_
  refine zz_bast X 1 0 rfl rfl (vp_in_nI (n := 1) (by decide) (by decide)) 1 (by decide) (110) (by decide) dX16_nameOf_21 [(x1, .inr (16, f1)), (x2, .inl (cA 0, 17000, .inl (upd (upd f2 0 105) 1 110))), (x3, .inl (cA 1, 4096, .inl f3)), (x5, .inl (cA 1, 13001, .inl (upd (upd (fun _ => 0) 1 1) 2 4))), (x4, .inl (cA 0, 40000, .inl f4)), (x6, .inl (cA 1, 13000, .inl (upd (upd (fun _ => 0) 0 0) 1 0)))] rfl ?_
  refine zz_iinc X 0 (2) [(2, .int 2), (0, .ref x1), (1, .ref (K 5))] dX16_nameOf_22 rfl (by decide) (by decide) rfl ?_
  refine zz_goto X 2 dX16_nameOf_25 (by decide) ?_
  refine zz_iload_n X 0 dX16_nameOf_2 rfl rfl ?_
  refine zz_aload_n X 2 dX16_nameOf_3 rfl rfl ?_
  refine zz_callTi X (rest := [.int 2]) (As := []) (kJ0_length hE l D cA 8 zLn zBy K V 5 (zSS_st hss) (by decide)) 0 (zgV zm_764 zm_241 zm_242 zm_141 zm_239) rfl (by decide +kernel) [] [0, 1, 2, 3, 4, 5] [(x1, .inr (16, f1)), (x2, .inl (cA 0, 17000, .inl (upd (upd f2 0 105) 1 110))), (x3, .inl (cA 1, 4096, .inl f3)), (x5, .inl (cA 1, 13001, .inl (upd (upd (fun _ => 0) 1 1) 2 4))), (x4, .inl (cA 0, 40000, .inl f4)), (x6, .inl (cA 1, 13000, .inl (upd (upd (fun _ => 0) 0 0) 1 0)))] rfl rfl (by decide) rfl (by decide) (by decide) ⟨Nat.le_of_ble_eq_true rfl, Nat.le_of_ble_eq_true rfl⟩ (zz_recvS X (zSS_st hss) (by decide)) rfl rfl rfl (Nat.le_of_ble_eq_true rfl) dX16_nameOf_4 (Nat.le_of_ble_eq_true rfl) (Nat.le_of_ble_eq_true rfl) (fun r9 _ hw10 => ?_)
  obtain rfl := hw10
  refine zz_show (ws' := [(x1, .inr (16, f1)), (x2, .inl (cA 0, 17000, .inl (upd (upd f2 0 105) 1 110))), (x3, .inl (cA 1, 4096, .inl f3)), (x5, .inl (cA 1, 13001, .inl (upd (upd (fun _ => 0) 1 1) 2 4))), (x4, .inl (cA 0, 40000, .inl f4)), (x6, .inl (cA 1, 13000, .inl (upd (upd (fun _ => 0) 0 0) 1 0)))]) rfl ?_
  refine zz_st (st' := [.int 5, .int 2]) rfl ?_
  refine zz_icmp_ge X 28 dX16_nameOf_7 (by decide) (fun h => absurd h (by decide)) (fun _ => ?_)
  refine zz_aload_n X 1 dX16_nameOf_10 rfl rfl ?_
  refine zz_get X 0 0 rfl rfl (by decide) (fun w h => List.mem_cons_of_mem _ (zf_X16 w h)) rfl (List.mem_cons_of_mem _ zm_456) hf1_0 dX16_nameOf_11 ?_
  refine zz_iload_n X 0 dX16_nameOf_14 rfl rfl ?_
  refine zz_aload_n X 2 dX16_nameOf_15 rfl rfl ?_
  refine zz_iload_n X 0 dX16_nameOf_16 rfl rfl ?_
  refine zz_st (st' := [.int (nI 2), .ref (K 5), .int 2, .ref x2]) rfl ?_
  refine zz_callTi X (rest := [.int 2, .ref x2]) (As := [.int (nI 2)]) (kJ0_charAt hE l D cA 8 zLn zBy K V 5 2 (zSS_st hss) (by decide) (by decide)) 1 (zgV zm_765 zm_139 zm_140 zm_141 zm_137) rfl (by decide +kernel) [] [0, 1, 2, 3, 4, 5] [(x1, .inr (16, f1)), (x2, .inl (cA 0, 17000, .inl (upd (upd f2 0 105) 1 110))), (x3, .inl (cA 1, 4096, .inl f3)), (x5, .inl (cA 1, 13001, .inl (upd (upd (fun _ => 0) 1 1) 2 4))), (x4, .inl (cA 0, 40000, .inl f4)), (x6, .inl (cA 1, 13000, .inl (upd (upd (fun _ => 0) 0 0) 1 0)))] rfl rfl (by decide) rfl (by decide) (by decide) ⟨Nat.le_of_ble_eq_true rfl, Nat.le_of_ble_eq_true rfl⟩ (zz_recvS X (zSS_st hss) (by decide)) rfl rfl rfl (Nat.le_of_ble_eq_true rfl) dX16_nameOf_17 (Nat.le_of_ble_eq_true rfl) (Nat.le_of_ble_eq_true rfl) (fun r11 _ hw12 => ?_)
  obtain rfl := hw12
  refine zz_show (ws' := [(x1, .inr (16, f1)), (x2, .inl (cA 0, 17000, .inl (upd (upd f2 0 105) 1 110))), (x3, .inl (cA 1, 4096, .inl f3)), (x5, .inl (cA 1, 13001, .inl (upd (upd (fun _ => 0) 1 1) 2 4))), (x4, .inl (cA 0, 40000, .inl f4)), (x6, .inl (cA 1, 13000, .inl (upd (upd (fun _ => 0) 0 0) 1 0)))]) rfl ?_
  refine zz_st (st' := [.int 112, .int 2, .ref x2]) (by rfl) ?_
  refine zz_i2b X (112) dX16_nameOf_20 (by decide) ?_
  refine zz_bast X 1 0 rfl rfl (vp_in_nI (n := 2) (by decide) (by decide)) 2 (by decide) (112) (by decide) dX16_nameOf_21 [(x1, .inr (16, f1)), (x2, .inl (cA 0, 17000, .inl (upd (upd (upd f2 0 105) 1 110) 2 112))), (x3, .inl (cA 1, 4096, .inl f3)), (x5, .inl (cA 1, 13001, .inl (upd (upd (fun _ => 0) 1 1) 2 4))), (x4, .inl (cA 0, 40000, .inl f4)), (x6, .inl (cA 1, 13000, .inl (upd (upd (fun _ => 0) 0 0) 1 0)))] rfl ?_
  refine zz_iinc X 0 (3) [(2, .int 3), (0, .ref x1), (1, .ref (K 5))] dX16_nameOf_22 rfl (by decide) (by decide) rfl ?_
  refine zz_goto X 2 dX16_nameOf_25 (by decide) ?_
  refine zz_iload_n X 0 dX16_nameOf_2 rfl rfl ?_
  refine zz_aload_n X 2 dX16_nameOf_3 rfl rfl ?_
  refine zz_callTi X (rest := [.int 3]) (As := []) (kJ0_length hE l D cA 8 zLn zBy K V 5 (zSS_st hss) (by decide)) 0 (zgV zm_764 zm_241 zm_242 zm_141 zm_239) rfl (by decide +kernel) [] [0, 1, 2, 3, 4, 5] [(x1, .inr (16, f1)), (x2, .inl (cA 0, 17000, .inl (upd (upd (upd f2 0 105) 1 110) 2 112))), (x3, .inl (cA 1, 4096, .inl f3)), (x5, .inl (cA 1, 13001, .inl (upd (upd (fun _ => 0) 1 1) 2 4))), (x4, .inl (cA 0, 40000, .inl f4)), (x6, .inl (cA 1, 13000, .inl (upd (upd (fun _ => 0) 0 0) 1 0)))] rfl rfl (by decide) rfl (by decide) (by decide) ⟨Nat.le_of_ble_eq_true rfl, Nat.le_of_ble_eq_true rfl⟩ (zz_recvS X (zSS_st hss) (by decide)) rfl rfl rfl (Nat.le_of_ble_eq_true rfl) dX16_nameOf_4 (Nat.le_of_ble_eq_true rfl) (Nat.le_of_ble_eq_true rfl) (fun r13 _ hw14 => ?_)
  obtain rfl := hw14
  refine zz_show (ws' := [(x1, .inr (16, f1)), (x2, .inl (cA 0, 17000, .inl (upd (upd (upd f2 0 105) 1 110) 2 112))), (x3, .inl (cA 1, 4096, .inl f3)), (x5, .inl (cA 1, 13001, .inl (upd (upd (fun _ => 0) 1 1) 2 4))), (x4, .inl (cA 0, 40000, .inl f4)), (x6, .inl (cA 1, 13000, .inl (upd (upd (fun _ => 0) 0 0) 1 0)))]) rfl ?_
  refine zz_st (st' := [.int 5, .int 3]) rfl ?_
  refine zz_icmp_ge X 28 dX16_nameOf_7 (by decide) (fun h => absurd h (by decide)) (fun _ => ?_)
  refine zz_aload_n X 1 dX16_nameOf_10 rfl rfl ?_
  refine zz_get X 0 0 rfl rfl (by decide) (fun w h => List.mem_cons_of_mem _ (zf_X16 w h)) rfl (List.mem_cons_of_mem _ zm_456) hf1_0 dX16_nameOf_11 ?_
  refine zz_iload_n X 0 dX16_nameOf_14 rfl rfl ?_
  refine zz_aload_n X 2 dX16_nameOf_15 rfl rfl ?_
  refine zz_iload_n X 0 dX16_nameOf_16 rfl rfl ?_
  refine zz_st (st' := [.int (nI 3), .ref (K 5), .int 3, .ref x2]) rfl ?_
  refine zz_callTi X (rest := [.int 3, .ref x2]) (As := [.int (nI 3)]) (kJ0_charAt hE l D cA 8 zLn zBy K V 5 3 (zSS_st hss) (by decide) (by decide)) 1 (zgV zm_765 zm_139 zm_140 zm_141 zm_137) rfl (by decide +kernel) [] [0, 1, 2, 3, 4, 5] [(x1, .inr (16, f1)), (x2, .inl (cA 0, 17000, .inl (upd (upd (upd f2 0 105) 1 110) 2 112))), (x3, .inl (cA 1, 4096, .inl f3)), (x5, .inl (cA 1, 13001, .inl (upd (upd (fun _ => 0) 1 1) 2 4))), (x4, .inl (cA 0, 40000, .inl f4)), (x6, .inl (cA 1, 13000, .inl (upd (upd (fun _ => 0) 0 0) 1 0)))] rfl rfl (by decide) rfl (by decide) (by decide) ⟨Nat.le_of_ble_eq_true rfl, Nat.le_of_ble_eq_true rfl⟩ (zz_recvS X (zSS_st hss) (by decide)) rfl rfl rfl (Nat.le_of_ble_eq_true rfl) dX16_nameOf_17 (Nat.le_of_ble_eq_true rfl) (Nat.le_of_ble_eq_true rfl) (fun r15 _ hw16 => ?_)
  obtain rfl := hw16
  refine zz_show (ws' := [(x1, .inr (16, f1)), (x2, .inl (cA 0, 17000, .inl (upd (upd (upd f2 0 105) 1 110) 2 112))), (x3, .inl (cA 1, 4096, .inl f3)), (x5, .inl (cA 1, 13001, .inl (upd (upd (fun _ => 0) 1 1) 2 4))), (x4, .inl (cA 0, 40000, .inl f4)), (x6, .inl (cA 1, 13000, .inl (upd (upd (fun _ => 0) 0 0) 1 0)))]) rfl ?_
  refine zz_st (st' := [.int 117, .int 3, .ref x2]) (by rfl) ?_
  refine zz_i2b X (117) dX16_nameOf_20 (by decide) ?_
  refine zz_bast X 1 0 rfl rfl (vp_in_nI (n := 3) (by decide) (by decide)) 3 (by decide) (117) (by decide) dX16_nameOf_21 [(x1, .inr (16, f1)), (x2, .inl (cA 0, 17000, .inl (upd (upd (upd (upd f2 0 105) 1 110) 2 112) 3 117))), (x3, .inl (cA 1, 4096, .inl f3)), (x5, .inl (cA 1, 13001, .inl (upd (upd (fun _ => 0) 1 1) 2 4))), (x4, .inl (cA 0, 40000, .inl f4)), (x6, .inl (cA 1, 13000, .inl (upd (upd (fun _ => 0) 0 0) 1 0)))] rfl ?_
  refine zz_iinc X 0 (4) [(2, .int 4), (0, .ref x1), (1, .ref (K 5))] dX16_nameOf_22 rfl (by decide) (by decide) rfl ?_
  refine zz_goto X 2 dX16_nameOf_25 (by decide) ?_
  refine zz_iload_n X 0 dX16_nameOf_2 rfl rfl ?_
  refine zz_aload_n X 2 dX16_nameOf_3 rfl rfl ?_
  refine zz_callTi X (rest := [.int 4]) (As := []) (kJ0_length hE l D cA 8 zLn zBy K V 5 (zSS_st hss) (by decide)) 0 (zgV zm_764 zm_241 zm_242 zm_141 zm_239) rfl (by decide +kernel) [] [0, 1, 2, 3, 4, 5] [(x1, .inr (16, f1)), (x2, .inl (cA 0, 17000, .inl (upd (upd (upd (upd f2 0 105) 1 110) 2 112) 3 117))), (x3, .inl (cA 1, 4096, .inl f3)), (x5, .inl (cA 1, 13001, .inl (upd (upd (fun _ => 0) 1 1) 2 4))), (x4, .inl (cA 0, 40000, .inl f4)), (x6, .inl (cA 1, 13000, .inl (upd (upd (fun _ => 0) 0 0) 1 0)))] rfl rfl (by decide) rfl (by decide) (by decide) ⟨Nat.le_of_ble_eq_true rfl, Nat.le_of_ble_eq_true rfl⟩ (zz_recvS X (zSS_st hss) (by decide)) rfl rfl rfl (Nat.le_of_ble_eq_true rfl) dX16_nameOf_4 (Nat.le_of_ble_eq_true rfl) (Nat.le_of_ble_eq_true rfl) (fun r17 _ hw18 => ?_)
  obtain rfl := hw18
  refine zz_show (ws' := [(x1, .inr (16, f1)), (x2, .inl (cA 0, 17000, .inl (upd (upd (upd (upd f2 0 105) 1 110) 2 112) 3 117))), (x3, .inl (cA 1, 4096, .inl f3)), (x5, .inl (cA 1, 13001, .inl (upd (upd (fun _ => 0) 1 1) 2 4))), (x4, .inl (cA 0, 40000, .inl f4)), (x6, .inl (cA 1, 13000, .inl (upd (upd (fun _ => 0) 0 0) 1 0)))]) rfl ?_
  refine zz_st (st' := [.int 5, .int 4]) rfl ?_
  refine zz_icmp_ge X 28 dX16_nameOf_7 (by decide) (fun h => absurd h (by decide)) (fun _ => ?_)
  refine zz_aload_n X 1 dX16_nameOf_10 rfl rfl ?_
  refine zz_get X 0 0 rfl rfl (by decide) (fun w h => List.mem_cons_of_mem _ (zf_X16 w h)) rfl (List.mem_cons_of_mem _ zm_456) hf1_0 dX16_nameOf_11 ?_
  refine zz_iload_n X 0 dX16_nameOf_14 rfl rfl ?_
  refine zz_aload_n X 2 dX16_nameOf_15 rfl rfl ?_
  refine zz_iload_n X 0 dX16_nameOf_16 rfl rfl ?_
  refine zz_st (st' := [.int (nI 4), .ref (K 5), .int 4, .ref x2]) rfl ?_
  refine zz_callTi X (rest := [.int 4, .ref x2]) (As := [.int (nI 4)]) (kJ0_charAt hE l D cA 8 zLn zBy K V 5 4 (zSS_st hss) (by decide) (by decide)) 1 (zgV zm_765 zm_139 zm_140 zm_141 zm_137) rfl (by decide +kernel) [] [0, 1, 2, 3, 4, 5] [(x1, .inr (16, f1)), (x2, .inl (cA 0, 17000, .inl (upd (upd (upd (upd f2 0 105) 1 110) 2 112) 3 117))), (x3, .inl (cA 1, 4096, .inl f3)), (x5, .inl (cA 1, 13001, .inl (upd (upd (fun _ => 0) 1 1) 2 4))), (x4, .inl (cA 0, 40000, .inl f4)), (x6, .inl (cA 1, 13000, .inl (upd (upd (fun _ => 0) 0 0) 1 0)))] rfl rfl (by decide) rfl (by decide) (by decide) ⟨Nat.le_of_ble_eq_true rfl, Nat.le_of_ble_eq_true rfl⟩ (zz_recvS X (zSS_st hss) (by decide)) rfl rfl rfl (Nat.le_of_ble_eq_true rfl) dX16_nameOf_17 (Nat.le_of_ble_eq_true rfl) (Nat.le_of_ble_eq_true rfl) (fun r19 _ hw20 => ?_)
  obtain rfl := hw20
  refine zz_show (ws' := [(x1, .inr (16, f1)), (x2, .inl (cA 0, 17000, .inl (upd (upd (upd (upd f2 0 105) 1 110) 2 112) 3 117))), (x3, .inl (cA 1, 4096, .inl f3)), (x5, .inl (cA 1, 13001, .inl (upd (upd (fun _ => 0) 1 1) 2 4))), (x4, .inl (cA 0, 40000, .inl f4)), (x6, .inl (cA 1, 13000, .inl (upd (upd (fun _ => 0) 0 0) 1 0)))]) rfl ?_
  refine zz_st (st' := [.int 116, .int 4, .ref x2]) (by rfl) ?_
  refine zz_i2b X (116) dX16_nameOf_20 (by decide) ?_
  refine zz_bast X 1 0 rfl rfl (vp_in_nI (n := 4) (by decide) (by decide)) 4 (by decide) (116) (by decide) dX16_nameOf_21 [(x1, .inr (16, f1)), (x2, .inl (cA 0, 17000, .inl (upd (upd (upd (upd (upd f2 0 105) 1 110) 2 112) 3 117) 4 116))), (x3, .inl (cA 1, 4096, .inl f3)), (x5, .inl (cA 1, 13001, .inl (upd (upd (fun _ => 0) 1 1) 2 4))), (x4, .inl (cA 0, 40000, .inl f4)), (x6, .inl (cA 1, 13000, .inl (upd (upd (fun _ => 0) 0 0) 1 0)))] rfl ?_
  refine zz_iinc X 0 (5) [(2, .int 5), (0, .ref x1), (1, .ref (K 5))] dX16_nameOf_22 rfl (by decide) (by decide) rfl ?_
  refine zz_goto X 2 dX16_nameOf_25 (by decide) ?_
  refine zz_iload_n X 0 dX16_nameOf_2 rfl rfl ?_
  refine zz_aload_n X 2 dX16_nameOf_3 rfl rfl ?_
  refine zz_callTi X (rest := [.int 5]) (As := []) (kJ0_length hE l D cA 8 zLn zBy K V 5 (zSS_st hss) (by decide)) 0 (zgV zm_764 zm_241 zm_242 zm_141 zm_239) rfl (by decide +kernel) [] [0, 1, 2, 3, 4, 5] [(x1, .inr (16, f1)), (x2, .inl (cA 0, 17000, .inl (upd (upd (upd (upd (upd f2 0 105) 1 110) 2 112) 3 117) 4 116))), (x3, .inl (cA 1, 4096, .inl f3)), (x5, .inl (cA 1, 13001, .inl (upd (upd (fun _ => 0) 1 1) 2 4))), (x4, .inl (cA 0, 40000, .inl f4)), (x6, .inl (cA 1, 13000, .inl (upd (upd (fun _ => 0) 0 0) 1 0)))] rfl rfl (by decide) rfl (by decide) (by decide) ⟨Nat.le_of_ble_eq_true rfl, Nat.le_of_ble_eq_true rfl⟩ (zz_recvS X (zSS_st hss) (by decide)) rfl rfl rfl (Nat.le_of_ble_eq_true rfl) dX16_nameOf_4 (Nat.le_of_ble_eq_true rfl) (Nat.le_of_ble_eq_true rfl) (fun r21 _ hw22 => ?_)
  obtain rfl := hw22
  refine zz_show (ws' := [(x1, .inr (16, f1)), (x2, .inl (cA 0, 17000, .inl (upd (upd (upd (upd (upd f2 0 105) 1 110) 2 112) 3 117) 4 116))), (x3, .inl (cA 1, 4096, .inl f3)), (x5, .inl (cA 1, 13001, .inl (upd (upd (fun _ => 0) 1 1) 2 4))), (x4, .inl (cA 0, 40000, .inl f4)), (x6, .inl (cA 1, 13000, .inl (upd (upd (fun _ => 0) 0 0) 1 0)))]) rfl ?_
  refine zz_st (st' := [.int 5, .int 5]) rfl ?_
  refine zz_icmp_ge X 28 dX16_nameOf_7 (by decide) (fun _ => ?_) (fun h => absurd (by decide) h)
  refine zz_aload_n X 1 dX16_nameOf_28 rfl rfl ?_
  refine zz_aload_n X 1 dX16_nameOf_29 rfl rfl ?_
  refine zz_get X 0 0 rfl rfl (by decide) (fun w h => List.mem_cons_of_mem _ (zf_X16 w h)) rfl (List.mem_cons_of_mem _ zm_456) hf1_0 dX16_nameOf_30 ?_
  refine zz_iconst X 0 dX16_nameOf_33 rfl ?_
  refine zz_aload_n X 2 dX16_nameOf_34 rfl rfl ?_
  refine zz_callTi X (rest := [.int 0, .ref x2, .ref x1]) (As := []) (kJ0_length hE l D cA 8 zLn zBy K V 5 (zSS_st hss) (by decide)) 0 (zgV zm_764 zm_241 zm_242 zm_141 zm_239) rfl (by decide +kernel) [] [0, 1, 2, 3, 4, 5] [(x1, .inr (16, f1)), (x2, .inl (cA 0, 17000, .inl (upd (upd (upd (upd (upd f2 0 105) 1 110) 2 112) 3 117) 4 116))), (x3, .inl (cA 1, 4096, .inl f3)), (x5, .inl (cA 1, 13001, .inl (upd (upd (fun _ => 0) 1 1) 2 4))), (x4, .inl (cA 0, 40000, .inl f4)), (x6, .inl (cA 1, 13000, .inl (upd (upd (fun _ => 0) 0 0) 1 0)))] rfl rfl (by decide) rfl (by decide) (by decide) ⟨Nat.le_of_ble_eq_true rfl, Nat.le_of_ble_eq_true rfl⟩ (zz_recvS X (zSS_st hss) (by decide)) rfl rfl rfl (Nat.le_of_ble_eq_true rfl) dX16_nameOf_35 (Nat.le_of_ble_eq_true rfl) (Nat.le_of_ble_eq_true rfl) (fun r23 _ hw24 => ?_)
  obtain rfl := hw24
  refine zz_show (ws' := [(x1, .inr (16, f1)), (x2, .inl (cA 0, 17000, .inl (upd (upd (upd (upd (upd f2 0 105) 1 110) 2 112) 3 117) 4 116))), (x3, .inl (cA 1, 4096, .inl f3)), (x5, .inl (cA 1, 13001, .inl (upd (upd (fun _ => 0) 1 1) 2 4))), (x4, .inl (cA 0, 40000, .inl f4)), (x6, .inl (cA 1, 13000, .inl (upd (upd (fun _ => 0) 0 0) 1 0)))]) rfl ?_
  refine zz_st (st' := [.int 5, .int 0, .ref x2, .ref x1]) rfl ?_
  refine zz_callVi X (rest := []) (As := [.ref x2, .int 0, .int 5]) (kX16_name_3 hE l D cA K V x1 x2 f1 x3 x4 x5 x6 (upd (upd (upd (upd (upd f2 0 105) 1 110) 2 112) 3 117) 4 116) f3 f4 hss (zq_len hf1_n (by simp only [List.length_set])) hf1_19 hf1_16 hf1_17 hf1_20 hf1_18 rfl rfl rfl rfl rfl hf3_1994) 3 (zgV zm_767 zm_768 zm_769 zm_451 zm_766) rfl (by decide +kernel) [0, 1, 2, 3, 4, 5] [] [] rfl rfl (by decide) rfl (by decide) (by decide) ⟨Nat.le_of_ble_eq_true rfl, Nat.le_of_ble_eq_true rfl⟩ 0 rfl rfl rfl rfl rfl (Nat.le_of_ble_eq_true rfl) dX16_nameOf_38 (Nat.le_of_ble_eq_true rfl) (Nat.le_of_ble_eq_true rfl) (fun r25 _ hw26 => ?_)
  obtain rfl := hw26
  refine zz_show (ws' := [(x1, .inr (16, (f1.set 20 (.int 3)))), (x2, .inl (cA 0, 17000, .inl ((upd (upd (upd (upd (upd f2 0 105) 1 110) 2 112) 3 117) 4 116)))), (x3, .inl (cA 1, 4096, .inl (upd f3 1994 3))), (x5, .inl (cA 1, 13001, .inl (upd (upd (upd (fun _ => 0) 1 1) 2 4) 3 9))), (x4, .inl (cA 0, 40000, .inl (upd (upd (upd (upd (upd f4 4 105) 5 110) 6 112) 7 117) 8 116))), (x6, .inl (cA 1, 13000, .inl (upd (upd (upd (fun _ => 0) 0 0) 1 0) 2 0)))]) rfl ?_
  exact zz_iret X hr (()) [0, 1, 2, 3, 4, 5] (by decide) rfl rfl (Nat.le_of_ble_eq_true rfl) (Nat.le_of_ble_eq_true rfl) (rfl) dX16_nameOf_41

set_option maxHeartbeats 4000000 in
set_option maxRecDepth 100000 in
/-- name -/
theorem kX16_name_4 {E : zEn} (hE : zOk E) (l : Launch) (D : va_G) (cA : Nat → ClassId) (K : Nat → Nat) (V : Nat → Nat) (x1 : Nat) (x2 : Nat) (f1 : List Value) (x3 : Nat) (x4 : Nat) (x5 : Nat) (x6 : Nat) (f2 : Nat → Int32) (f3 : Nat → Int32) (f4 : Nat → Int32) (hss : zSS E K V) (hf1_n : f1.length = 243) (hf1_19 : f1[19]? = some (.ref x3)) (hf1_16 : f1[16]? = some (.ref x4)) (hf1_17 : f1[17]? = some (.ref x5)) (hf1_20 : f1[20]? = some (.int 3)) (hf1_18 : f1[18]? = some (.ref x6)) (hf2_0 : f2 0 = 100) (hf2_1 : f2 1 = 97) (hf2_2 : f2 2 = 116) (hf2_3 : f2 3 = 97) (hf3_4010 : f3 4010 = 0) : zMi E l yX16_name zwX16_name ({ frames := 0, cells := 0, slots := 0, locals := 0 }) D vwCl (zT cA) [.ref x1, .ref x2, .int 0, .int 4] [(x1, .inr (16, f1)), (x2, .inl (cA 0, 17000, .inl f2)), (x3, .inl (cA 1, 4096, .inl f3)), (x5, .inl (cA 1, 13001, .inl (upd (upd (upd (fun _ => 0) 1 1) 2 4) 3 9))), (x4, .inl (cA 0, 40000, .inl f4)), (x6, .inl (cA 1, 13000, .inl (upd (upd (upd (fun _ => 0) 0 0) 1 0) 2 0)))] (S := Unit) (fun (r : Int32) (u : Unit) => (r = 3)) (fun (u : Unit) => [(x1, .inr (16, (f1.set 20 (.int 4)))), (x2, .inl (cA 0, 17000, .inl f2)), (x3, .inl (cA 1, 4096, .inl (upd f3 4010 4))), (x5, .inl (cA 1, 13001, .inl (upd (upd (upd (upd (fun _ => 0) 1 1) 2 4) 3 9) 4 13))), (x4, .inl (cA 0, 40000, .inl (upd (upd (upd (upd f4 9 100) 10 97) 11 116) 12 97))), (x6, .inl (cA 1, 13000, .inl (upd (upd (upd (upd (fun _ => 0) 0 0) 1 0) 2 0) 3 0)))]) := by
  refine zz_enteri (cc := cX16_name) (lv := [(0, .ref x1), (1, .ref x2), (2, .int 0), (3, .int 4)]) hE 6 (by decide) rfl (Nat.le_of_ble_eq_true rfl) rfl ?_
  intro p e s m args below meth c X hr hin
  refine zz_iconst X 0 dX16_name_0 rfl ?_
  refine zz_istore X [(4, .int 0), (0, .ref x1), (1, .ref x2), (2, .int 0), (3, .int 4)] dX16_name_1 (by decide) rfl ?_
  refine zz_iconst X 0 dX16_name_3 rfl ?_
  refine zz_istore X [(5, .int 0), (4, .int 0), (0, .ref x1), (1, .ref x2), (2, .int 0), (3, .int 4)] dX16_name_4 (by decide) rfl ?_
  refine zz_iload X 0 dX16_name_6 rfl ?_
  refine zz_iload_n X 5 dX16_name_8 rfl rfl ?_
  refine zz_icmp_ge X 36 dX16_name_9 (by decide) (fun h => absurd h (by decide)) (fun _ => ?_)
  refine zz_bipush X 31 dX16_name_12 rfl ?_
  refine zz_iload X 1 dX16_name_14 rfl ?_
  refine zz_imul X (0) dX16_name_16 (by decide) ?_
  refine zz_aload_n X 3 dX16_name_17 rfl rfl ?_
  refine zz_iload_n X 4 dX16_name_18 rfl rfl ?_
  refine zz_iload X 0 dX16_name_19 rfl ?_
  refine zz_iadd X (0) dX16_name_21 (by decide) ?_
  refine zz_bald X 1 0 rfl rfl (vp_in_nI (n := 0) (by decide) (by decide)) (100) hf2_0 dX16_name_22 ?_
  refine zz_iadd X (100) dX16_name_23 (by decide) ?_
  refine zz_sipush X 4095 dX16_name_24 rfl ?_
  refine zz_iand X (100) dX16_name_27 (by decide) ?_
  refine zz_istore X [(4, .int 100), (5, .int 0), (0, .ref x1), (1, .ref x2), (2, .int 0), (3, .int 4)] dX16_name_28 (by decide) rfl ?_
  refine zz_iinc X 1 (1) [(5, .int 1), (4, .int 100), (0, .ref x1), (1, .ref x2), (2, .int 0), (3, .int 4)] dX16_name_30 rfl (by decide) (by decide) rfl ?_
  refine zz_goto X 6 dX16_name_33 (by decide) ?_
  refine zz_iload X 0 dX16_name_6 rfl ?_
  refine zz_iload_n X 5 dX16_name_8 rfl rfl ?_
  refine zz_icmp_ge X 36 dX16_name_9 (by decide) (fun h => absurd h (by decide)) (fun _ => ?_)
  refine zz_bipush X 31 dX16_name_12 rfl ?_
  refine zz_iload X 1 dX16_name_14 rfl ?_
  refine zz_imul X (3100) dX16_name_16 (by decide) ?_
  refine zz_aload_n X 3 dX16_name_17 rfl rfl ?_
  refine zz_iload_n X 4 dX16_name_18 rfl rfl ?_
  refine zz_iload X 0 dX16_name_19 rfl ?_
  refine zz_iadd X (1) dX16_name_21 (by decide) ?_
  refine zz_bald X 1 0 rfl rfl (vp_in_nI (n := 1) (by decide) (by decide)) (97) hf2_1 dX16_name_22 ?_
  refine zz_iadd X (3197) dX16_name_23 (by decide) ?_
  refine zz_sipush X 4095 dX16_name_24 rfl ?_
  refine zz_iand X (3197) dX16_name_27 (by decide) ?_
  refine zz_istore X [(4, .int 3197), (5, .int 1), (0, .ref x1), (1, .ref x2), (2, .int 0), (3, .int 4)] dX16_name_28 (by decide) rfl ?_
  refine zz_iinc X 1 (2) [(5, .int 2), (4, .int 3197), (0, .ref x1), (1, .ref x2), (2, .int 0), (3, .int 4)] dX16_name_30 rfl (by decide) (by decide) rfl ?_
  refine zz_goto X 6 dX16_name_33 (by decide) ?_
  refine zz_iload X 0 dX16_name_6 rfl ?_
  refine zz_iload_n X 5 dX16_name_8 rfl rfl ?_
  refine zz_icmp_ge X 36 dX16_name_9 (by decide) (fun h => absurd h (by decide)) (fun _ => ?_)
  refine zz_bipush X 31 dX16_name_12 rfl ?_
  refine zz_iload X 1 dX16_name_14 rfl ?_
  refine zz_imul X (99107) dX16_name_16 (by decide) ?_
  refine zz_aload_n X 3 dX16_name_17 rfl rfl ?_
  refine zz_iload_n X 4 dX16_name_18 rfl rfl ?_
  refine zz_iload X 0 dX16_name_19 rfl ?_
  refine zz_iadd X (2) dX16_name_21 (by decide) ?_
  refine zz_bald X 1 0 rfl rfl (vp_in_nI (n := 2) (by decide) (by decide)) (116) hf2_2 dX16_name_22 ?_
  refine zz_iadd X (99223) dX16_name_23 (by decide) ?_
  refine zz_sipush X 4095 dX16_name_24 rfl ?_
  refine zz_iand X (919) dX16_name_27 (by decide) ?_
  refine zz_istore X [(4, .int 919), (5, .int 2), (0, .ref x1), (1, .ref x2), (2, .int 0), (3, .int 4)] dX16_name_28 (by decide) rfl ?_
  refine zz_iinc X 1 (3) [(5, .int 3), (4, .int 919), (0, .ref x1), (1, .ref x2), (2, .int 0), (3, .int 4)] dX16_name_30 rfl (by decide) (by decide) rfl ?_
  refine zz_goto X 6 dX16_name_33 (by decide) ?_
  refine zz_iload X 0 dX16_name_6 rfl ?_
  refine zz_iload_n X 5 dX16_name_8 rfl rfl ?_
  refine zz_icmp_ge X 36 dX16_name_9 (by decide) (fun h => absurd h (by decide)) (fun _ => ?_)
  refine zz_bipush X 31 dX16_name_12 rfl ?_
  refine zz_iload X 1 dX16_name_14 rfl ?_
  refine zz_imul X (28489) dX16_name_16 (by decide) ?_
  refine zz_aload_n X 3 dX16_name_17 rfl rfl ?_
  refine zz_iload_n X 4 dX16_name_18 rfl rfl ?_
  refine zz_iload X 0 dX16_name_19 rfl ?_
  refine zz_iadd X (3) dX16_name_21 (by decide) ?_
  refine zz_bald X 1 0 rfl rfl (vp_in_nI (n := 3) (by decide) (by decide)) (97) hf2_3 dX16_name_22 ?_
  refine zz_iadd X (28586) dX16_name_23 (by decide) ?_
  refine zz_sipush X 4095 dX16_name_24 rfl ?_
  refine zz_iand X (4010) dX16_name_27 (by decide) ?_
  refine zz_istore X [(4, .int 4010), (5, .int 3), (0, .ref x1), (1, .ref x2), (2, .int 0), (3, .int 4)] dX16_name_28 (by decide) rfl ?_
  refine zz_iinc X 1 (4) [(5, .int 4), (4, .int 4010), (0, .ref x1), (1, .ref x2), (2, .int 0), (3, .int 4)] dX16_name_30 rfl (by decide) (by decide) rfl ?_
  refine zz_goto X 6 dX16_name_33 (by decide) ?_
  refine zz_iload X 0 dX16_name_6 rfl ?_
  refine zz_iload_n X 5 dX16_name_8 rfl rfl ?_
  refine zz_icmp_ge X 36 dX16_name_9 (by decide) (fun _ => ?_) (fun h => absurd (by decide) h)
  refine zz_aload_n X 2 dX16_name_36 rfl rfl ?_
  refine zz_get X 0 19 rfl rfl (by decide) (fun w h => List.mem_cons_of_mem _ (zf_X16 w h)) rfl (List.mem_cons_of_mem _ zm_466) hf1_19 dX16_name_37 ?_
  refine zz_iload X 1 dX16_name_40 rfl ?_
  refine zz_iald X 2 1 rfl rfl (vp_in_nI (n := 4010) (by decide) (by decide)) (0) hf3_4010 dX16_name_42 ?_
  refine zz_iconst X 1 dX16_name_43 rfl ?_
  refine zz_isub X ((-1)) dX16_name_44 (by decide) ?_
  refine zz_istore X [(5, .int (-1)), (4, .int 4010), (0, .ref x1), (1, .ref x2), (2, .int 0), (3, .int 4)] dX16_name_45 (by decide) rfl ?_
  refine zz_iload X 0 dX16_name_47 rfl ?_
  refine zz_if_lt X 81 dX16_name_49 (by decide) (fun _ => ?_) (fun h => absurd (by decide) h)
  refine zz_iconst X 0 dX16_name_81 rfl ?_
  refine zz_istore X [(5, .int 0), (4, .int 4010), (0, .ref x1), (1, .ref x2), (2, .int 0), (3, .int 4)] dX16_name_82 (by decide) rfl ?_
  refine zz_iload X 0 dX16_name_84 rfl ?_
  refine zz_iload_n X 5 dX16_name_86 rfl rfl ?_
  refine zz_icmp_ge X 119 dX16_name_87 (by decide) (fun h => absurd h (by decide)) (fun _ => ?_)
  refine zz_aload_n X 2 dX16_name_90 rfl rfl ?_
  refine zz_get X 0 16 rfl rfl (by decide) (fun w h => List.mem_cons_of_mem _ (zf_X16 w h)) rfl (List.mem_cons_of_mem _ zm_463) hf1_16 dX16_name_91 ?_
  refine zz_aload_n X 2 dX16_name_94 rfl rfl ?_
  refine zz_get X 0 17 rfl rfl (by decide) (fun w h => List.mem_cons_of_mem _ (zf_X16 w h)) rfl (List.mem_cons_of_mem _ zm_464) hf1_17 dX16_name_95 ?_
  refine zz_aload_n X 2 dX16_name_98 rfl rfl ?_
  refine zz_get X 0 20 rfl rfl (by decide) (fun w h => List.mem_cons_of_mem _ (zf_X16 w h)) rfl (List.mem_cons_of_mem _ zm_760) hf1_20 dX16_name_99 ?_
  refine zz_iald X 3 1 rfl rfl (vp_in_nI (n := 3) (by decide) (by decide)) (9) rfl dX16_name_102 ?_
  refine zz_iload X 0 dX16_name_103 rfl ?_
  refine zz_iadd X (9) dX16_name_105 (by decide) ?_
  refine zz_aload_n X 3 dX16_name_106 rfl rfl ?_
  refine zz_iload_n X 4 dX16_name_107 rfl rfl ?_
  refine zz_iload X 0 dX16_name_108 rfl ?_
  refine zz_iadd X (0) dX16_name_110 (by decide) ?_
  refine zz_bald X 1 0 rfl rfl (vp_in_nI (n := 0) (by decide) (by decide)) (100) hf2_0 dX16_name_111 ?_
  refine zz_bast X 4 0 rfl rfl (vp_in_nI (n := 9) (by decide) (by decide)) 9 (by decide) (100) (by decide) dX16_name_112 [(x1, .inr (16, f1)), (x2, .inl (cA 0, 17000, .inl f2)), (x3, .inl (cA 1, 4096, .inl f3)), (x5, .inl (cA 1, 13001, .inl (upd (upd (upd (fun _ => 0) 1 1) 2 4) 3 9))), (x4, .inl (cA 0, 40000, .inl (upd f4 9 100))), (x6, .inl (cA 1, 13000, .inl (upd (upd (upd (fun _ => 0) 0 0) 1 0) 2 0)))] rfl ?_
  refine zz_iinc X 0 (1) [(5, .int 1), (4, .int 4010), (0, .ref x1), (1, .ref x2), (2, .int 0), (3, .int 4)] dX16_name_113 rfl (by decide) (by decide) rfl ?_
  refine zz_goto X 84 dX16_name_116 (by decide) ?_
  refine zz_iload X 0 dX16_name_84 rfl ?_
  refine zz_iload_n X 5 dX16_name_86 rfl rfl ?_
  refine zz_icmp_ge X 119 dX16_name_87 (by decide) (fun h => absurd h (by decide)) (fun _ => ?_)
  refine zz_aload_n X 2 dX16_name_90 rfl rfl ?_
  refine zz_get X 0 16 rfl rfl (by decide) (fun w h => List.mem_cons_of_mem _ (zf_X16 w h)) rfl (List.mem_cons_of_mem _ zm_463) hf1_16 dX16_name_91 ?_
  refine zz_aload_n X 2 dX16_name_94 rfl rfl ?_
  refine zz_get X 0 17 rfl rfl (by decide) (fun w h => List.mem_cons_of_mem _ (zf_X16 w h)) rfl (List.mem_cons_of_mem _ zm_464) hf1_17 dX16_name_95 ?_
  refine zz_aload_n X 2 dX16_name_98 rfl rfl ?_
  refine zz_get X 0 20 rfl rfl (by decide) (fun w h => List.mem_cons_of_mem _ (zf_X16 w h)) rfl (List.mem_cons_of_mem _ zm_760) hf1_20 dX16_name_99 ?_
  refine zz_iald X 3 1 rfl rfl (vp_in_nI (n := 3) (by decide) (by decide)) (9) rfl dX16_name_102 ?_
  refine zz_iload X 0 dX16_name_103 rfl ?_
  refine zz_iadd X (10) dX16_name_105 (by decide) ?_
  refine zz_aload_n X 3 dX16_name_106 rfl rfl ?_
  refine zz_iload_n X 4 dX16_name_107 rfl rfl ?_
  refine zz_iload X 0 dX16_name_108 rfl ?_
  refine zz_iadd X (1) dX16_name_110 (by decide) ?_
  refine zz_bald X 1 0 rfl rfl (vp_in_nI (n := 1) (by decide) (by decide)) (97) hf2_1 dX16_name_111 ?_
  refine zz_bast X 4 0 rfl rfl (vp_in_nI (n := 10) (by decide) (by decide)) 10 (by decide) (97) (by decide) dX16_name_112 [(x1, .inr (16, f1)), (x2, .inl (cA 0, 17000, .inl f2)), (x3, .inl (cA 1, 4096, .inl f3)), (x5, .inl (cA 1, 13001, .inl (upd (upd (upd (fun _ => 0) 1 1) 2 4) 3 9))), (x4, .inl (cA 0, 40000, .inl (upd (upd f4 9 100) 10 97))), (x6, .inl (cA 1, 13000, .inl (upd (upd (upd (fun _ => 0) 0 0) 1 0) 2 0)))] rfl ?_
  refine zz_iinc X 0 (2) [(5, .int 2), (4, .int 4010), (0, .ref x1), (1, .ref x2), (2, .int 0), (3, .int 4)] dX16_name_113 rfl (by decide) (by decide) rfl ?_
  refine zz_goto X 84 dX16_name_116 (by decide) ?_
  refine zz_iload X 0 dX16_name_84 rfl ?_
  refine zz_iload_n X 5 dX16_name_86 rfl rfl ?_
  refine zz_icmp_ge X 119 dX16_name_87 (by decide) (fun h => absurd h (by decide)) (fun _ => ?_)
  refine zz_aload_n X 2 dX16_name_90 rfl rfl ?_
  refine zz_get X 0 16 rfl rfl (by decide) (fun w h => List.mem_cons_of_mem _ (zf_X16 w h)) rfl (List.mem_cons_of_mem _ zm_463) hf1_16 dX16_name_91 ?_
  refine zz_aload_n X 2 dX16_name_94 rfl rfl ?_
  refine zz_get X 0 17 rfl rfl (by decide) (fun w h => List.mem_cons_of_mem _ (zf_X16 w h)) rfl (List.mem_cons_of_mem _ zm_464) hf1_17 dX16_name_95 ?_
  refine zz_aload_n X 2 dX16_name_98 rfl rfl ?_
  refine zz_get X 0 20 rfl rfl (by decide) (fun w h => List.mem_cons_of_mem _ (zf_X16 w h)) rfl (List.mem_cons_of_mem _ zm_760) hf1_20 dX16_name_99 ?_
  refine zz_iald X 3 1 rfl rfl (vp_in_nI (n := 3) (by decide) (by decide)) (9) rfl dX16_name_102 ?_
  refine zz_iload X 0 dX16_name_103 rfl ?_
  refine zz_iadd X (11) dX16_name_105 (by decide) ?_
  refine zz_aload_n X 3 dX16_name_106 rfl rfl ?_
  refine zz_iload_n X 4 dX16_name_107 rfl rfl ?_
  refine zz_iload X 0 dX16_name_108 rfl ?_
  refine zz_iadd X (2) dX16_name_110 (by decide) ?_
  refine zz_bald X 1 0 rfl rfl (vp_in_nI (n := 2) (by decide) (by decide)) (116) hf2_2 dX16_name_111 ?_
  refine zz_bast X 4 0 rfl rfl (vp_in_nI (n := 11) (by decide) (by decide)) 11 (by decide) (116) (by decide) dX16_name_112 [(x1, .inr (16, f1)), (x2, .inl (cA 0, 17000, .inl f2)), (x3, .inl (cA 1, 4096, .inl f3)), (x5, .inl (cA 1, 13001, .inl (upd (upd (upd (fun _ => 0) 1 1) 2 4) 3 9))), (x4, .inl (cA 0, 40000, .inl (upd (upd (upd f4 9 100) 10 97) 11 116))), (x6, .inl (cA 1, 13000, .inl (upd (upd (upd (fun _ => 0) 0 0) 1 0) 2 0)))] rfl ?_
  refine zz_iinc X 0 (3) [(5, .int 3), (4, .int 4010), (0, .ref x1), (1, .ref x2), (2, .int 0), (3, .int 4)] dX16_name_113 rfl (by decide) (by decide) rfl ?_
  refine zz_goto X 84 dX16_name_116 (by decide) ?_
  refine zz_iload X 0 dX16_name_84 rfl ?_
  refine zz_iload_n X 5 dX16_name_86 rfl rfl ?_
  refine zz_icmp_ge X 119 dX16_name_87 (by decide) (fun h => absurd h (by decide)) (fun _ => ?_)
  refine zz_aload_n X 2 dX16_name_90 rfl rfl ?_
  refine zz_get X 0 16 rfl rfl (by decide) (fun w h => List.mem_cons_of_mem _ (zf_X16 w h)) rfl (List.mem_cons_of_mem _ zm_463) hf1_16 dX16_name_91 ?_
  refine zz_aload_n X 2 dX16_name_94 rfl rfl ?_
  refine zz_get X 0 17 rfl rfl (by decide) (fun w h => List.mem_cons_of_mem _ (zf_X16 w h)) rfl (List.mem_cons_of_mem _ zm_464) hf1_17 dX16_name_95 ?_
  refine zz_aload_n X 2 dX16_name_98 rfl rfl ?_
  refine zz_get X 0 20 rfl rfl (by decide) (fun w h => List.mem_cons_of_mem _ (zf_X16 w h)) rfl (List.mem_cons_of_mem _ zm_760) hf1_20 dX16_name_99 ?_
  refine zz_iald X 3 1 rfl rfl (vp_in_nI (n := 3) (by decide) (by decide)) (9) rfl dX16_name_102 ?_
  refine zz_iload X 0 dX16_name_103 rfl ?_
  refine zz_iadd X (12) dX16_name_105 (by decide) ?_
  refine zz_aload_n X 3 dX16_name_106 rfl rfl ?_
  refine zz_iload_n X 4 dX16_name_107 rfl rfl ?_
  refine zz_iload X 0 dX16_name_108 rfl ?_
  refine zz_iadd X (3) dX16_name_110 (by decide) ?_
  refine zz_bald X 1 0 rfl rfl (vp_in_nI (n := 3) (by decide) (by decide)) (97) hf2_3 dX16_name_111 ?_
  refine zz_bast X 4 0 rfl rfl (vp_in_nI (n := 12) (by decide) (by decide)) 12 (by decide) (97) (by decide) dX16_name_112 [(x1, .inr (16, f1)), (x2, .inl (cA 0, 17000, .inl f2)), (x3, .inl (cA 1, 4096, .inl f3)), (x5, .inl (cA 1, 13001, .inl (upd (upd (upd (fun _ => 0) 1 1) 2 4) 3 9))), (x4, .inl (cA 0, 40000, .inl (upd (upd (upd (upd f4 9 100) 10 97) 11 116) 12 97))), (x6, .inl (cA 1, 13000, .inl (upd (upd (upd (fun _ => 0) 0 0) 1 0) 2 0)))] rfl ?_
  refine zz_iinc X 0 (4) [(5, .int 4), (4, .int 4010), (0, .ref x1), (1, .ref x2), (2, .int 0), (3, .int 4)] dX16_name_113 rfl (by decide) (by decide) rfl ?_
  refine zz_goto X 84 dX16_name_116 (by decide) ?_
  refine zz_iload X 0 dX16_name_84 rfl ?_
  refine zz_iload_n X 5 dX16_name_86 rfl rfl ?_
  refine zz_icmp_ge X 119 dX16_name_87 (by decide) (fun _ => ?_) (fun h => absurd (by decide) h)
  refine zz_aload_n X 2 dX16_name_119 rfl rfl ?_
  refine zz_get X 0 17 rfl rfl (by decide) (fun w h => List.mem_cons_of_mem _ (zf_X16 w h)) rfl (List.mem_cons_of_mem _ zm_464) hf1_17 dX16_name_120 ?_
  refine zz_aload_n X 2 dX16_name_123 rfl rfl ?_
  refine zz_get X 0 20 rfl rfl (by decide) (fun w h => List.mem_cons_of_mem _ (zf_X16 w h)) rfl (List.mem_cons_of_mem _ zm_760) hf1_20 dX16_name_124 ?_
  refine zz_iconst X 1 dX16_name_127 rfl ?_
  refine zz_iadd X (4) dX16_name_128 (by decide) ?_
  refine zz_aload_n X 2 dX16_name_129 rfl rfl ?_
  refine zz_get X 0 17 rfl rfl (by decide) (fun w h => List.mem_cons_of_mem _ (zf_X16 w h)) rfl (List.mem_cons_of_mem _ zm_464) hf1_17 dX16_name_130 ?_
  refine zz_aload_n X 2 dX16_name_133 rfl rfl ?_
  refine zz_get X 0 20 rfl rfl (by decide) (fun w h => List.mem_cons_of_mem _ (zf_X16 w h)) rfl (List.mem_cons_of_mem _ zm_760) hf1_20 dX16_name_134 ?_
  refine zz_iald X 3 1 rfl rfl (vp_in_nI (n := 3) (by decide) (by decide)) (9) rfl dX16_name_137 ?_
  refine zz_iload_n X 5 dX16_name_138 rfl rfl ?_
  refine zz_iadd X (13) dX16_name_139 (by decide) ?_
  refine zz_iast X 3 1 rfl rfl (vp_in_nI (n := 4) (by decide) (by decide)) 4 (by decide) dX16_name_140 [(x1, .inr (16, f1)), (x2, .inl (cA 0, 17000, .inl f2)), (x3, .inl (cA 1, 4096, .inl f3)), (x5, .inl (cA 1, 13001, .inl (upd (upd (upd (upd (fun _ => 0) 1 1) 2 4) 3 9) 4 13))), (x4, .inl (cA 0, 40000, .inl (upd (upd (upd (upd f4 9 100) 10 97) 11 116) 12 97))), (x6, .inl (cA 1, 13000, .inl (upd (upd (upd (fun _ => 0) 0 0) 1 0) 2 0)))] rfl ?_
  refine zz_aload_n X 2 dX16_name_141 rfl rfl ?_
  refine zz_get X 0 18 rfl rfl (by decide) (fun w h => List.mem_cons_of_mem _ (zf_X16 w h)) rfl (List.mem_cons_of_mem _ zm_465) hf1_18 dX16_name_142 ?_
  refine zz_aload_n X 2 dX16_name_145 rfl rfl ?_
  refine zz_get X 0 20 rfl rfl (by decide) (fun w h => List.mem_cons_of_mem _ (zf_X16 w h)) rfl (List.mem_cons_of_mem _ zm_760) hf1_20 dX16_name_146 ?_
  refine zz_aload_n X 2 dX16_name_149 rfl rfl ?_
  refine zz_get X 0 19 rfl rfl (by decide) (fun w h => List.mem_cons_of_mem _ (zf_X16 w h)) rfl (List.mem_cons_of_mem _ zm_466) hf1_19 dX16_name_150 ?_
  refine zz_iload X 1 dX16_name_153 rfl ?_
  refine zz_iald X 2 1 rfl rfl (vp_in_nI (n := 4010) (by decide) (by decide)) (0) hf3_4010 dX16_name_155 ?_
  refine zz_iast X 5 1 rfl rfl (vp_in_nI (n := 3) (by decide) (by decide)) 3 (by decide) dX16_name_156 [(x1, .inr (16, f1)), (x2, .inl (cA 0, 17000, .inl f2)), (x3, .inl (cA 1, 4096, .inl f3)), (x5, .inl (cA 1, 13001, .inl (upd (upd (upd (upd (fun _ => 0) 1 1) 2 4) 3 9) 4 13))), (x4, .inl (cA 0, 40000, .inl (upd (upd (upd (upd f4 9 100) 10 97) 11 116) 12 97))), (x6, .inl (cA 1, 13000, .inl (upd (upd (upd (upd (fun _ => 0) 0 0) 1 0) 2 0) 3 0)))] rfl ?_
  refine zz_aload_n X 2 dX16_name_157 rfl rfl ?_
  refine zz_get X 0 19 rfl rfl (by decide) (fun w h => List.mem_cons_of_mem _ (zf_X16 w h)) rfl (List.mem_cons_of_mem _ zm_466) hf1_19 dX16_name_158 ?_
  refine zz_iload X 1 dX16_name_161 rfl ?_
  refine zz_aload_n X 2 dX16_name_163 rfl rfl ?_
  refine zz_get X 0 20 rfl rfl (by decide) (fun w h => List.mem_cons_of_mem _ (zf_X16 w h)) rfl (List.mem_cons_of_mem _ zm_760) hf1_20 dX16_name_164 ?_
  refine zz_iconst X 1 dX16_name_167 rfl ?_
  refine zz_iadd X (4) dX16_name_168 (by decide) ?_
  refine zz_iast X 2 1 rfl rfl (vp_in_nI (n := 4010) (by decide) (by decide)) 4010 (by decide) dX16_name_169 [(x1, .inr (16, f1)), (x2, .inl (cA 0, 17000, .inl f2)), (x3, .inl (cA 1, 4096, .inl (upd f3 4010 4))), (x5, .inl (cA 1, 13001, .inl (upd (upd (upd (upd (fun _ => 0) 1 1) 2 4) 3 9) 4 13))), (x4, .inl (cA 0, 40000, .inl (upd (upd (upd (upd f4 9 100) 10 97) 11 116) 12 97))), (x6, .inl (cA 1, 13000, .inl (upd (upd (upd (upd (fun _ => 0) 0 0) 1 0) 2 0) 3 0)))] rfl ?_
  refine zz_aload_n X 2 dX16_name_170 rfl rfl ?_
  refine zz_dup X dX16_name_171 rfl ?_
  refine zz_get X 0 20 rfl rfl (by decide) (fun w h => List.mem_cons_of_mem _ (zf_X16 w h)) rfl (List.mem_cons_of_mem _ zm_760) hf1_20 dX16_name_172 ?_
  refine zz_iconst X 1 dX16_name_175 rfl ?_
  refine zz_iadd X (4) dX16_name_176 (by decide) ?_
  refine zz_put X 0 20 rfl rfl (by decide) (fun w h => List.mem_cons_of_mem _ (zf_X16 w h)) rfl (List.mem_cons_of_mem _ zm_760) tyX16 tyX16_ok nmX16 rfl (ty := .int) rfl rfl rfl (zq_lt hf1_n (by decide) (by simp only [List.length_set])) dX16_name_177 [(x1, .inr (16, (f1.set 20 (.int 4)))), (x2, .inl (cA 0, 17000, .inl f2)), (x3, .inl (cA 1, 4096, .inl (upd f3 4010 4))), (x5, .inl (cA 1, 13001, .inl (upd (upd (upd (upd (fun _ => 0) 1 1) 2 4) 3 9) 4 13))), (x4, .inl (cA 0, 40000, .inl (upd (upd (upd (upd f4 9 100) 10 97) 11 116) 12 97))), (x6, .inl (cA 1, 13000, .inl (upd (upd (upd (upd (fun _ => 0) 0 0) 1 0) 2 0) 3 0)))] rfl ?_
  refine zz_aload_n X 2 dX16_name_180 rfl rfl ?_
  refine zz_get X 0 20 rfl rfl (by decide) (fun w h => List.mem_cons_of_mem _ (zf_X16 w h)) rfl (List.mem_cons_of_mem _ zm_760) (zq_same (zq_lt hf1_n (by decide) (by simp only [List.length_set]))) dX16_name_181 ?_
  refine zz_iconst X 1 dX16_name_184 rfl ?_
  refine zz_isub X (3) dX16_name_185 (by decide) ?_
  exact zz_iret X hr (()) [0, 1, 2, 3, 4, 5] (by decide) rfl rfl (Nat.le_of_ble_eq_true rfl) (Nat.le_of_ble_eq_true rfl) (rfl) dX16_name_186

set_option maxHeartbeats 4000000 in
set_option maxRecDepth 100000 in
/-- nameOf -/
theorem kX16_nameOf_4 {E : zEn} (hE : zOk E) (l : Launch) (D : va_G) (cA : Nat → ClassId) (K : Nat → Nat) (V : Nat → Nat) (x1 : Nat) (f1 : List Value) (x2 : Nat) (x3 : Nat) (x4 : Nat) (x5 : Nat) (x6 : Nat) (f2 : Nat → Int32) (f3 : Nat → Int32) (f4 : Nat → Int32) (hss : zSS E K V) (hf1_n : f1.length = 243) (hf1_0 : f1[0]? = some (.ref x2)) (hf1_19 : f1[19]? = some (.ref x3)) (hf1_16 : f1[16]? = some (.ref x4)) (hf1_17 : f1[17]? = some (.ref x5)) (hf1_20 : f1[20]? = some (.int 3)) (hf1_18 : f1[18]? = some (.ref x6)) (hf3_4010 : f3 4010 = 0) : zMi E l yX16_nameOf zwX16_nameOf ({ frames := 4, cells := 0, slots := 0, locals := 85 }) D vwCl (zT cA) [.ref x1, .ref (K 6)] [(x1, .inr (16, f1)), (x2, .inl (cA 0, 17000, .inl f2)), (x3, .inl (cA 1, 4096, .inl f3)), (x5, .inl (cA 1, 13001, .inl (upd (upd (upd (fun _ => 0) 1 1) 2 4) 3 9))), (x4, .inl (cA 0, 40000, .inl f4)), (x6, .inl (cA 1, 13000, .inl (upd (upd (upd (fun _ => 0) 0 0) 1 0) 2 0)))] (S := Unit) (fun (r : Int32) (u : Unit) => (r = 3)) (fun (u : Unit) => [(x1, .inr (16, (f1.set 20 (.int 4)))), (x2, .inl (cA 0, 17000, .inl ((upd (upd (upd (upd f2 0 100) 1 97) 2 116) 3 97)))), (x3, .inl (cA 1, 4096, .inl (upd f3 4010 4))), (x5, .inl (cA 1, 13001, .inl (upd (upd (upd (upd (fun _ => 0) 1 1) 2 4) 3 9) 4 13))), (x4, .inl (cA 0, 40000, .inl (upd (upd (upd (upd f4 9 100) 10 97) 11 116) 12 97))), (x6, .inl (cA 1, 13000, .inl (upd (upd (upd (upd (fun _ => 0) 0 0) 1 0) 2 0) 3 0)))]) := by
  refine zz_enteri (cc := cX16_nameOf) (lv := [(0, .ref x1), (1, .ref (K 6))]) hE 3 (by decide) rfl (Nat.le_of_ble_eq_true rfl) rfl ?_
  intro p e s m args below meth c X hr hin
  refine zz_iconst X 0 dX16_nameOf_0 rfl ?_
  refine zz_istore_n X [(2, .int 0), (0, .ref x1), (1, .ref (K 6))] dX16_nameOf_1 rfl (by decide) rfl ?_
  refine zz_iload_n X 0 dX16_nameOf_2 rfl rfl ?_
  refine zz_aload_n X 2 dX16_nameOf_3 rfl rfl ?_
  refine zz_callTi X (rest := [.int 0]) (As := []) (kJ0_length hE l D cA 8 zLn zBy K V 6 (zSS_st hss) (by decide)) 0 (zgV zm_764 zm_241 zm_242 zm_141 zm_239) rfl (by decide +kernel) [] [0, 1, 2, 3, 4, 5] [(x1, .inr (16, f1)), (x2, .inl (cA 0, 17000, .inl f2)), (x3, .inl (cA 1, 4096, .inl f3)), (x5, .inl (cA 1, 13001, .inl (upd (upd (upd (fun _ => 0) 1 1) 2 4) 3 9))), (x4, .inl (cA 0, 40000, .inl f4)), (x6, .inl (cA 1, 13000, .inl (upd (upd (upd (fun _ => 0) 0 0) 1 0) 2 0)))] rfl rfl (by decide) rfl (by decide) (by decide) ⟨Nat.le_of_ble_eq_true rfl, Nat.le_of_ble_eq_true rfl⟩ (zz_recvS X (zSS_st hss) (by decide)) rfl rfl rfl (Nat.le_of_ble_eq_true rfl) dX16_nameOf_4 (Nat.le_of_ble_eq_true rfl) (Nat.le_of_ble_eq_true rfl) (fun r1 _ hw2 => ?_)
  obtain rfl := hw2
  refine zz_show (ws' := [(x1, .inr (16, f1)), (x2, .inl (cA 0, 17000, .inl f2)), (x3, .inl (cA 1, 4096, .inl f3)), (x5, .inl (cA 1, 13001, .inl (upd (upd (upd (fun _ => 0) 1 1) 2 4) 3 9))), (x4, .inl (cA 0, 40000, .inl f4)), (x6, .inl (cA 1, 13000, .inl (upd (upd (upd (fun _ => 0) 0 0) 1 0) 2 0)))]) rfl ?_
  refine zz_st (st' := [.int 4, .int 0]) rfl ?_
  refine zz_icmp_ge X 28 dX16_nameOf_7 (by decide) (fun h => absurd h (by decide)) (fun _ => ?_)
  refine zz_aload_n X 1 dX16_nameOf_10 rfl rfl ?_
  refine zz_get X 0 0 rfl rfl (by decide) (fun w h => List.mem_cons_of_mem _ (zf_X16 w h)) rfl (List.mem_cons_of_mem _ zm_456) hf1_0 dX16_nameOf_11 ?_
  refine zz_iload_n X 0 dX16_nameOf_14 rfl rfl ?_
  refine zz_aload_n X 2 dX16_nameOf_15 rfl rfl ?_
  refine zz_iload_n X 0 dX16_nameOf_16 rfl rfl ?_
  refine zz_st (st' := [.int (nI 0), .ref (K 6), .int 0, .ref x2]) rfl ?_
  refine zz_callTi X (rest := [.int 0, .ref x2]) (As := [.int (nI 0)]) (kJ0_charAt hE l D cA 8 zLn zBy K V 6 0 (zSS_st hss) (by decide) (by decide)) 1 (zgV zm_765 zm_139 zm_140 zm_141 zm_137) rfl (by decide +kernel) [] [0, 1, 2, 3, 4, 5] [(x1, .inr (16, f1)), (x2, .inl (cA 0, 17000, .inl f2)), (x3, .inl (cA 1, 4096, .inl f3)), (x5, .inl (cA 1, 13001, .inl (upd (upd (upd (fun _ => 0) 1 1) 2 4) 3 9))), (x4, .inl (cA 0, 40000, .inl f4)), (x6, .inl (cA 1, 13000, .inl (upd (upd (upd (fun _ => 0) 0 0) 1 0) 2 0)))] rfl rfl (by decide) rfl (by decide) (by decide) ⟨Nat.le_of_ble_eq_true rfl, Nat.le_of_ble_eq_true rfl⟩ (zz_recvS X (zSS_st hss) (by decide)) rfl rfl rfl (Nat.le_of_ble_eq_true rfl) dX16_nameOf_17 (Nat.le_of_ble_eq_true rfl) (Nat.le_of_ble_eq_true rfl) (fun r3 _ hw4 => ?_)
  obtain rfl := hw4
  refine zz_show (ws' := [(x1, .inr (16, f1)), (x2, .inl (cA 0, 17000, .inl f2)), (x3, .inl (cA 1, 4096, .inl f3)), (x5, .inl (cA 1, 13001, .inl (upd (upd (upd (fun _ => 0) 1 1) 2 4) 3 9))), (x4, .inl (cA 0, 40000, .inl f4)), (x6, .inl (cA 1, 13000, .inl (upd (upd (upd (fun _ => 0) 0 0) 1 0) 2 0)))]) rfl ?_
  refine zz_st (st' := [.int 100, .int 0, .ref x2]) (by rfl) ?_
  refine zz_i2b X (100) dX16_nameOf_20 (by decide) ?_
  refine zz_bast X 1 0 rfl rfl (vp_in_nI (n := 0) (by decide) (by decide)) 0 (by decide) (100) (by decide) dX16_nameOf_21 [(x1, .inr (16, f1)), (x2, .inl (cA 0, 17000, .inl (upd f2 0 100))), (x3, .inl (cA 1, 4096, .inl f3)), (x5, .inl (cA 1, 13001, .inl (upd (upd (upd (fun _ => 0) 1 1) 2 4) 3 9))), (x4, .inl (cA 0, 40000, .inl f4)), (x6, .inl (cA 1, 13000, .inl (upd (upd (upd (fun _ => 0) 0 0) 1 0) 2 0)))] rfl ?_
  refine zz_iinc X 0 (1) [(2, .int 1), (0, .ref x1), (1, .ref (K 6))] dX16_nameOf_22 rfl (by decide) (by decide) rfl ?_
  refine zz_goto X 2 dX16_nameOf_25 (by decide) ?_
  refine zz_iload_n X 0 dX16_nameOf_2 rfl rfl ?_
  refine zz_aload_n X 2 dX16_nameOf_3 rfl rfl ?_
  refine zz_callTi X (rest := [.int 1]) (As := []) (kJ0_length hE l D cA 8 zLn zBy K V 6 (zSS_st hss) (by decide)) 0 (zgV zm_764 zm_241 zm_242 zm_141 zm_239) rfl (by decide +kernel) [] [0, 1, 2, 3, 4, 5] [(x1, .inr (16, f1)), (x2, .inl (cA 0, 17000, .inl (upd f2 0 100))), (x3, .inl (cA 1, 4096, .inl f3)), (x5, .inl (cA 1, 13001, .inl (upd (upd (upd (fun _ => 0) 1 1) 2 4) 3 9))), (x4, .inl (cA 0, 40000, .inl f4)), (x6, .inl (cA 1, 13000, .inl (upd (upd (upd (fun _ => 0) 0 0) 1 0) 2 0)))] rfl rfl (by decide) rfl (by decide) (by decide) ⟨Nat.le_of_ble_eq_true rfl, Nat.le_of_ble_eq_true rfl⟩ (zz_recvS X (zSS_st hss) (by decide)) rfl rfl rfl (Nat.le_of_ble_eq_true rfl) dX16_nameOf_4 (Nat.le_of_ble_eq_true rfl) (Nat.le_of_ble_eq_true rfl) (fun r5 _ hw6 => ?_)
  obtain rfl := hw6
  refine zz_show (ws' := [(x1, .inr (16, f1)), (x2, .inl (cA 0, 17000, .inl (upd f2 0 100))), (x3, .inl (cA 1, 4096, .inl f3)), (x5, .inl (cA 1, 13001, .inl (upd (upd (upd (fun _ => 0) 1 1) 2 4) 3 9))), (x4, .inl (cA 0, 40000, .inl f4)), (x6, .inl (cA 1, 13000, .inl (upd (upd (upd (fun _ => 0) 0 0) 1 0) 2 0)))]) rfl ?_
  refine zz_st (st' := [.int 4, .int 1]) rfl ?_
  refine zz_icmp_ge X 28 dX16_nameOf_7 (by decide) (fun h => absurd h (by decide)) (fun _ => ?_)
  refine zz_aload_n X 1 dX16_nameOf_10 rfl rfl ?_
  refine zz_get X 0 0 rfl rfl (by decide) (fun w h => List.mem_cons_of_mem _ (zf_X16 w h)) rfl (List.mem_cons_of_mem _ zm_456) hf1_0 dX16_nameOf_11 ?_
  refine zz_iload_n X 0 dX16_nameOf_14 rfl rfl ?_
  refine zz_aload_n X 2 dX16_nameOf_15 rfl rfl ?_
  refine zz_iload_n X 0 dX16_nameOf_16 rfl rfl ?_
  refine zz_st (st' := [.int (nI 1), .ref (K 6), .int 1, .ref x2]) rfl ?_
  refine zz_callTi X (rest := [.int 1, .ref x2]) (As := [.int (nI 1)]) (kJ0_charAt hE l D cA 8 zLn zBy K V 6 1 (zSS_st hss) (by decide) (by decide)) 1 (zgV zm_765 zm_139 zm_140 zm_141 zm_137) rfl (by decide +kernel) [] [0, 1, 2, 3, 4, 5] [(x1, .inr (16, f1)), (x2, .inl (cA 0, 17000, .inl (upd f2 0 100))), (x3, .inl (cA 1, 4096, .inl f3)), (x5, .inl (cA 1, 13001, .inl (upd (upd (upd (fun _ => 0) 1 1) 2 4) 3 9))), (x4, .inl (cA 0, 40000, .inl f4)), (x6, .inl (cA 1, 13000, .inl (upd (upd (upd (fun _ => 0) 0 0) 1 0) 2 0)))] rfl rfl (by decide) rfl (by decide) (by decide) ⟨Nat.le_of_ble_eq_true rfl, Nat.le_of_ble_eq_true rfl⟩ (zz_recvS X (zSS_st hss) (by decide)) rfl rfl rfl (Nat.le_of_ble_eq_true rfl) dX16_nameOf_17 (Nat.le_of_ble_eq_true rfl) (Nat.le_of_ble_eq_true rfl) (fun r7 _ hw8 => ?_)
  obtain rfl := hw8
  refine zz_show (ws' := [(x1, .inr (16, f1)), (x2, .inl (cA 0, 17000, .inl (upd f2 0 100))), (x3, .inl (cA 1, 4096, .inl f3)), (x5, .inl (cA 1, 13001, .inl (upd (upd (upd (fun _ => 0) 1 1) 2 4) 3 9))), (x4, .inl (cA 0, 40000, .inl f4)), (x6, .inl (cA 1, 13000, .inl (upd (upd (upd (fun _ => 0) 0 0) 1 0) 2 0)))]) rfl ?_
  refine zz_st (st' := [.int 97, .int 1, .ref x2]) (by rfl) ?_
  refine zz_i2b X (97) dX16_nameOf_20 (by decide) ?_
  refine zz_bast X 1 0 rfl rfl (vp_in_nI (n := 1) (by decide) (by decide)) 1 (by decide) (97) (by decide) dX16_nameOf_21 [(x1, .inr (16, f1)), (x2, .inl (cA 0, 17000, .inl (upd (upd f2 0 100) 1 97))), (x3, .inl (cA 1, 4096, .inl f3)), (x5, .inl (cA 1, 13001, .inl (upd (upd (upd (fun _ => 0) 1 1) 2 4) 3 9))), (x4, .inl (cA 0, 40000, .inl f4)), (x6, .inl (cA 1, 13000, .inl (upd (upd (upd (fun _ => 0) 0 0) 1 0) 2 0)))] rfl ?_
  refine zz_iinc X 0 (2) [(2, .int 2), (0, .ref x1), (1, .ref (K 6))] dX16_nameOf_22 rfl (by decide) (by decide) rfl ?_
  refine zz_goto X 2 dX16_nameOf_25 (by decide) ?_
  refine zz_iload_n X 0 dX16_nameOf_2 rfl rfl ?_
  refine zz_aload_n X 2 dX16_nameOf_3 rfl rfl ?_
  refine zz_callTi X (rest := [.int 2]) (As := []) (kJ0_length hE l D cA 8 zLn zBy K V 6 (zSS_st hss) (by decide)) 0 (zgV zm_764 zm_241 zm_242 zm_141 zm_239) rfl (by decide +kernel) [] [0, 1, 2, 3, 4, 5] [(x1, .inr (16, f1)), (x2, .inl (cA 0, 17000, .inl (upd (upd f2 0 100) 1 97))), (x3, .inl (cA 1, 4096, .inl f3)), (x5, .inl (cA 1, 13001, .inl (upd (upd (upd (fun _ => 0) 1 1) 2 4) 3 9))), (x4, .inl (cA 0, 40000, .inl f4)), (x6, .inl (cA 1, 13000, .inl (upd (upd (upd (fun _ => 0) 0 0) 1 0) 2 0)))] rfl rfl (by decide) rfl (by decide) (by decide) ⟨Nat.le_of_ble_eq_true rfl, Nat.le_of_ble_eq_true rfl⟩ (zz_recvS X (zSS_st hss) (by decide)) rfl rfl rfl (Nat.le_of_ble_eq_true rfl) dX16_nameOf_4 (Nat.le_of_ble_eq_true rfl) (Nat.le_of_ble_eq_true rfl) (fun r9 _ hw10 => ?_)
  obtain rfl := hw10
  refine zz_show (ws' := [(x1, .inr (16, f1)), (x2, .inl (cA 0, 17000, .inl (upd (upd f2 0 100) 1 97))), (x3, .inl (cA 1, 4096, .inl f3)), (x5, .inl (cA 1, 13001, .inl (upd (upd (upd (fun _ => 0) 1 1) 2 4) 3 9))), (x4, .inl (cA 0, 40000, .inl f4)), (x6, .inl (cA 1, 13000, .inl (upd (upd (upd (fun _ => 0) 0 0) 1 0) 2 0)))]) rfl ?_
  refine zz_st (st' := [.int 4, .int 2]) rfl ?_
  refine zz_icmp_ge X 28 dX16_nameOf_7 (by decide) (fun h => absurd h (by decide)) (fun _ => ?_)
  refine zz_aload_n X 1 dX16_nameOf_10 rfl rfl ?_
  refine zz_get X 0 0 rfl rfl (by decide) (fun w h => List.mem_cons_of_mem _ (zf_X16 w h)) rfl (List.mem_cons_of_mem _ zm_456) hf1_0 dX16_nameOf_11 ?_
  refine zz_iload_n X 0 dX16_nameOf_14 rfl rfl ?_
  refine zz_aload_n X 2 dX16_nameOf_15 rfl rfl ?_
  refine zz_iload_n X 0 dX16_nameOf_16 rfl rfl ?_
  refine zz_st (st' := [.int (nI 2), .ref (K 6), .int 2, .ref x2]) rfl ?_
  refine zz_callTi X (rest := [.int 2, .ref x2]) (As := [.int (nI 2)]) (kJ0_charAt hE l D cA 8 zLn zBy K V 6 2 (zSS_st hss) (by decide) (by decide)) 1 (zgV zm_765 zm_139 zm_140 zm_141 zm_137) rfl (by decide +kernel) [] [0, 1, 2, 3, 4, 5] [(x1, .inr (16, f1)), (x2, .inl (cA 0, 17000, .inl (upd (upd f2 0 100) 1 97))), (x3, .inl (cA 1, 4096, .inl f3)), (x5, .inl (cA 1, 13001, .inl (upd (upd (upd (fun _ => 0) 1 1) 2 4) 3 9))), (x4, .inl (cA 0, 40000, .inl f4)), (x6, .inl (cA 1, 13000, .inl (upd (upd (upd (fun _ => 0) 0 0) 1 0) 2 0)))] rfl rfl (by decide) rfl (by decide) (by decide) ⟨Nat.le_of_ble_eq_true rfl, Nat.le_of_ble_eq_true rfl⟩ (zz_recvS X (zSS_st hss) (by decide)) rfl rfl rfl (Nat.le_of_ble_eq_true rfl) dX16_nameOf_17 (Nat.le_of_ble_eq_true rfl) (Nat.le_of_ble_eq_true rfl) (fun r11 _ hw12 => ?_)
  obtain rfl := hw12
  refine zz_show (ws' := [(x1, .inr (16, f1)), (x2, .inl (cA 0, 17000, .inl (upd (upd f2 0 100) 1 97))), (x3, .inl (cA 1, 4096, .inl f3)), (x5, .inl (cA 1, 13001, .inl (upd (upd (upd (fun _ => 0) 1 1) 2 4) 3 9))), (x4, .inl (cA 0, 40000, .inl f4)), (x6, .inl (cA 1, 13000, .inl (upd (upd (upd (fun _ => 0) 0 0) 1 0) 2 0)))]) rfl ?_
  refine zz_st (st' := [.int 116, .int 2, .ref x2]) (by rfl) ?_
  refine zz_i2b X (116) dX16_nameOf_20 (by decide) ?_
  refine zz_bast X 1 0 rfl rfl (vp_in_nI (n := 2) (by decide) (by decide)) 2 (by decide) (116) (by decide) dX16_nameOf_21 [(x1, .inr (16, f1)), (x2, .inl (cA 0, 17000, .inl (upd (upd (upd f2 0 100) 1 97) 2 116))), (x3, .inl (cA 1, 4096, .inl f3)), (x5, .inl (cA 1, 13001, .inl (upd (upd (upd (fun _ => 0) 1 1) 2 4) 3 9))), (x4, .inl (cA 0, 40000, .inl f4)), (x6, .inl (cA 1, 13000, .inl (upd (upd (upd (fun _ => 0) 0 0) 1 0) 2 0)))] rfl ?_
  refine zz_iinc X 0 (3) [(2, .int 3), (0, .ref x1), (1, .ref (K 6))] dX16_nameOf_22 rfl (by decide) (by decide) rfl ?_
  refine zz_goto X 2 dX16_nameOf_25 (by decide) ?_
  refine zz_iload_n X 0 dX16_nameOf_2 rfl rfl ?_
  refine zz_aload_n X 2 dX16_nameOf_3 rfl rfl ?_
  refine zz_callTi X (rest := [.int 3]) (As := []) (kJ0_length hE l D cA 8 zLn zBy K V 6 (zSS_st hss) (by decide)) 0 (zgV zm_764 zm_241 zm_242 zm_141 zm_239) rfl (by decide +kernel) [] [0, 1, 2, 3, 4, 5] [(x1, .inr (16, f1)), (x2, .inl (cA 0, 17000, .inl (upd (upd (upd f2 0 100) 1 97) 2 116))), (x3, .inl (cA 1, 4096, .inl f3)), (x5, .inl (cA 1, 13001, .inl (upd (upd (upd (fun _ => 0) 1 1) 2 4) 3 9))), (x4, .inl (cA 0, 40000, .inl f4)), (x6, .inl (cA 1, 13000, .inl (upd (upd (upd (fun _ => 0) 0 0) 1 0) 2 0)))] rfl rfl (by decide) rfl (by decide) (by decide) ⟨Nat.le_of_ble_eq_true rfl, Nat.le_of_ble_eq_true rfl⟩ (zz_recvS X (zSS_st hss) (by decide)) rfl rfl rfl (Nat.le_of_ble_eq_true rfl) dX16_nameOf_4 (Nat.le_of_ble_eq_true rfl) (Nat.le_of_ble_eq_true rfl) (fun r13 _ hw14 => ?_)
  obtain rfl := hw14
  refine zz_show (ws' := [(x1, .inr (16, f1)), (x2, .inl (cA 0, 17000, .inl (upd (upd (upd f2 0 100) 1 97) 2 116))), (x3, .inl (cA 1, 4096, .inl f3)), (x5, .inl (cA 1, 13001, .inl (upd (upd (upd (fun _ => 0) 1 1) 2 4) 3 9))), (x4, .inl (cA 0, 40000, .inl f4)), (x6, .inl (cA 1, 13000, .inl (upd (upd (upd (fun _ => 0) 0 0) 1 0) 2 0)))]) rfl ?_
  refine zz_st (st' := [.int 4, .int 3]) rfl ?_
  refine zz_icmp_ge X 28 dX16_nameOf_7 (by decide) (fun h => absurd h (by decide)) (fun _ => ?_)
  refine zz_aload_n X 1 dX16_nameOf_10 rfl rfl ?_
  refine zz_get X 0 0 rfl rfl (by decide) (fun w h => List.mem_cons_of_mem _ (zf_X16 w h)) rfl (List.mem_cons_of_mem _ zm_456) hf1_0 dX16_nameOf_11 ?_
  refine zz_iload_n X 0 dX16_nameOf_14 rfl rfl ?_
  refine zz_aload_n X 2 dX16_nameOf_15 rfl rfl ?_
  refine zz_iload_n X 0 dX16_nameOf_16 rfl rfl ?_
  refine zz_st (st' := [.int (nI 3), .ref (K 6), .int 3, .ref x2]) rfl ?_
  refine zz_callTi X (rest := [.int 3, .ref x2]) (As := [.int (nI 3)]) (kJ0_charAt hE l D cA 8 zLn zBy K V 6 3 (zSS_st hss) (by decide) (by decide)) 1 (zgV zm_765 zm_139 zm_140 zm_141 zm_137) rfl (by decide +kernel) [] [0, 1, 2, 3, 4, 5] [(x1, .inr (16, f1)), (x2, .inl (cA 0, 17000, .inl (upd (upd (upd f2 0 100) 1 97) 2 116))), (x3, .inl (cA 1, 4096, .inl f3)), (x5, .inl (cA 1, 13001, .inl (upd (upd (upd (fun _ => 0) 1 1) 2 4) 3 9))), (x4, .inl (cA 0, 40000, .inl f4)), (x6, .inl (cA 1, 13000, .inl (upd (upd (upd (fun _ => 0) 0 0) 1 0) 2 0)))] rfl rfl (by decide) rfl (by decide) (by decide) ⟨Nat.le_of_ble_eq_true rfl, Nat.le_of_ble_eq_true rfl⟩ (zz_recvS X (zSS_st hss) (by decide)) rfl rfl rfl (Nat.le_of_ble_eq_true rfl) dX16_nameOf_17 (Nat.le_of_ble_eq_true rfl) (Nat.le_of_ble_eq_true rfl) (fun r15 _ hw16 => ?_)
  obtain rfl := hw16
  refine zz_show (ws' := [(x1, .inr (16, f1)), (x2, .inl (cA 0, 17000, .inl (upd (upd (upd f2 0 100) 1 97) 2 116))), (x3, .inl (cA 1, 4096, .inl f3)), (x5, .inl (cA 1, 13001, .inl (upd (upd (upd (fun _ => 0) 1 1) 2 4) 3 9))), (x4, .inl (cA 0, 40000, .inl f4)), (x6, .inl (cA 1, 13000, .inl (upd (upd (upd (fun _ => 0) 0 0) 1 0) 2 0)))]) rfl ?_
  refine zz_st (st' := [.int 97, .int 3, .ref x2]) (by rfl) ?_
  refine zz_i2b X (97) dX16_nameOf_20 (by decide) ?_
  refine zz_bast X 1 0 rfl rfl (vp_in_nI (n := 3) (by decide) (by decide)) 3 (by decide) (97) (by decide) dX16_nameOf_21 [(x1, .inr (16, f1)), (x2, .inl (cA 0, 17000, .inl (upd (upd (upd (upd f2 0 100) 1 97) 2 116) 3 97))), (x3, .inl (cA 1, 4096, .inl f3)), (x5, .inl (cA 1, 13001, .inl (upd (upd (upd (fun _ => 0) 1 1) 2 4) 3 9))), (x4, .inl (cA 0, 40000, .inl f4)), (x6, .inl (cA 1, 13000, .inl (upd (upd (upd (fun _ => 0) 0 0) 1 0) 2 0)))] rfl ?_
  refine zz_iinc X 0 (4) [(2, .int 4), (0, .ref x1), (1, .ref (K 6))] dX16_nameOf_22 rfl (by decide) (by decide) rfl ?_
  refine zz_goto X 2 dX16_nameOf_25 (by decide) ?_
  refine zz_iload_n X 0 dX16_nameOf_2 rfl rfl ?_
  refine zz_aload_n X 2 dX16_nameOf_3 rfl rfl ?_
  refine zz_callTi X (rest := [.int 4]) (As := []) (kJ0_length hE l D cA 8 zLn zBy K V 6 (zSS_st hss) (by decide)) 0 (zgV zm_764 zm_241 zm_242 zm_141 zm_239) rfl (by decide +kernel) [] [0, 1, 2, 3, 4, 5] [(x1, .inr (16, f1)), (x2, .inl (cA 0, 17000, .inl (upd (upd (upd (upd f2 0 100) 1 97) 2 116) 3 97))), (x3, .inl (cA 1, 4096, .inl f3)), (x5, .inl (cA 1, 13001, .inl (upd (upd (upd (fun _ => 0) 1 1) 2 4) 3 9))), (x4, .inl (cA 0, 40000, .inl f4)), (x6, .inl (cA 1, 13000, .inl (upd (upd (upd (fun _ => 0) 0 0) 1 0) 2 0)))] rfl rfl (by decide) rfl (by decide) (by decide) ⟨Nat.le_of_ble_eq_true rfl, Nat.le_of_ble_eq_true rfl⟩ (zz_recvS X (zSS_st hss) (by decide)) rfl rfl rfl (Nat.le_of_ble_eq_true rfl) dX16_nameOf_4 (Nat.le_of_ble_eq_true rfl) (Nat.le_of_ble_eq_true rfl) (fun r17 _ hw18 => ?_)
  obtain rfl := hw18
  refine zz_show (ws' := [(x1, .inr (16, f1)), (x2, .inl (cA 0, 17000, .inl (upd (upd (upd (upd f2 0 100) 1 97) 2 116) 3 97))), (x3, .inl (cA 1, 4096, .inl f3)), (x5, .inl (cA 1, 13001, .inl (upd (upd (upd (fun _ => 0) 1 1) 2 4) 3 9))), (x4, .inl (cA 0, 40000, .inl f4)), (x6, .inl (cA 1, 13000, .inl (upd (upd (upd (fun _ => 0) 0 0) 1 0) 2 0)))]) rfl ?_
  refine zz_st (st' := [.int 4, .int 4]) rfl ?_
  refine zz_icmp_ge X 28 dX16_nameOf_7 (by decide) (fun _ => ?_) (fun h => absurd (by decide) h)
  refine zz_aload_n X 1 dX16_nameOf_28 rfl rfl ?_
  refine zz_aload_n X 1 dX16_nameOf_29 rfl rfl ?_
  refine zz_get X 0 0 rfl rfl (by decide) (fun w h => List.mem_cons_of_mem _ (zf_X16 w h)) rfl (List.mem_cons_of_mem _ zm_456) hf1_0 dX16_nameOf_30 ?_
  refine zz_iconst X 0 dX16_nameOf_33 rfl ?_
  refine zz_aload_n X 2 dX16_nameOf_34 rfl rfl ?_
  refine zz_callTi X (rest := [.int 0, .ref x2, .ref x1]) (As := []) (kJ0_length hE l D cA 8 zLn zBy K V 6 (zSS_st hss) (by decide)) 0 (zgV zm_764 zm_241 zm_242 zm_141 zm_239) rfl (by decide +kernel) [] [0, 1, 2, 3, 4, 5] [(x1, .inr (16, f1)), (x2, .inl (cA 0, 17000, .inl (upd (upd (upd (upd f2 0 100) 1 97) 2 116) 3 97))), (x3, .inl (cA 1, 4096, .inl f3)), (x5, .inl (cA 1, 13001, .inl (upd (upd (upd (fun _ => 0) 1 1) 2 4) 3 9))), (x4, .inl (cA 0, 40000, .inl f4)), (x6, .inl (cA 1, 13000, .inl (upd (upd (upd (fun _ => 0) 0 0) 1 0) 2 0)))] rfl rfl (by decide) rfl (by decide) (by decide) ⟨Nat.le_of_ble_eq_true rfl, Nat.le_of_ble_eq_true rfl⟩ (zz_recvS X (zSS_st hss) (by decide)) rfl rfl rfl (Nat.le_of_ble_eq_true rfl) dX16_nameOf_35 (Nat.le_of_ble_eq_true rfl) (Nat.le_of_ble_eq_true rfl) (fun r19 _ hw20 => ?_)
  obtain rfl := hw20
  refine zz_show (ws' := [(x1, .inr (16, f1)), (x2, .inl (cA 0, 17000, .inl (upd (upd (upd (upd f2 0 100) 1 97) 2 116) 3 97))), (x3, .inl (cA 1, 4096, .inl f3)), (x5, .inl (cA 1, 13001, .inl (upd (upd (upd (fun _ => 0) 1 1) 2 4) 3 9))), (x4, .inl (cA 0, 40000, .inl f4)), (x6, .inl (cA 1, 13000, .inl (upd (upd (upd (fun _ => 0) 0 0) 1 0) 2 0)))]) rfl ?_
  refine zz_st (st' := [.int 4, .int 0, .ref x2, .ref x1]) rfl ?_
  refine zz_callVi X (rest := []) (As := [.ref x2, .int 0, .int 4]) (kX16_name_4 hE l D cA K V x1 x2 f1 x3 x4 x5 x6 (upd (upd (upd (upd f2 0 100) 1 97) 2 116) 3 97) f3 f4 hss (zq_len hf1_n (by simp only [List.length_set])) hf1_19 hf1_16 hf1_17 hf1_20 hf1_18 rfl rfl rfl rfl hf3_4010) 3 (zgV zm_767 zm_768 zm_769 zm_451 zm_766) rfl (by decide +kernel) [0, 1, 2, 3, 4, 5] [] [] rfl rfl (by decide) rfl (by decide) (by decide) ⟨Nat.le_of_ble_eq_true rfl, Nat.le_of_ble_eq_true rfl⟩ 0 rfl rfl rfl rfl rfl (Nat.le_of_ble_eq_true rfl) dX16_nameOf_38 (Nat.le_of_ble_eq_true rfl) (Nat.le_of_ble_eq_true rfl) (fun r21 _ hw22 => ?_)
  obtain rfl := hw22
  refine zz_show (ws' := [(x1, .inr (16, (f1.set 20 (.int 4)))), (x2, .inl (cA 0, 17000, .inl ((upd (upd (upd (upd f2 0 100) 1 97) 2 116) 3 97)))), (x3, .inl (cA 1, 4096, .inl (upd f3 4010 4))), (x5, .inl (cA 1, 13001, .inl (upd (upd (upd (upd (fun _ => 0) 1 1) 2 4) 3 9) 4 13))), (x4, .inl (cA 0, 40000, .inl (upd (upd (upd (upd f4 9 100) 10 97) 11 116) 12 97))), (x6, .inl (cA 1, 13000, .inl (upd (upd (upd (upd (fun _ => 0) 0 0) 1 0) 2 0) 3 0)))]) rfl ?_
  exact zz_iret X hr (()) [0, 1, 2, 3, 4, 5] (by decide) rfl rfl (Nat.le_of_ble_eq_true rfl) (Nat.le_of_ble_eq_true rfl) (rfl) dX16_nameOf_41

set_option maxHeartbeats 4000000 in
set_option maxRecDepth 100000 in
/-- clearTrees -/
theorem kX16_clearTrees_1 {E : zEn} (hE : zOk E) (l : Launch) (D : va_G) (cA : Nat → ClassId) (K : Nat → Nat) (V : Nat → Nat) (x1 : Nat) (f1 : List Value) (x2 : Nat) (x3 : Nat) (x4 : Nat) (x5 : Nat) (x6 : Nat) (hss : zSS E K V) (hf1_n : f1.length = 243) (hf1_19 : f1[19]? = some (.ref x2)) (hf1_0 : f1[0]? = some (.ref x3)) (hf1_16 : f1[16]? = some (.ref x4)) (hf1_17 : f1[17]? = some (.ref x5)) (hf1_18 : f1[18]? = some (.ref x6)) : zMv E l yX16_clearTrees zwX16_clearTrees ({ frames := 5, cells := 0, slots := 0, locals := 107 }) D vwCl (zT cA) [.ref x1] [(x1, .inr (16, f1)), (x2, .inl (cA 1, 4096, .inl (fun _ => 0))), (x3, .inl (cA 0, 17000, .inl (fun _ => 0))), (x5, .inl (cA 1, 13001, .inl (fun _ => 0))), (x4, .inl (cA 0, 40000, .inl (fun _ => 0))), (x6, .inl (cA 1, 13000, .inl (fun _ => 0)))] (S := Nat → Int32) (fun (u : Nat → Int32) => (∀ j : Nat, j < 4096 → u j = 0)) (fun (u : Nat → Int32) => [(x1, .inr (16, (((((((((((((((f1.set 37 (.int 0)).set 42 (.int 0)).set 48 (.int 0)).set 20 (.int 0)).set 56 (.int 0)).set 63 (.int 0)).set 72 (.int 0)).set 20 (.int 1)).set 52 (.int 0)).set 20 (.int 2)).set 53 (.int 1)).set 20 (.int 3)).set 54 (.int 2)).set 20 (.int 4)).set 55 (.int 3)))), (x2, .inl (cA 1, 4096, .inl (upd (upd (upd (upd u 95 1) 3170 2) 1994 3) 4010 4))), (x3, .inl (cA 0, 17000, .inl ((upd (upd (upd (upd (upd (upd (upd (upd (upd (upd (upd (upd (upd (fun _ => 0) 0 95) 0 115) 1 101) 2 116) 0 105) 1 110) 2 112) 3 117) 4 116) 0 100) 1 97) 2 116) 3 97)))), (x5, .inl (cA 1, 13001, .inl (upd (upd (upd (upd (fun _ => 0) 1 1) 2 4) 3 9) 4 13))), (x4, .inl (cA 0, 40000, .inl (upd (upd (upd (upd (upd (upd (upd (upd (upd (upd (upd (upd (upd (fun _ => 0) 0 95) 1 115) 2 101) 3 116) 4 105) 5 110) 6 112) 7 117) 8 116) 9 100) 10 97) 11 116) 12 97))), (x6, .inl (cA 1, 13000, .inl (upd (upd (upd (upd (fun _ => 0) 0 0) 1 0) 2 0) 3 0)))]) := by
  refine zz_enterv (cc := cX16_clearTrees) (lv := [(0, .ref x1)]) hE 2 (by decide) rfl (Nat.le_of_ble_eq_true rfl) rfl ?_
  intro p e s m args below meth c X hr hin
  refine zz_aload_n X 0 dX16_clearTrees_0 rfl rfl ?_
  refine zz_iconst X 0 dX16_clearTrees_1 rfl ?_
  refine zz_put X 0 37 rfl rfl (by decide) (fun w h => List.mem_cons_of_mem _ (zf_X16 w h)) rfl (List.mem_cons_of_mem _ zm_757) tyX16 tyX16_ok nmX16 rfl (ty := .int) rfl rfl rfl (zq_lt hf1_n (by decide) (by simp only [List.length_set])) dX16_clearTrees_2 [(x1, .inr (16, (f1.set 37 (.int 0)))), (x2, .inl (cA 1, 4096, .inl (fun _ => 0))), (x3, .inl (cA 0, 17000, .inl (fun _ => 0))), (x5, .inl (cA 1, 13001, .inl (fun _ => 0))), (x4, .inl (cA 0, 40000, .inl (fun _ => 0))), (x6, .inl (cA 1, 13000, .inl (fun _ => 0)))] rfl ?_
  refine zz_aload_n X 0 dX16_clearTrees_5 rfl rfl ?_
  refine zz_iconst X 0 dX16_clearTrees_6 rfl ?_
  refine zz_put X 0 42 rfl rfl (by decide) (fun w h => List.mem_cons_of_mem _ (zf_X16 w h)) rfl (List.mem_cons_of_mem _ zm_758) tyX16 tyX16_ok nmX16 rfl (ty := .int) rfl rfl rfl (zq_lt hf1_n (by decide) (by simp only [List.length_set])) dX16_clearTrees_7 [(x1, .inr (16, ((f1.set 37 (.int 0)).set 42 (.int 0)))), (x2, .inl (cA 1, 4096, .inl (fun _ => 0))), (x3, .inl (cA 0, 17000, .inl (fun _ => 0))), (x5, .inl (cA 1, 13001, .inl (fun _ => 0))), (x4, .inl (cA 0, 40000, .inl (fun _ => 0))), (x6, .inl (cA 1, 13000, .inl (fun _ => 0)))] rfl ?_
  refine zz_aload_n X 0 dX16_clearTrees_10 rfl rfl ?_
  refine zz_iconst X 0 dX16_clearTrees_11 rfl ?_
  refine zz_put X 0 48 rfl rfl (by decide) (fun w h => List.mem_cons_of_mem _ (zf_X16 w h)) rfl (List.mem_cons_of_mem _ zm_759) tyX16 tyX16_ok nmX16 rfl (ty := .int) rfl rfl rfl (zq_lt hf1_n (by decide) (by simp only [List.length_set])) dX16_clearTrees_12 [(x1, .inr (16, (((f1.set 37 (.int 0)).set 42 (.int 0)).set 48 (.int 0)))), (x2, .inl (cA 1, 4096, .inl (fun _ => 0))), (x3, .inl (cA 0, 17000, .inl (fun _ => 0))), (x5, .inl (cA 1, 13001, .inl (fun _ => 0))), (x4, .inl (cA 0, 40000, .inl (fun _ => 0))), (x6, .inl (cA 1, 13000, .inl (fun _ => 0)))] rfl ?_
  refine zz_aload_n X 0 dX16_clearTrees_15 rfl rfl ?_
  refine zz_iconst X 0 dX16_clearTrees_16 rfl ?_
  refine zz_put X 0 20 rfl rfl (by decide) (fun w h => List.mem_cons_of_mem _ (zf_X16 w h)) rfl (List.mem_cons_of_mem _ zm_760) tyX16 tyX16_ok nmX16 rfl (ty := .int) rfl rfl rfl (zq_lt hf1_n (by decide) (by simp only [List.length_set])) dX16_clearTrees_17 [(x1, .inr (16, ((((f1.set 37 (.int 0)).set 42 (.int 0)).set 48 (.int 0)).set 20 (.int 0)))), (x2, .inl (cA 1, 4096, .inl (fun _ => 0))), (x3, .inl (cA 0, 17000, .inl (fun _ => 0))), (x5, .inl (cA 1, 13001, .inl (fun _ => 0))), (x4, .inl (cA 0, 40000, .inl (fun _ => 0))), (x6, .inl (cA 1, 13000, .inl (fun _ => 0)))] rfl ?_
  refine zz_aload_n X 0 dX16_clearTrees_20 rfl rfl ?_
  refine zz_iconst X 0 dX16_clearTrees_21 rfl ?_
  refine zz_put X 0 56 rfl rfl (by decide) (fun w h => List.mem_cons_of_mem _ (zf_X16 w h)) rfl (List.mem_cons_of_mem _ zm_761) tyX16 tyX16_ok nmX16 rfl (ty := .int) rfl rfl rfl (zq_lt hf1_n (by decide) (by simp only [List.length_set])) dX16_clearTrees_22 [(x1, .inr (16, (((((f1.set 37 (.int 0)).set 42 (.int 0)).set 48 (.int 0)).set 20 (.int 0)).set 56 (.int 0)))), (x2, .inl (cA 1, 4096, .inl (fun _ => 0))), (x3, .inl (cA 0, 17000, .inl (fun _ => 0))), (x5, .inl (cA 1, 13001, .inl (fun _ => 0))), (x4, .inl (cA 0, 40000, .inl (fun _ => 0))), (x6, .inl (cA 1, 13000, .inl (fun _ => 0)))] rfl ?_
  refine zz_aload_n X 0 dX16_clearTrees_25 rfl rfl ?_
  refine zz_iconst X 0 dX16_clearTrees_26 rfl ?_
  refine zz_put X 0 63 rfl rfl (by decide) (fun w h => List.mem_cons_of_mem _ (zf_X16 w h)) rfl (List.mem_cons_of_mem _ zm_762) tyX16 tyX16_ok nmX16 rfl (ty := .int) rfl rfl rfl (zq_lt hf1_n (by decide) (by simp only [List.length_set])) dX16_clearTrees_27 [(x1, .inr (16, ((((((f1.set 37 (.int 0)).set 42 (.int 0)).set 48 (.int 0)).set 20 (.int 0)).set 56 (.int 0)).set 63 (.int 0)))), (x2, .inl (cA 1, 4096, .inl (fun _ => 0))), (x3, .inl (cA 0, 17000, .inl (fun _ => 0))), (x5, .inl (cA 1, 13001, .inl (fun _ => 0))), (x4, .inl (cA 0, 40000, .inl (fun _ => 0))), (x6, .inl (cA 1, 13000, .inl (fun _ => 0)))] rfl ?_
  refine zz_aload_n X 0 dX16_clearTrees_30 rfl rfl ?_
  refine zz_iconst X 0 dX16_clearTrees_31 rfl ?_
  refine zz_put X 0 72 rfl rfl (by decide) (fun w h => List.mem_cons_of_mem _ (zf_X16 w h)) rfl (List.mem_cons_of_mem _ zm_763) tyX16 tyX16_ok nmX16 rfl (ty := .int) rfl rfl rfl (zq_lt hf1_n (by decide) (by simp only [List.length_set])) dX16_clearTrees_32 [(x1, .inr (16, (((((((f1.set 37 (.int 0)).set 42 (.int 0)).set 48 (.int 0)).set 20 (.int 0)).set 56 (.int 0)).set 63 (.int 0)).set 72 (.int 0)))), (x2, .inl (cA 1, 4096, .inl (fun _ => 0))), (x3, .inl (cA 0, 17000, .inl (fun _ => 0))), (x5, .inl (cA 1, 13001, .inl (fun _ => 0))), (x4, .inl (cA 0, 40000, .inl (fun _ => 0))), (x6, .inl (cA 1, 13000, .inl (fun _ => 0)))] rfl ?_
  refine zz_iconst X 0 dX16_clearTrees_35 rfl ?_
  refine zz_istore_n X [(1, .int 0), (0, .ref x1)] dX16_clearTrees_36 rfl (by decide) rfl ?_
  refine zz_ind (α := Nat × (Nat → Int32)) (fun zv => 4096 - zv.1) (fun zv => zv.1 ≤ 4096 ∧ ∀ j : Nat, j < zv.1 → zv.2 j = 0) (fun zv => [(x1, .inr (16, (((((((f1.set 37 (.int 0)).set 42 (.int 0)).set 48 (.int 0)).set 20 (.int 0)).set 56 (.int 0)).set 63 (.int 0)).set 72 (.int 0)))), (x2, .inl (cA 1, 4096, .inl zv.2)), (x3, .inl (cA 0, 17000, .inl (fun _ => 0))), (x5, .inl (cA 1, 13001, .inl (fun _ => 0))), (x4, .inl (cA 0, 40000, .inl (fun _ => 0))), (x6, .inl (cA 1, 13000, .inl (fun _ => 0)))]) (fun zv => [(1, .int (nI zv.1)), (0, .ref x1)]) (fun zv => []) (0, fun _ => 0) (⟨Nat.zero_le _, fun j hj => absurd hj (Nat.not_lt_zero _)⟩) rfl rfl rfl ?_
  intro zv hI_37 ih_37
  obtain ⟨k, g⟩ := zv
  have hI_37 : k ≤ 4096 ∧ ∀ j : Nat, j < k → g j = 0 := hI_37
  refine zz_at (ws' := [(x1, .inr (16, (((((((f1.set 37 (.int 0)).set 42 (.int 0)).set 48 (.int 0)).set 20 (.int 0)).set 56 (.int 0)).set 63 (.int 0)).set 72 (.int 0)))), (x2, .inl (cA 1, 4096, .inl g)), (x3, .inl (cA 0, 17000, .inl (fun _ => 0))), (x5, .inl (cA 1, 13001, .inl (fun _ => 0))), (x4, .inl (cA 0, 40000, .inl (fun _ => 0))), (x6, .inl (cA 1, 13000, .inl (fun _ => 0)))]) (lv' := [(1, .int (nI k)), (0, .ref x1)]) (st' := []) rfl rfl rfl ?_
  refine zz_iload_n X 0 dX16_clearTrees_37 rfl rfl ?_
  refine zz_sipush X 4096 dX16_clearTrees_38 rfl ?_
  refine zz_icmp_ge X 57 dX16_clearTrees_41 (by decide) (fun c41 => ?_) (fun c41 => ?_)
  · skip
    have hR : ∀ j : Nat, j < 4096 → g j = 0 := fun j hj => hI_37.2 j (Nat.lt_of_lt_of_le hj (zn_ge (a := k) (b := 4096) (show nI 4096 ≤ nI k from c41) (by omega) (by decide)))
    refine zz_aload_n X 1 dX16_clearTrees_57 rfl rfl ?_
    refine zz_aload_n X 1 dX16_clearTrees_58 rfl rfl ?_
    refine zz_ldcwS X (q := (K 3)) (tx := "_") (zSS_r3 hss) dX16_clearTrees_59 ?_
    refine zz_callVi X (rest := [.ref x1]) (As := [.ref (K 3)]) (kX16_nameOf_1 hE l D cA K V x1 (((((((f1.set 37 (.int 0)).set 42 (.int 0)).set 48 (.int 0)).set 20 (.int 0)).set 56 (.int 0)).set 63 (.int 0)).set 72 (.int 0)) x3 x2 x4 x5 x6 g hss (zq_len hf1_n (by simp only [List.length_set])) (zq_oth (by decide) (zq_oth (by decide) (zq_oth (by decide) (zq_oth (by decide) (zq_oth (by decide) (zq_oth (by decide) (zq_oth (by decide) (hf1_0)))))))) (zq_oth (by decide) (zq_oth (by decide) (zq_oth (by decide) (zq_oth (by decide) (zq_oth (by decide) (zq_oth (by decide) (zq_oth (by decide) (hf1_19)))))))) (zq_oth (by decide) (zq_oth (by decide) (zq_oth (by decide) (zq_oth (by decide) (zq_oth (by decide) (zq_oth (by decide) (zq_oth (by decide) (hf1_16)))))))) (zq_oth (by decide) (zq_oth (by decide) (zq_oth (by decide) (zq_oth (by decide) (zq_oth (by decide) (zq_oth (by decide) (zq_oth (by decide) (hf1_17)))))))) (zq_oth (by decide) (zq_oth (by decide) (zq_oth (by decide) ((zq_same (zq_lt hf1_n (by decide) (by simp only [List.length_set]))))))) (zq_oth (by decide) (zq_oth (by decide) (zq_oth (by decide) (zq_oth (by decide) (zq_oth (by decide) (zq_oth (by decide) (zq_oth (by decide) (hf1_18)))))))) (hR 95 (by decide))) 1 (zgV zm_771 zm_772 zm_773 zm_451 zm_770) rfl (by decide +kernel) [0, 2, 1, 3, 4, 5] [] [] rfl rfl (by decide) rfl (by decide) (by decide) ⟨Nat.le_of_ble_eq_true rfl, Nat.le_of_ble_eq_true rfl⟩ 0 rfl rfl rfl rfl rfl (Nat.le_of_ble_eq_true rfl) dX16_clearTrees_62 (Nat.le_of_ble_eq_true rfl) (Nat.le_of_ble_eq_true rfl) (fun r1 _ hw2 => ?_)
    obtain rfl := hw2
    refine zz_show (ws' := [(x1, .inr (16, ((((((((f1.set 37 (.int 0)).set 42 (.int 0)).set 48 (.int 0)).set 20 (.int 0)).set 56 (.int 0)).set 63 (.int 0)).set 72 (.int 0)).set 20 (.int 1)))), (x3, .inl (cA 0, 17000, .inl (upd (fun _ => 0) 0 95))), (x2, .inl (cA 1, 4096, .inl (upd g 95 1))), (x5, .inl (cA 1, 13001, .inl (upd (fun _ => 0) 1 1))), (x4, .inl (cA 0, 40000, .inl (upd (fun _ => 0) 0 95))), (x6, .inl (cA 1, 13000, .inl (upd (fun _ => 0) 0 0)))]) rfl ?_
    refine zz_put X 0 52 rfl rfl (by decide) (fun w h => List.mem_cons_of_mem _ (zf_X16 w h)) rfl (List.mem_cons_of_mem _ zm_774) tyX16 tyX16_ok nmX16 rfl (ty := .int) rfl rfl rfl (zq_lt hf1_n (by decide) (by simp only [List.length_set])) dX16_clearTrees_65 [(x1, .inr (16, (((((((((f1.set 37 (.int 0)).set 42 (.int 0)).set 48 (.int 0)).set 20 (.int 0)).set 56 (.int 0)).set 63 (.int 0)).set 72 (.int 0)).set 20 (.int 1)).set 52 (.int 0)))), (x3, .inl (cA 0, 17000, .inl (upd (fun _ => 0) 0 95))), (x2, .inl (cA 1, 4096, .inl (upd g 95 1))), (x5, .inl (cA 1, 13001, .inl (upd (fun _ => 0) 1 1))), (x4, .inl (cA 0, 40000, .inl (upd (fun _ => 0) 0 95))), (x6, .inl (cA 1, 13000, .inl (upd (fun _ => 0) 0 0)))] rfl ?_
    refine zz_aload_n X 1 dX16_clearTrees_68 rfl rfl ?_
    refine zz_aload_n X 1 dX16_clearTrees_69 rfl rfl ?_
    refine zz_ldcwS X (q := (K 4)) (tx := "set") (zSS_r4 hss) dX16_clearTrees_70 ?_
    refine zz_callVi X (rest := [.ref x1]) (As := [.ref (K 4)]) (kX16_nameOf_2 hE l D cA K V x1 (((((((((f1.set 37 (.int 0)).set 42 (.int 0)).set 48 (.int 0)).set 20 (.int 0)).set 56 (.int 0)).set 63 (.int 0)).set 72 (.int 0)).set 20 (.int 1)).set 52 (.int 0)) x3 x2 x4 x5 x6 (upd g 95 1) hss (zq_len hf1_n (by simp only [List.length_set])) (zq_oth (by decide) (zq_oth (by decide) (zq_oth (by decide) (zq_oth (by decide) (zq_oth (by decide) (zq_oth (by decide) (zq_oth (by decide) (zq_oth (by decide) (zq_oth (by decide) (hf1_0)))))))))) (zq_oth (by decide) (zq_oth (by decide) (zq_oth (by decide) (zq_oth (by decide) (zq_oth (by decide) (zq_oth (by decide) (zq_oth (by decide) (zq_oth (by decide) (zq_oth (by decide) (hf1_19)))))))))) (zq_oth (by decide) (zq_oth (by decide) (zq_oth (by decide) (zq_oth (by decide) (zq_oth (by decide) (zq_oth (by decide) (zq_oth (by decide) (zq_oth (by decide) (zq_oth (by decide) (hf1_16)))))))))) (zq_oth (by decide) (zq_oth (by decide) (zq_oth (by decide) (zq_oth (by decide) (zq_oth (by decide) (zq_oth (by decide) (zq_oth (by decide) (zq_oth (by decide) (zq_oth (by decide) (hf1_17)))))))))) (zq_oth (by decide) ((zq_same (zq_lt hf1_n (by decide) (by simp only [List.length_set]))))) (zq_oth (by decide) (zq_oth (by decide) (zq_oth (by decide) (zq_oth (by decide) (zq_oth (by decide) (zq_oth (by decide) (zq_oth (by decide) (zq_oth (by decide) (zq_oth (by decide) (hf1_18)))))))))) (hR 3170 (by decide))) 1 (zgV zm_771 zm_772 zm_773 zm_451 zm_770) rfl (by decide +kernel) [0, 1, 2, 3, 4, 5] [] [] rfl rfl (by decide) rfl (by decide) (by decide) ⟨Nat.le_of_ble_eq_true rfl, Nat.le_of_ble_eq_true rfl⟩ 0 rfl rfl rfl rfl rfl (Nat.le_of_ble_eq_true rfl) dX16_clearTrees_73 (Nat.le_of_ble_eq_true rfl) (Nat.le_of_ble_eq_true rfl) (fun r3 _ hw4 => ?_)
    obtain rfl := hw4
    refine zz_show (ws' := [(x1, .inr (16, ((((((((((f1.set 37 (.int 0)).set 42 (.int 0)).set 48 (.int 0)).set 20 (.int 0)).set 56 (.int 0)).set 63 (.int 0)).set 72 (.int 0)).set 20 (.int 1)).set 52 (.int 0)).set 20 (.int 2)))), (x3, .inl (cA 0, 17000, .inl ((upd (upd (upd (upd (fun _ => 0) 0 95) 0 115) 1 101) 2 116)))), (x2, .inl (cA 1, 4096, .inl (upd (upd g 95 1) 3170 2))), (x5, .inl (cA 1, 13001, .inl (upd (upd (fun _ => 0) 1 1) 2 4))), (x4, .inl (cA 0, 40000, .inl (upd (upd (upd (upd (fun _ => 0) 0 95) 1 115) 2 101) 3 116))), (x6, .inl (cA 1, 13000, .inl (upd (upd (fun _ => 0) 0 0) 1 0)))]) rfl ?_
    refine zz_put X 0 53 rfl rfl (by decide) (fun w h => List.mem_cons_of_mem _ (zf_X16 w h)) rfl (List.mem_cons_of_mem _ zm_775) tyX16 tyX16_ok nmX16 rfl (ty := .int) rfl rfl rfl (zq_lt hf1_n (by decide) (by simp only [List.length_set])) dX16_clearTrees_76 [(x1, .inr (16, (((((((((((f1.set 37 (.int 0)).set 42 (.int 0)).set 48 (.int 0)).set 20 (.int 0)).set 56 (.int 0)).set 63 (.int 0)).set 72 (.int 0)).set 20 (.int 1)).set 52 (.int 0)).set 20 (.int 2)).set 53 (.int 1)))), (x3, .inl (cA 0, 17000, .inl ((upd (upd (upd (upd (fun _ => 0) 0 95) 0 115) 1 101) 2 116)))), (x2, .inl (cA 1, 4096, .inl (upd (upd g 95 1) 3170 2))), (x5, .inl (cA 1, 13001, .inl (upd (upd (fun _ => 0) 1 1) 2 4))), (x4, .inl (cA 0, 40000, .inl (upd (upd (upd (upd (fun _ => 0) 0 95) 1 115) 2 101) 3 116))), (x6, .inl (cA 1, 13000, .inl (upd (upd (fun _ => 0) 0 0) 1 0)))] rfl ?_
    refine zz_aload_n X 1 dX16_clearTrees_79 rfl rfl ?_
    refine zz_aload_n X 1 dX16_clearTrees_80 rfl rfl ?_
    refine zz_ldcwS X (q := (K 5)) (tx := "input") (zSS_r5 hss) dX16_clearTrees_81 ?_
    refine zz_callVi X (rest := [.ref x1]) (As := [.ref (K 5)]) (kX16_nameOf_3 hE l D cA K V x1 (((((((((((f1.set 37 (.int 0)).set 42 (.int 0)).set 48 (.int 0)).set 20 (.int 0)).set 56 (.int 0)).set 63 (.int 0)).set 72 (.int 0)).set 20 (.int 1)).set 52 (.int 0)).set 20 (.int 2)).set 53 (.int 1)) x3 x2 x4 x5 x6 (upd (upd (upd (upd (fun _ => 0) 0 95) 0 115) 1 101) 2 116) (upd (upd g 95 1) 3170 2) (upd (upd (upd (upd (fun _ => 0) 0 95) 1 115) 2 101) 3 116) hss (zq_len hf1_n (by simp only [List.length_set])) (zq_oth (by decide) (zq_oth (by decide) (zq_oth (by decide) (zq_oth (by decide) (zq_oth (by decide) (zq_oth (by decide) (zq_oth (by decide) (zq_oth (by decide) (zq_oth (by decide) (zq_oth (by decide) (zq_oth (by decide) (hf1_0)))))))))))) (zq_oth (by decide) (zq_oth (by decide) (zq_oth (by decide) (zq_oth (by decide) (zq_oth (by decide) (zq_oth (by decide) (zq_oth (by decide) (zq_oth (by decide) (zq_oth (by decide) (zq_oth (by decide) (zq_oth (by decide) (hf1_19)))))))))))) (zq_oth (by decide) (zq_oth (by decide) (zq_oth (by decide) (zq_oth (by decide) (zq_oth (by decide) (zq_oth (by decide) (zq_oth (by decide) (zq_oth (by decide) (zq_oth (by decide) (zq_oth (by decide) (zq_oth (by decide) (hf1_16)))))))))))) (zq_oth (by decide) (zq_oth (by decide) (zq_oth (by decide) (zq_oth (by decide) (zq_oth (by decide) (zq_oth (by decide) (zq_oth (by decide) (zq_oth (by decide) (zq_oth (by decide) (zq_oth (by decide) (zq_oth (by decide) (hf1_17)))))))))))) (zq_oth (by decide) ((zq_same (zq_lt hf1_n (by decide) (by simp only [List.length_set]))))) (zq_oth (by decide) (zq_oth (by decide) (zq_oth (by decide) (zq_oth (by decide) (zq_oth (by decide) (zq_oth (by decide) (zq_oth (by decide) (zq_oth (by decide) (zq_oth (by decide) (zq_oth (by decide) (zq_oth (by decide) (hf1_18)))))))))))) (hR 1994 (by decide))) 1 (zgV zm_771 zm_772 zm_773 zm_451 zm_770) rfl (by decide +kernel) [0, 1, 2, 3, 4, 5] [] [] rfl rfl (by decide) rfl (by decide) (by decide) ⟨Nat.le_of_ble_eq_true rfl, Nat.le_of_ble_eq_true rfl⟩ 0 rfl rfl rfl rfl rfl (Nat.le_of_ble_eq_true rfl) dX16_clearTrees_84 (Nat.le_of_ble_eq_true rfl) (Nat.le_of_ble_eq_true rfl) (fun r5 _ hw6 => ?_)
    obtain rfl := hw6
    refine zz_show (ws' := [(x1, .inr (16, ((((((((((((f1.set 37 (.int 0)).set 42 (.int 0)).set 48 (.int 0)).set 20 (.int 0)).set 56 (.int 0)).set 63 (.int 0)).set 72 (.int 0)).set 20 (.int 1)).set 52 (.int 0)).set 20 (.int 2)).set 53 (.int 1)).set 20 (.int 3)))), (x3, .inl (cA 0, 17000, .inl ((upd (upd (upd (upd (upd (upd (upd (upd (upd (fun _ => 0) 0 95) 0 115) 1 101) 2 116) 0 105) 1 110) 2 112) 3 117) 4 116)))), (x2, .inl (cA 1, 4096, .inl (upd (upd (upd g 95 1) 3170 2) 1994 3))), (x5, .inl (cA 1, 13001, .inl (upd (upd (upd (fun _ => 0) 1 1) 2 4) 3 9))), (x4, .inl (cA 0, 40000, .inl (upd (upd (upd (upd (upd (upd (upd (upd (upd (fun _ => 0) 0 95) 1 115) 2 101) 3 116) 4 105) 5 110) 6 112) 7 117) 8 116))), (x6, .inl (cA 1, 13000, .inl (upd (upd (upd (fun _ => 0) 0 0) 1 0) 2 0)))]) rfl ?_
    refine zz_put X 0 54 rfl rfl (by decide) (fun w h => List.mem_cons_of_mem _ (zf_X16 w h)) rfl (List.mem_cons_of_mem _ zm_776) tyX16 tyX16_ok nmX16 rfl (ty := .int) rfl rfl rfl (zq_lt hf1_n (by decide) (by simp only [List.length_set])) dX16_clearTrees_87 [(x1, .inr (16, (((((((((((((f1.set 37 (.int 0)).set 42 (.int 0)).set 48 (.int 0)).set 20 (.int 0)).set 56 (.int 0)).set 63 (.int 0)).set 72 (.int 0)).set 20 (.int 1)).set 52 (.int 0)).set 20 (.int 2)).set 53 (.int 1)).set 20 (.int 3)).set 54 (.int 2)))), (x3, .inl (cA 0, 17000, .inl ((upd (upd (upd (upd (upd (upd (upd (upd (upd (fun _ => 0) 0 95) 0 115) 1 101) 2 116) 0 105) 1 110) 2 112) 3 117) 4 116)))), (x2, .inl (cA 1, 4096, .inl (upd (upd (upd g 95 1) 3170 2) 1994 3))), (x5, .inl (cA 1, 13001, .inl (upd (upd (upd (fun _ => 0) 1 1) 2 4) 3 9))), (x4, .inl (cA 0, 40000, .inl (upd (upd (upd (upd (upd (upd (upd (upd (upd (fun _ => 0) 0 95) 1 115) 2 101) 3 116) 4 105) 5 110) 6 112) 7 117) 8 116))), (x6, .inl (cA 1, 13000, .inl (upd (upd (upd (fun _ => 0) 0 0) 1 0) 2 0)))] rfl ?_
    refine zz_aload_n X 1 dX16_clearTrees_90 rfl rfl ?_
    refine zz_aload_n X 1 dX16_clearTrees_91 rfl rfl ?_
    refine zz_ldcwS X (q := (K 6)) (tx := "data") (zSS_r6 hss) dX16_clearTrees_92 ?_
    refine zz_callVi X (rest := [.ref x1]) (As := [.ref (K 6)]) (kX16_nameOf_4 hE l D cA K V x1 (((((((((((((f1.set 37 (.int 0)).set 42 (.int 0)).set 48 (.int 0)).set 20 (.int 0)).set 56 (.int 0)).set 63 (.int 0)).set 72 (.int 0)).set 20 (.int 1)).set 52 (.int 0)).set 20 (.int 2)).set 53 (.int 1)).set 20 (.int 3)).set 54 (.int 2)) x3 x2 x4 x5 x6 (upd (upd (upd (upd (upd (upd (upd (upd (upd (fun _ => 0) 0 95) 0 115) 1 101) 2 116) 0 105) 1 110) 2 112) 3 117) 4 116) (upd (upd (upd g 95 1) 3170 2) 1994 3) (upd (upd (upd (upd (upd (upd (upd (upd (upd (fun _ => 0) 0 95) 1 115) 2 101) 3 116) 4 105) 5 110) 6 112) 7 117) 8 116) hss (zq_len hf1_n (by simp only [List.length_set])) (zq_oth (by decide) (zq_oth (by decide) (zq_oth (by decide) (zq_oth (by decide) (zq_oth (by decide) (zq_oth (by decide) (zq_oth (by decide) (zq_oth (by decide) (zq_oth (by decide) (zq_oth (by decide) (zq_oth (by decide) (zq_oth (by decide) (zq_oth (by decide) (hf1_0)))))))))))))) (zq_oth (by decide) (zq_oth (by decide) (zq_oth (by decide) (zq_oth (by decide) (zq_oth (by decide) (zq_oth (by decide) (zq_oth (by decide) (zq_oth (by decide) (zq_oth (by decide) (zq_oth (by decide) (zq_oth (by decide) (zq_oth (by decide) (zq_oth (by decide) (hf1_19)))))))))))))) (zq_oth (by decide) (zq_oth (by decide) (zq_oth (by decide) (zq_oth (by decide) (zq_oth (by decide) (zq_oth (by decide) (zq_oth (by decide) (zq_oth (by decide) (zq_oth (by decide) (zq_oth (by decide) (zq_oth (by decide) (zq_oth (by decide) (zq_oth (by decide) (hf1_16)))))))))))))) (zq_oth (by decide) (zq_oth (by decide) (zq_oth (by decide) (zq_oth (by decide) (zq_oth (by decide) (zq_oth (by decide) (zq_oth (by decide) (zq_oth (by decide) (zq_oth (by decide) (zq_oth (by decide) (zq_oth (by decide) (zq_oth (by decide) (zq_oth (by decide) (hf1_17)))))))))))))) (zq_oth (by decide) ((zq_same (zq_lt hf1_n (by decide) (by simp only [List.length_set]))))) (zq_oth (by decide) (zq_oth (by decide) (zq_oth (by decide) (zq_oth (by decide) (zq_oth (by decide) (zq_oth (by decide) (zq_oth (by decide) (zq_oth (by decide) (zq_oth (by decide) (zq_oth (by decide) (zq_oth (by decide) (zq_oth (by decide) (zq_oth (by decide) (hf1_18)))))))))))))) (hR 4010 (by decide))) 1 (zgV zm_771 zm_772 zm_773 zm_451 zm_770) rfl (by decide +kernel) [0, 1, 2, 3, 4, 5] [] [] rfl rfl (by decide) rfl (by decide) (by decide) ⟨Nat.le_of_ble_eq_true rfl, Nat.le_of_ble_eq_true rfl⟩ 0 rfl rfl rfl rfl rfl (Nat.le_of_ble_eq_true rfl) dX16_clearTrees_95 (Nat.le_of_ble_eq_true rfl) (Nat.le_of_ble_eq_true rfl) (fun r7 _ hw8 => ?_)
    obtain rfl := hw8
    refine zz_show (ws' := [(x1, .inr (16, ((((((((((((((f1.set 37 (.int 0)).set 42 (.int 0)).set 48 (.int 0)).set 20 (.int 0)).set 56 (.int 0)).set 63 (.int 0)).set 72 (.int 0)).set 20 (.int 1)).set 52 (.int 0)).set 20 (.int 2)).set 53 (.int 1)).set 20 (.int 3)).set 54 (.int 2)).set 20 (.int 4)))), (x3, .inl (cA 0, 17000, .inl ((upd (upd (upd (upd (upd (upd (upd (upd (upd (upd (upd (upd (upd (fun _ => 0) 0 95) 0 115) 1 101) 2 116) 0 105) 1 110) 2 112) 3 117) 4 116) 0 100) 1 97) 2 116) 3 97)))), (x2, .inl (cA 1, 4096, .inl (upd (upd (upd (upd g 95 1) 3170 2) 1994 3) 4010 4))), (x5, .inl (cA 1, 13001, .inl (upd (upd (upd (upd (fun _ => 0) 1 1) 2 4) 3 9) 4 13))), (x4, .inl (cA 0, 40000, .inl (upd (upd (upd (upd (upd (upd (upd (upd (upd (upd (upd (upd (upd (fun _ => 0) 0 95) 1 115) 2 101) 3 116) 4 105) 5 110) 6 112) 7 117) 8 116) 9 100) 10 97) 11 116) 12 97))), (x6, .inl (cA 1, 13000, .inl (upd (upd (upd (upd (fun _ => 0) 0 0) 1 0) 2 0) 3 0)))]) rfl ?_
    refine zz_put X 0 55 rfl rfl (by decide) (fun w h => List.mem_cons_of_mem _ (zf_X16 w h)) rfl (List.mem_cons_of_mem _ zm_777) tyX16 tyX16_ok nmX16 rfl (ty := .int) rfl rfl rfl (zq_lt hf1_n (by decide) (by simp only [List.length_set])) dX16_clearTrees_98 [(x1, .inr (16, (((((((((((((((f1.set 37 (.int 0)).set 42 (.int 0)).set 48 (.int 0)).set 20 (.int 0)).set 56 (.int 0)).set 63 (.int 0)).set 72 (.int 0)).set 20 (.int 1)).set 52 (.int 0)).set 20 (.int 2)).set 53 (.int 1)).set 20 (.int 3)).set 54 (.int 2)).set 20 (.int 4)).set 55 (.int 3)))), (x3, .inl (cA 0, 17000, .inl ((upd (upd (upd (upd (upd (upd (upd (upd (upd (upd (upd (upd (upd (fun _ => 0) 0 95) 0 115) 1 101) 2 116) 0 105) 1 110) 2 112) 3 117) 4 116) 0 100) 1 97) 2 116) 3 97)))), (x2, .inl (cA 1, 4096, .inl (upd (upd (upd (upd g 95 1) 3170 2) 1994 3) 4010 4))), (x5, .inl (cA 1, 13001, .inl (upd (upd (upd (upd (fun _ => 0) 1 1) 2 4) 3 9) 4 13))), (x4, .inl (cA 0, 40000, .inl (upd (upd (upd (upd (upd (upd (upd (upd (upd (upd (upd (upd (upd (fun _ => 0) 0 95) 1 115) 2 101) 3 116) 4 105) 5 110) 6 112) 7 117) 8 116) 9 100) 10 97) 11 116) 12 97))), (x6, .inl (cA 1, 13000, .inl (upd (upd (upd (upd (fun _ => 0) 0 0) 1 0) 2 0) 3 0)))] rfl ?_
    exact zz_vret X hr (g) [0, 2, 1, 3, 4, 5] (by decide) rfl rfl (Nat.le_of_ble_eq_true rfl) (Nat.le_of_ble_eq_true rfl) (hR) dX16_clearTrees_101
  · skip
    have hk4 : k < 4096 := zn_lt (b := 4096) c41 (by omega)
    refine zz_aload_n X 1 dX16_clearTrees_44 rfl rfl ?_
    refine zz_get X 0 19 rfl rfl (by decide) (fun w h => List.mem_cons_of_mem _ (zf_X16 w h)) rfl (List.mem_cons_of_mem _ zm_466) (zq_oth (by decide) (zq_oth (by decide) (zq_oth (by decide) (zq_oth (by decide) (zq_oth (by decide) (zq_oth (by decide) (zq_oth (by decide) (hf1_19)))))))) dX16_clearTrees_45 ?_
    refine zz_iload_n X 0 dX16_clearTrees_48 rfl rfl ?_
    refine zz_iconst X 0 dX16_clearTrees_49 rfl ?_
    refine zz_iast X 1 1 rfl rfl (vp_in_nI (by omega) (by decide)) k (nI_clamp (by omega)) dX16_clearTrees_50 [(x1, .inr (16, (((((((f1.set 37 (.int 0)).set 42 (.int 0)).set 48 (.int 0)).set 20 (.int 0)).set 56 (.int 0)).set 63 (.int 0)).set 72 (.int 0)))), (x2, .inl (cA 1, 4096, .inl (upd g k 0))), (x3, .inl (cA 0, 17000, .inl (fun _ => 0))), (x5, .inl (cA 1, 13001, .inl (fun _ => 0))), (x4, .inl (cA 0, 40000, .inl (fun _ => 0))), (x6, .inl (cA 1, 13000, .inl (fun _ => 0)))] rfl ?_
    refine zz_iinc X 0 ((nI (k + 1))) [(1, .int (nI (k + 1))), (0, .ref x1)] dX16_clearTrees_51 rfl (nI_1 _) (by decide) rfl ?_
    refine zz_goto X 37 dX16_clearTrees_54 (by decide) ?_
    exact ih_37 (k + 1, upd g k 0) (show (k + 1) ≤ 4096 ∧ ∀ j : Nat, j < (k + 1) → (upd g k 0) j = 0 from ⟨by omega, zq_upd0 hI_37.2⟩) (show (4096 - (k + 1)) < (4096 - k) from (by omega))

set_option maxHeartbeats 4000000 in
set_option maxRecDepth 100000 in
/-- see -/
theorem kX16_see_1 {E : zEn} (hE : zOk E) (l : Launch) (D : va_G) (cA : Nat → ClassId) (K : Nat → Nat) (V : Nat → Nat) (x1 : Nat) (hss : zSS E K V) : zMi E l yX16_see zwX16_see ({ frames := 0, cells := 0, slots := 0, locals := 0 }) D vwCl (zT cA) [.ref x1, .int 0, .int 0] [] (S := Unit) (fun (r : Int32) (u : Unit) => (r = (-1))) (fun (u : Unit) => []) := by
  refine zz_enteri (cc := cX16_see) (lv := [(0, .ref x1), (1, .int 0), (2, .int 0)]) hE 3 (by decide) rfl (Nat.le_of_ble_eq_true rfl) rfl ?_
  intro p e s m args below meth c X hr hin
  refine zz_iload_n X 1 dX16_see_0 rfl rfl ?_
  refine zz_iload_n X 2 dX16_see_1 rfl rfl ?_
  refine zz_icmp_ge X 15 dX16_see_2 (by decide) (fun _ => ?_) (fun h => absurd (by decide) h)
  refine zz_iconst X (-1) dX16_see_15 rfl ?_
  exact zz_iret X hr (()) [] (by decide) rfl rfl (Nat.le_of_ble_eq_true rfl) (Nat.le_of_ble_eq_true rfl) (rfl) dX16_see_16

set_option maxHeartbeats 4000000 in
set_option maxRecDepth 100000 in
/-- lex -/
theorem kX16_lex_1 {E : zEn} (hE : zOk E) (l : Launch) (D : va_G) (cA : Nat → ClassId) (K : Nat → Nat) (V : Nat → Nat) (x1 : Nat) (f1 : List Value) (x2 : Nat) (hss : zSS E K V) (hf1_n : f1.length = 243) (hf1_26 : f1[26]? = some (.int 0)) (hf1_21 : f1[21]? = some (.ref x2)) (hf1_22 : f1[22]? = some (.int 0)) : zMv E l yX16_lex zwX16_lex ({ frames := 1, cells := 0, slots := 0, locals := 22 }) D vwCl (zT cA) [.ref x1] [(x1, .inr (16, f1))] (S := Unit) (fun (u : Unit) => (True)) (fun (u : Unit) => [(x1, .inr (16, (((((((f1.set 29 (.int 0)).set 30 (.int 0)).set 25 (.int 0)).set 27 (.int (-1))).set 2 (.int (-1))).set 23 (.int 0)).set 26 (.int 0))))]) := by
  refine zz_enterv (cc := cX16_lex) (lv := [(0, .ref x1)]) hE 3 (by decide) rfl (Nat.le_of_ble_eq_true rfl) rfl ?_
  intro p e s m args below meth c X hr hin
  refine zz_aload_n X 0 dX16_lex_0 rfl rfl ?_
  refine zz_get X 0 26 rfl rfl (by decide) (fun w h => List.mem_cons_of_mem _ (zf_X16 w h)) rfl (List.mem_cons_of_mem _ zm_785) hf1_26 dX16_lex_1 ?_
  refine zz_istore_n X [(1, .int 0), (0, .ref x1)] dX16_lex_4 rfl (by decide) rfl ?_
  refine zz_aload_n X 1 dX16_lex_5 rfl rfl ?_
  refine zz_iconst X 0 dX16_lex_6 rfl ?_
  refine zz_put X 0 29 rfl rfl (by decide) (fun w h => List.mem_cons_of_mem _ (zf_X16 w h)) rfl (List.mem_cons_of_mem _ zm_786) tyX16 tyX16_ok nmX16 rfl (ty := .boolean) rfl (by decide) rfl (zq_lt hf1_n (by decide) (by simp only [List.length_set])) dX16_lex_7 [(x1, .inr (16, (f1.set 29 (.int 0))))] rfl ?_
  refine zz_aload_n X 1 dX16_lex_10 rfl rfl ?_
  refine zz_iconst X 0 dX16_lex_11 rfl ?_
  refine zz_put X 0 30 rfl rfl (by decide) (fun w h => List.mem_cons_of_mem _ (zf_X16 w h)) rfl (List.mem_cons_of_mem _ zm_787) tyX16 tyX16_ok nmX16 rfl (ty := .boolean) rfl (by decide) rfl (zq_lt hf1_n (by decide) (by simp only [List.length_set])) dX16_lex_12 [(x1, .inr (16, ((f1.set 29 (.int 0)).set 30 (.int 0))))] rfl ?_
  refine zz_aload_n X 1 dX16_lex_15 rfl rfl ?_
  refine zz_get X 0 21 rfl rfl (by decide) (fun w h => List.mem_cons_of_mem _ (zf_X16 w h)) rfl (List.mem_cons_of_mem _ zm_782) (zq_oth (by decide) (zq_oth (by decide) (hf1_21))) dX16_lex_16 ?_
  refine zz_iload_n X 0 dX16_lex_19 rfl rfl ?_
  refine zz_aload_n X 1 dX16_lex_20 rfl rfl ?_
  refine zz_get X 0 22 rfl rfl (by decide) (fun w h => List.mem_cons_of_mem _ (zf_X16 w h)) rfl (List.mem_cons_of_mem _ zm_783) (zq_oth (by decide) (zq_oth (by decide) (hf1_22))) dX16_lex_21 ?_
  refine zz_callSi X (rest := []) (As := [.ref x2, .int 0, .int 0]) (kX16_see_1 hE l D cA K V x2 hss) 3 (zgS zm_789 zm_790 zm_451 zm_788) rfl (by decide +kernel) [] [0] [(x1, .inr (16, ((f1.set 29 (.int 0)).set 30 (.int 0))))] rfl rfl (by decide) rfl (by decide) (by decide) ⟨Nat.le_of_ble_eq_true rfl, Nat.le_of_ble_eq_true rfl⟩ rfl rfl rfl (Nat.le_of_ble_eq_true rfl) dX16_lex_24 (Nat.le_of_ble_eq_true rfl) (Nat.le_of_ble_eq_true rfl) (fun r1 _ hw2 => ?_)
  obtain rfl := hw2
  refine zz_show (ws' := [(x1, .inr (16, ((f1.set 29 (.int 0)).set 30 (.int 0))))]) rfl ?_
  refine zz_istore_n X [(2, .int (-1)), (1, .int 0), (0, .ref x1)] dX16_lex_27 rfl (by decide) rfl ?_
  refine zz_iload_n X 0 dX16_lex_28 rfl rfl ?_
  refine zz_bipush X 9 dX16_lex_29 rfl ?_
  refine zz_icmp_eq X 58 dX16_lex_31 (by decide) (fun h => absurd h (by decide)) (fun _ => ?_)
  refine zz_iload_n X 0 dX16_lex_34 rfl rfl ?_
  refine zz_bipush X 10 dX16_lex_35 rfl ?_
  refine zz_icmp_eq X 58 dX16_lex_37 (by decide) (fun h => absurd h (by decide)) (fun _ => ?_)
  refine zz_iload_n X 0 dX16_lex_40 rfl rfl ?_
  refine zz_bipush X 13 dX16_lex_41 rfl ?_
  refine zz_icmp_eq X 58 dX16_lex_43 (by decide) (fun h => absurd h (by decide)) (fun _ => ?_)
  refine zz_iload_n X 0 dX16_lex_46 rfl rfl ?_
  refine zz_bipush X 32 dX16_lex_47 rfl ?_
  refine zz_icmp_eq X 58 dX16_lex_49 (by decide) (fun h => absurd h (by decide)) (fun _ => ?_)
  refine zz_iload_n X 0 dX16_lex_52 rfl rfl ?_
  refine zz_bipush X 35 dX16_lex_53 rfl ?_
  refine zz_icmp_ne X 135 dX16_lex_55 (by decide) (fun _ => ?_) (fun h => absurd h (by decide))
  refine zz_aload_n X 2 dX16_lex_135 rfl rfl ?_
  refine zz_iload_n X 1 dX16_lex_136 rfl rfl ?_
  refine zz_put X 0 25 rfl rfl (by decide) (fun w h => List.mem_cons_of_mem _ (zf_X16 w h)) rfl (List.mem_cons_of_mem _ zm_791) tyX16 tyX16_ok nmX16 rfl (ty := .int) rfl rfl rfl (zq_lt hf1_n (by decide) (by simp only [List.length_set])) dX16_lex_137 [(x1, .inr (16, (((f1.set 29 (.int 0)).set 30 (.int 0)).set 25 (.int 0))))] rfl ?_
  refine zz_aload_n X 2 dX16_lex_140 rfl rfl ?_
  refine zz_iconst X (-1) dX16_lex_141 rfl ?_
  refine zz_put X 0 27 rfl rfl (by decide) (fun w h => List.mem_cons_of_mem _ (zf_X16 w h)) rfl (List.mem_cons_of_mem _ zm_792) tyX16 tyX16_ok nmX16 rfl (ty := .int) rfl rfl rfl (zq_lt hf1_n (by decide) (by simp only [List.length_set])) dX16_lex_142 [(x1, .inr (16, ((((f1.set 29 (.int 0)).set 30 (.int 0)).set 25 (.int 0)).set 27 (.int (-1)))))] rfl ?_
  refine zz_aload_n X 2 dX16_lex_145 rfl rfl ?_
  refine zz_iconst X (-1) dX16_lex_146 rfl ?_
  refine zz_put X 0 2 rfl rfl (by decide) (fun w h => List.mem_cons_of_mem _ (zf_X16 w h)) rfl (List.mem_cons_of_mem _ zm_793) tyX16 tyX16_ok nmX16 rfl (ty := .int) rfl rfl rfl (zq_lt hf1_n (by decide) (by simp only [List.length_set])) dX16_lex_147 [(x1, .inr (16, (((((f1.set 29 (.int 0)).set 30 (.int 0)).set 25 (.int 0)).set 27 (.int (-1))).set 2 (.int (-1)))))] rfl ?_
  refine zz_iload_n X 0 dX16_lex_150 rfl rfl ?_
  refine zz_iconst X (-1) dX16_lex_151 rfl ?_
  refine zz_icmp_ne X 168 dX16_lex_152 (by decide) (fun h => absurd (by decide) h) (fun _ => ?_)
  refine zz_aload_n X 2 dX16_lex_155 rfl rfl ?_
  refine zz_iconst X 0 dX16_lex_156 rfl ?_
  refine zz_put X 0 23 rfl rfl (by decide) (fun w h => List.mem_cons_of_mem _ (zf_X16 w h)) rfl (List.mem_cons_of_mem _ zm_794) tyX16 tyX16_ok nmX16 rfl (ty := .int) rfl rfl rfl (zq_lt hf1_n (by decide) (by simp only [List.length_set])) dX16_lex_157 [(x1, .inr (16, ((((((f1.set 29 (.int 0)).set 30 (.int 0)).set 25 (.int 0)).set 27 (.int (-1))).set 2 (.int (-1))).set 23 (.int 0))))] rfl ?_
  refine zz_aload_n X 2 dX16_lex_160 rfl rfl ?_
  refine zz_iload_n X 1 dX16_lex_161 rfl rfl ?_
  refine zz_put X 0 26 rfl rfl (by decide) (fun w h => List.mem_cons_of_mem _ (zf_X16 w h)) rfl (List.mem_cons_of_mem _ zm_785) tyX16 tyX16_ok nmX16 rfl (ty := .int) rfl rfl rfl (zq_lt hf1_n (by decide) (by simp only [List.length_set])) dX16_lex_162 [(x1, .inr (16, (((((((f1.set 29 (.int 0)).set 30 (.int 0)).set 25 (.int 0)).set 27 (.int (-1))).set 2 (.int (-1))).set 23 (.int 0)).set 26 (.int 0))))] rfl ?_
  refine zz_goto X 279 dX16_lex_165 (by decide) ?_
  exact zz_vret X hr (()) [0] (by decide) rfl rfl (Nat.le_of_ble_eq_true rfl) (Nat.le_of_ble_eq_true rfl) (trivial) dX16_lex_279

set_option maxHeartbeats 4000000 in
set_option maxRecDepth 100000 in
/-- begin -/
theorem kX16_begin_1 {E : zEn} (hE : zOk E) (l : Launch) (D : va_G) (cA : Nat → ClassId) (K : Nat → Nat) (V : Nat → Nat) (x1 : Nat) (x2 : Nat) (f1 : List Value) (hss : zSS E K V) (hf1_n : f1.length = 243) : zMv E l yX16_begin zwX16_begin ({ frames := 2, cells := 0, slots := 0, locals := 44 }) D vwCl (zT cA) [.ref x1, .ref x2, .int 0] [(x1, .inr (16, f1))] (S := Unit) (fun (u : Unit) => (True)) (fun (u : Unit) => [(x1, .inr (16, (((((((((((f1.set 21 (.ref x2)).set 22 (.int 0)).set 28 (.int (-1))).set 26 (.int 0)).set 29 (.int 0)).set 30 (.int 0)).set 25 (.int 0)).set 27 (.int (-1))).set 2 (.int (-1))).set 23 (.int 0)).set 26 (.int 0))))]) := by
  refine zz_enterv (cc := cX16_begin) (lv := [(0, .ref x1), (1, .ref x2), (2, .int 0)]) hE 3 (by decide) rfl (Nat.le_of_ble_eq_true rfl) rfl ?_
  intro p e s m args below meth c X hr hin
  refine zz_aload_n X 0 dX16_begin_0 rfl rfl ?_
  refine zz_aload_n X 1 dX16_begin_1 rfl rfl ?_
  refine zz_put X 0 21 rfl rfl (by decide) (fun w h => List.mem_cons_of_mem _ (zf_X16 w h)) rfl (List.mem_cons_of_mem _ zm_782) tyX16 tyX16_ok nmX16 rfl (ty := (.array .byte)) rfl rfl rfl (zq_lt hf1_n (by decide) (by simp only [List.length_set])) dX16_begin_2 [(x1, .inr (16, (f1.set 21 (.ref x2))))] rfl ?_
  refine zz_aload_n X 0 dX16_begin_5 rfl rfl ?_
  refine zz_iload_n X 2 dX16_begin_6 rfl rfl ?_
  refine zz_put X 0 22 rfl rfl (by decide) (fun w h => List.mem_cons_of_mem _ (zf_X16 w h)) rfl (List.mem_cons_of_mem _ zm_783) tyX16 tyX16_ok nmX16 rfl (ty := .int) rfl rfl rfl (zq_lt hf1_n (by decide) (by simp only [List.length_set])) dX16_begin_7 [(x1, .inr (16, ((f1.set 21 (.ref x2)).set 22 (.int 0))))] rfl ?_
  refine zz_aload_n X 0 dX16_begin_10 rfl rfl ?_
  refine zz_iconst X (-1) dX16_begin_11 rfl ?_
  refine zz_put X 0 28 rfl rfl (by decide) (fun w h => List.mem_cons_of_mem _ (zf_X16 w h)) rfl (List.mem_cons_of_mem _ zm_784) tyX16 tyX16_ok nmX16 rfl (ty := .int) rfl rfl rfl (zq_lt hf1_n (by decide) (by simp only [List.length_set])) dX16_begin_12 [(x1, .inr (16, (((f1.set 21 (.ref x2)).set 22 (.int 0)).set 28 (.int (-1)))))] rfl ?_
  refine zz_aload_n X 0 dX16_begin_15 rfl rfl ?_
  refine zz_iconst X 0 dX16_begin_16 rfl ?_
  refine zz_put X 0 26 rfl rfl (by decide) (fun w h => List.mem_cons_of_mem _ (zf_X16 w h)) rfl (List.mem_cons_of_mem _ zm_785) tyX16 tyX16_ok nmX16 rfl (ty := .int) rfl rfl rfl (zq_lt hf1_n (by decide) (by simp only [List.length_set])) dX16_begin_17 [(x1, .inr (16, ((((f1.set 21 (.ref x2)).set 22 (.int 0)).set 28 (.int (-1))).set 26 (.int 0))))] rfl ?_
  refine zz_aload_n X 0 dX16_begin_20 rfl rfl ?_
  refine zz_callVv X (rest := []) (As := []) (kX16_lex_1 hE l D cA K V x1 ((((f1.set 21 (.ref x2)).set 22 (.int 0)).set 28 (.int (-1))).set 26 (.int 0)) x2 hss (zq_len hf1_n (by simp only [List.length_set])) (zq_same (zq_lt hf1_n (by decide) (by simp only [List.length_set]))) (zq_oth (by decide) (zq_oth (by decide) (zq_oth (by decide) ((zq_same (zq_lt hf1_n (by decide) (by simp only [List.length_set]))))))) (zq_oth (by decide) (zq_oth (by decide) ((zq_same (zq_lt hf1_n (by decide) (by simp only [List.length_set]))))))) 0 (zgV zm_796 zm_797 zm_798 zm_451 zm_795) rfl (by decide +kernel) [0] [] [] rfl rfl (by decide) rfl (by decide) (by decide) ⟨Nat.le_of_ble_eq_true rfl, Nat.le_of_ble_eq_true rfl⟩ 0 rfl rfl rfl rfl rfl (Nat.le_of_ble_eq_true rfl) dX16_begin_21 (Nat.le_of_ble_eq_true rfl) (Nat.le_of_ble_eq_true rfl) (fun _ hw1 => ?_)
  refine zz_show (ws' := [(x1, .inr (16, (((((((((((f1.set 21 (.ref x2)).set 22 (.int 0)).set 28 (.int (-1))).set 26 (.int 0)).set 29 (.int 0)).set 30 (.int 0)).set 25 (.int 0)).set 27 (.int (-1))).set 2 (.int (-1))).set 23 (.int 0)).set 26 (.int 0))))]) rfl ?_
  exact zz_vret X hr (()) [0] (by decide) rfl rfl (Nat.le_of_ble_eq_true rfl) (Nat.le_of_ble_eq_true rfl) (trivial) dX16_begin_24

set_option maxHeartbeats 4000000 in
set_option maxRecDepth 100000 in
/-- bad -/
theorem kX16_bad_1 {E : zEn} (hE : zOk E) (l : Launch) (D : va_G) (cA : Nat → ClassId) (K : Nat → Nat) (V : Nat → Nat) (x1 : Nat) (f1 : List Value) (hss : zSS E K V) (hf1_n : f1.length = 243) (hf1_28 : f1[28]? = some (.int (-1))) : zMi E l yX16_bad zwX16_bad ({ frames := 0, cells := 0, slots := 0, locals := 0 }) D vwCl (zT cA) [.ref x1] [(x1, .inr (16, f1))] (S := Unit) (fun (r : Int32) (u : Unit) => (r = 0)) (fun (u : Unit) => [(x1, .inr (16, f1))]) := by
  refine zz_enterz (cc := cX16_bad) (lv := [(0, .ref x1)]) hE 1 (by decide) rfl (Nat.le_of_ble_eq_true rfl) rfl ?_
  intro p e s m args below meth c X hr hin
  refine zz_aload_n X 0 dX16_bad_0 rfl rfl ?_
  refine zz_get X 0 28 rfl rfl (by decide) (fun w h => List.mem_cons_of_mem _ (zf_X16 w h)) rfl (List.mem_cons_of_mem _ zm_784) hf1_28 dX16_bad_1 ?_
  refine zz_iconst X (-1) dX16_bad_4 rfl ?_
  refine zz_icmp_eq X 12 dX16_bad_5 (by decide) (fun _ => ?_) (fun h => absurd (by decide) h)
  refine zz_iconst X 0 dX16_bad_12 rfl ?_
  exact zz_zret X hr (by decide) (()) [0] (by decide) rfl rfl (Nat.le_of_ble_eq_true rfl) (Nat.le_of_ble_eq_true rfl) (rfl) dX16_bad_13

set_option maxHeartbeats 4000000 in
set_option maxRecDepth 100000 in
/-- isKey -/
theorem kX16_isKey_1 {E : zEn} (hE : zOk E) (l : Launch) (D : va_G) (cA : Nat → ClassId) (K : Nat → Nat) (V : Nat → Nat) (x1 : Nat) (f1 : List Value) (hss : zSS E K V) (hf1_n : f1.length = 243) (hf1_28 : f1[28]? = some (.int (-1))) (hf1_23 : f1[23]? = some (.int 0)) : zMi E l yX16_isKey zwX16_isKey ({ frames := 1, cells := 0, slots := 0, locals := 20 }) D vwCl (zT cA) [.ref x1, .int 1] [(x1, .inr (16, f1))] (S := Unit) (fun (r : Int32) (u : Unit) => (r = 0)) (fun (u : Unit) => [(x1, .inr (16, f1))]) := by
  refine zz_enterz (cc := cX16_isKey) (lv := [(0, .ref x1), (1, .int 1)]) hE 2 (by decide) rfl (Nat.le_of_ble_eq_true rfl) rfl ?_
  intro p e s m args below meth c X hr hin
  refine zz_aload_n X 0 dX16_isKey_0 rfl rfl ?_
  refine zz_callVi X (rest := []) (As := []) (kX16_bad_1 hE l D cA K V x1 f1 hss (zq_len hf1_n (by simp only [List.length_set])) hf1_28) 0 (zgV zm_805 zm_806 zm_807 zm_451 zm_804) rfl (by decide +kernel) [0] [] [] rfl rfl (by decide) rfl (by decide) (by decide) ⟨Nat.le_of_ble_eq_true rfl, Nat.le_of_ble_eq_true rfl⟩ 0 rfl rfl rfl rfl rfl (Nat.le_of_ble_eq_true rfl) dX16_isKey_1 (Nat.le_of_ble_eq_true rfl) (Nat.le_of_ble_eq_true rfl) (fun r1 _ hw2 => ?_)
  obtain rfl := hw2
  refine zz_show (ws' := [(x1, .inr (16, f1))]) rfl ?_
  refine zz_if_ne X 27 dX16_isKey_4 (by decide) (fun h => absurd (by decide) h) (fun _ => ?_)
  refine zz_aload_n X 0 dX16_isKey_7 rfl rfl ?_
  refine zz_get X 0 23 rfl rfl (by decide) (fun w h => List.mem_cons_of_mem _ (zf_X16 w h)) rfl (List.mem_cons_of_mem _ zm_794) hf1_23 dX16_isKey_8 ?_
  refine zz_iconst X 3 dX16_isKey_11 rfl ?_
  refine zz_icmp_ne X 27 dX16_isKey_12 (by decide) (fun _ => ?_) (fun h => absurd h (by decide))
  refine zz_iconst X 0 dX16_isKey_27 rfl ?_
  exact zz_zret X hr (by decide) (()) [0] (by decide) rfl rfl (Nat.le_of_ble_eq_true rfl) (Nat.le_of_ble_eq_true rfl) (rfl) dX16_isKey_28

set_option maxHeartbeats 4000000 in
set_option maxRecDepth 100000 in
/-- fail -/
theorem kX16_fail_1 {E : zEn} (hE : zOk E) (l : Launch) (D : va_G) (cA : Nat → ClassId) (K : Nat → Nat) (V : Nat → Nat) (x1 : Nat) (f1 : List Value) (hss : zSS E K V) (hf1_n : f1.length = 243) (hf1_28 : f1[28]? = some (.int (-1))) : zMv E l yX16_fail zwX16_fail ({ frames := 0, cells := 0, slots := 0, locals := 0 }) D vwCl (zT cA) [.ref x1, .int 0] [(x1, .inr (16, f1))] (S := Unit) (fun (u : Unit) => (True)) (fun (u : Unit) => [(x1, .inr (16, (f1.set 28 (.int 0))))]) := by
  refine zz_enterv (cc := cX16_fail) (lv := [(0, .ref x1), (1, .int 0)]) hE 2 (by decide) rfl (Nat.le_of_ble_eq_true rfl) rfl ?_
  intro p e s m args below meth c X hr hin
  refine zz_aload_n X 0 dX16_fail_0 rfl rfl ?_
  refine zz_get X 0 28 rfl rfl (by decide) (fun w h => List.mem_cons_of_mem _ (zf_X16 w h)) rfl (List.mem_cons_of_mem _ zm_784) hf1_28 dX16_fail_1 ?_
  refine zz_iconst X (-1) dX16_fail_4 rfl ?_
  refine zz_icmp_ne X 13 dX16_fail_5 (by decide) (fun h => absurd (by decide) h) (fun _ => ?_)
  refine zz_aload_n X 0 dX16_fail_8 rfl rfl ?_
  refine zz_iload_n X 1 dX16_fail_9 rfl rfl ?_
  refine zz_put X 0 28 rfl rfl (by decide) (fun w h => List.mem_cons_of_mem _ (zf_X16 w h)) rfl (List.mem_cons_of_mem _ zm_784) tyX16 tyX16_ok nmX16 rfl (ty := .int) rfl rfl rfl (zq_lt hf1_n (by decide) (by simp only [List.length_set])) dX16_fail_10 [(x1, .inr (16, (f1.set 28 (.int 0))))] rfl ?_
  exact zz_vret X hr (()) [0] (by decide) rfl rfl (Nat.le_of_ble_eq_true rfl) (Nat.le_of_ble_eq_true rfl) (trivial) dX16_fail_13

set_option maxHeartbeats 4000000 in
set_option maxRecDepth 100000 in
/-- needKey -/
theorem kX16_needKey_1 {E : zEn} (hE : zOk E) (l : Launch) (D : va_G) (cA : Nat → ClassId) (K : Nat → Nat) (V : Nat → Nat) (x1 : Nat) (f1 : List Value) (hss : zSS E K V) (hf1_n : f1.length = 243) (hf1_28 : f1[28]? = some (.int (-1))) (hf1_23 : f1[23]? = some (.int 0)) (hf1_25 : f1[25]? = some (.int 0)) : zMv E l yX16_needKey zwX16_needKey ({ frames := 2, cells := 0, slots := 0, locals := 41 }) D vwCl (zT cA) [.ref x1, .int 1] [(x1, .inr (16, f1))] (S := Unit) (fun (u : Unit) => (True)) (fun (u : Unit) => [(x1, .inr (16, (f1.set 28 (.int 0))))]) := by
  refine zz_enterv (cc := cX16_needKey) (lv := [(0, .ref x1), (1, .int 1)]) hE 2 (by decide) rfl (Nat.le_of_ble_eq_true rfl) rfl ?_
  intro p e s m args below meth c X hr hin
  refine zz_aload_n X 0 dX16_needKey_0 rfl rfl ?_
  refine zz_iload_n X 1 dX16_needKey_1 rfl rfl ?_
  refine zz_callVi X (rest := []) (As := [.int 1]) (kX16_isKey_1 hE l D cA K V x1 f1 hss (zq_len hf1_n (by simp only [List.length_set])) hf1_28 hf1_23) 1 (zgV zm_809 zm_810 zm_811 zm_451 zm_808) rfl (by decide +kernel) [0] [] [] rfl rfl (by decide) rfl (by decide) (by decide) ⟨Nat.le_of_ble_eq_true rfl, Nat.le_of_ble_eq_true rfl⟩ 0 rfl rfl rfl rfl rfl (Nat.le_of_ble_eq_true rfl) dX16_needKey_2 (Nat.le_of_ble_eq_true rfl) (Nat.le_of_ble_eq_true rfl) (fun r1 _ hw2 => ?_)
  obtain rfl := hw2
  refine zz_show (ws' := [(x1, .inr (16, f1))]) rfl ?_
  refine zz_if_eq X 15 dX16_needKey_5 (by decide) (fun _ => ?_) (fun h => absurd (by decide) h)
  refine zz_aload_n X 0 dX16_needKey_15 rfl rfl ?_
  refine zz_aload_n X 0 dX16_needKey_16 rfl rfl ?_
  refine zz_get X 0 25 rfl rfl (by decide) (fun w h => List.mem_cons_of_mem _ (zf_X16 w h)) rfl (List.mem_cons_of_mem _ zm_791) hf1_25 dX16_needKey_17 ?_
  refine zz_callVv X (rest := []) (As := [.int 0]) (kX16_fail_1 hE l D cA K V x1 f1 hss (zq_len hf1_n (by simp only [List.length_set])) hf1_28) 1 (zgV zm_813 zm_814 zm_815 zm_451 zm_812) rfl (by decide +kernel) [0] [] [] rfl rfl (by decide) rfl (by decide) (by decide) ⟨Nat.le_of_ble_eq_true rfl, Nat.le_of_ble_eq_true rfl⟩ 0 rfl rfl rfl rfl rfl (Nat.le_of_ble_eq_true rfl) dX16_needKey_20 (Nat.le_of_ble_eq_true rfl) (Nat.le_of_ble_eq_true rfl) (fun _ hw3 => ?_)
  refine zz_show (ws' := [(x1, .inr (16, (f1.set 28 (.int 0))))]) rfl ?_
  exact zz_vret X hr (()) [0] (by decide) rfl rfl (Nat.le_of_ble_eq_true rfl) (Nat.le_of_ble_eq_true rfl) (trivial) dX16_needKey_23

set_option maxHeartbeats 4000000 in
set_option maxRecDepth 100000 in
/-- bad -/
theorem kX16_bad_2 {E : zEn} (hE : zOk E) (l : Launch) (D : va_G) (cA : Nat → ClassId) (K : Nat → Nat) (V : Nat → Nat) (x1 : Nat) (f1 : List Value) (hss : zSS E K V) (hf1_n : f1.length = 243) (hf1_28 : f1[28]? = some (.int 0)) : zMi E l yX16_bad zwX16_bad ({ frames := 0, cells := 0, slots := 0, locals := 0 }) D vwCl (zT cA) [.ref x1] [(x1, .inr (16, f1))] (S := Unit) (fun (r : Int32) (u : Unit) => (r = 1)) (fun (u : Unit) => [(x1, .inr (16, f1))]) := by
  refine zz_enterz (cc := cX16_bad) (lv := [(0, .ref x1)]) hE 1 (by decide) rfl (Nat.le_of_ble_eq_true rfl) rfl ?_
  intro p e s m args below meth c X hr hin
  refine zz_aload_n X 0 dX16_bad_0 rfl rfl ?_
  refine zz_get X 0 28 rfl rfl (by decide) (fun w h => List.mem_cons_of_mem _ (zf_X16 w h)) rfl (List.mem_cons_of_mem _ zm_784) hf1_28 dX16_bad_1 ?_
  refine zz_iconst X (-1) dX16_bad_4 rfl ?_
  refine zz_icmp_eq X 12 dX16_bad_5 (by decide) (fun h => absurd h (by decide)) (fun _ => ?_)
  refine zz_iconst X 1 dX16_bad_8 rfl ?_
  refine zz_goto X 13 dX16_bad_9 (by decide) ?_
  exact zz_zret X hr (by decide) (()) [0] (by decide) rfl rfl (Nat.le_of_ble_eq_true rfl) (Nat.le_of_ble_eq_true rfl) (rfl) dX16_bad_13

set_option maxHeartbeats 4000000 in
set_option maxRecDepth 100000 in
/-- isName -/
theorem kX16_isName_1 {E : zEn} (hE : zOk E) (l : Launch) (D : va_G) (cA : Nat → ClassId) (K : Nat → Nat) (V : Nat → Nat) (x1 : Nat) (f1 : List Value) (hss : zSS E K V) (hf1_n : f1.length = 243) (hf1_28 : f1[28]? = some (.int 0)) : zMi E l yX16_isName zwX16_isName ({ frames := 1, cells := 0, slots := 0, locals := 20 }) D vwCl (zT cA) [.ref x1] [(x1, .inr (16, f1))] (S := Unit) (fun (r : Int32) (u : Unit) => (r = 0)) (fun (u : Unit) => [(x1, .inr (16, f1))]) := by
  refine zz_enterz (cc := cX16_isName) (lv := [(0, .ref x1)]) hE 1 (by decide) rfl (Nat.le_of_ble_eq_true rfl) rfl ?_
  intro p e s m args below meth c X hr hin
  refine zz_aload_n X 0 dX16_isName_0 rfl rfl ?_
  refine zz_callVi X (rest := []) (As := []) (kX16_bad_2 hE l D cA K V x1 f1 hss (zq_len hf1_n (by simp only [List.length_set])) hf1_28) 0 (zgV zm_805 zm_806 zm_807 zm_451 zm_804) rfl (by decide +kernel) [0] [] [] rfl rfl (by decide) rfl (by decide) (by decide) ⟨Nat.le_of_ble_eq_true rfl, Nat.le_of_ble_eq_true rfl⟩ 0 rfl rfl rfl rfl rfl (Nat.le_of_ble_eq_true rfl) dX16_isName_1 (Nat.le_of_ble_eq_true rfl) (Nat.le_of_ble_eq_true rfl) (fun r1 _ hw2 => ?_)
  obtain rfl := hw2
  refine zz_show (ws' := [(x1, .inr (16, f1))]) rfl ?_
  refine zz_if_ne X 19 dX16_isName_4 (by decide) (fun _ => ?_) (fun h => absurd h (by decide))
  refine zz_iconst X 0 dX16_isName_19 rfl ?_
  exact zz_zret X hr (by decide) (()) [0] (by decide) rfl rfl (Nat.le_of_ble_eq_true rfl) (Nat.le_of_ble_eq_true rfl) (rfl) dX16_isName_20

set_option maxHeartbeats 4000000 in
set_option maxRecDepth 100000 in
/-- fail -/
theorem kX16_fail_2 {E : zEn} (hE : zOk E) (l : Launch) (D : va_G) (cA : Nat → ClassId) (K : Nat → Nat) (V : Nat → Nat) (x1 : Nat) (f1 : List Value) (hss : zSS E K V) (hf1_n : f1.length = 243) (hf1_28 : f1[28]? = some (.int 0)) : zMv E l yX16_fail zwX16_fail ({ frames := 0, cells := 0, slots := 0, locals := 0 }) D vwCl (zT cA) [.ref x1, .int 0] [(x1, .inr (16, f1))] (S := Unit) (fun (u : Unit) => (True)) (fun (u : Unit) => [(x1, .inr (16, f1))]) := by
  refine zz_enterv (cc := cX16_fail) (lv := [(0, .ref x1), (1, .int 0)]) hE 2 (by decide) rfl (Nat.le_of_ble_eq_true rfl) rfl ?_
  intro p e s m args below meth c X hr hin
  refine zz_aload_n X 0 dX16_fail_0 rfl rfl ?_
  refine zz_get X 0 28 rfl rfl (by decide) (fun w h => List.mem_cons_of_mem _ (zf_X16 w h)) rfl (List.mem_cons_of_mem _ zm_784) hf1_28 dX16_fail_1 ?_
  refine zz_iconst X (-1) dX16_fail_4 rfl ?_
  refine zz_icmp_ne X 13 dX16_fail_5 (by decide) (fun _ => ?_) (fun h => absurd h (by decide))
  exact zz_vret X hr (()) [0] (by decide) rfl rfl (Nat.le_of_ble_eq_true rfl) (Nat.le_of_ble_eq_true rfl) (trivial) dX16_fail_13

set_option maxHeartbeats 4000000 in
set_option maxRecDepth 100000 in
/-- path -/
theorem kX16_path_1 {E : zEn} (hE : zOk E) (l : Launch) (D : va_G) (cA : Nat → ClassId) (K : Nat → Nat) (V : Nat → Nat) (x1 : Nat) (f1 : List Value) (hss : zSS E K V) (hf1_n : f1.length = 243) (hf1_28 : f1[28]? = some (.int 0)) (hf1_25 : f1[25]? = some (.int 0)) : zMi E l yX16_path zwX16_path ({ frames := 2, cells := 0, slots := 0, locals := 40 }) D vwCl (zT cA) [.ref x1] [(x1, .inr (16, f1))] (S := Unit) (fun (r : Int32) (u : Unit) => (r = (-1))) (fun (u : Unit) => [(x1, .inr (16, f1))]) := by
  refine zz_enteri (cc := cX16_path) (lv := [(0, .ref x1)]) hE 4 (by decide) rfl (Nat.le_of_ble_eq_true rfl) rfl ?_
  intro p e s m args below meth c X hr hin
  refine zz_iconst X (-1) dX16_path_0 rfl ?_
  refine zz_istore_n X [(1, .int (-1)), (0, .ref x1)] dX16_path_1 rfl (by decide) rfl ?_
  refine zz_iconst X (-1) dX16_path_2 rfl ?_
  refine zz_istore_n X [(2, .int (-1)), (1, .int (-1)), (0, .ref x1)] dX16_path_3 rfl (by decide) rfl ?_
  refine zz_iconst X 0 dX16_path_4 rfl ?_
  refine zz_istore_n X [(3, .int 0), (2, .int (-1)), (1, .int (-1)), (0, .ref x1)] dX16_path_5 rfl (by decide) rfl ?_
  refine zz_iload_n X 0 dX16_path_6 rfl rfl ?_
  refine zz_bipush X 6 dX16_path_7 rfl ?_
  refine zz_icmp_ge X 95 dX16_path_9 (by decide) (fun h => absurd h (by decide)) (fun _ => ?_)
  refine zz_aload_n X 3 dX16_path_12 rfl rfl ?_
  refine zz_callVi X (rest := []) (As := []) (kX16_isName_1 hE l D cA K V x1 f1 hss (zq_len hf1_n (by simp only [List.length_set])) hf1_28) 0 (zgV zm_821 zm_822 zm_823 zm_451 zm_820) rfl (by decide +kernel) [0] [] [] rfl rfl (by decide) rfl (by decide) (by decide) ⟨Nat.le_of_ble_eq_true rfl, Nat.le_of_ble_eq_true rfl⟩ 0 rfl rfl rfl rfl rfl (Nat.le_of_ble_eq_true rfl) dX16_path_13 (Nat.le_of_ble_eq_true rfl) (Nat.le_of_ble_eq_true rfl) (fun r1 _ hw2 => ?_)
  obtain rfl := hw2
  refine zz_show (ws' := [(x1, .inr (16, f1))]) rfl ?_
  refine zz_if_eq X 26 dX16_path_16 (by decide) (fun _ => ?_) (fun h => absurd (by decide) h)
  refine zz_aload_n X 3 dX16_path_26 rfl rfl ?_
  refine zz_aload_n X 3 dX16_path_27 rfl rfl ?_
  refine zz_get X 0 25 rfl rfl (by decide) (fun w h => List.mem_cons_of_mem _ (zf_X16 w h)) rfl (List.mem_cons_of_mem _ zm_791) hf1_25 dX16_path_28 ?_
  refine zz_callVv X (rest := []) (As := [.int 0]) (kX16_fail_2 hE l D cA K V x1 f1 hss (zq_len hf1_n (by simp only [List.length_set])) hf1_28) 1 (zgV zm_813 zm_814 zm_815 zm_451 zm_812) rfl (by decide +kernel) [0] [] [] rfl rfl (by decide) rfl (by decide) (by decide) ⟨Nat.le_of_ble_eq_true rfl, Nat.le_of_ble_eq_true rfl⟩ 0 rfl rfl rfl rfl rfl (Nat.le_of_ble_eq_true rfl) dX16_path_31 (Nat.le_of_ble_eq_true rfl) (Nat.le_of_ble_eq_true rfl) (fun _ hw3 => ?_)
  refine zz_show (ws' := [(x1, .inr (16, f1))]) rfl ?_
  refine zz_iload_n X 2 dX16_path_34 rfl rfl ?_
  exact zz_iret X hr (()) [0] (by decide) rfl rfl (Nat.le_of_ble_eq_true rfl) (Nat.le_of_ble_eq_true rfl) (rfl) dX16_path_35

set_option maxHeartbeats 4000000 in
set_option maxRecDepth 100000 in
/-- isKey -/
theorem kX16_isKey_2 {E : zEn} (hE : zOk E) (l : Launch) (D : va_G) (cA : Nat → ClassId) (K : Nat → Nat) (V : Nat → Nat) (x1 : Nat) (f1 : List Value) (hss : zSS E K V) (hf1_n : f1.length = 243) (hf1_28 : f1[28]? = some (.int 0)) : zMi E l yX16_isKey zwX16_isKey ({ frames := 1, cells := 0, slots := 0, locals := 20 }) D vwCl (zT cA) [.ref x1, .int 9] [(x1, .inr (16, f1))] (S := Unit) (fun (r : Int32) (u : Unit) => (r = 0)) (fun (u : Unit) => [(x1, .inr (16, f1))]) := by
  refine zz_enterz (cc := cX16_isKey) (lv := [(0, .ref x1), (1, .int 9)]) hE 2 (by decide) rfl (Nat.le_of_ble_eq_true rfl) rfl ?_
  intro p e s m args below meth c X hr hin
  refine zz_aload_n X 0 dX16_isKey_0 rfl rfl ?_
  refine zz_callVi X (rest := []) (As := []) (kX16_bad_2 hE l D cA K V x1 f1 hss (zq_len hf1_n (by simp only [List.length_set])) hf1_28) 0 (zgV zm_805 zm_806 zm_807 zm_451 zm_804) rfl (by decide +kernel) [0] [] [] rfl rfl (by decide) rfl (by decide) (by decide) ⟨Nat.le_of_ble_eq_true rfl, Nat.le_of_ble_eq_true rfl⟩ 0 rfl rfl rfl rfl rfl (Nat.le_of_ble_eq_true rfl) dX16_isKey_1 (Nat.le_of_ble_eq_true rfl) (Nat.le_of_ble_eq_true rfl) (fun r1 _ hw2 => ?_)
  obtain rfl := hw2
  refine zz_show (ws' := [(x1, .inr (16, f1))]) rfl ?_
  refine zz_if_ne X 27 dX16_isKey_4 (by decide) (fun _ => ?_) (fun h => absurd h (by decide))
  refine zz_iconst X 0 dX16_isKey_27 rfl ?_
  exact zz_zret X hr (by decide) (()) [0] (by decide) rfl rfl (Nat.le_of_ble_eq_true rfl) (Nat.le_of_ble_eq_true rfl) (rfl) dX16_isKey_28

set_option maxHeartbeats 4000000 in
set_option maxRecDepth 100000 in
/-- readModule -/
theorem kX16_readModule_1 {E : zEn} (hE : zOk E) (l : Launch) (D : va_G) (cA : Nat → ClassId) (K : Nat → Nat) (V : Nat → Nat) (x1 : Nat) (x2 : Nat) (f1 : List Value) (x3 : Nat) (hss : zSS E K V) (hf1_n : f1.length = 243) (hf1_72 : f1[72]? = some (.int 0)) (hf1_57 : f1[57]? = some (.ref x3)) (hf1_56 : f1[56]? = some (.int 0)) (hf1_63 : f1[63]? = some (.int 0)) : zMi E l yX16_readModule zwX16_readModule ({ frames := 3, cells := 0, slots := 0, locals := 66 }) D vwCl (zT cA) [.ref x1, .ref x2, .int 0] [(x1, .inr (16, f1)), (x3, .inl (cA 1, 4, .inl (fun _ => 0)))] (S := Unit) (fun (r : Int32) (u : Unit) => (r = 0)) (fun (u : Unit) => [(x1, .inr (16, ((((((((((((((f1.set 21 (.ref x2)).set 22 (.int 0)).set 28 (.int (-1))).set 26 (.int 0)).set 29 (.int 0)).set 30 (.int 0)).set 25 (.int 0)).set 27 (.int (-1))).set 2 (.int (-1))).set 23 (.int 0)).set 26 (.int 0)).set 50 (.int 0)).set 28 (.int 0)).set 56 (.int 1)))), (x3, .inl (cA 1, 4, .inl (upd (fun _ => 0) 0 (-1))))]) := by
  refine zz_enteri (cc := cX16_readModule) (lv := [(0, .ref x1), (1, .ref x2), (2, .int 0)]) hE 5 (by decide) rfl (Nat.le_of_ble_eq_true rfl) rfl ?_
  intro p e s m args below meth c X hr hin
  refine zz_aload_n X 0 dX16_readModule_0 rfl rfl ?_
  refine zz_aload_n X 1 dX16_readModule_1 rfl rfl ?_
  refine zz_iload_n X 2 dX16_readModule_2 rfl rfl ?_
  refine zz_callVv X (rest := []) (As := [.ref x2, .int 0]) (kX16_begin_1 hE l D cA K V x1 x2 f1 hss (zq_len hf1_n (by simp only [List.length_set]))) 2 (zgV zm_800 zm_801 zm_802 zm_451 zm_799) rfl (by decide +kernel) [0] [1] [(x3, .inl (cA 1, 4, .inl (fun _ => 0)))] rfl rfl (by decide) rfl (by decide) (by decide) ⟨Nat.le_of_ble_eq_true rfl, Nat.le_of_ble_eq_true rfl⟩ 0 rfl rfl rfl rfl rfl (Nat.le_of_ble_eq_true rfl) dX16_readModule_3 (Nat.le_of_ble_eq_true rfl) (Nat.le_of_ble_eq_true rfl) (fun _ hw1 => ?_)
  refine zz_show (ws' := [(x3, .inl (cA 1, 4, .inl (fun _ => 0))), (x1, .inr (16, (((((((((((f1.set 21 (.ref x2)).set 22 (.int 0)).set 28 (.int (-1))).set 26 (.int 0)).set 29 (.int 0)).set 30 (.int 0)).set 25 (.int 0)).set 27 (.int (-1))).set 2 (.int (-1))).set 23 (.int 0)).set 26 (.int 0))))]) rfl ?_
  refine zz_aload_n X 0 dX16_readModule_6 rfl rfl ?_
  refine zz_aload_n X 0 dX16_readModule_7 rfl rfl ?_
  refine zz_get X 1 72 rfl rfl (by decide) (fun w h => List.mem_cons_of_mem _ (zf_X16 w h)) rfl (List.mem_cons_of_mem _ zm_763) (zq_oth (by decide) (zq_oth (by decide) (zq_oth (by decide) (zq_oth (by decide) (zq_oth (by decide) (zq_oth (by decide) (zq_oth (by decide) (zq_oth (by decide) (zq_oth (by decide) (zq_oth (by decide) (zq_oth (by decide) (hf1_72)))))))))))) dX16_readModule_8 ?_
  refine zz_put X 1 50 rfl rfl (by decide) (fun w h => List.mem_cons_of_mem _ (zf_X16 w h)) rfl (List.mem_cons_of_mem _ zm_803) tyX16 tyX16_ok nmX16 rfl (ty := .int) rfl rfl rfl (zq_lt hf1_n (by decide) (by simp only [List.length_set])) dX16_readModule_11 [(x3, .inl (cA 1, 4, .inl (fun _ => 0))), (x1, .inr (16, ((((((((((((f1.set 21 (.ref x2)).set 22 (.int 0)).set 28 (.int (-1))).set 26 (.int 0)).set 29 (.int 0)).set 30 (.int 0)).set 25 (.int 0)).set 27 (.int (-1))).set 2 (.int (-1))).set 23 (.int 0)).set 26 (.int 0)).set 50 (.int 0))))] rfl ?_
  refine zz_aload_n X 0 dX16_readModule_14 rfl rfl ?_
  refine zz_iconst X 1 dX16_readModule_15 rfl ?_
  refine zz_callVv X (rest := []) (As := [.int 1]) (kX16_needKey_1 hE l D cA K V x1 ((((((((((((f1.set 21 (.ref x2)).set 22 (.int 0)).set 28 (.int (-1))).set 26 (.int 0)).set 29 (.int 0)).set 30 (.int 0)).set 25 (.int 0)).set 27 (.int (-1))).set 2 (.int (-1))).set 23 (.int 0)).set 26 (.int 0)).set 50 (.int 0)) hss (zq_len hf1_n (by simp only [List.length_set])) (zq_oth (by decide) (zq_oth (by decide) (zq_oth (by decide) (zq_oth (by decide) (zq_oth (by decide) (zq_oth (by decide) (zq_oth (by decide) (zq_oth (by decide) (zq_oth (by decide) ((zq_same (zq_lt hf1_n (by decide) (by simp only [List.length_set]))))))))))))) (zq_oth (by decide) (zq_oth (by decide) ((zq_same (zq_lt hf1_n (by decide) (by simp only [List.length_set])))))) (zq_oth (by decide) (zq_oth (by decide) (zq_oth (by decide) (zq_oth (by decide) (zq_oth (by decide) ((zq_same (zq_lt hf1_n (by decide) (by simp only [List.length_set])))))))))) 1 (zgV zm_817 zm_818 zm_819 zm_451 zm_816) rfl (by decide +kernel) [1] [0] [(x3, .inl (cA 1, 4, .inl (fun _ => 0)))] rfl rfl (by decide) rfl (by decide) (by decide) ⟨Nat.le_of_ble_eq_true rfl, Nat.le_of_ble_eq_true rfl⟩ 0 rfl rfl rfl rfl rfl (Nat.le_of_ble_eq_true rfl) dX16_readModule_16 (Nat.le_of_ble_eq_true rfl) (Nat.le_of_ble_eq_true rfl) (fun _ hw2 => ?_)
  refine zz_show (ws' := [(x3, .inl (cA 1, 4, .inl (fun _ => 0))), (x1, .inr (16, (((((((((((((f1.set 21 (.ref x2)).set 22 (.int 0)).set 28 (.int (-1))).set 26 (.int 0)).set 29 (.int 0)).set 30 (.int 0)).set 25 (.int 0)).set 27 (.int (-1))).set 2 (.int (-1))).set 23 (.int 0)).set 26 (.int 0)).set 50 (.int 0)).set 28 (.int 0))))]) rfl ?_
  refine zz_aload_n X 0 dX16_readModule_19 rfl rfl ?_
  refine zz_get X 1 57 rfl rfl (by decide) (fun w h => List.mem_cons_of_mem _ (zf_X16 w h)) rfl (List.mem_cons_of_mem _ zm_483) (zq_oth (by decide) (zq_oth (by decide) (zq_oth (by decide) (zq_oth (by decide) (zq_oth (by decide) (zq_oth (by decide) (zq_oth (by decide) (zq_oth (by decide) (zq_oth (by decide) (zq_oth (by decide) (zq_oth (by decide) (zq_oth (by decide) (zq_oth (by decide) (hf1_57)))))))))))))) dX16_readModule_20 ?_
  refine zz_aload_n X 0 dX16_readModule_23 rfl rfl ?_
  refine zz_get X 1 56 rfl rfl (by decide) (fun w h => List.mem_cons_of_mem _ (zf_X16 w h)) rfl (List.mem_cons_of_mem _ zm_761) (zq_oth (by decide) (zq_oth (by decide) (zq_oth (by decide) (zq_oth (by decide) (zq_oth (by decide) (zq_oth (by decide) (zq_oth (by decide) (zq_oth (by decide) (zq_oth (by decide) (zq_oth (by decide) (zq_oth (by decide) (zq_oth (by decide) (zq_oth (by decide) (hf1_56)))))))))))))) dX16_readModule_24 ?_
  refine zz_aload_n X 0 dX16_readModule_27 rfl rfl ?_
  refine zz_callVi X (rest := [.int 0, .ref x3]) (As := []) (kX16_path_1 hE l D cA K V x1 (((((((((((((f1.set 21 (.ref x2)).set 22 (.int 0)).set 28 (.int (-1))).set 26 (.int 0)).set 29 (.int 0)).set 30 (.int 0)).set 25 (.int 0)).set 27 (.int (-1))).set 2 (.int (-1))).set 23 (.int 0)).set 26 (.int 0)).set 50 (.int 0)).set 28 (.int 0)) hss (zq_len hf1_n (by simp only [List.length_set])) (zq_same (zq_lt hf1_n (by decide) (by simp only [List.length_set]))) (zq_oth (by decide) (zq_oth (by decide) (zq_oth (by decide) (zq_oth (by decide) (zq_oth (by decide) (zq_oth (by decide) ((zq_same (zq_lt hf1_n (by decide) (by simp only [List.length_set]))))))))))) 0 (zgV zm_825 zm_826 zm_827 zm_451 zm_824) rfl (by decide +kernel) [1] [0] [(x3, .inl (cA 1, 4, .inl (fun _ => 0)))] rfl rfl (by decide) rfl (by decide) (by decide) ⟨Nat.le_of_ble_eq_true rfl, Nat.le_of_ble_eq_true rfl⟩ 0 rfl rfl rfl rfl rfl (Nat.le_of_ble_eq_true rfl) dX16_readModule_28 (Nat.le_of_ble_eq_true rfl) (Nat.le_of_ble_eq_true rfl) (fun r3 _ hw4 => ?_)
  obtain rfl := hw4
  refine zz_show (ws' := [(x3, .inl (cA 1, 4, .inl (fun _ => 0))), (x1, .inr (16, (((((((((((((f1.set 21 (.ref x2)).set 22 (.int 0)).set 28 (.int (-1))).set 26 (.int 0)).set 29 (.int 0)).set 30 (.int 0)).set 25 (.int 0)).set 27 (.int (-1))).set 2 (.int (-1))).set 23 (.int 0)).set 26 (.int 0)).set 50 (.int 0)).set 28 (.int 0))))]) rfl ?_
  refine zz_iast X 0 1 rfl rfl (vp_in_nI (n := 0) (by decide) (by decide)) 0 (by decide) dX16_readModule_31 [(x3, .inl (cA 1, 4, .inl (upd (fun _ => 0) 0 (-1)))), (x1, .inr (16, (((((((((((((f1.set 21 (.ref x2)).set 22 (.int 0)).set 28 (.int (-1))).set 26 (.int 0)).set 29 (.int 0)).set 30 (.int 0)).set 25 (.int 0)).set 27 (.int (-1))).set 2 (.int (-1))).set 23 (.int 0)).set 26 (.int 0)).set 50 (.int 0)).set 28 (.int 0))))] rfl ?_
  refine zz_aload_n X 0 dX16_readModule_32 rfl rfl ?_
  refine zz_get X 1 63 rfl rfl (by decide) (fun w h => List.mem_cons_of_mem _ (zf_X16 w h)) rfl (List.mem_cons_of_mem _ zm_762) (zq_oth (by decide) (zq_oth (by decide) (zq_oth (by decide) (zq_oth (by decide) (zq_oth (by decide) (zq_oth (by decide) (zq_oth (by decide) (zq_oth (by decide) (zq_oth (by decide) (zq_oth (by decide) (zq_oth (by decide) (zq_oth (by decide) (zq_oth (by decide) (hf1_63)))))))))))))) dX16_readModule_33 ?_
  refine zz_istore_n X [(3, .int 0), (0, .ref x1), (1, .ref x2), (2, .int 0)] dX16_readModule_36 rfl (by decide) rfl ?_
  refine zz_aload_n X 1 dX16_readModule_37 rfl rfl ?_
  refine zz_bipush X 9 dX16_readModule_38 rfl ?_
  refine zz_callVi X (rest := []) (As := [.int 9]) (kX16_isKey_2 hE l D cA K V x1 (((((((((((((f1.set 21 (.ref x2)).set 22 (.int 0)).set 28 (.int (-1))).set 26 (.int 0)).set 29 (.int 0)).set 30 (.int 0)).set 25 (.int 0)).set 27 (.int (-1))).set 2 (.int (-1))).set 23 (.int 0)).set 26 (.int 0)).set 50 (.int 0)).set 28 (.int 0)) hss (zq_len hf1_n (by simp only [List.length_set])) (zq_same (zq_lt hf1_n (by decide) (by simp only [List.length_set])))) 1 (zgV zm_809 zm_810 zm_811 zm_451 zm_808) rfl (by decide +kernel) [1] [0] [(x3, .inl (cA 1, 4, .inl (upd (fun _ => 0) 0 (-1))))] rfl rfl (by decide) rfl (by decide) (by decide) ⟨Nat.le_of_ble_eq_true rfl, Nat.le_of_ble_eq_true rfl⟩ 0 rfl rfl rfl rfl rfl (Nat.le_of_ble_eq_true rfl) dX16_readModule_40 (Nat.le_of_ble_eq_true rfl) (Nat.le_of_ble_eq_true rfl) (fun r5 _ hw6 => ?_)
  obtain rfl := hw6
  refine zz_show (ws' := [(x3, .inl (cA 1, 4, .inl (upd (fun _ => 0) 0 (-1)))), (x1, .inr (16, (((((((((((((f1.set 21 (.ref x2)).set 22 (.int 0)).set 28 (.int (-1))).set 26 (.int 0)).set 29 (.int 0)).set 30 (.int 0)).set 25 (.int 0)).set 27 (.int (-1))).set 2 (.int (-1))).set 23 (.int 0)).set 26 (.int 0)).set 50 (.int 0)).set 28 (.int 0))))]) rfl ?_
  refine zz_if_eq X 75 dX16_readModule_43 (by decide) (fun _ => ?_) (fun h => absurd (by decide) h)
  refine zz_aload_n X 1 dX16_readModule_75 rfl rfl ?_
  refine zz_get X 1 72 rfl rfl (by decide) (fun w h => List.mem_cons_of_mem _ (zf_X16 w h)) rfl (List.mem_cons_of_mem _ zm_763) (zq_oth (by decide) (zq_oth (by decide) (zq_oth (by decide) (zq_oth (by decide) (zq_oth (by decide) (zq_oth (by decide) (zq_oth (by decide) (zq_oth (by decide) (zq_oth (by decide) (zq_oth (by decide) (zq_oth (by decide) (zq_oth (by decide) (zq_oth (by decide) (hf1_72)))))))))))))) dX16_readModule_76 ?_
  refine zz_istore X [(4, .int 0), (3, .int 0), (0, .ref x1), (1, .ref x2), (2, .int 0)] dX16_readModule_79 (by decide) rfl ?_
  refine zz_aload_n X 2 dX16_readModule_81 rfl rfl ?_
  refine zz_callVi X (rest := []) (As := []) (kX16_bad_2 hE l D cA K V x1 (((((((((((((f1.set 21 (.ref x2)).set 22 (.int 0)).set 28 (.int (-1))).set 26 (.int 0)).set 29 (.int 0)).set 30 (.int 0)).set 25 (.int 0)).set 27 (.int (-1))).set 2 (.int (-1))).set 23 (.int 0)).set 26 (.int 0)).set 50 (.int 0)).set 28 (.int 0)) hss (zq_len hf1_n (by simp only [List.length_set])) (zq_same (zq_lt hf1_n (by decide) (by simp only [List.length_set])))) 0 (zgV zm_805 zm_806 zm_807 zm_451 zm_804) rfl (by decide +kernel) [1] [0] [(x3, .inl (cA 1, 4, .inl (upd (fun _ => 0) 0 (-1))))] rfl rfl (by decide) rfl (by decide) (by decide) ⟨Nat.le_of_ble_eq_true rfl, Nat.le_of_ble_eq_true rfl⟩ 0 rfl rfl rfl rfl rfl (Nat.le_of_ble_eq_true rfl) dX16_readModule_82 (Nat.le_of_ble_eq_true rfl) (Nat.le_of_ble_eq_true rfl) (fun r7 _ hw8 => ?_)
  obtain rfl := hw8
  refine zz_show (ws' := [(x3, .inl (cA 1, 4, .inl (upd (fun _ => 0) 0 (-1)))), (x1, .inr (16, (((((((((((((f1.set 21 (.ref x2)).set 22 (.int 0)).set 28 (.int (-1))).set 26 (.int 0)).set 29 (.int 0)).set 30 (.int 0)).set 25 (.int 0)).set 27 (.int (-1))).set 2 (.int (-1))).set 23 (.int 0)).set 26 (.int 0)).set 50 (.int 0)).set 28 (.int 0))))]) rfl ?_
  refine zz_if_ne X 125 dX16_readModule_85 (by decide) (fun _ => ?_) (fun h => absurd h (by decide))
  refine zz_aload_n X 2 dX16_readModule_125 rfl rfl ?_
  refine zz_dup X dX16_readModule_126 rfl ?_
  refine zz_get X 1 56 rfl rfl (by decide) (fun w h => List.mem_cons_of_mem _ (zf_X16 w h)) rfl (List.mem_cons_of_mem _ zm_761) (zq_oth (by decide) (zq_oth (by decide) (zq_oth (by decide) (zq_oth (by decide) (zq_oth (by decide) (zq_oth (by decide) (zq_oth (by decide) (zq_oth (by decide) (zq_oth (by decide) (zq_oth (by decide) (zq_oth (by decide) (zq_oth (by decide) (zq_oth (by decide) (hf1_56)))))))))))))) dX16_readModule_127 ?_
  refine zz_iconst X 1 dX16_readModule_130 rfl ?_
  refine zz_iadd X (1) dX16_readModule_131 (by decide) ?_
  refine zz_put X 1 56 rfl rfl (by decide) (fun w h => List.mem_cons_of_mem _ (zf_X16 w h)) rfl (List.mem_cons_of_mem _ zm_761) tyX16 tyX16_ok nmX16 rfl (ty := .int) rfl rfl rfl (zq_lt hf1_n (by decide) (by simp only [List.length_set])) dX16_readModule_132 [(x3, .inl (cA 1, 4, .inl (upd (fun _ => 0) 0 (-1)))), (x1, .inr (16, ((((((((((((((f1.set 21 (.ref x2)).set 22 (.int 0)).set 28 (.int (-1))).set 26 (.int 0)).set 29 (.int 0)).set 30 (.int 0)).set 25 (.int 0)).set 27 (.int (-1))).set 2 (.int (-1))).set 23 (.int 0)).set 26 (.int 0)).set 50 (.int 0)).set 28 (.int 0)).set 56 (.int 1))))] rfl ?_
  refine zz_aload_n X 2 dX16_readModule_135 rfl rfl ?_
  refine zz_get X 1 72 rfl rfl (by decide) (fun w h => List.mem_cons_of_mem _ (zf_X16 w h)) rfl (List.mem_cons_of_mem _ zm_763) (zq_oth (by decide) (zq_oth (by decide) (zq_oth (by decide) (zq_oth (by decide) (zq_oth (by decide) (zq_oth (by decide) (zq_oth (by decide) (zq_oth (by decide) (zq_oth (by decide) (zq_oth (by decide) (zq_oth (by decide) (zq_oth (by decide) (zq_oth (by decide) (zq_oth (by decide) (hf1_72))))))))))))))) dX16_readModule_136 ?_
  refine zz_iload X 0 dX16_readModule_139 rfl ?_
  refine zz_isub X (0) dX16_readModule_141 (by decide) ?_
  exact zz_iret X hr (()) [1, 0] (by decide) rfl rfl (Nat.le_of_ble_eq_true rfl) (Nat.le_of_ble_eq_true rfl) (rfl) dX16_readModule_142

set_option maxHeartbeats 4000000 in
set_option maxRecDepth 100000 in
/-- module -/
theorem kX16_module_1 {E : zEn} (hE : zOk E) (l : Launch) (D : va_G) (cA : Nat → ClassId) (K : Nat → Nat) (V : Nat → Nat) (x1 : Nat) (f1 : List Value) (x2 : Nat) (x3 : Nat) (x4 : Nat) (x5 : Nat) (x6 : Nat) (x7 : Nat) (x8 : Nat) (hss : zSS E K V) (hf1_n : f1.length = 243) (hf1_229 : f1[229]? = some (.int 0)) (hf1_19 : f1[19]? = some (.ref x2)) (hf1_0 : f1[0]? = some (.ref x3)) (hf1_16 : f1[16]? = some (.ref x4)) (hf1_17 : f1[17]? = some (.ref x5)) (hf1_18 : f1[18]? = some (.ref x6)) (hf1_228 : f1[228]? = some (.ref x7)) (hf1_57 : f1[57]? = some (.ref x8)) : zMi E l yX16_module zwX16_module ({ frames := 6, cells := 0, slots := 0, locals := 128 }) D vwCl (zT cA) [.ref x1] [(x1, .inr (16, f1)), (x2, .inl (cA 1, 4096, .inl (fun _ => 0))), (x3, .inl (cA 0, 17000, .inl (fun _ => 0))), (x5, .inl (cA 1, 13001, .inl (fun _ => 0))), (x4, .inl (cA 0, 40000, .inl (fun _ => 0))), (x6, .inl (cA 1, 13000, .inl (fun _ => 0))), (x8, .inl (cA 1, 4, .inl (fun _ => 0)))] (S := Unit) (fun (r : Int32) (u : Unit) => (r = (-1))) (fun (u : Unit) => []) := by
  refine zz_enteri (cc := cX16_module) (lv := [(0, .ref x1)]) hE 5 (by decide) rfl (Nat.le_of_ble_eq_true rfl) rfl ?_
  intro p e s m args below meth c X hr hin
  refine zz_aload_n X 0 dX16_module_0 rfl rfl ?_
  refine zz_callVi X (rest := []) (As := []) (kX16_take_1 hE l D cA K V x1 f1 hss (zq_len hf1_n (by simp only [List.length_set])) hf1_229) 0 (zgV zm_754 zm_755 zm_756 zm_451 zm_753) rfl (by decide +kernel) [0] [1, 2, 3, 4, 5, 6] [(x2, .inl (cA 1, 4096, .inl (fun _ => 0))), (x3, .inl (cA 0, 17000, .inl (fun _ => 0))), (x5, .inl (cA 1, 13001, .inl (fun _ => 0))), (x4, .inl (cA 0, 40000, .inl (fun _ => 0))), (x6, .inl (cA 1, 13000, .inl (fun _ => 0))), (x8, .inl (cA 1, 4, .inl (fun _ => 0)))] rfl rfl (by decide) rfl (by decide) (by decide) ⟨Nat.le_of_ble_eq_true rfl, Nat.le_of_ble_eq_true rfl⟩ 0 rfl rfl rfl rfl rfl (Nat.le_of_ble_eq_true rfl) dX16_module_1 (Nat.le_of_ble_eq_true rfl) (Nat.le_of_ble_eq_true rfl) (fun r1 _ hw2 => ?_)
  obtain rfl := hw2
  refine zz_show (ws' := [(x2, .inl (cA 1, 4096, .inl (fun _ => 0))), (x3, .inl (cA 0, 17000, .inl (fun _ => 0))), (x5, .inl (cA 1, 13001, .inl (fun _ => 0))), (x4, .inl (cA 0, 40000, .inl (fun _ => 0))), (x6, .inl (cA 1, 13000, .inl (fun _ => 0))), (x8, .inl (cA 1, 4, .inl (fun _ => 0))), (x1, .inr (16, ((f1.set 227 (.int 0)).set 229 (.int 0))))]) rfl ?_
  refine zz_istore_n X [(1, .int 0), (0, .ref x1)] dX16_module_4 rfl (by decide) rfl ?_
  refine zz_aload_n X 1 dX16_module_5 rfl rfl ?_
  refine zz_iconst X (-1) dX16_module_6 rfl ?_
  refine zz_put X 6 215 rfl rfl (by decide) (fun w h => List.mem_cons_of_mem _ (zf_X16 w h)) rfl (List.mem_cons_of_mem _ zm_620) tyX16 tyX16_ok nmX16 rfl (ty := .int) rfl rfl rfl (zq_lt hf1_n (by decide) (by simp only [List.length_set])) dX16_module_7 [(x2, .inl (cA 1, 4096, .inl (fun _ => 0))), (x3, .inl (cA 0, 17000, .inl (fun _ => 0))), (x5, .inl (cA 1, 13001, .inl (fun _ => 0))), (x4, .inl (cA 0, 40000, .inl (fun _ => 0))), (x6, .inl (cA 1, 13000, .inl (fun _ => 0))), (x8, .inl (cA 1, 4, .inl (fun _ => 0))), (x1, .inr (16, (((f1.set 227 (.int 0)).set 229 (.int 0)).set 215 (.int (-1)))))] rfl ?_
  refine zz_aload_n X 1 dX16_module_10 rfl rfl ?_
  refine zz_callVv X (rest := []) (As := []) (kX16_clearTrees_1 hE l D cA K V x1 (((f1.set 227 (.int 0)).set 229 (.int 0)).set 215 (.int (-1))) x2 x3 x4 x5 x6 hss (zq_len hf1_n (by simp only [List.length_set])) (zq_oth (by decide) (zq_oth (by decide) (zq_oth (by decide) (hf1_19)))) (zq_oth (by decide) (zq_oth (by decide) (zq_oth (by decide) (hf1_0)))) (zq_oth (by decide) (zq_oth (by decide) (zq_oth (by decide) (hf1_16)))) (zq_oth (by decide) (zq_oth (by decide) (zq_oth (by decide) (hf1_17)))) (zq_oth (by decide) (zq_oth (by decide) (zq_oth (by decide) (hf1_18))))) 0 (zgV zm_779 zm_780 zm_781 zm_451 zm_778) rfl (by decide +kernel) [6, 0, 1, 2, 3, 4] [5] [(x8, .inl (cA 1, 4, .inl (fun _ => 0)))] rfl rfl (by decide) rfl (by decide) (by decide) ⟨Nat.le_of_ble_eq_true rfl, Nat.le_of_ble_eq_true rfl⟩ 0 rfl rfl rfl rfl rfl (Nat.le_of_ble_eq_true rfl) dX16_module_11 (Nat.le_of_ble_eq_true rfl) (Nat.le_of_ble_eq_true rfl) (fun uhw4 hw4 => ?_)
  obtain ⟨g3, rfl⟩ : ∃ z, z = uhw4 := ⟨_, rfl⟩
  have hq5 := hw4
  refine zz_show (ws' := [(x8, .inl (cA 1, 4, .inl (fun _ => 0))), (x1, .inr (16, ((((((((((((((((((f1.set 227 (.int 0)).set 229 (.int 0)).set 215 (.int (-1))).set 37 (.int 0)).set 42 (.int 0)).set 48 (.int 0)).set 20 (.int 0)).set 56 (.int 0)).set 63 (.int 0)).set 72 (.int 0)).set 20 (.int 1)).set 52 (.int 0)).set 20 (.int 2)).set 53 (.int 1)).set 20 (.int 3)).set 54 (.int 2)).set 20 (.int 4)).set 55 (.int 3)))), (x2, .inl (cA 1, 4096, .inl (upd (upd (upd (upd g3 95 1) 3170 2) 1994 3) 4010 4))), (x3, .inl (cA 0, 17000, .inl ((upd (upd (upd (upd (upd (upd (upd (upd (upd (upd (upd (upd (upd (fun _ => 0) 0 95) 0 115) 1 101) 2 116) 0 105) 1 110) 2 112) 3 117) 4 116) 0 100) 1 97) 2 116) 3 97)))), (x5, .inl (cA 1, 13001, .inl (upd (upd (upd (upd (fun _ => 0) 1 1) 2 4) 3 9) 4 13))), (x4, .inl (cA 0, 40000, .inl (upd (upd (upd (upd (upd (upd (upd (upd (upd (upd (upd (upd (upd (fun _ => 0) 0 95) 1 115) 2 101) 3 116) 4 105) 5 110) 6 112) 7 117) 8 116) 9 100) 10 97) 11 116) 12 97))), (x6, .inl (cA 1, 13000, .inl (upd (upd (upd (upd (fun _ => 0) 0 0) 1 0) 2 0) 3 0)))]) rfl ?_
  refine zz_aload_n X 1 dX16_module_14 rfl rfl ?_
  refine zz_aload_n X 1 dX16_module_15 rfl rfl ?_
  refine zz_get X 1 228 rfl rfl (by decide) (fun w h => List.mem_cons_of_mem _ (zf_X16 w h)) rfl (List.mem_cons_of_mem _ zm_623) (zq_oth (by decide) (zq_oth (by decide) (zq_oth (by decide) (zq_oth (by decide) (zq_oth (by decide) (zq_oth (by decide) (zq_oth (by decide) (zq_oth (by decide) (zq_oth (by decide) (zq_oth (by decide) (zq_oth (by decide) (zq_oth (by decide) (zq_oth (by decide) (zq_oth (by decide) (zq_oth (by decide) (zq_oth (by decide) (zq_oth (by decide) (zq_oth (by decide) (hf1_228))))))))))))))))))) dX16_module_16 ?_
  refine zz_iload_n X 0 dX16_module_19 rfl rfl ?_
  refine zz_callVi X (rest := []) (As := [.ref x7, .int 0]) (kX16_readModule_1 hE l D cA K V x1 x7 ((((((((((((((((((f1.set 227 (.int 0)).set 229 (.int 0)).set 215 (.int (-1))).set 37 (.int 0)).set 42 (.int 0)).set 48 (.int 0)).set 20 (.int 0)).set 56 (.int 0)).set 63 (.int 0)).set 72 (.int 0)).set 20 (.int 1)).set 52 (.int 0)).set 20 (.int 2)).set 53 (.int 1)).set 20 (.int 3)).set 54 (.int 2)).set 20 (.int 4)).set 55 (.int 3)) x8 hss (zq_len hf1_n (by simp only [List.length_set])) (zq_oth (by decide) (zq_oth (by decide) (zq_oth (by decide) (zq_oth (by decide) (zq_oth (by decide) (zq_oth (by decide) (zq_oth (by decide) (zq_oth (by decide) ((zq_same (zq_lt hf1_n (by decide) (by simp only [List.length_set])))))))))))) (zq_oth (by decide) (zq_oth (by decide) (zq_oth (by decide) (zq_oth (by decide) (zq_oth (by decide) (zq_oth (by decide) (zq_oth (by decide) (zq_oth (by decide) (zq_oth (by decide) (zq_oth (by decide) (zq_oth (by decide) (zq_oth (by decide) (zq_oth (by decide) (zq_oth (by decide) (zq_oth (by decide) (zq_oth (by decide) (zq_oth (by decide) (zq_oth (by decide) (hf1_57))))))))))))))))))) (zq_oth (by decide) (zq_oth (by decide) (zq_oth (by decide) (zq_oth (by decide) (zq_oth (by decide) (zq_oth (by decide) (zq_oth (by decide) (zq_oth (by decide) (zq_oth (by decide) (zq_oth (by decide) ((zq_same (zq_lt hf1_n (by decide) (by simp only [List.length_set])))))))))))))) (zq_oth (by decide) (zq_oth (by decide) (zq_oth (by decide) (zq_oth (by decide) (zq_oth (by decide) (zq_oth (by decide) (zq_oth (by decide) (zq_oth (by decide) (zq_oth (by decide) ((zq_same (zq_lt hf1_n (by decide) (by simp only [List.length_set])))))))))))))) 2 (zgV zm_829 zm_830 zm_831 zm_451 zm_828) rfl (by decide +kernel) [1, 0] [2, 3, 4, 5, 6] [(x2, .inl (cA 1, 4096, .inl (upd (upd (upd (upd g3 95 1) 3170 2) 1994 3) 4010 4))), (x3, .inl (cA 0, 17000, .inl ((upd (upd (upd (upd (upd (upd (upd (upd (upd (upd (upd (upd (upd (fun _ => 0) 0 95) 0 115) 1 101) 2 116) 0 105) 1 110) 2 112) 3 117) 4 116) 0 100) 1 97) 2 116) 3 97)))), (x5, .inl (cA 1, 13001, .inl (upd (upd (upd (upd (fun _ => 0) 1 1) 2 4) 3 9) 4 13))), (x4, .inl (cA 0, 40000, .inl (upd (upd (upd (upd (upd (upd (upd (upd (upd (upd (upd (upd (upd (fun _ => 0) 0 95) 1 115) 2 101) 3 116) 4 105) 5 110) 6 112) 7 117) 8 116) 9 100) 10 97) 11 116) 12 97))), (x6, .inl (cA 1, 13000, .inl (upd (upd (upd (upd (fun _ => 0) 0 0) 1 0) 2 0) 3 0)))] rfl rfl (by decide) rfl (by decide) (by decide) ⟨Nat.le_of_ble_eq_true rfl, Nat.le_of_ble_eq_true rfl⟩ 0 rfl rfl rfl rfl rfl (Nat.le_of_ble_eq_true rfl) dX16_module_20 (Nat.le_of_ble_eq_true rfl) (Nat.le_of_ble_eq_true rfl) (fun r6 _ hw7 => ?_)
  obtain rfl := hw7
  refine zz_show (ws' := [(x2, .inl (cA 1, 4096, .inl (upd (upd (upd (upd g3 95 1) 3170 2) 1994 3) 4010 4))), (x3, .inl (cA 0, 17000, .inl ((upd (upd (upd (upd (upd (upd (upd (upd (upd (upd (upd (upd (upd (fun _ => 0) 0 95) 0 115) 1 101) 2 116) 0 105) 1 110) 2 112) 3 117) 4 116) 0 100) 1 97) 2 116) 3 97)))), (x5, .inl (cA 1, 13001, .inl (upd (upd (upd (upd (fun _ => 0) 1 1) 2 4) 3 9) 4 13))), (x4, .inl (cA 0, 40000, .inl (upd (upd (upd (upd (upd (upd (upd (upd (upd (upd (upd (upd (upd (fun _ => 0) 0 95) 1 115) 2 101) 3 116) 4 105) 5 110) 6 112) 7 117) 8 116) 9 100) 10 97) 11 116) 12 97))), (x6, .inl (cA 1, 13000, .inl (upd (upd (upd (upd (fun _ => 0) 0 0) 1 0) 2 0) 3 0))), (x1, .inr (16, ((((((((((((((((((((((((((((((((f1.set 227 (.int 0)).set 229 (.int 0)).set 215 (.int (-1))).set 37 (.int 0)).set 42 (.int 0)).set 48 (.int 0)).set 20 (.int 0)).set 56 (.int 0)).set 63 (.int 0)).set 72 (.int 0)).set 20 (.int 1)).set 52 (.int 0)).set 20 (.int 2)).set 53 (.int 1)).set 20 (.int 3)).set 54 (.int 2)).set 20 (.int 4)).set 55 (.int 3)).set 21 (.ref x7)).set 22 (.int 0)).set 28 (.int (-1))).set 26 (.int 0)).set 29 (.int 0)).set 30 (.int 0)).set 25 (.int 0)).set 27 (.int (-1))).set 2 (.int (-1))).set 23 (.int 0)).set 26 (.int 0)).set 50 (.int 0)).set 28 (.int 0)).set 56 (.int 1)))), (x8, .inl (cA 1, 4, .inl (upd (fun _ => 0) 0 (-1))))]) rfl ?_
  refine zz_istore_n X [(2, .int 0), (1, .int 0), (0, .ref x1)] dX16_module_23 rfl (by decide) rfl ?_
  refine zz_aload_n X 2 dX16_module_24 rfl rfl ?_
  refine zz_callVi X (rest := []) (As := []) (kX16_bad_2 hE l D cA K V x1 ((((((((((((((((((((((((((((((((f1.set 227 (.int 0)).set 229 (.int 0)).set 215 (.int (-1))).set 37 (.int 0)).set 42 (.int 0)).set 48 (.int 0)).set 20 (.int 0)).set 56 (.int 0)).set 63 (.int 0)).set 72 (.int 0)).set 20 (.int 1)).set 52 (.int 0)).set 20 (.int 2)).set 53 (.int 1)).set 20 (.int 3)).set 54 (.int 2)).set 20 (.int 4)).set 55 (.int 3)).set 21 (.ref x7)).set 22 (.int 0)).set 28 (.int (-1))).set 26 (.int 0)).set 29 (.int 0)).set 30 (.int 0)).set 25 (.int 0)).set 27 (.int (-1))).set 2 (.int (-1))).set 23 (.int 0)).set 26 (.int 0)).set 50 (.int 0)).set 28 (.int 0)).set 56 (.int 1)) hss (zq_len hf1_n (by simp only [List.length_set])) (zq_oth (by decide) ((zq_same (zq_lt hf1_n (by decide) (by simp only [List.length_set])))))) 0 (zgV zm_805 zm_806 zm_807 zm_451 zm_804) rfl (by decide +kernel) [5] [0, 1, 2, 3, 4, 6] [(x2, .inl (cA 1, 4096, .inl (upd (upd (upd (upd g3 95 1) 3170 2) 1994 3) 4010 4))), (x3, .inl (cA 0, 17000, .inl ((upd (upd (upd (upd (upd (upd (upd (upd (upd (upd (upd (upd (upd (fun _ => 0) 0 95) 0 115) 1 101) 2 116) 0 105) 1 110) 2 112) 3 117) 4 116) 0 100) 1 97) 2 116) 3 97)))), (x5, .inl (cA 1, 13001, .inl (upd (upd (upd (upd (fun _ => 0) 1 1) 2 4) 3 9) 4 13))), (x4, .inl (cA 0, 40000, .inl (upd (upd (upd (upd (upd (upd (upd (upd (upd (upd (upd (upd (upd (fun _ => 0) 0 95) 1 115) 2 101) 3 116) 4 105) 5 110) 6 112) 7 117) 8 116) 9 100) 10 97) 11 116) 12 97))), (x6, .inl (cA 1, 13000, .inl (upd (upd (upd (upd (fun _ => 0) 0 0) 1 0) 2 0) 3 0))), (x8, .inl (cA 1, 4, .inl (upd (fun _ => 0) 0 (-1))))] rfl rfl (by decide) rfl (by decide) (by decide) ⟨Nat.le_of_ble_eq_true rfl, Nat.le_of_ble_eq_true rfl⟩ 0 rfl rfl rfl rfl rfl (Nat.le_of_ble_eq_true rfl) dX16_module_25 (Nat.le_of_ble_eq_true rfl) (Nat.le_of_ble_eq_true rfl) (fun r8 _ hw9 => ?_)
  obtain rfl := hw9
  refine zz_show (ws' := [(x2, .inl (cA 1, 4096, .inl (upd (upd (upd (upd g3 95 1) 3170 2) 1994 3) 4010 4))), (x3, .inl (cA 0, 17000, .inl ((upd (upd (upd (upd (upd (upd (upd (upd (upd (upd (upd (upd (upd (fun _ => 0) 0 95) 0 115) 1 101) 2 116) 0 105) 1 110) 2 112) 3 117) 4 116) 0 100) 1 97) 2 116) 3 97)))), (x5, .inl (cA 1, 13001, .inl (upd (upd (upd (upd (fun _ => 0) 1 1) 2 4) 3 9) 4 13))), (x4, .inl (cA 0, 40000, .inl (upd (upd (upd (upd (upd (upd (upd (upd (upd (upd (upd (upd (upd (fun _ => 0) 0 95) 1 115) 2 101) 3 116) 4 105) 5 110) 6 112) 7 117) 8 116) 9 100) 10 97) 11 116) 12 97))), (x6, .inl (cA 1, 13000, .inl (upd (upd (upd (upd (fun _ => 0) 0 0) 1 0) 2 0) 3 0))), (x8, .inl (cA 1, 4, .inl (upd (fun _ => 0) 0 (-1)))), (x1, .inr (16, ((((((((((((((((((((((((((((((((f1.set 227 (.int 0)).set 229 (.int 0)).set 215 (.int (-1))).set 37 (.int 0)).set 42 (.int 0)).set 48 (.int 0)).set 20 (.int 0)).set 56 (.int 0)).set 63 (.int 0)).set 72 (.int 0)).set 20 (.int 1)).set 52 (.int 0)).set 20 (.int 2)).set 53 (.int 1)).set 20 (.int 3)).set 54 (.int 2)).set 20 (.int 4)).set 55 (.int 3)).set 21 (.ref x7)).set 22 (.int 0)).set 28 (.int (-1))).set 26 (.int 0)).set 29 (.int 0)).set 30 (.int 0)).set 25 (.int 0)).set 27 (.int (-1))).set 2 (.int (-1))).set 23 (.int 0)).set 26 (.int 0)).set 50 (.int 0)).set 28 (.int 0)).set 56 (.int 1))))]) rfl ?_
  refine zz_if_eq X 38 dX16_module_28 (by decide) (fun h => absurd h (by decide)) (fun _ => ?_)
  refine zz_iconst X (-1) dX16_module_31 rfl ?_
  refine zz_aload_n X 2 dX16_module_32 rfl rfl ?_
  refine zz_get X 6 28 rfl rfl (by decide) (fun w h => List.mem_cons_of_mem _ (zf_X16 w h)) rfl (List.mem_cons_of_mem _ zm_784) (zq_oth (by decide) ((zq_same (zq_lt hf1_n (by decide) (by simp only [List.length_set]))))) dX16_module_33 ?_
  refine zz_isub X ((-1)) dX16_module_36 (by decide) ?_
  exact zz_iret X hr (()) [] (by decide) rfl rfl (Nat.le_of_ble_eq_true rfl) (Nat.le_of_ble_eq_true rfl) (rfl) dX16_module_37

set_option maxHeartbeats 4000000 in
set_option maxRecDepth 100000 in
/-- drop -/
theorem kX16_drop_1 {E : zEn} (hE : zOk E) (l : Launch) (D : va_G) (cA : Nat → ClassId) (K : Nat → Nat) (V : Nat → Nat) (x1 : Nat) (f1 : List Value) (x2 : Nat) (x3 : Nat) (hss : zSS E K V) (hf1_n : f1.length = 243) (hf1_210 : f1[210]? = some (.ref x2)) (hf1_214 : f1[214]? = some (.int 1)) (hf1_211 : f1[211]? = some (.ref x3)) : zMi E l yX16_drop zwX16_drop ({ frames := 0, cells := 0, slots := 0, locals := 0 }) D vwCl (zT cA) [.ref x1] [(x1, .inr (16, f1)), (x2, .inl (cA 1, 6, .inl (fun _ => 0))), (x3, .inl (cA 1, 6, .inl (upd (upd (fun _ => 0) 0 1) 1 1)))] (S := Unit) (fun (r : Int32) (u : Unit) => (r = 0)) (fun (u : Unit) => []) := by
  refine zz_enteri (cc := cX16_drop) (lv := [(0, .ref x1)]) hE 2 (by decide) rfl (Nat.le_of_ble_eq_true rfl) rfl ?_
  intro p e s m args below meth c X hr hin
  refine zz_aload_n X 0 dX16_drop_0 rfl rfl ?_
  refine zz_iconst X 0 dX16_drop_1 rfl ?_
  refine zz_put X 0 227 rfl rfl (by decide) (fun w h => List.mem_cons_of_mem _ (zf_X16 w h)) rfl (List.mem_cons_of_mem _ zm_655) tyX16 tyX16_ok nmX16 rfl (ty := .int) rfl rfl rfl (zq_lt hf1_n (by decide) (by simp only [List.length_set])) dX16_drop_2 [(x1, .inr (16, (f1.set 227 (.int 0)))), (x2, .inl (cA 1, 6, .inl (fun _ => 0))), (x3, .inl (cA 1, 6, .inl (upd (upd (fun _ => 0) 0 1) 1 1)))] rfl ?_
  refine zz_aload_n X 0 dX16_drop_5 rfl rfl ?_
  refine zz_get X 0 210 rfl rfl (by decide) (fun w h => List.mem_cons_of_mem _ (zf_X16 w h)) rfl (List.mem_cons_of_mem _ zm_615) (zq_oth (by decide) (hf1_210)) dX16_drop_6 ?_
  refine zz_iconst X 0 dX16_drop_9 rfl ?_
  refine zz_iald X 1 1 rfl rfl (vp_in_nI (n := 0) (by decide) (by decide)) (0) rfl dX16_drop_10 ?_
  refine zz_istore_n X [(1, .int 0), (0, .ref x1)] dX16_drop_11 rfl (by decide) rfl ?_
  refine zz_aload_n X 1 dX16_drop_12 rfl rfl ?_
  refine zz_get X 0 210 rfl rfl (by decide) (fun w h => List.mem_cons_of_mem _ (zf_X16 w h)) rfl (List.mem_cons_of_mem _ zm_615) (zq_oth (by decide) (hf1_210)) dX16_drop_13 ?_
  refine zz_iconst X 0 dX16_drop_16 rfl ?_
  refine zz_iconst X 0 dX16_drop_17 rfl ?_
  refine zz_iast X 1 1 rfl rfl (vp_in_nI (n := 0) (by decide) (by decide)) 0 (by decide) dX16_drop_18 [(x1, .inr (16, (f1.set 227 (.int 0)))), (x2, .inl (cA 1, 6, .inl (upd (fun _ => 0) 0 0))), (x3, .inl (cA 1, 6, .inl (upd (upd (fun _ => 0) 0 1) 1 1)))] rfl ?_
  refine zz_aload_n X 1 dX16_drop_19 rfl rfl ?_
  refine zz_dup X dX16_drop_20 rfl ?_
  refine zz_get X 0 214 rfl rfl (by decide) (fun w h => List.mem_cons_of_mem _ (zf_X16 w h)) rfl (List.mem_cons_of_mem _ zm_619) (zq_oth (by decide) (hf1_214)) dX16_drop_21 ?_
  refine zz_iconst X 1 dX16_drop_24 rfl ?_
  refine zz_iadd X (2) dX16_drop_25 (by decide) ?_
  refine zz_put X 0 214 rfl rfl (by decide) (fun w h => List.mem_cons_of_mem _ (zf_X16 w h)) rfl (List.mem_cons_of_mem _ zm_619) tyX16 tyX16_ok nmX16 rfl (ty := .int) rfl rfl rfl (zq_lt hf1_n (by decide) (by simp only [List.length_set])) dX16_drop_26 [(x1, .inr (16, ((f1.set 227 (.int 0)).set 214 (.int 2)))), (x2, .inl (cA 1, 6, .inl (upd (fun _ => 0) 0 0))), (x3, .inl (cA 1, 6, .inl (upd (upd (fun _ => 0) 0 1) 1 1)))] rfl ?_
  refine zz_aload_n X 1 dX16_drop_29 rfl rfl ?_
  refine zz_get X 0 211 rfl rfl (by decide) (fun w h => List.mem_cons_of_mem _ (zf_X16 w h)) rfl (List.mem_cons_of_mem _ zm_616) (zq_oth (by decide) (zq_oth (by decide) (hf1_211))) dX16_drop_30 ?_
  refine zz_iconst X 0 dX16_drop_33 rfl ?_
  refine zz_aload_n X 1 dX16_drop_34 rfl rfl ?_
  refine zz_get X 0 214 rfl rfl (by decide) (fun w h => List.mem_cons_of_mem _ (zf_X16 w h)) rfl (List.mem_cons_of_mem _ zm_619) (zq_same (zq_lt hf1_n (by decide) (by simp only [List.length_set]))) dX16_drop_35 ?_
  refine zz_iast X 2 1 rfl rfl (vp_in_nI (n := 0) (by decide) (by decide)) 0 (by decide) dX16_drop_38 [(x1, .inr (16, ((f1.set 227 (.int 0)).set 214 (.int 2)))), (x2, .inl (cA 1, 6, .inl (upd (fun _ => 0) 0 0))), (x3, .inl (cA 1, 6, .inl (upd (upd (upd (fun _ => 0) 0 1) 1 1) 0 2)))] rfl ?_
  refine zz_iload_n X 0 dX16_drop_39 rfl rfl ?_
  exact zz_iret X hr (()) [] (by decide) rfl rfl (Nat.le_of_ble_eq_true rfl) (Nat.le_of_ble_eq_true rfl) (rfl) dX16_drop_40

set_option maxHeartbeats 4000000 in
set_option maxRecDepth 100000 in
/-- gatherRules -/
theorem kX16_gatherRules_1 {E : zEn} (hE : zOk E) (l : Launch) (D : va_G) (cA : Nat → ClassId) (K : Nat → Nat) (V : Nat → Nat) (x1 : Nat) (f1 : List Value) (hss : zSS E K V) (hf1_n : f1.length = 243) (hf1_56 : f1[56]? = some (.int 0)) (hf1_72 : f1[72]? = some (.int 0)) : zMv E l yX16_gatherRules zwX16_gatherRules ({ frames := 0, cells := 0, slots := 0, locals := 0 }) D vwCl (zT cA) [.ref x1] [(x1, .inr (16, f1))] (S := Unit) (fun (u : Unit) => (True)) (fun (u : Unit) => [(x1, .inr (16, (f1.set 78 (.int 0))))]) := by
  refine zz_enterv (cc := cX16_gatherRules) (lv := [(0, .ref x1)]) hE 5 (by decide) rfl (Nat.le_of_ble_eq_true rfl) rfl ?_
  intro p e s m args below meth c X hr hin
  refine zz_aload_n X 0 dX16_gatherRules_0 rfl rfl ?_
  refine zz_iconst X 0 dX16_gatherRules_1 rfl ?_
  refine zz_put X 0 78 rfl rfl (by decide) (fun w h => List.mem_cons_of_mem _ (zf_X16 w h)) rfl (List.mem_cons_of_mem _ zm_856) tyX16 tyX16_ok nmX16 rfl (ty := .int) rfl rfl rfl (zq_lt hf1_n (by decide) (by simp only [List.length_set])) dX16_gatherRules_2 [(x1, .inr (16, (f1.set 78 (.int 0))))] rfl ?_
  refine zz_iconst X 0 dX16_gatherRules_5 rfl ?_
  refine zz_istore_n X [(1, .int 0), (0, .ref x1)] dX16_gatherRules_6 rfl (by decide) rfl ?_
  refine zz_iload_n X 0 dX16_gatherRules_7 rfl rfl ?_
  refine zz_aload_n X 1 dX16_gatherRules_8 rfl rfl ?_
  refine zz_get X 0 56 rfl rfl (by decide) (fun w h => List.mem_cons_of_mem _ (zf_X16 w h)) rfl (List.mem_cons_of_mem _ zm_761) (zq_oth (by decide) (hf1_56)) dX16_gatherRules_9 ?_
  refine zz_icmp_ge X 52 dX16_gatherRules_12 (by decide) (fun _ => ?_) (fun h => absurd (by decide) h)
  refine zz_iconst X 0 dX16_gatherRules_52 rfl ?_
  refine zz_istore_n X [(1, .int 0), (0, .ref x1)] dX16_gatherRules_53 rfl (by decide) rfl ?_
  refine zz_iload_n X 0 dX16_gatherRules_54 rfl rfl ?_
  refine zz_aload_n X 1 dX16_gatherRules_55 rfl rfl ?_
  refine zz_get X 0 72 rfl rfl (by decide) (fun w h => List.mem_cons_of_mem _ (zf_X16 w h)) rfl (List.mem_cons_of_mem _ zm_763) (zq_oth (by decide) (hf1_72)) dX16_gatherRules_56 ?_
  refine zz_icmp_ge X 269 dX16_gatherRules_59 (by decide) (fun _ => ?_) (fun h => absurd (by decide) h)
  refine zz_iconst X 0 dX16_gatherRules_269 rfl ?_
  refine zz_istore_n X [(1, .int 0), (0, .ref x1)] dX16_gatherRules_270 rfl (by decide) rfl ?_
  refine zz_iload_n X 0 dX16_gatherRules_271 rfl rfl ?_
  refine zz_aload_n X 1 dX16_gatherRules_272 rfl rfl ?_
  refine zz_get X 0 78 rfl rfl (by decide) (fun w h => List.mem_cons_of_mem _ (zf_X16 w h)) rfl (List.mem_cons_of_mem _ zm_856) (zq_same (zq_lt hf1_n (by decide) (by simp only [List.length_set]))) dX16_gatherRules_273 ?_
  refine zz_icmp_ge X 302 dX16_gatherRules_276 (by decide) (fun _ => ?_) (fun h => absurd (by decide) h)
  exact zz_vret X hr (()) [0] (by decide) rfl rfl (Nat.le_of_ble_eq_true rfl) (Nat.le_of_ble_eq_true rfl) (trivial) dX16_gatherRules_302

set_option maxHeartbeats 4000000 in
set_option maxRecDepth 100000 in
/-- findClash -/
theorem kX16_findClash_1 {E : zEn} (hE : zOk E) (l : Launch) (D : va_G) (cA : Nat → ClassId) (K : Nat → Nat) (V : Nat → Nat) (x1 : Nat) (f1 : List Value) (hss : zSS E K V) (hf1_n : f1.length = 243) (hf1_56 : f1[56]? = some (.int 0)) : zMv E l yX16_findClash zwX16_findClash ({ frames := 0, cells := 0, slots := 0, locals := 0 }) D vwCl (zT cA) [.ref x1] [(x1, .inr (16, f1))] (S := Unit) (fun (u : Unit) => (True)) (fun (u : Unit) => [(x1, .inr (16, f1))]) := by
  refine zz_enterv (cc := cX16_findClash) (lv := [(0, .ref x1)]) hE 3 (by decide) rfl (Nat.le_of_ble_eq_true rfl) rfl ?_
  intro p e s m args below meth c X hr hin
  refine zz_iconst X 0 dX16_findClash_0 rfl ?_
  refine zz_istore_n X [(1, .int 0), (0, .ref x1)] dX16_findClash_1 rfl (by decide) rfl ?_
  refine zz_iload_n X 0 dX16_findClash_2 rfl rfl ?_
  refine zz_aload_n X 1 dX16_findClash_3 rfl rfl ?_
  refine zz_get X 0 56 rfl rfl (by decide) (fun w h => List.mem_cons_of_mem _ (zf_X16 w h)) rfl (List.mem_cons_of_mem _ zm_761) hf1_56 dX16_findClash_4 ?_
  refine zz_icmp_ge X 108 dX16_findClash_7 (by decide) (fun _ => ?_) (fun h => absurd (by decide) h)
  exact zz_vret X hr (()) [0] (by decide) rfl rfl (Nat.le_of_ble_eq_true rfl) (Nat.le_of_ble_eq_true rfl) (trivial) dX16_findClash_108

set_option maxHeartbeats 4000000 in
set_option maxRecDepth 100000 in
/-- isFaulty -/
theorem kX16_isFaulty_1 {E : zEn} (hE : zOk E) (l : Launch) (D : va_G) (cA : Nat → ClassId) (K : Nat → Nat) (V : Nat → Nat) (x1 : Nat) (f1 : List Value) (hss : zSS E K V) (hf1_n : f1.length = 243) (hf1_83 : f1[83]? = some (.int 0)) : zMi E l yX16_isFaulty zwX16_isFaulty ({ frames := 0, cells := 0, slots := 0, locals := 0 }) D vwCl (zT cA) [.ref x1] [(x1, .inr (16, f1))] (S := Unit) (fun (r : Int32) (u : Unit) => (r = 0)) (fun (u : Unit) => [(x1, .inr (16, f1))]) := by
  refine zz_enterz (cc := cX16_isFaulty) (lv := [(0, .ref x1)]) hE 1 (by decide) rfl (Nat.le_of_ble_eq_true rfl) rfl ?_
  intro p e s m args below meth c X hr hin
  refine zz_aload_n X 0 dX16_isFaulty_0 rfl rfl ?_
  refine zz_get X 0 83 rfl rfl (by decide) (fun w h => List.mem_cons_of_mem _ (zf_X16 w h)) rfl (List.mem_cons_of_mem _ zm_854) hf1_83 dX16_isFaulty_1 ?_
  refine zz_if_eq X 11 dX16_isFaulty_4 (by decide) (fun _ => ?_) (fun h => absurd (by decide) h)
  refine zz_iconst X 0 dX16_isFaulty_11 rfl ?_
  exact zz_zret X hr (by decide) (()) [0] (by decide) rfl rfl (Nat.le_of_ble_eq_true rfl) (Nat.le_of_ble_eq_true rfl) (rfl) dX16_isFaulty_12

set_option maxHeartbeats 4000000 in
set_option maxRecDepth 100000 in
/-- findReads -/
theorem kX16_findReads_1 {E : zEn} (hE : zOk E) (l : Launch) (D : va_G) (cA : Nat → ClassId) (K : Nat → Nat) (V : Nat → Nat) (x1 : Nat) (f1 : List Value) (hss : zSS E K V) (hf1_n : f1.length = 243) (hf1_78 : f1[78]? = some (.int 0)) : zMv E l yX16_findReads zwX16_findReads ({ frames := 0, cells := 0, slots := 0, locals := 0 }) D vwCl (zT cA) [.ref x1] [(x1, .inr (16, f1))] (S := Unit) (fun (u : Unit) => (True)) (fun (u : Unit) => [(x1, .inr (16, f1))]) := by
  refine zz_enterv (cc := cX16_findReads) (lv := [(0, .ref x1)]) hE 4 (by decide) rfl (Nat.le_of_ble_eq_true rfl) rfl ?_
  intro p e s m args below meth c X hr hin
  refine zz_iconst X 0 dX16_findReads_0 rfl ?_
  refine zz_istore_n X [(1, .int 0), (0, .ref x1)] dX16_findReads_1 rfl (by decide) rfl ?_
  refine zz_iload_n X 0 dX16_findReads_2 rfl rfl ?_
  refine zz_aload_n X 1 dX16_findReads_3 rfl rfl ?_
  refine zz_get X 0 78 rfl rfl (by decide) (fun w h => List.mem_cons_of_mem _ (zf_X16 w h)) rfl (List.mem_cons_of_mem _ zm_856) hf1_78 dX16_findReads_4 ?_
  refine zz_icmp_ge X 136 dX16_findReads_7 (by decide) (fun _ => ?_) (fun h => absurd (by decide) h)
  refine zz_iconst X 0 dX16_findReads_136 rfl ?_
  refine zz_istore_n X [(1, .int 0), (0, .ref x1)] dX16_findReads_137 rfl (by decide) rfl ?_
  refine zz_iload_n X 0 dX16_findReads_138 rfl rfl ?_
  refine zz_bipush X 7 dX16_findReads_139 rfl ?_
  refine zz_aload_n X 1 dX16_findReads_141 rfl rfl ?_
  refine zz_get X 0 78 rfl rfl (by decide) (fun w h => List.mem_cons_of_mem _ (zf_X16 w h)) rfl (List.mem_cons_of_mem _ zm_856) hf1_78 dX16_findReads_142 ?_
  refine zz_imul X (0) dX16_findReads_145 (by decide) ?_
  refine zz_icmp_ge X 167 dX16_findReads_146 (by decide) (fun _ => ?_) (fun h => absurd (by decide) h)
  refine zz_iconst X 0 dX16_findReads_167 rfl ?_
  refine zz_istore_n X [(1, .int 0), (0, .ref x1)] dX16_findReads_168 rfl (by decide) rfl ?_
  refine zz_iload_n X 0 dX16_findReads_169 rfl rfl ?_
  refine zz_aload_n X 1 dX16_findReads_170 rfl rfl ?_
  refine zz_get X 0 78 rfl rfl (by decide) (fun w h => List.mem_cons_of_mem _ (zf_X16 w h)) rfl (List.mem_cons_of_mem _ zm_856) hf1_78 dX16_findReads_171 ?_
  refine zz_icmp_ge X 253 dX16_findReads_174 (by decide) (fun _ => ?_) (fun h => absurd (by decide) h)
  exact zz_vret X hr (()) [0] (by decide) rfl rfl (Nat.le_of_ble_eq_true rfl) (Nat.le_of_ble_eq_true rfl) (trivial) dX16_findReads_253

set_option maxHeartbeats 4000000 in
set_option maxRecDepth 100000 in
/-- checkReads -/
theorem kX16_checkReads_1 {E : zEn} (hE : zOk E) (l : Launch) (D : va_G) (cA : Nat → ClassId) (K : Nat → Nat) (V : Nat → Nat) (x1 : Nat) (f1 : List Value) (hss : zSS E K V) (hf1_n : f1.length = 243) (hf1_78 : f1[78]? = some (.int 0)) (hf1_83 : f1[83]? = some (.int 0)) : zMv E l yX16_checkReads zwX16_checkReads ({ frames := 1, cells := 0, slots := 0, locals := 20 }) D vwCl (zT cA) [.ref x1] [(x1, .inr (16, f1))] (S := Unit) (fun (u : Unit) => (True)) (fun (u : Unit) => [(x1, .inr (16, f1))]) := by
  refine zz_enterv (cc := cX16_checkReads) (lv := [(0, .ref x1)]) hE 4 (by decide) rfl (Nat.le_of_ble_eq_true rfl) rfl ?_
  intro p e s m args below meth c X hr hin
  refine zz_iconst X 0 dX16_checkReads_0 rfl ?_
  refine zz_istore_n X [(1, .int 0), (0, .ref x1)] dX16_checkReads_1 rfl (by decide) rfl ?_
  refine zz_iload_n X 0 dX16_checkReads_2 rfl rfl ?_
  refine zz_aload_n X 1 dX16_checkReads_3 rfl rfl ?_
  refine zz_get X 0 78 rfl rfl (by decide) (fun w h => List.mem_cons_of_mem _ (zf_X16 w h)) rfl (List.mem_cons_of_mem _ zm_856) hf1_78 dX16_checkReads_4 ?_
  refine zz_icmp_ge X 56 dX16_checkReads_7 (by decide) (fun _ => ?_) (fun h => absurd (by decide) h)
  refine zz_aload_n X 1 dX16_checkReads_56 rfl rfl ?_
  refine zz_callVi X (rest := []) (As := []) (kX16_isFaulty_1 hE l D cA K V x1 f1 hss (zq_len hf1_n (by simp only [List.length_set])) hf1_83) 0 (zgV zm_866 zm_867 zm_868 zm_451 zm_865) rfl (by decide +kernel) [0] [] [] rfl rfl (by decide) rfl (by decide) (by decide) ⟨Nat.le_of_ble_eq_true rfl, Nat.le_of_ble_eq_true rfl⟩ 0 rfl rfl rfl rfl rfl (Nat.le_of_ble_eq_true rfl) dX16_checkReads_57 (Nat.le_of_ble_eq_true rfl) (Nat.le_of_ble_eq_true rfl) (fun r1 _ hw2 => ?_)
  obtain rfl := hw2
  refine zz_show (ws' := [(x1, .inr (16, f1))]) rfl ?_
  refine zz_if_eq X 64 dX16_checkReads_60 (by decide) (fun _ => ?_) (fun h => absurd (by decide) h)
  refine zz_iconst X 0 dX16_checkReads_64 rfl ?_
  refine zz_istore_n X [(1, .int 0), (0, .ref x1)] dX16_checkReads_65 rfl (by decide) rfl ?_
  refine zz_iload_n X 0 dX16_checkReads_66 rfl rfl ?_
  refine zz_aload_n X 1 dX16_checkReads_67 rfl rfl ?_
  refine zz_get X 0 78 rfl rfl (by decide) (fun w h => List.mem_cons_of_mem _ (zf_X16 w h)) rfl (List.mem_cons_of_mem _ zm_856) hf1_78 dX16_checkReads_68 ?_
  refine zz_icmp_ge X 87 dX16_checkReads_71 (by decide) (fun _ => ?_) (fun h => absurd (by decide) h)
  refine zz_iconst X 0 dX16_checkReads_87 rfl ?_
  refine zz_istore_n X [(1, .int 0), (0, .ref x1)] dX16_checkReads_88 rfl (by decide) rfl ?_
  refine zz_iload_n X 0 dX16_checkReads_89 rfl rfl ?_
  refine zz_bipush X 14 dX16_checkReads_90 rfl ?_
  refine zz_icmp_ge X 174 dX16_checkReads_92 (by decide) (fun h => absurd h (by decide)) (fun _ => ?_)
  refine zz_iconst X 0 dX16_checkReads_95 rfl ?_
  refine zz_istore_n X [(2, .int 0), (1, .int 0), (0, .ref x1)] dX16_checkReads_96 rfl (by decide) rfl ?_
  refine zz_iload_n X 0 dX16_checkReads_97 rfl rfl ?_
  refine zz_aload_n X 2 dX16_checkReads_98 rfl rfl ?_
  refine zz_get X 0 78 rfl rfl (by decide) (fun w h => List.mem_cons_of_mem _ (zf_X16 w h)) rfl (List.mem_cons_of_mem _ zm_856) hf1_78 dX16_checkReads_99 ?_
  refine zz_icmp_ge X 168 dX16_checkReads_102 (by decide) (fun _ => ?_) (fun h => absurd (by decide) h)
  refine zz_iinc X 1 (1) [(1, .int 1), (2, .int 0), (0, .ref x1)] dX16_checkReads_168 rfl (by decide) (by decide) rfl ?_
  refine zz_goto X 89 dX16_checkReads_171 (by decide) ?_
  refine zz_iload_n X 0 dX16_checkReads_89 rfl rfl ?_
  refine zz_bipush X 14 dX16_checkReads_90 rfl ?_
  refine zz_icmp_ge X 174 dX16_checkReads_92 (by decide) (fun h => absurd h (by decide)) (fun _ => ?_)
  refine zz_iconst X 0 dX16_checkReads_95 rfl ?_
  refine zz_istore_n X [(2, .int 0), (1, .int 1), (0, .ref x1)] dX16_checkReads_96 rfl (by decide) rfl ?_
  refine zz_iload_n X 0 dX16_checkReads_97 rfl rfl ?_
  refine zz_aload_n X 2 dX16_checkReads_98 rfl rfl ?_
  refine zz_get X 0 78 rfl rfl (by decide) (fun w h => List.mem_cons_of_mem _ (zf_X16 w h)) rfl (List.mem_cons_of_mem _ zm_856) hf1_78 dX16_checkReads_99 ?_
  refine zz_icmp_ge X 168 dX16_checkReads_102 (by decide) (fun _ => ?_) (fun h => absurd (by decide) h)
  refine zz_iinc X 1 (2) [(1, .int 2), (2, .int 0), (0, .ref x1)] dX16_checkReads_168 rfl (by decide) (by decide) rfl ?_
  refine zz_goto X 89 dX16_checkReads_171 (by decide) ?_
  refine zz_iload_n X 0 dX16_checkReads_89 rfl rfl ?_
  refine zz_bipush X 14 dX16_checkReads_90 rfl ?_
  refine zz_icmp_ge X 174 dX16_checkReads_92 (by decide) (fun h => absurd h (by decide)) (fun _ => ?_)
  refine zz_iconst X 0 dX16_checkReads_95 rfl ?_
  refine zz_istore_n X [(2, .int 0), (1, .int 2), (0, .ref x1)] dX16_checkReads_96 rfl (by decide) rfl ?_
  refine zz_iload_n X 0 dX16_checkReads_97 rfl rfl ?_
  refine zz_aload_n X 2 dX16_checkReads_98 rfl rfl ?_
  refine zz_get X 0 78 rfl rfl (by decide) (fun w h => List.mem_cons_of_mem _ (zf_X16 w h)) rfl (List.mem_cons_of_mem _ zm_856) hf1_78 dX16_checkReads_99 ?_
  refine zz_icmp_ge X 168 dX16_checkReads_102 (by decide) (fun _ => ?_) (fun h => absurd (by decide) h)
  refine zz_iinc X 1 (3) [(1, .int 3), (2, .int 0), (0, .ref x1)] dX16_checkReads_168 rfl (by decide) (by decide) rfl ?_
  refine zz_goto X 89 dX16_checkReads_171 (by decide) ?_
  refine zz_iload_n X 0 dX16_checkReads_89 rfl rfl ?_
  refine zz_bipush X 14 dX16_checkReads_90 rfl ?_
  refine zz_icmp_ge X 174 dX16_checkReads_92 (by decide) (fun h => absurd h (by decide)) (fun _ => ?_)
  refine zz_iconst X 0 dX16_checkReads_95 rfl ?_
  refine zz_istore_n X [(2, .int 0), (1, .int 3), (0, .ref x1)] dX16_checkReads_96 rfl (by decide) rfl ?_
  refine zz_iload_n X 0 dX16_checkReads_97 rfl rfl ?_
  refine zz_aload_n X 2 dX16_checkReads_98 rfl rfl ?_
  refine zz_get X 0 78 rfl rfl (by decide) (fun w h => List.mem_cons_of_mem _ (zf_X16 w h)) rfl (List.mem_cons_of_mem _ zm_856) hf1_78 dX16_checkReads_99 ?_
  refine zz_icmp_ge X 168 dX16_checkReads_102 (by decide) (fun _ => ?_) (fun h => absurd (by decide) h)
  refine zz_iinc X 1 (4) [(1, .int 4), (2, .int 0), (0, .ref x1)] dX16_checkReads_168 rfl (by decide) (by decide) rfl ?_
  refine zz_goto X 89 dX16_checkReads_171 (by decide) ?_
  refine zz_iload_n X 0 dX16_checkReads_89 rfl rfl ?_
  refine zz_bipush X 14 dX16_checkReads_90 rfl ?_
  refine zz_icmp_ge X 174 dX16_checkReads_92 (by decide) (fun h => absurd h (by decide)) (fun _ => ?_)
  refine zz_iconst X 0 dX16_checkReads_95 rfl ?_
  refine zz_istore_n X [(2, .int 0), (1, .int 4), (0, .ref x1)] dX16_checkReads_96 rfl (by decide) rfl ?_
  refine zz_iload_n X 0 dX16_checkReads_97 rfl rfl ?_
  refine zz_aload_n X 2 dX16_checkReads_98 rfl rfl ?_
  refine zz_get X 0 78 rfl rfl (by decide) (fun w h => List.mem_cons_of_mem _ (zf_X16 w h)) rfl (List.mem_cons_of_mem _ zm_856) hf1_78 dX16_checkReads_99 ?_
  refine zz_icmp_ge X 168 dX16_checkReads_102 (by decide) (fun _ => ?_) (fun h => absurd (by decide) h)
  refine zz_iinc X 1 (5) [(1, .int 5), (2, .int 0), (0, .ref x1)] dX16_checkReads_168 rfl (by decide) (by decide) rfl ?_
  refine zz_goto X 89 dX16_checkReads_171 (by decide) ?_
  refine zz_iload_n X 0 dX16_checkReads_89 rfl rfl ?_
  refine zz_bipush X 14 dX16_checkReads_90 rfl ?_
  refine zz_icmp_ge X 174 dX16_checkReads_92 (by decide) (fun h => absurd h (by decide)) (fun _ => ?_)
  refine zz_iconst X 0 dX16_checkReads_95 rfl ?_
  refine zz_istore_n X [(2, .int 0), (1, .int 5), (0, .ref x1)] dX16_checkReads_96 rfl (by decide) rfl ?_
  refine zz_iload_n X 0 dX16_checkReads_97 rfl rfl ?_
  refine zz_aload_n X 2 dX16_checkReads_98 rfl rfl ?_
  refine zz_get X 0 78 rfl rfl (by decide) (fun w h => List.mem_cons_of_mem _ (zf_X16 w h)) rfl (List.mem_cons_of_mem _ zm_856) hf1_78 dX16_checkReads_99 ?_
  refine zz_icmp_ge X 168 dX16_checkReads_102 (by decide) (fun _ => ?_) (fun h => absurd (by decide) h)
  refine zz_iinc X 1 (6) [(1, .int 6), (2, .int 0), (0, .ref x1)] dX16_checkReads_168 rfl (by decide) (by decide) rfl ?_
  refine zz_goto X 89 dX16_checkReads_171 (by decide) ?_
  refine zz_iload_n X 0 dX16_checkReads_89 rfl rfl ?_
  refine zz_bipush X 14 dX16_checkReads_90 rfl ?_
  refine zz_icmp_ge X 174 dX16_checkReads_92 (by decide) (fun h => absurd h (by decide)) (fun _ => ?_)
  refine zz_iconst X 0 dX16_checkReads_95 rfl ?_
  refine zz_istore_n X [(2, .int 0), (1, .int 6), (0, .ref x1)] dX16_checkReads_96 rfl (by decide) rfl ?_
  refine zz_iload_n X 0 dX16_checkReads_97 rfl rfl ?_
  refine zz_aload_n X 2 dX16_checkReads_98 rfl rfl ?_
  refine zz_get X 0 78 rfl rfl (by decide) (fun w h => List.mem_cons_of_mem _ (zf_X16 w h)) rfl (List.mem_cons_of_mem _ zm_856) hf1_78 dX16_checkReads_99 ?_
  refine zz_icmp_ge X 168 dX16_checkReads_102 (by decide) (fun _ => ?_) (fun h => absurd (by decide) h)
  refine zz_iinc X 1 (7) [(1, .int 7), (2, .int 0), (0, .ref x1)] dX16_checkReads_168 rfl (by decide) (by decide) rfl ?_
  refine zz_goto X 89 dX16_checkReads_171 (by decide) ?_
  refine zz_iload_n X 0 dX16_checkReads_89 rfl rfl ?_
  refine zz_bipush X 14 dX16_checkReads_90 rfl ?_
  refine zz_icmp_ge X 174 dX16_checkReads_92 (by decide) (fun h => absurd h (by decide)) (fun _ => ?_)
  refine zz_iconst X 0 dX16_checkReads_95 rfl ?_
  refine zz_istore_n X [(2, .int 0), (1, .int 7), (0, .ref x1)] dX16_checkReads_96 rfl (by decide) rfl ?_
  refine zz_iload_n X 0 dX16_checkReads_97 rfl rfl ?_
  refine zz_aload_n X 2 dX16_checkReads_98 rfl rfl ?_
  refine zz_get X 0 78 rfl rfl (by decide) (fun w h => List.mem_cons_of_mem _ (zf_X16 w h)) rfl (List.mem_cons_of_mem _ zm_856) hf1_78 dX16_checkReads_99 ?_
  refine zz_icmp_ge X 168 dX16_checkReads_102 (by decide) (fun _ => ?_) (fun h => absurd (by decide) h)
  refine zz_iinc X 1 (8) [(1, .int 8), (2, .int 0), (0, .ref x1)] dX16_checkReads_168 rfl (by decide) (by decide) rfl ?_
  refine zz_goto X 89 dX16_checkReads_171 (by decide) ?_
  refine zz_iload_n X 0 dX16_checkReads_89 rfl rfl ?_
  refine zz_bipush X 14 dX16_checkReads_90 rfl ?_
  refine zz_icmp_ge X 174 dX16_checkReads_92 (by decide) (fun h => absurd h (by decide)) (fun _ => ?_)
  refine zz_iconst X 0 dX16_checkReads_95 rfl ?_
  refine zz_istore_n X [(2, .int 0), (1, .int 8), (0, .ref x1)] dX16_checkReads_96 rfl (by decide) rfl ?_
  refine zz_iload_n X 0 dX16_checkReads_97 rfl rfl ?_
  refine zz_aload_n X 2 dX16_checkReads_98 rfl rfl ?_
  refine zz_get X 0 78 rfl rfl (by decide) (fun w h => List.mem_cons_of_mem _ (zf_X16 w h)) rfl (List.mem_cons_of_mem _ zm_856) hf1_78 dX16_checkReads_99 ?_
  refine zz_icmp_ge X 168 dX16_checkReads_102 (by decide) (fun _ => ?_) (fun h => absurd (by decide) h)
  refine zz_iinc X 1 (9) [(1, .int 9), (2, .int 0), (0, .ref x1)] dX16_checkReads_168 rfl (by decide) (by decide) rfl ?_
  refine zz_goto X 89 dX16_checkReads_171 (by decide) ?_
  refine zz_iload_n X 0 dX16_checkReads_89 rfl rfl ?_
  refine zz_bipush X 14 dX16_checkReads_90 rfl ?_
  refine zz_icmp_ge X 174 dX16_checkReads_92 (by decide) (fun h => absurd h (by decide)) (fun _ => ?_)
  refine zz_iconst X 0 dX16_checkReads_95 rfl ?_
  refine zz_istore_n X [(2, .int 0), (1, .int 9), (0, .ref x1)] dX16_checkReads_96 rfl (by decide) rfl ?_
  refine zz_iload_n X 0 dX16_checkReads_97 rfl rfl ?_
  refine zz_aload_n X 2 dX16_checkReads_98 rfl rfl ?_
  refine zz_get X 0 78 rfl rfl (by decide) (fun w h => List.mem_cons_of_mem _ (zf_X16 w h)) rfl (List.mem_cons_of_mem _ zm_856) hf1_78 dX16_checkReads_99 ?_
  refine zz_icmp_ge X 168 dX16_checkReads_102 (by decide) (fun _ => ?_) (fun h => absurd (by decide) h)
  refine zz_iinc X 1 (10) [(1, .int 10), (2, .int 0), (0, .ref x1)] dX16_checkReads_168 rfl (by decide) (by decide) rfl ?_
  refine zz_goto X 89 dX16_checkReads_171 (by decide) ?_
  refine zz_iload_n X 0 dX16_checkReads_89 rfl rfl ?_
  refine zz_bipush X 14 dX16_checkReads_90 rfl ?_
  refine zz_icmp_ge X 174 dX16_checkReads_92 (by decide) (fun h => absurd h (by decide)) (fun _ => ?_)
  refine zz_iconst X 0 dX16_checkReads_95 rfl ?_
  refine zz_istore_n X [(2, .int 0), (1, .int 10), (0, .ref x1)] dX16_checkReads_96 rfl (by decide) rfl ?_
  refine zz_iload_n X 0 dX16_checkReads_97 rfl rfl ?_
  refine zz_aload_n X 2 dX16_checkReads_98 rfl rfl ?_
  refine zz_get X 0 78 rfl rfl (by decide) (fun w h => List.mem_cons_of_mem _ (zf_X16 w h)) rfl (List.mem_cons_of_mem _ zm_856) hf1_78 dX16_checkReads_99 ?_
  refine zz_icmp_ge X 168 dX16_checkReads_102 (by decide) (fun _ => ?_) (fun h => absurd (by decide) h)
  refine zz_iinc X 1 (11) [(1, .int 11), (2, .int 0), (0, .ref x1)] dX16_checkReads_168 rfl (by decide) (by decide) rfl ?_
  refine zz_goto X 89 dX16_checkReads_171 (by decide) ?_
  refine zz_iload_n X 0 dX16_checkReads_89 rfl rfl ?_
  refine zz_bipush X 14 dX16_checkReads_90 rfl ?_
  refine zz_icmp_ge X 174 dX16_checkReads_92 (by decide) (fun h => absurd h (by decide)) (fun _ => ?_)
  refine zz_iconst X 0 dX16_checkReads_95 rfl ?_
  refine zz_istore_n X [(2, .int 0), (1, .int 11), (0, .ref x1)] dX16_checkReads_96 rfl (by decide) rfl ?_
  refine zz_iload_n X 0 dX16_checkReads_97 rfl rfl ?_
  refine zz_aload_n X 2 dX16_checkReads_98 rfl rfl ?_
  refine zz_get X 0 78 rfl rfl (by decide) (fun w h => List.mem_cons_of_mem _ (zf_X16 w h)) rfl (List.mem_cons_of_mem _ zm_856) hf1_78 dX16_checkReads_99 ?_
  refine zz_icmp_ge X 168 dX16_checkReads_102 (by decide) (fun _ => ?_) (fun h => absurd (by decide) h)
  refine zz_iinc X 1 (12) [(1, .int 12), (2, .int 0), (0, .ref x1)] dX16_checkReads_168 rfl (by decide) (by decide) rfl ?_
  refine zz_goto X 89 dX16_checkReads_171 (by decide) ?_
  refine zz_iload_n X 0 dX16_checkReads_89 rfl rfl ?_
  refine zz_bipush X 14 dX16_checkReads_90 rfl ?_
  refine zz_icmp_ge X 174 dX16_checkReads_92 (by decide) (fun h => absurd h (by decide)) (fun _ => ?_)
  refine zz_iconst X 0 dX16_checkReads_95 rfl ?_
  refine zz_istore_n X [(2, .int 0), (1, .int 12), (0, .ref x1)] dX16_checkReads_96 rfl (by decide) rfl ?_
  refine zz_iload_n X 0 dX16_checkReads_97 rfl rfl ?_
  refine zz_aload_n X 2 dX16_checkReads_98 rfl rfl ?_
  refine zz_get X 0 78 rfl rfl (by decide) (fun w h => List.mem_cons_of_mem _ (zf_X16 w h)) rfl (List.mem_cons_of_mem _ zm_856) hf1_78 dX16_checkReads_99 ?_
  refine zz_icmp_ge X 168 dX16_checkReads_102 (by decide) (fun _ => ?_) (fun h => absurd (by decide) h)
  refine zz_iinc X 1 (13) [(1, .int 13), (2, .int 0), (0, .ref x1)] dX16_checkReads_168 rfl (by decide) (by decide) rfl ?_
  refine zz_goto X 89 dX16_checkReads_171 (by decide) ?_
  refine zz_iload_n X 0 dX16_checkReads_89 rfl rfl ?_
  refine zz_bipush X 14 dX16_checkReads_90 rfl ?_
  refine zz_icmp_ge X 174 dX16_checkReads_92 (by decide) (fun h => absurd h (by decide)) (fun _ => ?_)
  refine zz_iconst X 0 dX16_checkReads_95 rfl ?_
  refine zz_istore_n X [(2, .int 0), (1, .int 13), (0, .ref x1)] dX16_checkReads_96 rfl (by decide) rfl ?_
  refine zz_iload_n X 0 dX16_checkReads_97 rfl rfl ?_
  refine zz_aload_n X 2 dX16_checkReads_98 rfl rfl ?_
  refine zz_get X 0 78 rfl rfl (by decide) (fun w h => List.mem_cons_of_mem _ (zf_X16 w h)) rfl (List.mem_cons_of_mem _ zm_856) hf1_78 dX16_checkReads_99 ?_
  refine zz_icmp_ge X 168 dX16_checkReads_102 (by decide) (fun _ => ?_) (fun h => absurd (by decide) h)
  refine zz_iinc X 1 (14) [(1, .int 14), (2, .int 0), (0, .ref x1)] dX16_checkReads_168 rfl (by decide) (by decide) rfl ?_
  refine zz_goto X 89 dX16_checkReads_171 (by decide) ?_
  refine zz_iload_n X 0 dX16_checkReads_89 rfl rfl ?_
  refine zz_bipush X 14 dX16_checkReads_90 rfl ?_
  refine zz_icmp_ge X 174 dX16_checkReads_92 (by decide) (fun _ => ?_) (fun h => absurd (by decide) h)
  refine zz_iconst X 0 dX16_checkReads_174 rfl ?_
  refine zz_istore_n X [(1, .int 0), (2, .int 0), (0, .ref x1)] dX16_checkReads_175 rfl (by decide) rfl ?_
  refine zz_iload_n X 0 dX16_checkReads_176 rfl rfl ?_
  refine zz_aload_n X 2 dX16_checkReads_177 rfl rfl ?_
  refine zz_get X 0 78 rfl rfl (by decide) (fun w h => List.mem_cons_of_mem _ (zf_X16 w h)) rfl (List.mem_cons_of_mem _ zm_856) hf1_78 dX16_checkReads_178 ?_
  refine zz_icmp_ge X 229 dX16_checkReads_181 (by decide) (fun _ => ?_) (fun h => absurd (by decide) h)
  exact zz_vret X hr (()) [0] (by decide) rfl rfl (Nat.le_of_ble_eq_true rfl) (Nat.le_of_ble_eq_true rfl) (trivial) dX16_checkReads_229

set_option maxHeartbeats 4000000 in
set_option maxRecDepth 100000 in
/-- findDepths -/
theorem kX16_findDepths_1 {E : zEn} (hE : zOk E) (l : Launch) (D : va_G) (cA : Nat → ClassId) (K : Nat → Nat) (V : Nat → Nat) (x1 : Nat) (f1 : List Value) (hss : zSS E K V) (hf1_n : f1.length = 243) (hf1_78 : f1[78]? = some (.int 0)) : zMv E l yX16_findDepths zwX16_findDepths ({ frames := 0, cells := 0, slots := 0, locals := 0 }) D vwCl (zT cA) [.ref x1] [(x1, .inr (16, f1))] (S := Unit) (fun (u : Unit) => (True)) (fun (u : Unit) => [(x1, .inr (16, f1))]) := by
  refine zz_enterv (cc := cX16_findDepths) (lv := [(0, .ref x1)]) hE 4 (by decide) rfl (Nat.le_of_ble_eq_true rfl) rfl ?_
  intro p e s m args below meth c X hr hin
  refine zz_iconst X 1 dX16_findDepths_0 rfl ?_
  refine zz_istore_n X [(1, .int 1), (0, .ref x1)] dX16_findDepths_1 rfl (by decide) rfl ?_
  refine zz_iload_n X 0 dX16_findDepths_2 rfl rfl ?_
  refine zz_bipush X 12 dX16_findDepths_3 rfl ?_
  refine zz_icmp_gt X 106 dX16_findDepths_5 (by decide) (fun h => absurd h (by decide)) (fun _ => ?_)
  refine zz_iconst X 0 dX16_findDepths_8 rfl ?_
  refine zz_istore_n X [(2, .int 0), (1, .int 1), (0, .ref x1)] dX16_findDepths_9 rfl (by decide) rfl ?_
  refine zz_iload_n X 0 dX16_findDepths_10 rfl rfl ?_
  refine zz_aload_n X 2 dX16_findDepths_11 rfl rfl ?_
  refine zz_get X 0 78 rfl rfl (by decide) (fun w h => List.mem_cons_of_mem _ (zf_X16 w h)) rfl (List.mem_cons_of_mem _ zm_856) hf1_78 dX16_findDepths_12 ?_
  refine zz_icmp_ge X 100 dX16_findDepths_15 (by decide) (fun _ => ?_) (fun h => absurd (by decide) h)
  refine zz_iinc X 1 (2) [(1, .int 2), (2, .int 0), (0, .ref x1)] dX16_findDepths_100 rfl (by decide) (by decide) rfl ?_
  refine zz_goto X 2 dX16_findDepths_103 (by decide) ?_
  refine zz_iload_n X 0 dX16_findDepths_2 rfl rfl ?_
  refine zz_bipush X 12 dX16_findDepths_3 rfl ?_
  refine zz_icmp_gt X 106 dX16_findDepths_5 (by decide) (fun h => absurd h (by decide)) (fun _ => ?_)
  refine zz_iconst X 0 dX16_findDepths_8 rfl ?_
  refine zz_istore_n X [(2, .int 0), (1, .int 2), (0, .ref x1)] dX16_findDepths_9 rfl (by decide) rfl ?_
  refine zz_iload_n X 0 dX16_findDepths_10 rfl rfl ?_
  refine zz_aload_n X 2 dX16_findDepths_11 rfl rfl ?_
  refine zz_get X 0 78 rfl rfl (by decide) (fun w h => List.mem_cons_of_mem _ (zf_X16 w h)) rfl (List.mem_cons_of_mem _ zm_856) hf1_78 dX16_findDepths_12 ?_
  refine zz_icmp_ge X 100 dX16_findDepths_15 (by decide) (fun _ => ?_) (fun h => absurd (by decide) h)
  refine zz_iinc X 1 (3) [(1, .int 3), (2, .int 0), (0, .ref x1)] dX16_findDepths_100 rfl (by decide) (by decide) rfl ?_
  refine zz_goto X 2 dX16_findDepths_103 (by decide) ?_
  refine zz_iload_n X 0 dX16_findDepths_2 rfl rfl ?_
  refine zz_bipush X 12 dX16_findDepths_3 rfl ?_
  refine zz_icmp_gt X 106 dX16_findDepths_5 (by decide) (fun h => absurd h (by decide)) (fun _ => ?_)
  refine zz_iconst X 0 dX16_findDepths_8 rfl ?_
  refine zz_istore_n X [(2, .int 0), (1, .int 3), (0, .ref x1)] dX16_findDepths_9 rfl (by decide) rfl ?_
  refine zz_iload_n X 0 dX16_findDepths_10 rfl rfl ?_
  refine zz_aload_n X 2 dX16_findDepths_11 rfl rfl ?_
  refine zz_get X 0 78 rfl rfl (by decide) (fun w h => List.mem_cons_of_mem _ (zf_X16 w h)) rfl (List.mem_cons_of_mem _ zm_856) hf1_78 dX16_findDepths_12 ?_
  refine zz_icmp_ge X 100 dX16_findDepths_15 (by decide) (fun _ => ?_) (fun h => absurd (by decide) h)
  refine zz_iinc X 1 (4) [(1, .int 4), (2, .int 0), (0, .ref x1)] dX16_findDepths_100 rfl (by decide) (by decide) rfl ?_
  refine zz_goto X 2 dX16_findDepths_103 (by decide) ?_
  refine zz_iload_n X 0 dX16_findDepths_2 rfl rfl ?_
  refine zz_bipush X 12 dX16_findDepths_3 rfl ?_
  refine zz_icmp_gt X 106 dX16_findDepths_5 (by decide) (fun h => absurd h (by decide)) (fun _ => ?_)
  refine zz_iconst X 0 dX16_findDepths_8 rfl ?_
  refine zz_istore_n X [(2, .int 0), (1, .int 4), (0, .ref x1)] dX16_findDepths_9 rfl (by decide) rfl ?_
  refine zz_iload_n X 0 dX16_findDepths_10 rfl rfl ?_
  refine zz_aload_n X 2 dX16_findDepths_11 rfl rfl ?_
  refine zz_get X 0 78 rfl rfl (by decide) (fun w h => List.mem_cons_of_mem _ (zf_X16 w h)) rfl (List.mem_cons_of_mem _ zm_856) hf1_78 dX16_findDepths_12 ?_
  refine zz_icmp_ge X 100 dX16_findDepths_15 (by decide) (fun _ => ?_) (fun h => absurd (by decide) h)
  refine zz_iinc X 1 (5) [(1, .int 5), (2, .int 0), (0, .ref x1)] dX16_findDepths_100 rfl (by decide) (by decide) rfl ?_
  refine zz_goto X 2 dX16_findDepths_103 (by decide) ?_
  refine zz_iload_n X 0 dX16_findDepths_2 rfl rfl ?_
  refine zz_bipush X 12 dX16_findDepths_3 rfl ?_
  refine zz_icmp_gt X 106 dX16_findDepths_5 (by decide) (fun h => absurd h (by decide)) (fun _ => ?_)
  refine zz_iconst X 0 dX16_findDepths_8 rfl ?_
  refine zz_istore_n X [(2, .int 0), (1, .int 5), (0, .ref x1)] dX16_findDepths_9 rfl (by decide) rfl ?_
  refine zz_iload_n X 0 dX16_findDepths_10 rfl rfl ?_
  refine zz_aload_n X 2 dX16_findDepths_11 rfl rfl ?_
  refine zz_get X 0 78 rfl rfl (by decide) (fun w h => List.mem_cons_of_mem _ (zf_X16 w h)) rfl (List.mem_cons_of_mem _ zm_856) hf1_78 dX16_findDepths_12 ?_
  refine zz_icmp_ge X 100 dX16_findDepths_15 (by decide) (fun _ => ?_) (fun h => absurd (by decide) h)
  refine zz_iinc X 1 (6) [(1, .int 6), (2, .int 0), (0, .ref x1)] dX16_findDepths_100 rfl (by decide) (by decide) rfl ?_
  refine zz_goto X 2 dX16_findDepths_103 (by decide) ?_
  refine zz_iload_n X 0 dX16_findDepths_2 rfl rfl ?_
  refine zz_bipush X 12 dX16_findDepths_3 rfl ?_
  refine zz_icmp_gt X 106 dX16_findDepths_5 (by decide) (fun h => absurd h (by decide)) (fun _ => ?_)
  refine zz_iconst X 0 dX16_findDepths_8 rfl ?_
  refine zz_istore_n X [(2, .int 0), (1, .int 6), (0, .ref x1)] dX16_findDepths_9 rfl (by decide) rfl ?_
  refine zz_iload_n X 0 dX16_findDepths_10 rfl rfl ?_
  refine zz_aload_n X 2 dX16_findDepths_11 rfl rfl ?_
  refine zz_get X 0 78 rfl rfl (by decide) (fun w h => List.mem_cons_of_mem _ (zf_X16 w h)) rfl (List.mem_cons_of_mem _ zm_856) hf1_78 dX16_findDepths_12 ?_
  refine zz_icmp_ge X 100 dX16_findDepths_15 (by decide) (fun _ => ?_) (fun h => absurd (by decide) h)
  refine zz_iinc X 1 (7) [(1, .int 7), (2, .int 0), (0, .ref x1)] dX16_findDepths_100 rfl (by decide) (by decide) rfl ?_
  refine zz_goto X 2 dX16_findDepths_103 (by decide) ?_
  refine zz_iload_n X 0 dX16_findDepths_2 rfl rfl ?_
  refine zz_bipush X 12 dX16_findDepths_3 rfl ?_
  refine zz_icmp_gt X 106 dX16_findDepths_5 (by decide) (fun h => absurd h (by decide)) (fun _ => ?_)
  refine zz_iconst X 0 dX16_findDepths_8 rfl ?_
  refine zz_istore_n X [(2, .int 0), (1, .int 7), (0, .ref x1)] dX16_findDepths_9 rfl (by decide) rfl ?_
  refine zz_iload_n X 0 dX16_findDepths_10 rfl rfl ?_
  refine zz_aload_n X 2 dX16_findDepths_11 rfl rfl ?_
  refine zz_get X 0 78 rfl rfl (by decide) (fun w h => List.mem_cons_of_mem _ (zf_X16 w h)) rfl (List.mem_cons_of_mem _ zm_856) hf1_78 dX16_findDepths_12 ?_
  refine zz_icmp_ge X 100 dX16_findDepths_15 (by decide) (fun _ => ?_) (fun h => absurd (by decide) h)
  refine zz_iinc X 1 (8) [(1, .int 8), (2, .int 0), (0, .ref x1)] dX16_findDepths_100 rfl (by decide) (by decide) rfl ?_
  refine zz_goto X 2 dX16_findDepths_103 (by decide) ?_
  refine zz_iload_n X 0 dX16_findDepths_2 rfl rfl ?_
  refine zz_bipush X 12 dX16_findDepths_3 rfl ?_
  refine zz_icmp_gt X 106 dX16_findDepths_5 (by decide) (fun h => absurd h (by decide)) (fun _ => ?_)
  refine zz_iconst X 0 dX16_findDepths_8 rfl ?_
  refine zz_istore_n X [(2, .int 0), (1, .int 8), (0, .ref x1)] dX16_findDepths_9 rfl (by decide) rfl ?_
  refine zz_iload_n X 0 dX16_findDepths_10 rfl rfl ?_
  refine zz_aload_n X 2 dX16_findDepths_11 rfl rfl ?_
  refine zz_get X 0 78 rfl rfl (by decide) (fun w h => List.mem_cons_of_mem _ (zf_X16 w h)) rfl (List.mem_cons_of_mem _ zm_856) hf1_78 dX16_findDepths_12 ?_
  refine zz_icmp_ge X 100 dX16_findDepths_15 (by decide) (fun _ => ?_) (fun h => absurd (by decide) h)
  refine zz_iinc X 1 (9) [(1, .int 9), (2, .int 0), (0, .ref x1)] dX16_findDepths_100 rfl (by decide) (by decide) rfl ?_
  refine zz_goto X 2 dX16_findDepths_103 (by decide) ?_
  refine zz_iload_n X 0 dX16_findDepths_2 rfl rfl ?_
  refine zz_bipush X 12 dX16_findDepths_3 rfl ?_
  refine zz_icmp_gt X 106 dX16_findDepths_5 (by decide) (fun h => absurd h (by decide)) (fun _ => ?_)
  refine zz_iconst X 0 dX16_findDepths_8 rfl ?_
  refine zz_istore_n X [(2, .int 0), (1, .int 9), (0, .ref x1)] dX16_findDepths_9 rfl (by decide) rfl ?_
  refine zz_iload_n X 0 dX16_findDepths_10 rfl rfl ?_
  refine zz_aload_n X 2 dX16_findDepths_11 rfl rfl ?_
  refine zz_get X 0 78 rfl rfl (by decide) (fun w h => List.mem_cons_of_mem _ (zf_X16 w h)) rfl (List.mem_cons_of_mem _ zm_856) hf1_78 dX16_findDepths_12 ?_
  refine zz_icmp_ge X 100 dX16_findDepths_15 (by decide) (fun _ => ?_) (fun h => absurd (by decide) h)
  refine zz_iinc X 1 (10) [(1, .int 10), (2, .int 0), (0, .ref x1)] dX16_findDepths_100 rfl (by decide) (by decide) rfl ?_
  refine zz_goto X 2 dX16_findDepths_103 (by decide) ?_
  refine zz_iload_n X 0 dX16_findDepths_2 rfl rfl ?_
  refine zz_bipush X 12 dX16_findDepths_3 rfl ?_
  refine zz_icmp_gt X 106 dX16_findDepths_5 (by decide) (fun h => absurd h (by decide)) (fun _ => ?_)
  refine zz_iconst X 0 dX16_findDepths_8 rfl ?_
  refine zz_istore_n X [(2, .int 0), (1, .int 10), (0, .ref x1)] dX16_findDepths_9 rfl (by decide) rfl ?_
  refine zz_iload_n X 0 dX16_findDepths_10 rfl rfl ?_
  refine zz_aload_n X 2 dX16_findDepths_11 rfl rfl ?_
  refine zz_get X 0 78 rfl rfl (by decide) (fun w h => List.mem_cons_of_mem _ (zf_X16 w h)) rfl (List.mem_cons_of_mem _ zm_856) hf1_78 dX16_findDepths_12 ?_
  refine zz_icmp_ge X 100 dX16_findDepths_15 (by decide) (fun _ => ?_) (fun h => absurd (by decide) h)
  refine zz_iinc X 1 (11) [(1, .int 11), (2, .int 0), (0, .ref x1)] dX16_findDepths_100 rfl (by decide) (by decide) rfl ?_
  refine zz_goto X 2 dX16_findDepths_103 (by decide) ?_
  refine zz_iload_n X 0 dX16_findDepths_2 rfl rfl ?_
  refine zz_bipush X 12 dX16_findDepths_3 rfl ?_
  refine zz_icmp_gt X 106 dX16_findDepths_5 (by decide) (fun h => absurd h (by decide)) (fun _ => ?_)
  refine zz_iconst X 0 dX16_findDepths_8 rfl ?_
  refine zz_istore_n X [(2, .int 0), (1, .int 11), (0, .ref x1)] dX16_findDepths_9 rfl (by decide) rfl ?_
  refine zz_iload_n X 0 dX16_findDepths_10 rfl rfl ?_
  refine zz_aload_n X 2 dX16_findDepths_11 rfl rfl ?_
  refine zz_get X 0 78 rfl rfl (by decide) (fun w h => List.mem_cons_of_mem _ (zf_X16 w h)) rfl (List.mem_cons_of_mem _ zm_856) hf1_78 dX16_findDepths_12 ?_
  refine zz_icmp_ge X 100 dX16_findDepths_15 (by decide) (fun _ => ?_) (fun h => absurd (by decide) h)
  refine zz_iinc X 1 (12) [(1, .int 12), (2, .int 0), (0, .ref x1)] dX16_findDepths_100 rfl (by decide) (by decide) rfl ?_
  refine zz_goto X 2 dX16_findDepths_103 (by decide) ?_
  refine zz_iload_n X 0 dX16_findDepths_2 rfl rfl ?_
  refine zz_bipush X 12 dX16_findDepths_3 rfl ?_
  refine zz_icmp_gt X 106 dX16_findDepths_5 (by decide) (fun h => absurd h (by decide)) (fun _ => ?_)
  refine zz_iconst X 0 dX16_findDepths_8 rfl ?_
  refine zz_istore_n X [(2, .int 0), (1, .int 12), (0, .ref x1)] dX16_findDepths_9 rfl (by decide) rfl ?_
  refine zz_iload_n X 0 dX16_findDepths_10 rfl rfl ?_
  refine zz_aload_n X 2 dX16_findDepths_11 rfl rfl ?_
  refine zz_get X 0 78 rfl rfl (by decide) (fun w h => List.mem_cons_of_mem _ (zf_X16 w h)) rfl (List.mem_cons_of_mem _ zm_856) hf1_78 dX16_findDepths_12 ?_
  refine zz_icmp_ge X 100 dX16_findDepths_15 (by decide) (fun _ => ?_) (fun h => absurd (by decide) h)
  refine zz_iinc X 1 (13) [(1, .int 13), (2, .int 0), (0, .ref x1)] dX16_findDepths_100 rfl (by decide) (by decide) rfl ?_
  refine zz_goto X 2 dX16_findDepths_103 (by decide) ?_
  refine zz_iload_n X 0 dX16_findDepths_2 rfl rfl ?_
  refine zz_bipush X 12 dX16_findDepths_3 rfl ?_
  refine zz_icmp_gt X 106 dX16_findDepths_5 (by decide) (fun _ => ?_) (fun h => absurd (by decide) h)
  exact zz_vret X hr (()) [0] (by decide) rfl rfl (Nat.le_of_ble_eq_true rfl) (Nat.le_of_ble_eq_true rfl) (trivial) dX16_findDepths_106

set_option maxHeartbeats 4000000 in
set_option maxRecDepth 100000 in
/-- checkBundle -/
theorem kX16_checkBundle_1 {E : zEn} (hE : zOk E) (l : Launch) (D : va_G) (cA : Nat → ClassId) (K : Nat → Nat) (V : Nat → Nat) (x1 : Nat) (f1 : List Value) (hss : zSS E K V) (hf1_n : f1.length = 243) (hf1_56 : f1[56]? = some (.int 0)) (hf1_72 : f1[72]? = some (.int 0)) (hf1_83 : f1[83]? = some (.int 0)) : zMv E l yX16_checkBundle zwX16_checkBundle ({ frames := 2, cells := 0, slots := 0, locals := 43 }) D vwCl (zT cA) [.ref x1] [(x1, .inr (16, f1))] (S := Unit) (fun (u : Unit) => (True)) (fun (u : Unit) => [(x1, .inr (16, ((f1.set 108 (.int 0)).set 78 (.int 0))))]) := by
  refine zz_enterv (cc := cX16_checkBundle) (lv := [(0, .ref x1)]) hE 2 (by decide) rfl (Nat.le_of_ble_eq_true rfl) rfl ?_
  intro p e s m args below meth c X hr hin
  refine zz_aload_n X 0 dX16_checkBundle_0 rfl rfl ?_
  refine zz_iconst X 0 dX16_checkBundle_1 rfl ?_
  refine zz_put X 0 108 rfl rfl (by decide) (fun w h => List.mem_cons_of_mem _ (zf_X16 w h)) rfl (List.mem_cons_of_mem _ zm_855) tyX16 tyX16_ok nmX16 rfl (ty := .int) rfl rfl rfl (zq_lt hf1_n (by decide) (by simp only [List.length_set])) dX16_checkBundle_2 [(x1, .inr (16, (f1.set 108 (.int 0))))] rfl ?_
  refine zz_aload_n X 0 dX16_checkBundle_5 rfl rfl ?_
  refine zz_callVv X (rest := []) (As := []) (kX16_gatherRules_1 hE l D cA K V x1 (f1.set 108 (.int 0)) hss (zq_len hf1_n (by simp only [List.length_set])) (zq_oth (by decide) (hf1_56)) (zq_oth (by decide) (hf1_72))) 0 (zgV zm_858 zm_859 zm_860 zm_451 zm_857) rfl (by decide +kernel) [0] [] [] rfl rfl (by decide) rfl (by decide) (by decide) ⟨Nat.le_of_ble_eq_true rfl, Nat.le_of_ble_eq_true rfl⟩ 0 rfl rfl rfl rfl rfl (Nat.le_of_ble_eq_true rfl) dX16_checkBundle_6 (Nat.le_of_ble_eq_true rfl) (Nat.le_of_ble_eq_true rfl) (fun _ hw1 => ?_)
  refine zz_show (ws' := [(x1, .inr (16, ((f1.set 108 (.int 0)).set 78 (.int 0))))]) rfl ?_
  refine zz_aload_n X 0 dX16_checkBundle_9 rfl rfl ?_
  refine zz_callVv X (rest := []) (As := []) (kX16_findClash_1 hE l D cA K V x1 ((f1.set 108 (.int 0)).set 78 (.int 0)) hss (zq_len hf1_n (by simp only [List.length_set])) (zq_oth (by decide) (zq_oth (by decide) (hf1_56)))) 0 (zgV zm_862 zm_863 zm_864 zm_451 zm_861) rfl (by decide +kernel) [0] [] [] rfl rfl (by decide) rfl (by decide) (by decide) ⟨Nat.le_of_ble_eq_true rfl, Nat.le_of_ble_eq_true rfl⟩ 0 rfl rfl rfl rfl rfl (Nat.le_of_ble_eq_true rfl) dX16_checkBundle_10 (Nat.le_of_ble_eq_true rfl) (Nat.le_of_ble_eq_true rfl) (fun _ hw2 => ?_)
  refine zz_show (ws' := [(x1, .inr (16, ((f1.set 108 (.int 0)).set 78 (.int 0))))]) rfl ?_
  refine zz_iconst X 0 dX16_checkBundle_13 rfl ?_
  refine zz_istore_n X [(1, .int 0), (0, .ref x1)] dX16_checkBundle_14 rfl (by decide) rfl ?_
  refine zz_iload_n X 0 dX16_checkBundle_15 rfl rfl ?_
  refine zz_aload_n X 1 dX16_checkBundle_16 rfl rfl ?_
  refine zz_get X 0 72 rfl rfl (by decide) (fun w h => List.mem_cons_of_mem _ (zf_X16 w h)) rfl (List.mem_cons_of_mem _ zm_763) (zq_oth (by decide) (zq_oth (by decide) (hf1_72))) dX16_checkBundle_17 ?_
  refine zz_icmp_ge X 41 dX16_checkBundle_20 (by decide) (fun _ => ?_) (fun h => absurd (by decide) h)
  refine zz_aload_n X 1 dX16_checkBundle_41 rfl rfl ?_
  refine zz_callVi X (rest := []) (As := []) (kX16_isFaulty_1 hE l D cA K V x1 ((f1.set 108 (.int 0)).set 78 (.int 0)) hss (zq_len hf1_n (by simp only [List.length_set])) (zq_oth (by decide) (zq_oth (by decide) (hf1_83)))) 0 (zgV zm_866 zm_867 zm_868 zm_451 zm_865) rfl (by decide +kernel) [0] [] [] rfl rfl (by decide) rfl (by decide) (by decide) ⟨Nat.le_of_ble_eq_true rfl, Nat.le_of_ble_eq_true rfl⟩ 0 rfl rfl rfl rfl rfl (Nat.le_of_ble_eq_true rfl) dX16_checkBundle_42 (Nat.le_of_ble_eq_true rfl) (Nat.le_of_ble_eq_true rfl) (fun r3 _ hw4 => ?_)
  obtain rfl := hw4
  refine zz_show (ws' := [(x1, .inr (16, ((f1.set 108 (.int 0)).set 78 (.int 0))))]) rfl ?_
  refine zz_if_eq X 49 dX16_checkBundle_45 (by decide) (fun _ => ?_) (fun h => absurd (by decide) h)
  refine zz_aload_n X 1 dX16_checkBundle_49 rfl rfl ?_
  refine zz_callVv X (rest := []) (As := []) (kX16_findReads_1 hE l D cA K V x1 ((f1.set 108 (.int 0)).set 78 (.int 0)) hss (zq_len hf1_n (by simp only [List.length_set])) (zq_same (zq_lt hf1_n (by decide) (by simp only [List.length_set])))) 0 (zgV zm_870 zm_871 zm_872 zm_451 zm_869) rfl (by decide +kernel) [0] [] [] rfl rfl (by decide) rfl (by decide) (by decide) ⟨Nat.le_of_ble_eq_true rfl, Nat.le_of_ble_eq_true rfl⟩ 0 rfl rfl rfl rfl rfl (Nat.le_of_ble_eq_true rfl) dX16_checkBundle_50 (Nat.le_of_ble_eq_true rfl) (Nat.le_of_ble_eq_true rfl) (fun _ hw5 => ?_)
  refine zz_show (ws' := [(x1, .inr (16, ((f1.set 108 (.int 0)).set 78 (.int 0))))]) rfl ?_
  refine zz_aload_n X 1 dX16_checkBundle_53 rfl rfl ?_
  refine zz_callVv X (rest := []) (As := []) (kX16_checkReads_1 hE l D cA K V x1 ((f1.set 108 (.int 0)).set 78 (.int 0)) hss (zq_len hf1_n (by simp only [List.length_set])) (zq_same (zq_lt hf1_n (by decide) (by simp only [List.length_set]))) (zq_oth (by decide) (zq_oth (by decide) (hf1_83)))) 0 (zgV zm_874 zm_875 zm_876 zm_451 zm_873) rfl (by decide +kernel) [0] [] [] rfl rfl (by decide) rfl (by decide) (by decide) ⟨Nat.le_of_ble_eq_true rfl, Nat.le_of_ble_eq_true rfl⟩ 0 rfl rfl rfl rfl rfl (Nat.le_of_ble_eq_true rfl) dX16_checkBundle_54 (Nat.le_of_ble_eq_true rfl) (Nat.le_of_ble_eq_true rfl) (fun _ hw6 => ?_)
  refine zz_show (ws' := [(x1, .inr (16, ((f1.set 108 (.int 0)).set 78 (.int 0))))]) rfl ?_
  refine zz_aload_n X 1 dX16_checkBundle_57 rfl rfl ?_
  refine zz_callVi X (rest := []) (As := []) (kX16_isFaulty_1 hE l D cA K V x1 ((f1.set 108 (.int 0)).set 78 (.int 0)) hss (zq_len hf1_n (by simp only [List.length_set])) (zq_oth (by decide) (zq_oth (by decide) (hf1_83)))) 0 (zgV zm_866 zm_867 zm_868 zm_451 zm_865) rfl (by decide +kernel) [0] [] [] rfl rfl (by decide) rfl (by decide) (by decide) ⟨Nat.le_of_ble_eq_true rfl, Nat.le_of_ble_eq_true rfl⟩ 0 rfl rfl rfl rfl rfl (Nat.le_of_ble_eq_true rfl) dX16_checkBundle_58 (Nat.le_of_ble_eq_true rfl) (Nat.le_of_ble_eq_true rfl) (fun r7 _ hw8 => ?_)
  obtain rfl := hw8
  refine zz_show (ws' := [(x1, .inr (16, ((f1.set 108 (.int 0)).set 78 (.int 0))))]) rfl ?_
  refine zz_if_eq X 65 dX16_checkBundle_61 (by decide) (fun _ => ?_) (fun h => absurd (by decide) h)
  refine zz_iconst X 0 dX16_checkBundle_65 rfl ?_
  refine zz_istore_n X [(1, .int 0), (0, .ref x1)] dX16_checkBundle_66 rfl (by decide) rfl ?_
  refine zz_iload_n X 0 dX16_checkBundle_67 rfl rfl ?_
  refine zz_aload_n X 1 dX16_checkBundle_68 rfl rfl ?_
  refine zz_get X 0 78 rfl rfl (by decide) (fun w h => List.mem_cons_of_mem _ (zf_X16 w h)) rfl (List.mem_cons_of_mem _ zm_856) (zq_same (zq_lt hf1_n (by decide) (by simp only [List.length_set]))) dX16_checkBundle_69 ?_
  refine zz_icmp_ge X 93 dX16_checkBundle_72 (by decide) (fun _ => ?_) (fun h => absurd (by decide) h)
  refine zz_iconst X 0 dX16_checkBundle_93 rfl ?_
  refine zz_istore_n X [(1, .int 0), (0, .ref x1)] dX16_checkBundle_94 rfl (by decide) rfl ?_
  refine zz_iload_n X 0 dX16_checkBundle_95 rfl rfl ?_
  refine zz_aload_n X 1 dX16_checkBundle_96 rfl rfl ?_
  refine zz_get X 0 78 rfl rfl (by decide) (fun w h => List.mem_cons_of_mem _ (zf_X16 w h)) rfl (List.mem_cons_of_mem _ zm_856) (zq_same (zq_lt hf1_n (by decide) (by simp only [List.length_set]))) dX16_checkBundle_97 ?_
  refine zz_icmp_ge X 121 dX16_checkBundle_100 (by decide) (fun _ => ?_) (fun h => absurd (by decide) h)
  refine zz_aload_n X 1 dX16_checkBundle_121 rfl rfl ?_
  refine zz_callVi X (rest := []) (As := []) (kX16_isFaulty_1 hE l D cA K V x1 ((f1.set 108 (.int 0)).set 78 (.int 0)) hss (zq_len hf1_n (by simp only [List.length_set])) (zq_oth (by decide) (zq_oth (by decide) (hf1_83)))) 0 (zgV zm_866 zm_867 zm_868 zm_451 zm_865) rfl (by decide +kernel) [0] [] [] rfl rfl (by decide) rfl (by decide) (by decide) ⟨Nat.le_of_ble_eq_true rfl, Nat.le_of_ble_eq_true rfl⟩ 0 rfl rfl rfl rfl rfl (Nat.le_of_ble_eq_true rfl) dX16_checkBundle_122 (Nat.le_of_ble_eq_true rfl) (Nat.le_of_ble_eq_true rfl) (fun r9 _ hw10 => ?_)
  obtain rfl := hw10
  refine zz_show (ws' := [(x1, .inr (16, ((f1.set 108 (.int 0)).set 78 (.int 0))))]) rfl ?_
  refine zz_if_ne X 132 dX16_checkBundle_125 (by decide) (fun h => absurd (by decide) h) (fun _ => ?_)
  refine zz_aload_n X 1 dX16_checkBundle_128 rfl rfl ?_
  refine zz_callVv X (rest := []) (As := []) (kX16_findDepths_1 hE l D cA K V x1 ((f1.set 108 (.int 0)).set 78 (.int 0)) hss (zq_len hf1_n (by simp only [List.length_set])) (zq_same (zq_lt hf1_n (by decide) (by simp only [List.length_set])))) 0 (zgV zm_878 zm_879 zm_880 zm_451 zm_877) rfl (by decide +kernel) [0] [] [] rfl rfl (by decide) rfl (by decide) (by decide) ⟨Nat.le_of_ble_eq_true rfl, Nat.le_of_ble_eq_true rfl⟩ 0 rfl rfl rfl rfl rfl (Nat.le_of_ble_eq_true rfl) dX16_checkBundle_129 (Nat.le_of_ble_eq_true rfl) (Nat.le_of_ble_eq_true rfl) (fun _ hw11 => ?_)
  refine zz_show (ws' := [(x1, .inr (16, ((f1.set 108 (.int 0)).set 78 (.int 0))))]) rfl ?_
  exact zz_vret X hr (()) [0] (by decide) rfl rfl (Nat.le_of_ble_eq_true rfl) (Nat.le_of_ble_eq_true rfl) (trivial) dX16_checkBundle_132

set_option maxHeartbeats 4000000 in
set_option maxRecDepth 100000 in
/-- loadBundle -/
theorem kX16_loadBundle_1 {E : zEn} (hE : zOk E) (l : Launch) (D : va_G) (cA : Nat → ClassId) (K : Nat → Nat) (V : Nat → Nat) (x1 : Nat) (f1 : List Value) (x2 : Nat) (x3 : Nat) (x4 : Nat) (x5 : Nat) (x6 : Nat) (x7 : Nat) (x8 : Nat) (hss : zSS E K V) (hf1_n : f1.length = 243) (hf1_215 : f1[215]? = some (.int (-1))) (hf1_211 : f1[211]? = some (.ref x2)) (hf1_19 : f1[19]? = some (.ref x3)) (hf1_0 : f1[0]? = some (.ref x4)) (hf1_16 : f1[16]? = some (.ref x5)) (hf1_17 : f1[17]? = some (.ref x6)) (hf1_18 : f1[18]? = some (.ref x7)) (hf1_210 : f1[210]? = some (.ref x8)) (hf1_84 : f1[84]? = some (.int 0)) (hf1_85 : f1[85]? = some (.int 0)) : zMv E l yX16_loadBundle zwX16_loadBundle ({ frames := 6, cells := 0, slots := 0, locals := 128 }) D vwCl (zT cA) [.ref x1, .int 0] [(x1, .inr (16, f1)), (x2, .inl (cA 1, 6, .inl (upd (upd (fun _ => 0) 0 1) 1 1))), (x3, .inl (cA 1, 4096, .inl (fun _ => 0))), (x4, .inl (cA 0, 17000, .inl (fun _ => 0))), (x6, .inl (cA 1, 13001, .inl (fun _ => 0))), (x5, .inl (cA 0, 40000, .inl (fun _ => 0))), (x7, .inl (cA 1, 13000, .inl (fun _ => 0))), (x8, .inl (cA 1, 6, .inl (fun _ => 0)))] (S := Nat → Int32) (fun (u : Nat → Int32) => (∀ j : Nat, j < 4096 → u j = 0)) (fun (u : Nat → Int32) => [(x1, .inr (16, (((((((((((((((((((((((((((((((((f1.set 37 (.int 0)).set 42 (.int 0)).set 48 (.int 0)).set 20 (.int 0)).set 56 (.int 0)).set 63 (.int 0)).set 72 (.int 0)).set 20 (.int 1)).set 52 (.int 0)).set 20 (.int 2)).set 53 (.int 1)).set 20 (.int 3)).set 54 (.int 2)).set 20 (.int 4)).set 55 (.int 3)).set 83 (.int 0)).set 108 (.int 0)).set 78 (.int 0)).set 216 (.int 0)).set 217 (.int 0)).set 218 (.int 0)).set 215 (.int 1)).set 219 (.int 0)).set 220 (.int 0)).set 221 (.int 0)).set 222 (.int 0)).set 37 (.int 0)).set 42 (.int 0)).set 48 (.int 0)).set 108 (.int 0)).set 83 (.int 0)).set 84 (.int 0)).set 85 (.int 0)))), (x2, .inl (cA 1, 6, .inl (upd (upd (fun _ => 0) 0 1) 1 1))), (x3, .inl (cA 1, 4096, .inl (upd (upd (upd (upd u 95 1) 3170 2) 1994 3) 4010 4))), (x4, .inl (cA 0, 17000, .inl ((upd (upd (upd (upd (upd (upd (upd (upd (upd (upd (upd (upd (upd (fun _ => 0) 0 95) 0 115) 1 101) 2 116) 0 105) 1 110) 2 112) 3 117) 4 116) 0 100) 1 97) 2 116) 3 97)))), (x6, .inl (cA 1, 13001, .inl (upd (upd (upd (upd (fun _ => 0) 1 1) 2 4) 3 9) 4 13))), (x5, .inl (cA 0, 40000, .inl (upd (upd (upd (upd (upd (upd (upd (upd (upd (upd (upd (upd (upd (fun _ => 0) 0 95) 1 115) 2 101) 3 116) 4 105) 5 110) 6 112) 7 117) 8 116) 9 100) 10 97) 11 116) 12 97))), (x7, .inl (cA 1, 13000, .inl (upd (upd (upd (upd (fun _ => 0) 0 0) 1 0) 2 0) 3 0))), (x8, .inl (cA 1, 6, .inl (fun _ => 0)))]) := by
  refine zz_enterv (cc := cX16_loadBundle) (lv := [(0, .ref x1), (1, .int 0)]) hE 5 (by decide) rfl (Nat.le_of_ble_eq_true rfl) rfl ?_
  intro p e s m args below meth c X hr hin
  refine zz_aload_n X 0 dX16_loadBundle_0 rfl rfl ?_
  refine zz_get X 0 215 rfl rfl (by decide) (fun w h => List.mem_cons_of_mem _ (zf_X16 w h)) rfl (List.mem_cons_of_mem _ zm_620) hf1_215 dX16_loadBundle_1 ?_
  refine zz_aload_n X 0 dX16_loadBundle_4 rfl rfl ?_
  refine zz_get X 0 211 rfl rfl (by decide) (fun w h => List.mem_cons_of_mem _ (zf_X16 w h)) rfl (List.mem_cons_of_mem _ zm_616) hf1_211 dX16_loadBundle_5 ?_
  refine zz_iload_n X 1 dX16_loadBundle_8 rfl rfl ?_
  refine zz_iald X 1 1 rfl rfl (vp_in_nI (n := 0) (by decide) (by decide)) (1) rfl dX16_loadBundle_9 ?_
  refine zz_icmp_ne X 44 dX16_loadBundle_10 (by decide) (fun _ => ?_) (fun h => absurd h (by decide))
  refine zz_aload_n X 0 dX16_loadBundle_44 rfl rfl ?_
  refine zz_callVv X (rest := []) (As := []) (kX16_clearTrees_1 hE l D cA K V x1 f1 x3 x4 x5 x6 x7 hss (zq_len hf1_n (by simp only [List.length_set])) hf1_19 hf1_0 hf1_16 hf1_17 hf1_18) 0 (zgV zm_779 zm_780 zm_781 zm_451 zm_778) rfl (by decide +kernel) [0, 2, 3, 4, 5, 6] [1, 7] [(x2, .inl (cA 1, 6, .inl (upd (upd (fun _ => 0) 0 1) 1 1))), (x8, .inl (cA 1, 6, .inl (fun _ => 0)))] rfl rfl (by decide) rfl (by decide) (by decide) ⟨Nat.le_of_ble_eq_true rfl, Nat.le_of_ble_eq_true rfl⟩ 0 rfl rfl rfl rfl rfl (Nat.le_of_ble_eq_true rfl) dX16_loadBundle_45 (Nat.le_of_ble_eq_true rfl) (Nat.le_of_ble_eq_true rfl) (fun uhw2 hw2 => ?_)
  obtain ⟨g1, rfl⟩ : ∃ z, z = uhw2 := ⟨_, rfl⟩
  have hq3 := hw2
  refine zz_show (ws' := [(x2, .inl (cA 1, 6, .inl (upd (upd (fun _ => 0) 0 1) 1 1))), (x8, .inl (cA 1, 6, .inl (fun _ => 0))), (x1, .inr (16, (((((((((((((((f1.set 37 (.int 0)).set 42 (.int 0)).set 48 (.int 0)).set 20 (.int 0)).set 56 (.int 0)).set 63 (.int 0)).set 72 (.int 0)).set 20 (.int 1)).set 52 (.int 0)).set 20 (.int 2)).set 53 (.int 1)).set 20 (.int 3)).set 54 (.int 2)).set 20 (.int 4)).set 55 (.int 3)))), (x3, .inl (cA 1, 4096, .inl (upd (upd (upd (upd g1 95 1) 3170 2) 1994 3) 4010 4))), (x4, .inl (cA 0, 17000, .inl ((upd (upd (upd (upd (upd (upd (upd (upd (upd (upd (upd (upd (upd (fun _ => 0) 0 95) 0 115) 1 101) 2 116) 0 105) 1 110) 2 112) 3 117) 4 116) 0 100) 1 97) 2 116) 3 97)))), (x6, .inl (cA 1, 13001, .inl (upd (upd (upd (upd (fun _ => 0) 1 1) 2 4) 3 9) 4 13))), (x5, .inl (cA 0, 40000, .inl (upd (upd (upd (upd (upd (upd (upd (upd (upd (upd (upd (upd (upd (fun _ => 0) 0 95) 1 115) 2 101) 3 116) 4 105) 5 110) 6 112) 7 117) 8 116) 9 100) 10 97) 11 116) 12 97))), (x7, .inl (cA 1, 13000, .inl (upd (upd (upd (upd (fun _ => 0) 0 0) 1 0) 2 0) 3 0)))]) rfl ?_
  refine zz_iconst X 0 dX16_loadBundle_48 rfl ?_
  refine zz_istore_n X [(2, .int 0), (0, .ref x1), (1, .int 0)] dX16_loadBundle_49 rfl (by decide) rfl ?_
  refine zz_iload_n X 0 dX16_loadBundle_50 rfl rfl ?_
  refine zz_aload_n X 1 dX16_loadBundle_51 rfl rfl ?_
  refine zz_get X 2 210 rfl rfl (by decide) (fun w h => List.mem_cons_of_mem _ (zf_X16 w h)) rfl (List.mem_cons_of_mem _ zm_615) (zq_oth (by decide) (zq_oth (by decide) (zq_oth (by decide) (zq_oth (by decide) (zq_oth (by decide) (zq_oth (by decide) (zq_oth (by decide) (zq_oth (by decide) (zq_oth (by decide) (zq_oth (by decide) (zq_oth (by decide) (zq_oth (by decide) (zq_oth (by decide) (zq_oth (by decide) (zq_oth (by decide) (hf1_210)))))))))))))))) dX16_loadBundle_52 ?_
  refine zz_iload_n X 2 dX16_loadBundle_55 rfl rfl ?_
  refine zz_iald X 1 1 rfl rfl (vp_in_nI (n := 0) (by decide) (by decide)) (0) rfl dX16_loadBundle_56 ?_
  refine zz_icmp_ge X 141 dX16_loadBundle_57 (by decide) (fun _ => ?_) (fun h => absurd (by decide) h)
  refine zz_aload_n X 1 dX16_loadBundle_141 rfl rfl ?_
  refine zz_iconst X 0 dX16_loadBundle_142 rfl ?_
  refine zz_put X 2 83 rfl rfl (by decide) (fun w h => List.mem_cons_of_mem _ (zf_X16 w h)) rfl (List.mem_cons_of_mem _ zm_854) tyX16 tyX16_ok nmX16 rfl (ty := .int) rfl rfl rfl (zq_lt hf1_n (by decide) (by simp only [List.length_set])) dX16_loadBundle_143 [(x2, .inl (cA 1, 6, .inl (upd (upd (fun _ => 0) 0 1) 1 1))), (x8, .inl (cA 1, 6, .inl (fun _ => 0))), (x1, .inr (16, ((((((((((((((((f1.set 37 (.int 0)).set 42 (.int 0)).set 48 (.int 0)).set 20 (.int 0)).set 56 (.int 0)).set 63 (.int 0)).set 72 (.int 0)).set 20 (.int 1)).set 52 (.int 0)).set 20 (.int 2)).set 53 (.int 1)).set 20 (.int 3)).set 54 (.int 2)).set 20 (.int 4)).set 55 (.int 3)).set 83 (.int 0)))), (x3, .inl (cA 1, 4096, .inl (upd (upd (upd (upd g1 95 1) 3170 2) 1994 3) 4010 4))), (x4, .inl (cA 0, 17000, .inl ((upd (upd (upd (upd (upd (upd (upd (upd (upd (upd (upd (upd (upd (fun _ => 0) 0 95) 0 115) 1 101) 2 116) 0 105) 1 110) 2 112) 3 117) 4 116) 0 100) 1 97) 2 116) 3 97)))), (x6, .inl (cA 1, 13001, .inl (upd (upd (upd (upd (fun _ => 0) 1 1) 2 4) 3 9) 4 13))), (x5, .inl (cA 0, 40000, .inl (upd (upd (upd (upd (upd (upd (upd (upd (upd (upd (upd (upd (upd (fun _ => 0) 0 95) 1 115) 2 101) 3 116) 4 105) 5 110) 6 112) 7 117) 8 116) 9 100) 10 97) 11 116) 12 97))), (x7, .inl (cA 1, 13000, .inl (upd (upd (upd (upd (fun _ => 0) 0 0) 1 0) 2 0) 3 0)))] rfl ?_
  refine zz_aload_n X 1 dX16_loadBundle_146 rfl rfl ?_
  refine zz_callVv X (rest := []) (As := []) (kX16_checkBundle_1 hE l D cA K V x1 ((((((((((((((((f1.set 37 (.int 0)).set 42 (.int 0)).set 48 (.int 0)).set 20 (.int 0)).set 56 (.int 0)).set 63 (.int 0)).set 72 (.int 0)).set 20 (.int 1)).set 52 (.int 0)).set 20 (.int 2)).set 53 (.int 1)).set 20 (.int 3)).set 54 (.int 2)).set 20 (.int 4)).set 55 (.int 3)).set 83 (.int 0)) hss (zq_len hf1_n (by simp only [List.length_set])) (zq_oth (by decide) (zq_oth (by decide) (zq_oth (by decide) (zq_oth (by decide) (zq_oth (by decide) (zq_oth (by decide) (zq_oth (by decide) (zq_oth (by decide) (zq_oth (by decide) (zq_oth (by decide) (zq_oth (by decide) ((zq_same (zq_lt hf1_n (by decide) (by simp only [List.length_set]))))))))))))))) (zq_oth (by decide) (zq_oth (by decide) (zq_oth (by decide) (zq_oth (by decide) (zq_oth (by decide) (zq_oth (by decide) (zq_oth (by decide) (zq_oth (by decide) (zq_oth (by decide) ((zq_same (zq_lt hf1_n (by decide) (by simp only [List.length_set]))))))))))))) (zq_same (zq_lt hf1_n (by decide) (by simp only [List.length_set])))) 0 (zgV zm_882 zm_883 zm_884 zm_451 zm_881) rfl (by decide +kernel) [2] [0, 1, 3, 4, 5, 6, 7] [(x2, .inl (cA 1, 6, .inl (upd (upd (fun _ => 0) 0 1) 1 1))), (x8, .inl (cA 1, 6, .inl (fun _ => 0))), (x3, .inl (cA 1, 4096, .inl (upd (upd (upd (upd g1 95 1) 3170 2) 1994 3) 4010 4))), (x4, .inl (cA 0, 17000, .inl ((upd (upd (upd (upd (upd (upd (upd (upd (upd (upd (upd (upd (upd (fun _ => 0) 0 95) 0 115) 1 101) 2 116) 0 105) 1 110) 2 112) 3 117) 4 116) 0 100) 1 97) 2 116) 3 97)))), (x6, .inl (cA 1, 13001, .inl (upd (upd (upd (upd (fun _ => 0) 1 1) 2 4) 3 9) 4 13))), (x5, .inl (cA 0, 40000, .inl (upd (upd (upd (upd (upd (upd (upd (upd (upd (upd (upd (upd (upd (fun _ => 0) 0 95) 1 115) 2 101) 3 116) 4 105) 5 110) 6 112) 7 117) 8 116) 9 100) 10 97) 11 116) 12 97))), (x7, .inl (cA 1, 13000, .inl (upd (upd (upd (upd (fun _ => 0) 0 0) 1 0) 2 0) 3 0)))] rfl rfl (by decide) rfl (by decide) (by decide) ⟨Nat.le_of_ble_eq_true rfl, Nat.le_of_ble_eq_true rfl⟩ 0 rfl rfl rfl rfl rfl (Nat.le_of_ble_eq_true rfl) dX16_loadBundle_147 (Nat.le_of_ble_eq_true rfl) (Nat.le_of_ble_eq_true rfl) (fun _ hw4 => ?_)
  refine zz_show (ws' := [(x2, .inl (cA 1, 6, .inl (upd (upd (fun _ => 0) 0 1) 1 1))), (x8, .inl (cA 1, 6, .inl (fun _ => 0))), (x3, .inl (cA 1, 4096, .inl (upd (upd (upd (upd g1 95 1) 3170 2) 1994 3) 4010 4))), (x4, .inl (cA 0, 17000, .inl ((upd (upd (upd (upd (upd (upd (upd (upd (upd (upd (upd (upd (upd (fun _ => 0) 0 95) 0 115) 1 101) 2 116) 0 105) 1 110) 2 112) 3 117) 4 116) 0 100) 1 97) 2 116) 3 97)))), (x6, .inl (cA 1, 13001, .inl (upd (upd (upd (upd (fun _ => 0) 1 1) 2 4) 3 9) 4 13))), (x5, .inl (cA 0, 40000, .inl (upd (upd (upd (upd (upd (upd (upd (upd (upd (upd (upd (upd (upd (fun _ => 0) 0 95) 1 115) 2 101) 3 116) 4 105) 5 110) 6 112) 7 117) 8 116) 9 100) 10 97) 11 116) 12 97))), (x7, .inl (cA 1, 13000, .inl (upd (upd (upd (upd (fun _ => 0) 0 0) 1 0) 2 0) 3 0))), (x1, .inr (16, ((((((((((((((((((f1.set 37 (.int 0)).set 42 (.int 0)).set 48 (.int 0)).set 20 (.int 0)).set 56 (.int 0)).set 63 (.int 0)).set 72 (.int 0)).set 20 (.int 1)).set 52 (.int 0)).set 20 (.int 2)).set 53 (.int 1)).set 20 (.int 3)).set 54 (.int 2)).set 20 (.int 4)).set 55 (.int 3)).set 83 (.int 0)).set 108 (.int 0)).set 78 (.int 0))))]) rfl ?_
  refine zz_aload_n X 1 dX16_loadBundle_150 rfl rfl ?_
  refine zz_aload_n X 1 dX16_loadBundle_151 rfl rfl ?_
  refine zz_get X 7 83 rfl rfl (by decide) (fun w h => List.mem_cons_of_mem _ (zf_X16 w h)) rfl (List.mem_cons_of_mem _ zm_854) (zq_oth (by decide) (zq_oth (by decide) ((zq_same (zq_lt hf1_n (by decide) (by simp only [List.length_set])))))) dX16_loadBundle_152 ?_
  refine zz_put X 7 216 rfl rfl (by decide) (fun w h => List.mem_cons_of_mem _ (zf_X16 w h)) rfl (List.mem_cons_of_mem _ zm_885) tyX16 tyX16_ok nmX16 rfl (ty := .int) rfl rfl rfl (zq_lt hf1_n (by decide) (by simp only [List.length_set])) dX16_loadBundle_155 [(x2, .inl (cA 1, 6, .inl (upd (upd (fun _ => 0) 0 1) 1 1))), (x8, .inl (cA 1, 6, .inl (fun _ => 0))), (x3, .inl (cA 1, 4096, .inl (upd (upd (upd (upd g1 95 1) 3170 2) 1994 3) 4010 4))), (x4, .inl (cA 0, 17000, .inl ((upd (upd (upd (upd (upd (upd (upd (upd (upd (upd (upd (upd (upd (fun _ => 0) 0 95) 0 115) 1 101) 2 116) 0 105) 1 110) 2 112) 3 117) 4 116) 0 100) 1 97) 2 116) 3 97)))), (x6, .inl (cA 1, 13001, .inl (upd (upd (upd (upd (fun _ => 0) 1 1) 2 4) 3 9) 4 13))), (x5, .inl (cA 0, 40000, .inl (upd (upd (upd (upd (upd (upd (upd (upd (upd (upd (upd (upd (upd (fun _ => 0) 0 95) 1 115) 2 101) 3 116) 4 105) 5 110) 6 112) 7 117) 8 116) 9 100) 10 97) 11 116) 12 97))), (x7, .inl (cA 1, 13000, .inl (upd (upd (upd (upd (fun _ => 0) 0 0) 1 0) 2 0) 3 0))), (x1, .inr (16, (((((((((((((((((((f1.set 37 (.int 0)).set 42 (.int 0)).set 48 (.int 0)).set 20 (.int 0)).set 56 (.int 0)).set 63 (.int 0)).set 72 (.int 0)).set 20 (.int 1)).set 52 (.int 0)).set 20 (.int 2)).set 53 (.int 1)).set 20 (.int 3)).set 54 (.int 2)).set 20 (.int 4)).set 55 (.int 3)).set 83 (.int 0)).set 108 (.int 0)).set 78 (.int 0)).set 216 (.int 0))))] rfl ?_
  refine zz_aload_n X 1 dX16_loadBundle_158 rfl rfl ?_
  refine zz_aload_n X 1 dX16_loadBundle_159 rfl rfl ?_
  refine zz_get X 7 84 rfl rfl (by decide) (fun w h => List.mem_cons_of_mem _ (zf_X16 w h)) rfl (List.mem_cons_of_mem _ zm_886) (zq_oth (by decide) (zq_oth (by decide) (zq_oth (by decide) (zq_oth (by decide) (zq_oth (by decide) (zq_oth (by decide) (zq_oth (by decide) (zq_oth (by decide) (zq_oth (by decide) (zq_oth (by decide) (zq_oth (by decide) (zq_oth (by decide) (zq_oth (by decide) (zq_oth (by decide) (zq_oth (by decide) (zq_oth (by decide) (zq_oth (by decide) (zq_oth (by decide) (zq_oth (by decide) (hf1_84)))))))))))))))))))) dX16_loadBundle_160 ?_
  refine zz_put X 7 217 rfl rfl (by decide) (fun w h => List.mem_cons_of_mem _ (zf_X16 w h)) rfl (List.mem_cons_of_mem _ zm_887) tyX16 tyX16_ok nmX16 rfl (ty := .int) rfl rfl rfl (zq_lt hf1_n (by decide) (by simp only [List.length_set])) dX16_loadBundle_163 [(x2, .inl (cA 1, 6, .inl (upd (upd (fun _ => 0) 0 1) 1 1))), (x8, .inl (cA 1, 6, .inl (fun _ => 0))), (x3, .inl (cA 1, 4096, .inl (upd (upd (upd (upd g1 95 1) 3170 2) 1994 3) 4010 4))), (x4, .inl (cA 0, 17000, .inl ((upd (upd (upd (upd (upd (upd (upd (upd (upd (upd (upd (upd (upd (fun _ => 0) 0 95) 0 115) 1 101) 2 116) 0 105) 1 110) 2 112) 3 117) 4 116) 0 100) 1 97) 2 116) 3 97)))), (x6, .inl (cA 1, 13001, .inl (upd (upd (upd (upd (fun _ => 0) 1 1) 2 4) 3 9) 4 13))), (x5, .inl (cA 0, 40000, .inl (upd (upd (upd (upd (upd (upd (upd (upd (upd (upd (upd (upd (upd (fun _ => 0) 0 95) 1 115) 2 101) 3 116) 4 105) 5 110) 6 112) 7 117) 8 116) 9 100) 10 97) 11 116) 12 97))), (x7, .inl (cA 1, 13000, .inl (upd (upd (upd (upd (fun _ => 0) 0 0) 1 0) 2 0) 3 0))), (x1, .inr (16, ((((((((((((((((((((f1.set 37 (.int 0)).set 42 (.int 0)).set 48 (.int 0)).set 20 (.int 0)).set 56 (.int 0)).set 63 (.int 0)).set 72 (.int 0)).set 20 (.int 1)).set 52 (.int 0)).set 20 (.int 2)).set 53 (.int 1)).set 20 (.int 3)).set 54 (.int 2)).set 20 (.int 4)).set 55 (.int 3)).set 83 (.int 0)).set 108 (.int 0)).set 78 (.int 0)).set 216 (.int 0)).set 217 (.int 0))))] rfl ?_
  refine zz_aload_n X 1 dX16_loadBundle_166 rfl rfl ?_
  refine zz_aload_n X 1 dX16_loadBundle_167 rfl rfl ?_
  refine zz_get X 7 85 rfl rfl (by decide) (fun w h => List.mem_cons_of_mem _ (zf_X16 w h)) rfl (List.mem_cons_of_mem _ zm_888) (zq_oth (by decide) (zq_oth (by decide) (zq_oth (by decide) (zq_oth (by decide) (zq_oth (by decide) (zq_oth (by decide) (zq_oth (by decide) (zq_oth (by decide) (zq_oth (by decide) (zq_oth (by decide) (zq_oth (by decide) (zq_oth (by decide) (zq_oth (by decide) (zq_oth (by decide) (zq_oth (by decide) (zq_oth (by decide) (zq_oth (by decide) (zq_oth (by decide) (zq_oth (by decide) (zq_oth (by decide) (hf1_85))))))))))))))))))))) dX16_loadBundle_168 ?_
  refine zz_put X 7 218 rfl rfl (by decide) (fun w h => List.mem_cons_of_mem _ (zf_X16 w h)) rfl (List.mem_cons_of_mem _ zm_889) tyX16 tyX16_ok nmX16 rfl (ty := .int) rfl rfl rfl (zq_lt hf1_n (by decide) (by simp only [List.length_set])) dX16_loadBundle_171 [(x2, .inl (cA 1, 6, .inl (upd (upd (fun _ => 0) 0 1) 1 1))), (x8, .inl (cA 1, 6, .inl (fun _ => 0))), (x3, .inl (cA 1, 4096, .inl (upd (upd (upd (upd g1 95 1) 3170 2) 1994 3) 4010 4))), (x4, .inl (cA 0, 17000, .inl ((upd (upd (upd (upd (upd (upd (upd (upd (upd (upd (upd (upd (upd (fun _ => 0) 0 95) 0 115) 1 101) 2 116) 0 105) 1 110) 2 112) 3 117) 4 116) 0 100) 1 97) 2 116) 3 97)))), (x6, .inl (cA 1, 13001, .inl (upd (upd (upd (upd (fun _ => 0) 1 1) 2 4) 3 9) 4 13))), (x5, .inl (cA 0, 40000, .inl (upd (upd (upd (upd (upd (upd (upd (upd (upd (upd (upd (upd (upd (fun _ => 0) 0 95) 1 115) 2 101) 3 116) 4 105) 5 110) 6 112) 7 117) 8 116) 9 100) 10 97) 11 116) 12 97))), (x7, .inl (cA 1, 13000, .inl (upd (upd (upd (upd (fun _ => 0) 0 0) 1 0) 2 0) 3 0))), (x1, .inr (16, (((((((((((((((((((((f1.set 37 (.int 0)).set 42 (.int 0)).set 48 (.int 0)).set 20 (.int 0)).set 56 (.int 0)).set 63 (.int 0)).set 72 (.int 0)).set 20 (.int 1)).set 52 (.int 0)).set 20 (.int 2)).set 53 (.int 1)).set 20 (.int 3)).set 54 (.int 2)).set 20 (.int 4)).set 55 (.int 3)).set 83 (.int 0)).set 108 (.int 0)).set 78 (.int 0)).set 216 (.int 0)).set 217 (.int 0)).set 218 (.int 0))))] rfl ?_
  refine zz_aload_n X 1 dX16_loadBundle_174 rfl rfl ?_
  refine zz_aload_n X 1 dX16_loadBundle_175 rfl rfl ?_
  refine zz_get X 7 211 rfl rfl (by decide) (fun w h => List.mem_cons_of_mem _ (zf_X16 w h)) rfl (List.mem_cons_of_mem _ zm_616) (zq_oth (by decide) (zq_oth (by decide) (zq_oth (by decide) (zq_oth (by decide) (zq_oth (by decide) (zq_oth (by decide) (zq_oth (by decide) (zq_oth (by decide) (zq_oth (by decide) (zq_oth (by decide) (zq_oth (by decide) (zq_oth (by decide) (zq_oth (by decide) (zq_oth (by decide) (zq_oth (by decide) (zq_oth (by decide) (zq_oth (by decide) (zq_oth (by decide) (zq_oth (by decide) (zq_oth (by decide) (zq_oth (by decide) (hf1_211)))))))))))))))))))))) dX16_loadBundle_176 ?_
  refine zz_iload_n X 2 dX16_loadBundle_179 rfl rfl ?_
  refine zz_iald X 0 1 rfl rfl (vp_in_nI (n := 0) (by decide) (by decide)) (1) rfl dX16_loadBundle_180 ?_
  refine zz_put X 7 215 rfl rfl (by decide) (fun w h => List.mem_cons_of_mem _ (zf_X16 w h)) rfl (List.mem_cons_of_mem _ zm_620) tyX16 tyX16_ok nmX16 rfl (ty := .int) rfl rfl rfl (zq_lt hf1_n (by decide) (by simp only [List.length_set])) dX16_loadBundle_181 [(x2, .inl (cA 1, 6, .inl (upd (upd (fun _ => 0) 0 1) 1 1))), (x8, .inl (cA 1, 6, .inl (fun _ => 0))), (x3, .inl (cA 1, 4096, .inl (upd (upd (upd (upd g1 95 1) 3170 2) 1994 3) 4010 4))), (x4, .inl (cA 0, 17000, .inl ((upd (upd (upd (upd (upd (upd (upd (upd (upd (upd (upd (upd (upd (fun _ => 0) 0 95) 0 115) 1 101) 2 116) 0 105) 1 110) 2 112) 3 117) 4 116) 0 100) 1 97) 2 116) 3 97)))), (x6, .inl (cA 1, 13001, .inl (upd (upd (upd (upd (fun _ => 0) 1 1) 2 4) 3 9) 4 13))), (x5, .inl (cA 0, 40000, .inl (upd (upd (upd (upd (upd (upd (upd (upd (upd (upd (upd (upd (upd (fun _ => 0) 0 95) 1 115) 2 101) 3 116) 4 105) 5 110) 6 112) 7 117) 8 116) 9 100) 10 97) 11 116) 12 97))), (x7, .inl (cA 1, 13000, .inl (upd (upd (upd (upd (fun _ => 0) 0 0) 1 0) 2 0) 3 0))), (x1, .inr (16, ((((((((((((((((((((((f1.set 37 (.int 0)).set 42 (.int 0)).set 48 (.int 0)).set 20 (.int 0)).set 56 (.int 0)).set 63 (.int 0)).set 72 (.int 0)).set 20 (.int 1)).set 52 (.int 0)).set 20 (.int 2)).set 53 (.int 1)).set 20 (.int 3)).set 54 (.int 2)).set 20 (.int 4)).set 55 (.int 3)).set 83 (.int 0)).set 108 (.int 0)).set 78 (.int 0)).set 216 (.int 0)).set 217 (.int 0)).set 218 (.int 0)).set 215 (.int 1))))] rfl ?_
  refine zz_aload_n X 1 dX16_loadBundle_184 rfl rfl ?_
  refine zz_aload_n X 1 dX16_loadBundle_185 rfl rfl ?_
  refine zz_get X 7 37 rfl rfl (by decide) (fun w h => List.mem_cons_of_mem _ (zf_X16 w h)) rfl (List.mem_cons_of_mem _ zm_757) (zq_oth (by decide) (zq_oth (by decide) (zq_oth (by decide) (zq_oth (by decide) (zq_oth (by decide) (zq_oth (by decide) (zq_oth (by decide) (zq_oth (by decide) (zq_oth (by decide) (zq_oth (by decide) (zq_oth (by decide) (zq_oth (by decide) (zq_oth (by decide) (zq_oth (by decide) (zq_oth (by decide) (zq_oth (by decide) (zq_oth (by decide) (zq_oth (by decide) (zq_oth (by decide) (zq_oth (by decide) (zq_oth (by decide) ((zq_same (zq_lt hf1_n (by decide) (by simp only [List.length_set]))))))))))))))))))))))))) dX16_loadBundle_186 ?_
  refine zz_put X 7 219 rfl rfl (by decide) (fun w h => List.mem_cons_of_mem _ (zf_X16 w h)) rfl (List.mem_cons_of_mem _ zm_890) tyX16 tyX16_ok nmX16 rfl (ty := .int) rfl rfl rfl (zq_lt hf1_n (by decide) (by simp only [List.length_set])) dX16_loadBundle_189 [(x2, .inl (cA 1, 6, .inl (upd (upd (fun _ => 0) 0 1) 1 1))), (x8, .inl (cA 1, 6, .inl (fun _ => 0))), (x3, .inl (cA 1, 4096, .inl (upd (upd (upd (upd g1 95 1) 3170 2) 1994 3) 4010 4))), (x4, .inl (cA 0, 17000, .inl ((upd (upd (upd (upd (upd (upd (upd (upd (upd (upd (upd (upd (upd (fun _ => 0) 0 95) 0 115) 1 101) 2 116) 0 105) 1 110) 2 112) 3 117) 4 116) 0 100) 1 97) 2 116) 3 97)))), (x6, .inl (cA 1, 13001, .inl (upd (upd (upd (upd (fun _ => 0) 1 1) 2 4) 3 9) 4 13))), (x5, .inl (cA 0, 40000, .inl (upd (upd (upd (upd (upd (upd (upd (upd (upd (upd (upd (upd (upd (fun _ => 0) 0 95) 1 115) 2 101) 3 116) 4 105) 5 110) 6 112) 7 117) 8 116) 9 100) 10 97) 11 116) 12 97))), (x7, .inl (cA 1, 13000, .inl (upd (upd (upd (upd (fun _ => 0) 0 0) 1 0) 2 0) 3 0))), (x1, .inr (16, (((((((((((((((((((((((f1.set 37 (.int 0)).set 42 (.int 0)).set 48 (.int 0)).set 20 (.int 0)).set 56 (.int 0)).set 63 (.int 0)).set 72 (.int 0)).set 20 (.int 1)).set 52 (.int 0)).set 20 (.int 2)).set 53 (.int 1)).set 20 (.int 3)).set 54 (.int 2)).set 20 (.int 4)).set 55 (.int 3)).set 83 (.int 0)).set 108 (.int 0)).set 78 (.int 0)).set 216 (.int 0)).set 217 (.int 0)).set 218 (.int 0)).set 215 (.int 1)).set 219 (.int 0))))] rfl ?_
  refine zz_aload_n X 1 dX16_loadBundle_192 rfl rfl ?_
  refine zz_aload_n X 1 dX16_loadBundle_193 rfl rfl ?_
  refine zz_get X 7 42 rfl rfl (by decide) (fun w h => List.mem_cons_of_mem _ (zf_X16 w h)) rfl (List.mem_cons_of_mem _ zm_758) (zq_oth (by decide) (zq_oth (by decide) (zq_oth (by decide) (zq_oth (by decide) (zq_oth (by decide) (zq_oth (by decide) (zq_oth (by decide) (zq_oth (by decide) (zq_oth (by decide) (zq_oth (by decide) (zq_oth (by decide) (zq_oth (by decide) (zq_oth (by decide) (zq_oth (by decide) (zq_oth (by decide) (zq_oth (by decide) (zq_oth (by decide) (zq_oth (by decide) (zq_oth (by decide) (zq_oth (by decide) (zq_oth (by decide) ((zq_same (zq_lt hf1_n (by decide) (by simp only [List.length_set]))))))))))))))))))))))))) dX16_loadBundle_194 ?_
  refine zz_put X 7 220 rfl rfl (by decide) (fun w h => List.mem_cons_of_mem _ (zf_X16 w h)) rfl (List.mem_cons_of_mem _ zm_891) tyX16 tyX16_ok nmX16 rfl (ty := .int) rfl rfl rfl (zq_lt hf1_n (by decide) (by simp only [List.length_set])) dX16_loadBundle_197 [(x2, .inl (cA 1, 6, .inl (upd (upd (fun _ => 0) 0 1) 1 1))), (x8, .inl (cA 1, 6, .inl (fun _ => 0))), (x3, .inl (cA 1, 4096, .inl (upd (upd (upd (upd g1 95 1) 3170 2) 1994 3) 4010 4))), (x4, .inl (cA 0, 17000, .inl ((upd (upd (upd (upd (upd (upd (upd (upd (upd (upd (upd (upd (upd (fun _ => 0) 0 95) 0 115) 1 101) 2 116) 0 105) 1 110) 2 112) 3 117) 4 116) 0 100) 1 97) 2 116) 3 97)))), (x6, .inl (cA 1, 13001, .inl (upd (upd (upd (upd (fun _ => 0) 1 1) 2 4) 3 9) 4 13))), (x5, .inl (cA 0, 40000, .inl (upd (upd (upd (upd (upd (upd (upd (upd (upd (upd (upd (upd (upd (fun _ => 0) 0 95) 1 115) 2 101) 3 116) 4 105) 5 110) 6 112) 7 117) 8 116) 9 100) 10 97) 11 116) 12 97))), (x7, .inl (cA 1, 13000, .inl (upd (upd (upd (upd (fun _ => 0) 0 0) 1 0) 2 0) 3 0))), (x1, .inr (16, ((((((((((((((((((((((((f1.set 37 (.int 0)).set 42 (.int 0)).set 48 (.int 0)).set 20 (.int 0)).set 56 (.int 0)).set 63 (.int 0)).set 72 (.int 0)).set 20 (.int 1)).set 52 (.int 0)).set 20 (.int 2)).set 53 (.int 1)).set 20 (.int 3)).set 54 (.int 2)).set 20 (.int 4)).set 55 (.int 3)).set 83 (.int 0)).set 108 (.int 0)).set 78 (.int 0)).set 216 (.int 0)).set 217 (.int 0)).set 218 (.int 0)).set 215 (.int 1)).set 219 (.int 0)).set 220 (.int 0))))] rfl ?_
  refine zz_aload_n X 1 dX16_loadBundle_200 rfl rfl ?_
  refine zz_aload_n X 1 dX16_loadBundle_201 rfl rfl ?_
  refine zz_get X 7 48 rfl rfl (by decide) (fun w h => List.mem_cons_of_mem _ (zf_X16 w h)) rfl (List.mem_cons_of_mem _ zm_759) (zq_oth (by decide) (zq_oth (by decide) (zq_oth (by decide) (zq_oth (by decide) (zq_oth (by decide) (zq_oth (by decide) (zq_oth (by decide) (zq_oth (by decide) (zq_oth (by decide) (zq_oth (by decide) (zq_oth (by decide) (zq_oth (by decide) (zq_oth (by decide) (zq_oth (by decide) (zq_oth (by decide) (zq_oth (by decide) (zq_oth (by decide) (zq_oth (by decide) (zq_oth (by decide) (zq_oth (by decide) (zq_oth (by decide) ((zq_same (zq_lt hf1_n (by decide) (by simp only [List.length_set]))))))))))))))))))))))))) dX16_loadBundle_202 ?_
  refine zz_put X 7 221 rfl rfl (by decide) (fun w h => List.mem_cons_of_mem _ (zf_X16 w h)) rfl (List.mem_cons_of_mem _ zm_892) tyX16 tyX16_ok nmX16 rfl (ty := .int) rfl rfl rfl (zq_lt hf1_n (by decide) (by simp only [List.length_set])) dX16_loadBundle_205 [(x2, .inl (cA 1, 6, .inl (upd (upd (fun _ => 0) 0 1) 1 1))), (x8, .inl (cA 1, 6, .inl (fun _ => 0))), (x3, .inl (cA 1, 4096, .inl (upd (upd (upd (upd g1 95 1) 3170 2) 1994 3) 4010 4))), (x4, .inl (cA 0, 17000, .inl ((upd (upd (upd (upd (upd (upd (upd (upd (upd (upd (upd (upd (upd (fun _ => 0) 0 95) 0 115) 1 101) 2 116) 0 105) 1 110) 2 112) 3 117) 4 116) 0 100) 1 97) 2 116) 3 97)))), (x6, .inl (cA 1, 13001, .inl (upd (upd (upd (upd (fun _ => 0) 1 1) 2 4) 3 9) 4 13))), (x5, .inl (cA 0, 40000, .inl (upd (upd (upd (upd (upd (upd (upd (upd (upd (upd (upd (upd (upd (fun _ => 0) 0 95) 1 115) 2 101) 3 116) 4 105) 5 110) 6 112) 7 117) 8 116) 9 100) 10 97) 11 116) 12 97))), (x7, .inl (cA 1, 13000, .inl (upd (upd (upd (upd (fun _ => 0) 0 0) 1 0) 2 0) 3 0))), (x1, .inr (16, (((((((((((((((((((((((((f1.set 37 (.int 0)).set 42 (.int 0)).set 48 (.int 0)).set 20 (.int 0)).set 56 (.int 0)).set 63 (.int 0)).set 72 (.int 0)).set 20 (.int 1)).set 52 (.int 0)).set 20 (.int 2)).set 53 (.int 1)).set 20 (.int 3)).set 54 (.int 2)).set 20 (.int 4)).set 55 (.int 3)).set 83 (.int 0)).set 108 (.int 0)).set 78 (.int 0)).set 216 (.int 0)).set 217 (.int 0)).set 218 (.int 0)).set 215 (.int 1)).set 219 (.int 0)).set 220 (.int 0)).set 221 (.int 0))))] rfl ?_
  refine zz_aload_n X 1 dX16_loadBundle_208 rfl rfl ?_
  refine zz_aload_n X 1 dX16_loadBundle_209 rfl rfl ?_
  refine zz_get X 7 108 rfl rfl (by decide) (fun w h => List.mem_cons_of_mem _ (zf_X16 w h)) rfl (List.mem_cons_of_mem _ zm_855) (zq_oth (by decide) (zq_oth (by decide) (zq_oth (by decide) (zq_oth (by decide) (zq_oth (by decide) (zq_oth (by decide) (zq_oth (by decide) (zq_oth (by decide) ((zq_same (zq_lt hf1_n (by decide) (by simp only [List.length_set])))))))))))) dX16_loadBundle_210 ?_
  refine zz_put X 7 222 rfl rfl (by decide) (fun w h => List.mem_cons_of_mem _ (zf_X16 w h)) rfl (List.mem_cons_of_mem _ zm_893) tyX16 tyX16_ok nmX16 rfl (ty := .int) rfl rfl rfl (zq_lt hf1_n (by decide) (by simp only [List.length_set])) dX16_loadBundle_213 [(x2, .inl (cA 1, 6, .inl (upd (upd (fun _ => 0) 0 1) 1 1))), (x8, .inl (cA 1, 6, .inl (fun _ => 0))), (x3, .inl (cA 1, 4096, .inl (upd (upd (upd (upd g1 95 1) 3170 2) 1994 3) 4010 4))), (x4, .inl (cA 0, 17000, .inl ((upd (upd (upd (upd (upd (upd (upd (upd (upd (upd (upd (upd (upd (fun _ => 0) 0 95) 0 115) 1 101) 2 116) 0 105) 1 110) 2 112) 3 117) 4 116) 0 100) 1 97) 2 116) 3 97)))), (x6, .inl (cA 1, 13001, .inl (upd (upd (upd (upd (fun _ => 0) 1 1) 2 4) 3 9) 4 13))), (x5, .inl (cA 0, 40000, .inl (upd (upd (upd (upd (upd (upd (upd (upd (upd (upd (upd (upd (upd (fun _ => 0) 0 95) 1 115) 2 101) 3 116) 4 105) 5 110) 6 112) 7 117) 8 116) 9 100) 10 97) 11 116) 12 97))), (x7, .inl (cA 1, 13000, .inl (upd (upd (upd (upd (fun _ => 0) 0 0) 1 0) 2 0) 3 0))), (x1, .inr (16, ((((((((((((((((((((((((((f1.set 37 (.int 0)).set 42 (.int 0)).set 48 (.int 0)).set 20 (.int 0)).set 56 (.int 0)).set 63 (.int 0)).set 72 (.int 0)).set 20 (.int 1)).set 52 (.int 0)).set 20 (.int 2)).set 53 (.int 1)).set 20 (.int 3)).set 54 (.int 2)).set 20 (.int 4)).set 55 (.int 3)).set 83 (.int 0)).set 108 (.int 0)).set 78 (.int 0)).set 216 (.int 0)).set 217 (.int 0)).set 218 (.int 0)).set 215 (.int 1)).set 219 (.int 0)).set 220 (.int 0)).set 221 (.int 0)).set 222 (.int 0))))] rfl ?_
  refine zz_aload_n X 1 dX16_loadBundle_216 rfl rfl ?_
  refine zz_aload_n X 1 dX16_loadBundle_217 rfl rfl ?_
  refine zz_get X 7 219 rfl rfl (by decide) (fun w h => List.mem_cons_of_mem _ (zf_X16 w h)) rfl (List.mem_cons_of_mem _ zm_890) (zq_oth (by decide) (zq_oth (by decide) (zq_oth (by decide) ((zq_same (zq_lt hf1_n (by decide) (by simp only [List.length_set]))))))) dX16_loadBundle_218 ?_
  refine zz_put X 7 37 rfl rfl (by decide) (fun w h => List.mem_cons_of_mem _ (zf_X16 w h)) rfl (List.mem_cons_of_mem _ zm_757) tyX16 tyX16_ok nmX16 rfl (ty := .int) rfl rfl rfl (zq_lt hf1_n (by decide) (by simp only [List.length_set])) dX16_loadBundle_221 [(x2, .inl (cA 1, 6, .inl (upd (upd (fun _ => 0) 0 1) 1 1))), (x8, .inl (cA 1, 6, .inl (fun _ => 0))), (x3, .inl (cA 1, 4096, .inl (upd (upd (upd (upd g1 95 1) 3170 2) 1994 3) 4010 4))), (x4, .inl (cA 0, 17000, .inl ((upd (upd (upd (upd (upd (upd (upd (upd (upd (upd (upd (upd (upd (fun _ => 0) 0 95) 0 115) 1 101) 2 116) 0 105) 1 110) 2 112) 3 117) 4 116) 0 100) 1 97) 2 116) 3 97)))), (x6, .inl (cA 1, 13001, .inl (upd (upd (upd (upd (fun _ => 0) 1 1) 2 4) 3 9) 4 13))), (x5, .inl (cA 0, 40000, .inl (upd (upd (upd (upd (upd (upd (upd (upd (upd (upd (upd (upd (upd (fun _ => 0) 0 95) 1 115) 2 101) 3 116) 4 105) 5 110) 6 112) 7 117) 8 116) 9 100) 10 97) 11 116) 12 97))), (x7, .inl (cA 1, 13000, .inl (upd (upd (upd (upd (fun _ => 0) 0 0) 1 0) 2 0) 3 0))), (x1, .inr (16, (((((((((((((((((((((((((((f1.set 37 (.int 0)).set 42 (.int 0)).set 48 (.int 0)).set 20 (.int 0)).set 56 (.int 0)).set 63 (.int 0)).set 72 (.int 0)).set 20 (.int 1)).set 52 (.int 0)).set 20 (.int 2)).set 53 (.int 1)).set 20 (.int 3)).set 54 (.int 2)).set 20 (.int 4)).set 55 (.int 3)).set 83 (.int 0)).set 108 (.int 0)).set 78 (.int 0)).set 216 (.int 0)).set 217 (.int 0)).set 218 (.int 0)).set 215 (.int 1)).set 219 (.int 0)).set 220 (.int 0)).set 221 (.int 0)).set 222 (.int 0)).set 37 (.int 0))))] rfl ?_
  refine zz_aload_n X 1 dX16_loadBundle_224 rfl rfl ?_
  refine zz_aload_n X 1 dX16_loadBundle_225 rfl rfl ?_
  refine zz_get X 7 220 rfl rfl (by decide) (fun w h => List.mem_cons_of_mem _ (zf_X16 w h)) rfl (List.mem_cons_of_mem _ zm_891) (zq_oth (by decide) (zq_oth (by decide) (zq_oth (by decide) ((zq_same (zq_lt hf1_n (by decide) (by simp only [List.length_set]))))))) dX16_loadBundle_226 ?_
  refine zz_put X 7 42 rfl rfl (by decide) (fun w h => List.mem_cons_of_mem _ (zf_X16 w h)) rfl (List.mem_cons_of_mem _ zm_758) tyX16 tyX16_ok nmX16 rfl (ty := .int) rfl rfl rfl (zq_lt hf1_n (by decide) (by simp only [List.length_set])) dX16_loadBundle_229 [(x2, .inl (cA 1, 6, .inl (upd (upd (fun _ => 0) 0 1) 1 1))), (x8, .inl (cA 1, 6, .inl (fun _ => 0))), (x3, .inl (cA 1, 4096, .inl (upd (upd (upd (upd g1 95 1) 3170 2) 1994 3) 4010 4))), (x4, .inl (cA 0, 17000, .inl ((upd (upd (upd (upd (upd (upd (upd (upd (upd (upd (upd (upd (upd (fun _ => 0) 0 95) 0 115) 1 101) 2 116) 0 105) 1 110) 2 112) 3 117) 4 116) 0 100) 1 97) 2 116) 3 97)))), (x6, .inl (cA 1, 13001, .inl (upd (upd (upd (upd (fun _ => 0) 1 1) 2 4) 3 9) 4 13))), (x5, .inl (cA 0, 40000, .inl (upd (upd (upd (upd (upd (upd (upd (upd (upd (upd (upd (upd (upd (fun _ => 0) 0 95) 1 115) 2 101) 3 116) 4 105) 5 110) 6 112) 7 117) 8 116) 9 100) 10 97) 11 116) 12 97))), (x7, .inl (cA 1, 13000, .inl (upd (upd (upd (upd (fun _ => 0) 0 0) 1 0) 2 0) 3 0))), (x1, .inr (16, ((((((((((((((((((((((((((((f1.set 37 (.int 0)).set 42 (.int 0)).set 48 (.int 0)).set 20 (.int 0)).set 56 (.int 0)).set 63 (.int 0)).set 72 (.int 0)).set 20 (.int 1)).set 52 (.int 0)).set 20 (.int 2)).set 53 (.int 1)).set 20 (.int 3)).set 54 (.int 2)).set 20 (.int 4)).set 55 (.int 3)).set 83 (.int 0)).set 108 (.int 0)).set 78 (.int 0)).set 216 (.int 0)).set 217 (.int 0)).set 218 (.int 0)).set 215 (.int 1)).set 219 (.int 0)).set 220 (.int 0)).set 221 (.int 0)).set 222 (.int 0)).set 37 (.int 0)).set 42 (.int 0))))] rfl ?_
  refine zz_aload_n X 1 dX16_loadBundle_232 rfl rfl ?_
  refine zz_aload_n X 1 dX16_loadBundle_233 rfl rfl ?_
  refine zz_get X 7 221 rfl rfl (by decide) (fun w h => List.mem_cons_of_mem _ (zf_X16 w h)) rfl (List.mem_cons_of_mem _ zm_892) (zq_oth (by decide) (zq_oth (by decide) (zq_oth (by decide) ((zq_same (zq_lt hf1_n (by decide) (by simp only [List.length_set]))))))) dX16_loadBundle_234 ?_
  refine zz_put X 7 48 rfl rfl (by decide) (fun w h => List.mem_cons_of_mem _ (zf_X16 w h)) rfl (List.mem_cons_of_mem _ zm_759) tyX16 tyX16_ok nmX16 rfl (ty := .int) rfl rfl rfl (zq_lt hf1_n (by decide) (by simp only [List.length_set])) dX16_loadBundle_237 [(x2, .inl (cA 1, 6, .inl (upd (upd (fun _ => 0) 0 1) 1 1))), (x8, .inl (cA 1, 6, .inl (fun _ => 0))), (x3, .inl (cA 1, 4096, .inl (upd (upd (upd (upd g1 95 1) 3170 2) 1994 3) 4010 4))), (x4, .inl (cA 0, 17000, .inl ((upd (upd (upd (upd (upd (upd (upd (upd (upd (upd (upd (upd (upd (fun _ => 0) 0 95) 0 115) 1 101) 2 116) 0 105) 1 110) 2 112) 3 117) 4 116) 0 100) 1 97) 2 116) 3 97)))), (x6, .inl (cA 1, 13001, .inl (upd (upd (upd (upd (fun _ => 0) 1 1) 2 4) 3 9) 4 13))), (x5, .inl (cA 0, 40000, .inl (upd (upd (upd (upd (upd (upd (upd (upd (upd (upd (upd (upd (upd (fun _ => 0) 0 95) 1 115) 2 101) 3 116) 4 105) 5 110) 6 112) 7 117) 8 116) 9 100) 10 97) 11 116) 12 97))), (x7, .inl (cA 1, 13000, .inl (upd (upd (upd (upd (fun _ => 0) 0 0) 1 0) 2 0) 3 0))), (x1, .inr (16, (((((((((((((((((((((((((((((f1.set 37 (.int 0)).set 42 (.int 0)).set 48 (.int 0)).set 20 (.int 0)).set 56 (.int 0)).set 63 (.int 0)).set 72 (.int 0)).set 20 (.int 1)).set 52 (.int 0)).set 20 (.int 2)).set 53 (.int 1)).set 20 (.int 3)).set 54 (.int 2)).set 20 (.int 4)).set 55 (.int 3)).set 83 (.int 0)).set 108 (.int 0)).set 78 (.int 0)).set 216 (.int 0)).set 217 (.int 0)).set 218 (.int 0)).set 215 (.int 1)).set 219 (.int 0)).set 220 (.int 0)).set 221 (.int 0)).set 222 (.int 0)).set 37 (.int 0)).set 42 (.int 0)).set 48 (.int 0))))] rfl ?_
  refine zz_aload_n X 1 dX16_loadBundle_240 rfl rfl ?_
  refine zz_aload_n X 1 dX16_loadBundle_241 rfl rfl ?_
  refine zz_get X 7 222 rfl rfl (by decide) (fun w h => List.mem_cons_of_mem _ (zf_X16 w h)) rfl (List.mem_cons_of_mem _ zm_893) (zq_oth (by decide) (zq_oth (by decide) (zq_oth (by decide) ((zq_same (zq_lt hf1_n (by decide) (by simp only [List.length_set]))))))) dX16_loadBundle_242 ?_
  refine zz_put X 7 108 rfl rfl (by decide) (fun w h => List.mem_cons_of_mem _ (zf_X16 w h)) rfl (List.mem_cons_of_mem _ zm_855) tyX16 tyX16_ok nmX16 rfl (ty := .int) rfl rfl rfl (zq_lt hf1_n (by decide) (by simp only [List.length_set])) dX16_loadBundle_245 [(x2, .inl (cA 1, 6, .inl (upd (upd (fun _ => 0) 0 1) 1 1))), (x8, .inl (cA 1, 6, .inl (fun _ => 0))), (x3, .inl (cA 1, 4096, .inl (upd (upd (upd (upd g1 95 1) 3170 2) 1994 3) 4010 4))), (x4, .inl (cA 0, 17000, .inl ((upd (upd (upd (upd (upd (upd (upd (upd (upd (upd (upd (upd (upd (fun _ => 0) 0 95) 0 115) 1 101) 2 116) 0 105) 1 110) 2 112) 3 117) 4 116) 0 100) 1 97) 2 116) 3 97)))), (x6, .inl (cA 1, 13001, .inl (upd (upd (upd (upd (fun _ => 0) 1 1) 2 4) 3 9) 4 13))), (x5, .inl (cA 0, 40000, .inl (upd (upd (upd (upd (upd (upd (upd (upd (upd (upd (upd (upd (upd (fun _ => 0) 0 95) 1 115) 2 101) 3 116) 4 105) 5 110) 6 112) 7 117) 8 116) 9 100) 10 97) 11 116) 12 97))), (x7, .inl (cA 1, 13000, .inl (upd (upd (upd (upd (fun _ => 0) 0 0) 1 0) 2 0) 3 0))), (x1, .inr (16, ((((((((((((((((((((((((((((((f1.set 37 (.int 0)).set 42 (.int 0)).set 48 (.int 0)).set 20 (.int 0)).set 56 (.int 0)).set 63 (.int 0)).set 72 (.int 0)).set 20 (.int 1)).set 52 (.int 0)).set 20 (.int 2)).set 53 (.int 1)).set 20 (.int 3)).set 54 (.int 2)).set 20 (.int 4)).set 55 (.int 3)).set 83 (.int 0)).set 108 (.int 0)).set 78 (.int 0)).set 216 (.int 0)).set 217 (.int 0)).set 218 (.int 0)).set 215 (.int 1)).set 219 (.int 0)).set 220 (.int 0)).set 221 (.int 0)).set 222 (.int 0)).set 37 (.int 0)).set 42 (.int 0)).set 48 (.int 0)).set 108 (.int 0))))] rfl ?_
  refine zz_aload_n X 1 dX16_loadBundle_248 rfl rfl ?_
  refine zz_aload_n X 1 dX16_loadBundle_249 rfl rfl ?_
  refine zz_get X 7 216 rfl rfl (by decide) (fun w h => List.mem_cons_of_mem _ (zf_X16 w h)) rfl (List.mem_cons_of_mem _ zm_885) (zq_oth (by decide) (zq_oth (by decide) (zq_oth (by decide) (zq_oth (by decide) (zq_oth (by decide) (zq_oth (by decide) (zq_oth (by decide) (zq_oth (by decide) (zq_oth (by decide) (zq_oth (by decide) (zq_oth (by decide) ((zq_same (zq_lt hf1_n (by decide) (by simp only [List.length_set]))))))))))))))) dX16_loadBundle_250 ?_
  refine zz_put X 7 83 rfl rfl (by decide) (fun w h => List.mem_cons_of_mem _ (zf_X16 w h)) rfl (List.mem_cons_of_mem _ zm_854) tyX16 tyX16_ok nmX16 rfl (ty := .int) rfl rfl rfl (zq_lt hf1_n (by decide) (by simp only [List.length_set])) dX16_loadBundle_253 [(x2, .inl (cA 1, 6, .inl (upd (upd (fun _ => 0) 0 1) 1 1))), (x8, .inl (cA 1, 6, .inl (fun _ => 0))), (x3, .inl (cA 1, 4096, .inl (upd (upd (upd (upd g1 95 1) 3170 2) 1994 3) 4010 4))), (x4, .inl (cA 0, 17000, .inl ((upd (upd (upd (upd (upd (upd (upd (upd (upd (upd (upd (upd (upd (fun _ => 0) 0 95) 0 115) 1 101) 2 116) 0 105) 1 110) 2 112) 3 117) 4 116) 0 100) 1 97) 2 116) 3 97)))), (x6, .inl (cA 1, 13001, .inl (upd (upd (upd (upd (fun _ => 0) 1 1) 2 4) 3 9) 4 13))), (x5, .inl (cA 0, 40000, .inl (upd (upd (upd (upd (upd (upd (upd (upd (upd (upd (upd (upd (upd (fun _ => 0) 0 95) 1 115) 2 101) 3 116) 4 105) 5 110) 6 112) 7 117) 8 116) 9 100) 10 97) 11 116) 12 97))), (x7, .inl (cA 1, 13000, .inl (upd (upd (upd (upd (fun _ => 0) 0 0) 1 0) 2 0) 3 0))), (x1, .inr (16, (((((((((((((((((((((((((((((((f1.set 37 (.int 0)).set 42 (.int 0)).set 48 (.int 0)).set 20 (.int 0)).set 56 (.int 0)).set 63 (.int 0)).set 72 (.int 0)).set 20 (.int 1)).set 52 (.int 0)).set 20 (.int 2)).set 53 (.int 1)).set 20 (.int 3)).set 54 (.int 2)).set 20 (.int 4)).set 55 (.int 3)).set 83 (.int 0)).set 108 (.int 0)).set 78 (.int 0)).set 216 (.int 0)).set 217 (.int 0)).set 218 (.int 0)).set 215 (.int 1)).set 219 (.int 0)).set 220 (.int 0)).set 221 (.int 0)).set 222 (.int 0)).set 37 (.int 0)).set 42 (.int 0)).set 48 (.int 0)).set 108 (.int 0)).set 83 (.int 0))))] rfl ?_
  refine zz_aload_n X 1 dX16_loadBundle_256 rfl rfl ?_
  refine zz_aload_n X 1 dX16_loadBundle_257 rfl rfl ?_
  refine zz_get X 7 217 rfl rfl (by decide) (fun w h => List.mem_cons_of_mem _ (zf_X16 w h)) rfl (List.mem_cons_of_mem _ zm_887) (zq_oth (by decide) (zq_oth (by decide) (zq_oth (by decide) (zq_oth (by decide) (zq_oth (by decide) (zq_oth (by decide) (zq_oth (by decide) (zq_oth (by decide) (zq_oth (by decide) (zq_oth (by decide) (zq_oth (by decide) ((zq_same (zq_lt hf1_n (by decide) (by simp only [List.length_set]))))))))))))))) dX16_loadBundle_258 ?_
  refine zz_put X 7 84 rfl rfl (by decide) (fun w h => List.mem_cons_of_mem _ (zf_X16 w h)) rfl (List.mem_cons_of_mem _ zm_886) tyX16 tyX16_ok nmX16 rfl (ty := .int) rfl rfl rfl (zq_lt hf1_n (by decide) (by simp only [List.length_set])) dX16_loadBundle_261 [(x2, .inl (cA 1, 6, .inl (upd (upd (fun _ => 0) 0 1) 1 1))), (x8, .inl (cA 1, 6, .inl (fun _ => 0))), (x3, .inl (cA 1, 4096, .inl (upd (upd (upd (upd g1 95 1) 3170 2) 1994 3) 4010 4))), (x4, .inl (cA 0, 17000, .inl ((upd (upd (upd (upd (upd (upd (upd (upd (upd (upd (upd (upd (upd (fun _ => 0) 0 95) 0 115) 1 101) 2 116) 0 105) 1 110) 2 112) 3 117) 4 116) 0 100) 1 97) 2 116) 3 97)))), (x6, .inl (cA 1, 13001, .inl (upd (upd (upd (upd (fun _ => 0) 1 1) 2 4) 3 9) 4 13))), (x5, .inl (cA 0, 40000, .inl (upd (upd (upd (upd (upd (upd (upd (upd (upd (upd (upd (upd (upd (fun _ => 0) 0 95) 1 115) 2 101) 3 116) 4 105) 5 110) 6 112) 7 117) 8 116) 9 100) 10 97) 11 116) 12 97))), (x7, .inl (cA 1, 13000, .inl (upd (upd (upd (upd (fun _ => 0) 0 0) 1 0) 2 0) 3 0))), (x1, .inr (16, ((((((((((((((((((((((((((((((((f1.set 37 (.int 0)).set 42 (.int 0)).set 48 (.int 0)).set 20 (.int 0)).set 56 (.int 0)).set 63 (.int 0)).set 72 (.int 0)).set 20 (.int 1)).set 52 (.int 0)).set 20 (.int 2)).set 53 (.int 1)).set 20 (.int 3)).set 54 (.int 2)).set 20 (.int 4)).set 55 (.int 3)).set 83 (.int 0)).set 108 (.int 0)).set 78 (.int 0)).set 216 (.int 0)).set 217 (.int 0)).set 218 (.int 0)).set 215 (.int 1)).set 219 (.int 0)).set 220 (.int 0)).set 221 (.int 0)).set 222 (.int 0)).set 37 (.int 0)).set 42 (.int 0)).set 48 (.int 0)).set 108 (.int 0)).set 83 (.int 0)).set 84 (.int 0))))] rfl ?_
  refine zz_aload_n X 1 dX16_loadBundle_264 rfl rfl ?_
  refine zz_aload_n X 1 dX16_loadBundle_265 rfl rfl ?_
  refine zz_get X 7 218 rfl rfl (by decide) (fun w h => List.mem_cons_of_mem _ (zf_X16 w h)) rfl (List.mem_cons_of_mem _ zm_889) (zq_oth (by decide) (zq_oth (by decide) (zq_oth (by decide) (zq_oth (by decide) (zq_oth (by decide) (zq_oth (by decide) (zq_oth (by decide) (zq_oth (by decide) (zq_oth (by decide) (zq_oth (by decide) (zq_oth (by decide) ((zq_same (zq_lt hf1_n (by decide) (by simp only [List.length_set]))))))))))))))) dX16_loadBundle_266 ?_
  refine zz_put X 7 85 rfl rfl (by decide) (fun w h => List.mem_cons_of_mem _ (zf_X16 w h)) rfl (List.mem_cons_of_mem _ zm_888) tyX16 tyX16_ok nmX16 rfl (ty := .int) rfl rfl rfl (zq_lt hf1_n (by decide) (by simp only [List.length_set])) dX16_loadBundle_269 [(x2, .inl (cA 1, 6, .inl (upd (upd (fun _ => 0) 0 1) 1 1))), (x8, .inl (cA 1, 6, .inl (fun _ => 0))), (x3, .inl (cA 1, 4096, .inl (upd (upd (upd (upd g1 95 1) 3170 2) 1994 3) 4010 4))), (x4, .inl (cA 0, 17000, .inl ((upd (upd (upd (upd (upd (upd (upd (upd (upd (upd (upd (upd (upd (fun _ => 0) 0 95) 0 115) 1 101) 2 116) 0 105) 1 110) 2 112) 3 117) 4 116) 0 100) 1 97) 2 116) 3 97)))), (x6, .inl (cA 1, 13001, .inl (upd (upd (upd (upd (fun _ => 0) 1 1) 2 4) 3 9) 4 13))), (x5, .inl (cA 0, 40000, .inl (upd (upd (upd (upd (upd (upd (upd (upd (upd (upd (upd (upd (upd (fun _ => 0) 0 95) 1 115) 2 101) 3 116) 4 105) 5 110) 6 112) 7 117) 8 116) 9 100) 10 97) 11 116) 12 97))), (x7, .inl (cA 1, 13000, .inl (upd (upd (upd (upd (fun _ => 0) 0 0) 1 0) 2 0) 3 0))), (x1, .inr (16, (((((((((((((((((((((((((((((((((f1.set 37 (.int 0)).set 42 (.int 0)).set 48 (.int 0)).set 20 (.int 0)).set 56 (.int 0)).set 63 (.int 0)).set 72 (.int 0)).set 20 (.int 1)).set 52 (.int 0)).set 20 (.int 2)).set 53 (.int 1)).set 20 (.int 3)).set 54 (.int 2)).set 20 (.int 4)).set 55 (.int 3)).set 83 (.int 0)).set 108 (.int 0)).set 78 (.int 0)).set 216 (.int 0)).set 217 (.int 0)).set 218 (.int 0)).set 215 (.int 1)).set 219 (.int 0)).set 220 (.int 0)).set 221 (.int 0)).set 222 (.int 0)).set 37 (.int 0)).set 42 (.int 0)).set 48 (.int 0)).set 108 (.int 0)).set 83 (.int 0)).set 84 (.int 0)).set 85 (.int 0))))] rfl ?_
  exact zz_vret X hr (g1) [7, 0, 2, 3, 4, 5, 6, 1] (by decide) rfl rfl (Nat.le_of_ble_eq_true rfl) (Nat.le_of_ble_eq_true rfl) (hq3) dX16_loadBundle_272

set_option maxHeartbeats 4000000 in
set_option maxRecDepth 100000 in
/-- keepFault -/
theorem kX16_keepFault_1 {E : zEn} (hE : zOk E) (l : Launch) (D : va_G) (cA : Nat → ClassId) (K : Nat → Nat) (V : Nat → Nat) (x1 : Nat) (f1 : List Value) (hss : zSS E K V) (hf1_n : f1.length = 243) (hf1_83 : f1[83]? = some (.int 0)) : zMv E l yX16_keepFault zwX16_keepFault ({ frames := 1, cells := 0, slots := 0, locals := 20 }) D vwCl (zT cA) [.ref x1] [(x1, .inr (16, f1))] (S := Unit) (fun (u : Unit) => (True)) (fun (u : Unit) => [(x1, .inr (16, (((f1.set 223 (.int 0)).set 224 (.int (-1))).set 225 (.int (-1)))))]) := by
  refine zz_enterv (cc := cX16_keepFault) (lv := [(0, .ref x1)]) hE 1 (by decide) rfl (Nat.le_of_ble_eq_true rfl) rfl ?_
  intro p e s m args below meth c X hr hin
  refine zz_aload_n X 0 dX16_keepFault_0 rfl rfl ?_
  refine zz_aload_n X 0 dX16_keepFault_1 rfl rfl ?_
  refine zz_get X 0 83 rfl rfl (by decide) (fun w h => List.mem_cons_of_mem _ (zf_X16 w h)) rfl (List.mem_cons_of_mem _ zm_854) hf1_83 dX16_keepFault_2 ?_
  refine zz_put X 0 223 rfl rfl (by decide) (fun w h => List.mem_cons_of_mem _ (zf_X16 w h)) rfl (List.mem_cons_of_mem _ zm_898) tyX16 tyX16_ok nmX16 rfl (ty := .int) rfl rfl rfl (zq_lt hf1_n (by decide) (by simp only [List.length_set])) dX16_keepFault_5 [(x1, .inr (16, (f1.set 223 (.int 0))))] rfl ?_
  refine zz_aload_n X 0 dX16_keepFault_8 rfl rfl ?_
  refine zz_aload_n X 0 dX16_keepFault_9 rfl rfl ?_
  refine zz_callVi X (rest := [.ref x1]) (As := []) (kX16_isFaulty_1 hE l D cA K V x1 (f1.set 223 (.int 0)) hss (zq_len hf1_n (by simp only [List.length_set])) (zq_oth (by decide) (hf1_83))) 0 (zgV zm_866 zm_867 zm_868 zm_451 zm_865) rfl (by decide +kernel) [0] [] [] rfl rfl (by decide) rfl (by decide) (by decide) ⟨Nat.le_of_ble_eq_true rfl, Nat.le_of_ble_eq_true rfl⟩ 0 rfl rfl rfl rfl rfl (Nat.le_of_ble_eq_true rfl) dX16_keepFault_10 (Nat.le_of_ble_eq_true rfl) (Nat.le_of_ble_eq_true rfl) (fun r1 _ hw2 => ?_)
  obtain rfl := hw2
  refine zz_show (ws' := [(x1, .inr (16, (f1.set 223 (.int 0))))]) rfl ?_
  refine zz_if_eq X 23 dX16_keepFault_13 (by decide) (fun _ => ?_) (fun h => absurd (by decide) h)
  refine zz_iconst X (-1) dX16_keepFault_23 rfl ?_
  refine zz_put X 0 224 rfl rfl (by decide) (fun w h => List.mem_cons_of_mem _ (zf_X16 w h)) rfl (List.mem_cons_of_mem _ zm_621) tyX16 tyX16_ok nmX16 rfl (ty := .int) rfl rfl rfl (zq_lt hf1_n (by decide) (by simp only [List.length_set])) dX16_keepFault_24 [(x1, .inr (16, ((f1.set 223 (.int 0)).set 224 (.int (-1)))))] rfl ?_
  refine zz_aload_n X 0 dX16_keepFault_27 rfl rfl ?_
  refine zz_aload_n X 0 dX16_keepFault_28 rfl rfl ?_
  refine zz_callVi X (rest := [.ref x1]) (As := []) (kX16_isFaulty_1 hE l D cA K V x1 ((f1.set 223 (.int 0)).set 224 (.int (-1))) hss (zq_len hf1_n (by simp only [List.length_set])) (zq_oth (by decide) (zq_oth (by decide) (hf1_83)))) 0 (zgV zm_866 zm_867 zm_868 zm_451 zm_865) rfl (by decide +kernel) [0] [] [] rfl rfl (by decide) rfl (by decide) (by decide) ⟨Nat.le_of_ble_eq_true rfl, Nat.le_of_ble_eq_true rfl⟩ 0 rfl rfl rfl rfl rfl (Nat.le_of_ble_eq_true rfl) dX16_keepFault_29 (Nat.le_of_ble_eq_true rfl) (Nat.le_of_ble_eq_true rfl) (fun r3 _ hw4 => ?_)
  obtain rfl := hw4
  refine zz_show (ws' := [(x1, .inr (16, ((f1.set 223 (.int 0)).set 224 (.int (-1)))))]) rfl ?_
  refine zz_if_eq X 42 dX16_keepFault_32 (by decide) (fun _ => ?_) (fun h => absurd (by decide) h)
  refine zz_iconst X (-1) dX16_keepFault_42 rfl ?_
  refine zz_put X 0 225 rfl rfl (by decide) (fun w h => List.mem_cons_of_mem _ (zf_X16 w h)) rfl (List.mem_cons_of_mem _ zm_622) tyX16 tyX16_ok nmX16 rfl (ty := .int) rfl rfl rfl (zq_lt hf1_n (by decide) (by simp only [List.length_set])) dX16_keepFault_43 [(x1, .inr (16, (((f1.set 223 (.int 0)).set 224 (.int (-1))).set 225 (.int (-1)))))] rfl ?_
  exact zz_vret X hr (()) [0] (by decide) rfl rfl (Nat.le_of_ble_eq_true rfl) (Nat.le_of_ble_eq_true rfl) (trivial) dX16_keepFault_46

set_option maxHeartbeats 4000000 in
set_option maxRecDepth 100000 in
/-- check -/
theorem kX16_check_1 {E : zEn} (hE : zOk E) (l : Launch) (D : va_G) (cA : Nat → ClassId) (K : Nat → Nat) (V : Nat → Nat) (x1 : Nat) (f1 : List Value) (x2 : Nat) (x3 : Nat) (x4 : Nat) (x5 : Nat) (x6 : Nat) (x7 : Nat) (x8 : Nat) (hss : zSS E K V) (hf1_n : f1.length = 243) (hf1_215 : f1[215]? = some (.int (-1))) (hf1_211 : f1[211]? = some (.ref x2)) (hf1_19 : f1[19]? = some (.ref x3)) (hf1_0 : f1[0]? = some (.ref x4)) (hf1_16 : f1[16]? = some (.ref x5)) (hf1_17 : f1[17]? = some (.ref x6)) (hf1_18 : f1[18]? = some (.ref x7)) (hf1_210 : f1[210]? = some (.ref x8)) (hf1_84 : f1[84]? = some (.int 0)) (hf1_85 : f1[85]? = some (.int 0)) : zMi E l yX16_check zwX16_check ({ frames := 7, cells := 0, slots := 0, locals := 152 }) D vwCl (zT cA) [.ref x1] [(x1, .inr (16, f1)), (x2, .inl (cA 1, 6, .inl (upd (upd (fun _ => 0) 0 1) 1 1))), (x3, .inl (cA 1, 4096, .inl (fun _ => 0))), (x4, .inl (cA 0, 17000, .inl (fun _ => 0))), (x6, .inl (cA 1, 13001, .inl (fun _ => 0))), (x5, .inl (cA 0, 40000, .inl (fun _ => 0))), (x7, .inl (cA 1, 13000, .inl (fun _ => 0))), (x8, .inl (cA 1, 6, .inl (fun _ => 0)))] (S := Unit) (fun (r : Int32) (u : Unit) => (r = 0)) (fun (u : Unit) => []) := by
  refine zz_enteri (cc := cX16_check) (lv := [(0, .ref x1)]) hE 1 (by decide) rfl (Nat.le_of_ble_eq_true rfl) rfl ?_
  intro p e s m args below meth c X hr hin
  refine zz_aload_n X 0 dX16_check_0 rfl rfl ?_
  refine zz_iconst X 0 dX16_check_1 rfl ?_
  refine zz_put X 0 227 rfl rfl (by decide) (fun w h => List.mem_cons_of_mem _ (zf_X16 w h)) rfl (List.mem_cons_of_mem _ zm_655) tyX16 tyX16_ok nmX16 rfl (ty := .int) rfl rfl rfl (zq_lt hf1_n (by decide) (by simp only [List.length_set])) dX16_check_2 [(x1, .inr (16, (f1.set 227 (.int 0)))), (x2, .inl (cA 1, 6, .inl (upd (upd (fun _ => 0) 0 1) 1 1))), (x3, .inl (cA 1, 4096, .inl (fun _ => 0))), (x4, .inl (cA 0, 17000, .inl (fun _ => 0))), (x6, .inl (cA 1, 13001, .inl (fun _ => 0))), (x5, .inl (cA 0, 40000, .inl (fun _ => 0))), (x7, .inl (cA 1, 13000, .inl (fun _ => 0))), (x8, .inl (cA 1, 6, .inl (fun _ => 0)))] rfl ?_
  refine zz_aload_n X 0 dX16_check_5 rfl rfl ?_
  refine zz_iconst X 0 dX16_check_6 rfl ?_
  refine zz_callVv X (rest := []) (As := [.int 0]) (kX16_loadBundle_1 hE l D cA K V x1 (f1.set 227 (.int 0)) x2 x3 x4 x5 x6 x7 x8 hss (zq_len hf1_n (by simp only [List.length_set])) (zq_oth (by decide) (hf1_215)) (zq_oth (by decide) (hf1_211)) (zq_oth (by decide) (hf1_19)) (zq_oth (by decide) (hf1_0)) (zq_oth (by decide) (hf1_16)) (zq_oth (by decide) (hf1_17)) (zq_oth (by decide) (hf1_18)) (zq_oth (by decide) (hf1_210)) (zq_oth (by decide) (hf1_84)) (zq_oth (by decide) (hf1_85))) 1 (zgV zm_895 zm_896 zm_897 zm_451 zm_894) rfl (by decide +kernel) [0, 1, 2, 3, 4, 5, 6, 7] [] [] rfl rfl (by decide) rfl (by decide) (by decide) ⟨Nat.le_of_ble_eq_true rfl, Nat.le_of_ble_eq_true rfl⟩ 0 rfl rfl rfl rfl rfl (Nat.le_of_ble_eq_true rfl) dX16_check_7 (Nat.le_of_ble_eq_true rfl) (Nat.le_of_ble_eq_true rfl) (fun uhw2 hw2 => ?_)
  obtain ⟨g1, rfl⟩ : ∃ z, z = uhw2 := ⟨_, rfl⟩
  have hq3 := hw2
  refine zz_show (ws' := [(x1, .inr (16, ((((((((((((((((((((((((((((((((((f1.set 227 (.int 0)).set 37 (.int 0)).set 42 (.int 0)).set 48 (.int 0)).set 20 (.int 0)).set 56 (.int 0)).set 63 (.int 0)).set 72 (.int 0)).set 20 (.int 1)).set 52 (.int 0)).set 20 (.int 2)).set 53 (.int 1)).set 20 (.int 3)).set 54 (.int 2)).set 20 (.int 4)).set 55 (.int 3)).set 83 (.int 0)).set 108 (.int 0)).set 78 (.int 0)).set 216 (.int 0)).set 217 (.int 0)).set 218 (.int 0)).set 215 (.int 1)).set 219 (.int 0)).set 220 (.int 0)).set 221 (.int 0)).set 222 (.int 0)).set 37 (.int 0)).set 42 (.int 0)).set 48 (.int 0)).set 108 (.int 0)).set 83 (.int 0)).set 84 (.int 0)).set 85 (.int 0)))), (x2, .inl (cA 1, 6, .inl (upd (upd (fun _ => 0) 0 1) 1 1))), (x3, .inl (cA 1, 4096, .inl (upd (upd (upd (upd g1 95 1) 3170 2) 1994 3) 4010 4))), (x4, .inl (cA 0, 17000, .inl ((upd (upd (upd (upd (upd (upd (upd (upd (upd (upd (upd (upd (upd (fun _ => 0) 0 95) 0 115) 1 101) 2 116) 0 105) 1 110) 2 112) 3 117) 4 116) 0 100) 1 97) 2 116) 3 97)))), (x6, .inl (cA 1, 13001, .inl (upd (upd (upd (upd (fun _ => 0) 1 1) 2 4) 3 9) 4 13))), (x5, .inl (cA 0, 40000, .inl (upd (upd (upd (upd (upd (upd (upd (upd (upd (upd (upd (upd (upd (fun _ => 0) 0 95) 1 115) 2 101) 3 116) 4 105) 5 110) 6 112) 7 117) 8 116) 9 100) 10 97) 11 116) 12 97))), (x7, .inl (cA 1, 13000, .inl (upd (upd (upd (upd (fun _ => 0) 0 0) 1 0) 2 0) 3 0))), (x8, .inl (cA 1, 6, .inl (fun _ => 0)))]) rfl ?_
  refine zz_aload_n X 0 dX16_check_10 rfl rfl ?_
  refine zz_callVv X (rest := []) (As := []) (kX16_keepFault_1 hE l D cA K V x1 ((((((((((((((((((((((((((((((((((f1.set 227 (.int 0)).set 37 (.int 0)).set 42 (.int 0)).set 48 (.int 0)).set 20 (.int 0)).set 56 (.int 0)).set 63 (.int 0)).set 72 (.int 0)).set 20 (.int 1)).set 52 (.int 0)).set 20 (.int 2)).set 53 (.int 1)).set 20 (.int 3)).set 54 (.int 2)).set 20 (.int 4)).set 55 (.int 3)).set 83 (.int 0)).set 108 (.int 0)).set 78 (.int 0)).set 216 (.int 0)).set 217 (.int 0)).set 218 (.int 0)).set 215 (.int 1)).set 219 (.int 0)).set 220 (.int 0)).set 221 (.int 0)).set 222 (.int 0)).set 37 (.int 0)).set 42 (.int 0)).set 48 (.int 0)).set 108 (.int 0)).set 83 (.int 0)).set 84 (.int 0)).set 85 (.int 0)) hss (zq_len hf1_n (by simp only [List.length_set])) (zq_oth (by decide) (zq_oth (by decide) ((zq_same (zq_lt hf1_n (by decide) (by simp only [List.length_set]))))))) 0 (zgV zm_900 zm_901 zm_902 zm_451 zm_899) rfl (by decide +kernel) [0] [1, 2, 3, 4, 5, 6, 7] [(x2, .inl (cA 1, 6, .inl (upd (upd (fun _ => 0) 0 1) 1 1))), (x3, .inl (cA 1, 4096, .inl (upd (upd (upd (upd g1 95 1) 3170 2) 1994 3) 4010 4))), (x4, .inl (cA 0, 17000, .inl ((upd (upd (upd (upd (upd (upd (upd (upd (upd (upd (upd (upd (upd (fun _ => 0) 0 95) 0 115) 1 101) 2 116) 0 105) 1 110) 2 112) 3 117) 4 116) 0 100) 1 97) 2 116) 3 97)))), (x6, .inl (cA 1, 13001, .inl (upd (upd (upd (upd (fun _ => 0) 1 1) 2 4) 3 9) 4 13))), (x5, .inl (cA 0, 40000, .inl (upd (upd (upd (upd (upd (upd (upd (upd (upd (upd (upd (upd (upd (fun _ => 0) 0 95) 1 115) 2 101) 3 116) 4 105) 5 110) 6 112) 7 117) 8 116) 9 100) 10 97) 11 116) 12 97))), (x7, .inl (cA 1, 13000, .inl (upd (upd (upd (upd (fun _ => 0) 0 0) 1 0) 2 0) 3 0))), (x8, .inl (cA 1, 6, .inl (fun _ => 0)))] rfl rfl (by decide) rfl (by decide) (by decide) ⟨Nat.le_of_ble_eq_true rfl, Nat.le_of_ble_eq_true rfl⟩ 0 rfl rfl rfl rfl rfl (Nat.le_of_ble_eq_true rfl) dX16_check_11 (Nat.le_of_ble_eq_true rfl) (Nat.le_of_ble_eq_true rfl) (fun _ hw4 => ?_)
  refine zz_show (ws' := [(x2, .inl (cA 1, 6, .inl (upd (upd (fun _ => 0) 0 1) 1 1))), (x3, .inl (cA 1, 4096, .inl (upd (upd (upd (upd g1 95 1) 3170 2) 1994 3) 4010 4))), (x4, .inl (cA 0, 17000, .inl ((upd (upd (upd (upd (upd (upd (upd (upd (upd (upd (upd (upd (upd (fun _ => 0) 0 95) 0 115) 1 101) 2 116) 0 105) 1 110) 2 112) 3 117) 4 116) 0 100) 1 97) 2 116) 3 97)))), (x6, .inl (cA 1, 13001, .inl (upd (upd (upd (upd (fun _ => 0) 1 1) 2 4) 3 9) 4 13))), (x5, .inl (cA 0, 40000, .inl (upd (upd (upd (upd (upd (upd (upd (upd (upd (upd (upd (upd (upd (fun _ => 0) 0 95) 1 115) 2 101) 3 116) 4 105) 5 110) 6 112) 7 117) 8 116) 9 100) 10 97) 11 116) 12 97))), (x7, .inl (cA 1, 13000, .inl (upd (upd (upd (upd (fun _ => 0) 0 0) 1 0) 2 0) 3 0))), (x8, .inl (cA 1, 6, .inl (fun _ => 0))), (x1, .inr (16, (((((((((((((((((((((((((((((((((((((f1.set 227 (.int 0)).set 37 (.int 0)).set 42 (.int 0)).set 48 (.int 0)).set 20 (.int 0)).set 56 (.int 0)).set 63 (.int 0)).set 72 (.int 0)).set 20 (.int 1)).set 52 (.int 0)).set 20 (.int 2)).set 53 (.int 1)).set 20 (.int 3)).set 54 (.int 2)).set 20 (.int 4)).set 55 (.int 3)).set 83 (.int 0)).set 108 (.int 0)).set 78 (.int 0)).set 216 (.int 0)).set 217 (.int 0)).set 218 (.int 0)).set 215 (.int 1)).set 219 (.int 0)).set 220 (.int 0)).set 221 (.int 0)).set 222 (.int 0)).set 37 (.int 0)).set 42 (.int 0)).set 48 (.int 0)).set 108 (.int 0)).set 83 (.int 0)).set 84 (.int 0)).set 85 (.int 0)).set 223 (.int 0)).set 224 (.int (-1))).set 225 (.int (-1)))))]) rfl ?_
  refine zz_aload_n X 0 dX16_check_14 rfl rfl ?_
  refine zz_get X 7 223 rfl rfl (by decide) (fun w h => List.mem_cons_of_mem _ (zf_X16 w h)) rfl (List.mem_cons_of_mem _ zm_898) (zq_oth (by decide) (zq_oth (by decide) ((zq_same (zq_lt hf1_n (by decide) (by simp only [List.length_set])))))) dX16_check_15 ?_
  exact zz_iret X hr (()) [] (by decide) rfl rfl (Nat.le_of_ble_eq_true rfl) (Nat.le_of_ble_eq_true rfl) (rfl) dX16_check_18

set_option maxHeartbeats 4000000 in
set_option maxRecDepth 100000 in
/-- copyBundle -/
theorem kX16_copyBundle_1 {E : zEn} (hE : zOk E) (l : Launch) (D : va_G) (cA : Nat → ClassId) (K : Nat → Nat) (V : Nat → Nat) (x1 : Nat) (f1 : List Value) (x2 : Nat) (x3 : Nat) (x4 : Nat) (hss : zSS E K V) (hf1_n : f1.length = 243) (hf1_210 : f1[210]? = some (.ref x2)) (hf1_211 : f1[211]? = some (.ref x3)) (hf1_209 : f1[209]? = some (.ref x4)) : zMv E l yX16_copyBundle zwX16_copyBundle ({ frames := 0, cells := 0, slots := 0, locals := 0 }) D vwCl (zT cA) [.ref x1, .int 0, .int 1] [(x1, .inr (16, f1)), (x2, .inl (cA 1, 6, .inl (fun _ => 0))), (x3, .inl (cA 1, 6, .inl (upd (upd (fun _ => 0) 0 1) 1 1))), (x4, .inl (cA 1, 24, .inl (fun _ => 0)))] (S := Unit) (fun (u : Unit) => (True)) (fun (u : Unit) => [(x1, .inr (16, f1)), (x2, .inl (cA 1, 6, .inl (upd (fun _ => 0) 1 0))), (x3, .inl (cA 1, 6, .inl (upd (upd (upd (fun _ => 0) 0 1) 1 1) 1 1))), (x4, .inl (cA 1, 24, .inl (upd (upd (upd (upd (fun _ => 0) 4 0) 5 0) 6 0) 7 0)))]) := by
  refine zz_enterv (cc := cX16_copyBundle) (lv := [(0, .ref x1), (1, .int 0), (2, .int 1)]) hE 5 (by decide) rfl (Nat.le_of_ble_eq_true rfl) rfl ?_
  intro p e s m args below meth c X hr hin
  refine zz_aload_n X 0 dX16_copyBundle_0 rfl rfl ?_
  refine zz_get X 0 210 rfl rfl (by decide) (fun w h => List.mem_cons_of_mem _ (zf_X16 w h)) rfl (List.mem_cons_of_mem _ zm_615) hf1_210 dX16_copyBundle_1 ?_
  refine zz_iload_n X 2 dX16_copyBundle_4 rfl rfl ?_
  refine zz_aload_n X 0 dX16_copyBundle_5 rfl rfl ?_
  refine zz_get X 0 210 rfl rfl (by decide) (fun w h => List.mem_cons_of_mem _ (zf_X16 w h)) rfl (List.mem_cons_of_mem _ zm_615) hf1_210 dX16_copyBundle_6 ?_
  refine zz_iload_n X 1 dX16_copyBundle_9 rfl rfl ?_
  refine zz_iald X 1 1 rfl rfl (vp_in_nI (n := 0) (by decide) (by decide)) (0) rfl dX16_copyBundle_10 ?_
  refine zz_iast X 1 1 rfl rfl (vp_in_nI (n := 1) (by decide) (by decide)) 1 (by decide) dX16_copyBundle_11 [(x1, .inr (16, f1)), (x2, .inl (cA 1, 6, .inl (upd (fun _ => 0) 1 0))), (x3, .inl (cA 1, 6, .inl (upd (upd (fun _ => 0) 0 1) 1 1))), (x4, .inl (cA 1, 24, .inl (fun _ => 0)))] rfl ?_
  refine zz_aload_n X 0 dX16_copyBundle_12 rfl rfl ?_
  refine zz_get X 0 211 rfl rfl (by decide) (fun w h => List.mem_cons_of_mem _ (zf_X16 w h)) rfl (List.mem_cons_of_mem _ zm_616) hf1_211 dX16_copyBundle_13 ?_
  refine zz_iload_n X 2 dX16_copyBundle_16 rfl rfl ?_
  refine zz_aload_n X 0 dX16_copyBundle_17 rfl rfl ?_
  refine zz_get X 0 211 rfl rfl (by decide) (fun w h => List.mem_cons_of_mem _ (zf_X16 w h)) rfl (List.mem_cons_of_mem _ zm_616) hf1_211 dX16_copyBundle_18 ?_
  refine zz_iload_n X 1 dX16_copyBundle_21 rfl rfl ?_
  refine zz_iald X 2 1 rfl rfl (vp_in_nI (n := 0) (by decide) (by decide)) (1) rfl dX16_copyBundle_22 ?_
  refine zz_iast X 2 1 rfl rfl (vp_in_nI (n := 1) (by decide) (by decide)) 1 (by decide) dX16_copyBundle_23 [(x1, .inr (16, f1)), (x2, .inl (cA 1, 6, .inl (upd (fun _ => 0) 1 0))), (x3, .inl (cA 1, 6, .inl (upd (upd (upd (fun _ => 0) 0 1) 1 1) 1 1))), (x4, .inl (cA 1, 24, .inl (fun _ => 0)))] rfl ?_
  refine zz_iconst X 0 dX16_copyBundle_24 rfl ?_
  refine zz_istore_n X [(3, .int 0), (0, .ref x1), (1, .int 0), (2, .int 1)] dX16_copyBundle_25 rfl (by decide) rfl ?_
  refine zz_iload_n X 0 dX16_copyBundle_26 rfl rfl ?_
  refine zz_iconst X 4 dX16_copyBundle_27 rfl ?_
  refine zz_icmp_ge X 118 dX16_copyBundle_28 (by decide) (fun h => absurd h (by decide)) (fun _ => ?_)
  refine zz_aload_n X 1 dX16_copyBundle_31 rfl rfl ?_
  refine zz_get X 0 209 rfl rfl (by decide) (fun w h => List.mem_cons_of_mem _ (zf_X16 w h)) rfl (List.mem_cons_of_mem _ zm_614) hf1_209 dX16_copyBundle_32 ?_
  refine zz_iconst X 4 dX16_copyBundle_35 rfl ?_
  refine zz_iload_n X 3 dX16_copyBundle_36 rfl rfl ?_
  refine zz_imul X (4) dX16_copyBundle_37 (by decide) ?_
  refine zz_iload_n X 0 dX16_copyBundle_38 rfl rfl ?_
  refine zz_iadd X (4) dX16_copyBundle_39 (by decide) ?_
  refine zz_aload_n X 1 dX16_copyBundle_40 rfl rfl ?_
  refine zz_get X 0 209 rfl rfl (by decide) (fun w h => List.mem_cons_of_mem _ (zf_X16 w h)) rfl (List.mem_cons_of_mem _ zm_614) hf1_209 dX16_copyBundle_41 ?_
  refine zz_iconst X 4 dX16_copyBundle_44 rfl ?_
  refine zz_iload_n X 2 dX16_copyBundle_45 rfl rfl ?_
  refine zz_imul X (0) dX16_copyBundle_46 (by decide) ?_
  refine zz_iload_n X 0 dX16_copyBundle_47 rfl rfl ?_
  refine zz_iadd X (0) dX16_copyBundle_48 (by decide) ?_
  refine zz_iald X 3 1 rfl rfl (vp_in_nI (n := 0) (by decide) (by decide)) (0) rfl dX16_copyBundle_49 ?_
  refine zz_iast X 3 1 rfl rfl (vp_in_nI (n := 4) (by decide) (by decide)) 4 (by decide) dX16_copyBundle_50 [(x1, .inr (16, f1)), (x2, .inl (cA 1, 6, .inl (upd (fun _ => 0) 1 0))), (x3, .inl (cA 1, 6, .inl (upd (upd (upd (fun _ => 0) 0 1) 1 1) 1 1))), (x4, .inl (cA 1, 24, .inl (upd (fun _ => 0) 4 0)))] rfl ?_
  refine zz_iconst X 0 dX16_copyBundle_51 rfl ?_
  refine zz_istore X [(4, .int 0), (3, .int 0), (0, .ref x1), (1, .int 0), (2, .int 1)] dX16_copyBundle_52 (by decide) rfl ?_
  refine zz_iload X 0 dX16_copyBundle_54 rfl ?_
  refine zz_sipush X 750 dX16_copyBundle_56 rfl ?_
  refine zz_icmp_ge X 112 dX16_copyBundle_59 (by decide) (fun h => absurd h (by decide)) (fun _ => ?_)
  refine zz_iload_n X 1 dX16_copyBundle_62 rfl rfl ?_
  refine zz_aload_n X 2 dX16_copyBundle_63 rfl rfl ?_
  refine zz_get X 0 210 rfl rfl (by decide) (fun w h => List.mem_cons_of_mem _ (zf_X16 w h)) rfl (List.mem_cons_of_mem _ zm_615) hf1_210 dX16_copyBundle_64 ?_
  refine zz_iload_n X 3 dX16_copyBundle_67 rfl rfl ?_
  refine zz_iald X 1 1 rfl rfl (vp_in_nI (n := 0) (by decide) (by decide)) (0) rfl dX16_copyBundle_68 ?_
  refine zz_icmp_ge X 112 dX16_copyBundle_69 (by decide) (fun _ => ?_) (fun h => absurd (by decide) h)
  refine zz_iinc X 1 (1) [(3, .int 1), (4, .int 0), (0, .ref x1), (1, .int 0), (2, .int 1)] dX16_copyBundle_112 rfl (by decide) (by decide) rfl ?_
  refine zz_goto X 26 dX16_copyBundle_115 (by decide) ?_
  refine zz_iload_n X 0 dX16_copyBundle_26 rfl rfl ?_
  refine zz_iconst X 4 dX16_copyBundle_27 rfl ?_
  refine zz_icmp_ge X 118 dX16_copyBundle_28 (by decide) (fun h => absurd h (by decide)) (fun _ => ?_)
  refine zz_aload_n X 2 dX16_copyBundle_31 rfl rfl ?_
  refine zz_get X 0 209 rfl rfl (by decide) (fun w h => List.mem_cons_of_mem _ (zf_X16 w h)) rfl (List.mem_cons_of_mem _ zm_614) hf1_209 dX16_copyBundle_32 ?_
  refine zz_iconst X 4 dX16_copyBundle_35 rfl ?_
  refine zz_iload_n X 4 dX16_copyBundle_36 rfl rfl ?_
  refine zz_imul X (4) dX16_copyBundle_37 (by decide) ?_
  refine zz_iload_n X 0 dX16_copyBundle_38 rfl rfl ?_
  refine zz_iadd X (5) dX16_copyBundle_39 (by decide) ?_
  refine zz_aload_n X 2 dX16_copyBundle_40 rfl rfl ?_
  refine zz_get X 0 209 rfl rfl (by decide) (fun w h => List.mem_cons_of_mem _ (zf_X16 w h)) rfl (List.mem_cons_of_mem _ zm_614) hf1_209 dX16_copyBundle_41 ?_
  refine zz_iconst X 4 dX16_copyBundle_44 rfl ?_
  refine zz_iload_n X 3 dX16_copyBundle_45 rfl rfl ?_
  refine zz_imul X (0) dX16_copyBundle_46 (by decide) ?_
  refine zz_iload_n X 0 dX16_copyBundle_47 rfl rfl ?_
  refine zz_iadd X (1) dX16_copyBundle_48 (by decide) ?_
  refine zz_iald X 3 1 rfl rfl (vp_in_nI (n := 1) (by decide) (by decide)) (0) rfl dX16_copyBundle_49 ?_
  refine zz_iast X 3 1 rfl rfl (vp_in_nI (n := 5) (by decide) (by decide)) 5 (by decide) dX16_copyBundle_50 [(x1, .inr (16, f1)), (x2, .inl (cA 1, 6, .inl (upd (fun _ => 0) 1 0))), (x3, .inl (cA 1, 6, .inl (upd (upd (upd (fun _ => 0) 0 1) 1 1) 1 1))), (x4, .inl (cA 1, 24, .inl (upd (upd (fun _ => 0) 4 0) 5 0)))] rfl ?_
  refine zz_iconst X 0 dX16_copyBundle_51 rfl ?_
  refine zz_istore X [(4, .int 0), (3, .int 1), (0, .ref x1), (1, .int 0), (2, .int 1)] dX16_copyBundle_52 (by decide) rfl ?_
  refine zz_iload X 0 dX16_copyBundle_54 rfl ?_
  refine zz_sipush X 750 dX16_copyBundle_56 rfl ?_
  refine zz_icmp_ge X 112 dX16_copyBundle_59 (by decide) (fun h => absurd h (by decide)) (fun _ => ?_)
  refine zz_iload_n X 1 dX16_copyBundle_62 rfl rfl ?_
  refine zz_aload_n X 2 dX16_copyBundle_63 rfl rfl ?_
  refine zz_get X 0 210 rfl rfl (by decide) (fun w h => List.mem_cons_of_mem _ (zf_X16 w h)) rfl (List.mem_cons_of_mem _ zm_615) hf1_210 dX16_copyBundle_64 ?_
  refine zz_iload_n X 3 dX16_copyBundle_67 rfl rfl ?_
  refine zz_iald X 1 1 rfl rfl (vp_in_nI (n := 0) (by decide) (by decide)) (0) rfl dX16_copyBundle_68 ?_
  refine zz_icmp_ge X 112 dX16_copyBundle_69 (by decide) (fun _ => ?_) (fun h => absurd (by decide) h)
  refine zz_iinc X 1 (2) [(3, .int 2), (4, .int 0), (0, .ref x1), (1, .int 0), (2, .int 1)] dX16_copyBundle_112 rfl (by decide) (by decide) rfl ?_
  refine zz_goto X 26 dX16_copyBundle_115 (by decide) ?_
  refine zz_iload_n X 0 dX16_copyBundle_26 rfl rfl ?_
  refine zz_iconst X 4 dX16_copyBundle_27 rfl ?_
  refine zz_icmp_ge X 118 dX16_copyBundle_28 (by decide) (fun h => absurd h (by decide)) (fun _ => ?_)
  refine zz_aload_n X 2 dX16_copyBundle_31 rfl rfl ?_
  refine zz_get X 0 209 rfl rfl (by decide) (fun w h => List.mem_cons_of_mem _ (zf_X16 w h)) rfl (List.mem_cons_of_mem _ zm_614) hf1_209 dX16_copyBundle_32 ?_
  refine zz_iconst X 4 dX16_copyBundle_35 rfl ?_
  refine zz_iload_n X 4 dX16_copyBundle_36 rfl rfl ?_
  refine zz_imul X (4) dX16_copyBundle_37 (by decide) ?_
  refine zz_iload_n X 0 dX16_copyBundle_38 rfl rfl ?_
  refine zz_iadd X (6) dX16_copyBundle_39 (by decide) ?_
  refine zz_aload_n X 2 dX16_copyBundle_40 rfl rfl ?_
  refine zz_get X 0 209 rfl rfl (by decide) (fun w h => List.mem_cons_of_mem _ (zf_X16 w h)) rfl (List.mem_cons_of_mem _ zm_614) hf1_209 dX16_copyBundle_41 ?_
  refine zz_iconst X 4 dX16_copyBundle_44 rfl ?_
  refine zz_iload_n X 3 dX16_copyBundle_45 rfl rfl ?_
  refine zz_imul X (0) dX16_copyBundle_46 (by decide) ?_
  refine zz_iload_n X 0 dX16_copyBundle_47 rfl rfl ?_
  refine zz_iadd X (2) dX16_copyBundle_48 (by decide) ?_
  refine zz_iald X 3 1 rfl rfl (vp_in_nI (n := 2) (by decide) (by decide)) (0) rfl dX16_copyBundle_49 ?_
  refine zz_iast X 3 1 rfl rfl (vp_in_nI (n := 6) (by decide) (by decide)) 6 (by decide) dX16_copyBundle_50 [(x1, .inr (16, f1)), (x2, .inl (cA 1, 6, .inl (upd (fun _ => 0) 1 0))), (x3, .inl (cA 1, 6, .inl (upd (upd (upd (fun _ => 0) 0 1) 1 1) 1 1))), (x4, .inl (cA 1, 24, .inl (upd (upd (upd (fun _ => 0) 4 0) 5 0) 6 0)))] rfl ?_
  refine zz_iconst X 0 dX16_copyBundle_51 rfl ?_
  refine zz_istore X [(4, .int 0), (3, .int 2), (0, .ref x1), (1, .int 0), (2, .int 1)] dX16_copyBundle_52 (by decide) rfl ?_
  refine zz_iload X 0 dX16_copyBundle_54 rfl ?_
  refine zz_sipush X 750 dX16_copyBundle_56 rfl ?_
  refine zz_icmp_ge X 112 dX16_copyBundle_59 (by decide) (fun h => absurd h (by decide)) (fun _ => ?_)
  refine zz_iload_n X 1 dX16_copyBundle_62 rfl rfl ?_
  refine zz_aload_n X 2 dX16_copyBundle_63 rfl rfl ?_
  refine zz_get X 0 210 rfl rfl (by decide) (fun w h => List.mem_cons_of_mem _ (zf_X16 w h)) rfl (List.mem_cons_of_mem _ zm_615) hf1_210 dX16_copyBundle_64 ?_
  refine zz_iload_n X 3 dX16_copyBundle_67 rfl rfl ?_
  refine zz_iald X 1 1 rfl rfl (vp_in_nI (n := 0) (by decide) (by decide)) (0) rfl dX16_copyBundle_68 ?_
  refine zz_icmp_ge X 112 dX16_copyBundle_69 (by decide) (fun _ => ?_) (fun h => absurd (by decide) h)
  refine zz_iinc X 1 (3) [(3, .int 3), (4, .int 0), (0, .ref x1), (1, .int 0), (2, .int 1)] dX16_copyBundle_112 rfl (by decide) (by decide) rfl ?_
  refine zz_goto X 26 dX16_copyBundle_115 (by decide) ?_
  refine zz_iload_n X 0 dX16_copyBundle_26 rfl rfl ?_
  refine zz_iconst X 4 dX16_copyBundle_27 rfl ?_
  refine zz_icmp_ge X 118 dX16_copyBundle_28 (by decide) (fun h => absurd h (by decide)) (fun _ => ?_)
  refine zz_aload_n X 2 dX16_copyBundle_31 rfl rfl ?_
  refine zz_get X 0 209 rfl rfl (by decide) (fun w h => List.mem_cons_of_mem _ (zf_X16 w h)) rfl (List.mem_cons_of_mem _ zm_614) hf1_209 dX16_copyBundle_32 ?_
  refine zz_iconst X 4 dX16_copyBundle_35 rfl ?_
  refine zz_iload_n X 4 dX16_copyBundle_36 rfl rfl ?_
  refine zz_imul X (4) dX16_copyBundle_37 (by decide) ?_
  refine zz_iload_n X 0 dX16_copyBundle_38 rfl rfl ?_
  refine zz_iadd X (7) dX16_copyBundle_39 (by decide) ?_
  refine zz_aload_n X 2 dX16_copyBundle_40 rfl rfl ?_
  refine zz_get X 0 209 rfl rfl (by decide) (fun w h => List.mem_cons_of_mem _ (zf_X16 w h)) rfl (List.mem_cons_of_mem _ zm_614) hf1_209 dX16_copyBundle_41 ?_
  refine zz_iconst X 4 dX16_copyBundle_44 rfl ?_
  refine zz_iload_n X 3 dX16_copyBundle_45 rfl rfl ?_
  refine zz_imul X (0) dX16_copyBundle_46 (by decide) ?_
  refine zz_iload_n X 0 dX16_copyBundle_47 rfl rfl ?_
  refine zz_iadd X (3) dX16_copyBundle_48 (by decide) ?_
  refine zz_iald X 3 1 rfl rfl (vp_in_nI (n := 3) (by decide) (by decide)) (0) rfl dX16_copyBundle_49 ?_
  refine zz_iast X 3 1 rfl rfl (vp_in_nI (n := 7) (by decide) (by decide)) 7 (by decide) dX16_copyBundle_50 [(x1, .inr (16, f1)), (x2, .inl (cA 1, 6, .inl (upd (fun _ => 0) 1 0))), (x3, .inl (cA 1, 6, .inl (upd (upd (upd (fun _ => 0) 0 1) 1 1) 1 1))), (x4, .inl (cA 1, 24, .inl (upd (upd (upd (upd (fun _ => 0) 4 0) 5 0) 6 0) 7 0)))] rfl ?_
  refine zz_iconst X 0 dX16_copyBundle_51 rfl ?_
  refine zz_istore X [(4, .int 0), (3, .int 3), (0, .ref x1), (1, .int 0), (2, .int 1)] dX16_copyBundle_52 (by decide) rfl ?_
  refine zz_iload X 0 dX16_copyBundle_54 rfl ?_
  refine zz_sipush X 750 dX16_copyBundle_56 rfl ?_
  refine zz_icmp_ge X 112 dX16_copyBundle_59 (by decide) (fun h => absurd h (by decide)) (fun _ => ?_)
  refine zz_iload_n X 1 dX16_copyBundle_62 rfl rfl ?_
  refine zz_aload_n X 2 dX16_copyBundle_63 rfl rfl ?_
  refine zz_get X 0 210 rfl rfl (by decide) (fun w h => List.mem_cons_of_mem _ (zf_X16 w h)) rfl (List.mem_cons_of_mem _ zm_615) hf1_210 dX16_copyBundle_64 ?_
  refine zz_iload_n X 3 dX16_copyBundle_67 rfl rfl ?_
  refine zz_iald X 1 1 rfl rfl (vp_in_nI (n := 0) (by decide) (by decide)) (0) rfl dX16_copyBundle_68 ?_
  refine zz_icmp_ge X 112 dX16_copyBundle_69 (by decide) (fun _ => ?_) (fun h => absurd (by decide) h)
  refine zz_iinc X 1 (4) [(3, .int 4), (4, .int 0), (0, .ref x1), (1, .int 0), (2, .int 1)] dX16_copyBundle_112 rfl (by decide) (by decide) rfl ?_
  refine zz_goto X 26 dX16_copyBundle_115 (by decide) ?_
  refine zz_iload_n X 0 dX16_copyBundle_26 rfl rfl ?_
  refine zz_iconst X 4 dX16_copyBundle_27 rfl ?_
  refine zz_icmp_ge X 118 dX16_copyBundle_28 (by decide) (fun _ => ?_) (fun h => absurd (by decide) h)
  exact zz_vret X hr (()) [0, 1, 2, 3] (by decide) rfl rfl (Nat.le_of_ble_eq_true rfl) (Nat.le_of_ble_eq_true rfl) (trivial) dX16_copyBundle_118

set_option maxHeartbeats 4000000 in
set_option maxRecDepth 100000 in
/-- activate -/
theorem kX16_activate_1 {E : zEn} (hE : zOk E) (l : Launch) (D : va_G) (cA : Nat → ClassId) (K : Nat → Nat) (V : Nat → Nat) (x1 : Nat) (f1 : List Value) (x2 : Nat) (x3 : Nat) (x4 : Nat) (x5 : Nat) (x6 : Nat) (x7 : Nat) (x8 : Nat) (x9 : Nat) (hss : zSS E K V) (hf1_n : f1.length = 243) (hf1_215 : f1[215]? = some (.int (-1))) (hf1_211 : f1[211]? = some (.ref x2)) (hf1_19 : f1[19]? = some (.ref x3)) (hf1_0 : f1[0]? = some (.ref x4)) (hf1_16 : f1[16]? = some (.ref x5)) (hf1_17 : f1[17]? = some (.ref x6)) (hf1_18 : f1[18]? = some (.ref x7)) (hf1_210 : f1[210]? = some (.ref x8)) (hf1_84 : f1[84]? = some (.int 0)) (hf1_85 : f1[85]? = some (.int 0)) (hf1_209 : f1[209]? = some (.ref x9)) : zMi E l yX16_activate zwX16_activate ({ frames := 7, cells := 0, slots := 0, locals := 152 }) D vwCl (zT cA) [.ref x1] [(x1, .inr (16, f1)), (x2, .inl (cA 1, 6, .inl (upd (upd (fun _ => 0) 0 1) 1 1))), (x3, .inl (cA 1, 4096, .inl (fun _ => 0))), (x4, .inl (cA 0, 17000, .inl (fun _ => 0))), (x6, .inl (cA 1, 13001, .inl (fun _ => 0))), (x5, .inl (cA 0, 40000, .inl (fun _ => 0))), (x7, .inl (cA 1, 13000, .inl (fun _ => 0))), (x8, .inl (cA 1, 6, .inl (fun _ => 0))), (x9, .inl (cA 1, 24, .inl (fun _ => 0)))] (S := Unit) (fun (r : Int32) (u : Unit) => (r = 0)) (fun (u : Unit) => []) := by
  refine zz_enteri (cc := cX16_activate) (lv := [(0, .ref x1)]) hE 1 (by decide) rfl (Nat.le_of_ble_eq_true rfl) rfl ?_
  intro p e s m args below meth c X hr hin
  refine zz_aload_n X 0 dX16_activate_0 rfl rfl ?_
  refine zz_iconst X 0 dX16_activate_1 rfl ?_
  refine zz_put X 0 227 rfl rfl (by decide) (fun w h => List.mem_cons_of_mem _ (zf_X16 w h)) rfl (List.mem_cons_of_mem _ zm_655) tyX16 tyX16_ok nmX16 rfl (ty := .int) rfl rfl rfl (zq_lt hf1_n (by decide) (by simp only [List.length_set])) dX16_activate_2 [(x1, .inr (16, (f1.set 227 (.int 0)))), (x2, .inl (cA 1, 6, .inl (upd (upd (fun _ => 0) 0 1) 1 1))), (x3, .inl (cA 1, 4096, .inl (fun _ => 0))), (x4, .inl (cA 0, 17000, .inl (fun _ => 0))), (x6, .inl (cA 1, 13001, .inl (fun _ => 0))), (x5, .inl (cA 0, 40000, .inl (fun _ => 0))), (x7, .inl (cA 1, 13000, .inl (fun _ => 0))), (x8, .inl (cA 1, 6, .inl (fun _ => 0))), (x9, .inl (cA 1, 24, .inl (fun _ => 0)))] rfl ?_
  refine zz_aload_n X 0 dX16_activate_5 rfl rfl ?_
  refine zz_iconst X 0 dX16_activate_6 rfl ?_
  refine zz_callVv X (rest := []) (As := [.int 0]) (kX16_loadBundle_1 hE l D cA K V x1 (f1.set 227 (.int 0)) x2 x3 x4 x5 x6 x7 x8 hss (zq_len hf1_n (by simp only [List.length_set])) (zq_oth (by decide) (hf1_215)) (zq_oth (by decide) (hf1_211)) (zq_oth (by decide) (hf1_19)) (zq_oth (by decide) (hf1_0)) (zq_oth (by decide) (hf1_16)) (zq_oth (by decide) (hf1_17)) (zq_oth (by decide) (hf1_18)) (zq_oth (by decide) (hf1_210)) (zq_oth (by decide) (hf1_84)) (zq_oth (by decide) (hf1_85))) 1 (zgV zm_895 zm_896 zm_897 zm_451 zm_894) rfl (by decide +kernel) [0, 1, 2, 3, 4, 5, 6, 7] [8] [(x9, .inl (cA 1, 24, .inl (fun _ => 0)))] rfl rfl (by decide) rfl (by decide) (by decide) ⟨Nat.le_of_ble_eq_true rfl, Nat.le_of_ble_eq_true rfl⟩ 0 rfl rfl rfl rfl rfl (Nat.le_of_ble_eq_true rfl) dX16_activate_7 (Nat.le_of_ble_eq_true rfl) (Nat.le_of_ble_eq_true rfl) (fun uhw2 hw2 => ?_)
  obtain ⟨g1, rfl⟩ : ∃ z, z = uhw2 := ⟨_, rfl⟩
  have hq3 := hw2
  refine zz_show (ws' := [(x9, .inl (cA 1, 24, .inl (fun _ => 0))), (x1, .inr (16, ((((((((((((((((((((((((((((((((((f1.set 227 (.int 0)).set 37 (.int 0)).set 42 (.int 0)).set 48 (.int 0)).set 20 (.int 0)).set 56 (.int 0)).set 63 (.int 0)).set 72 (.int 0)).set 20 (.int 1)).set 52 (.int 0)).set 20 (.int 2)).set 53 (.int 1)).set 20 (.int 3)).set 54 (.int 2)).set 20 (.int 4)).set 55 (.int 3)).set 83 (.int 0)).set 108 (.int 0)).set 78 (.int 0)).set 216 (.int 0)).set 217 (.int 0)).set 218 (.int 0)).set 215 (.int 1)).set 219 (.int 0)).set 220 (.int 0)).set 221 (.int 0)).set 222 (.int 0)).set 37 (.int 0)).set 42 (.int 0)).set 48 (.int 0)).set 108 (.int 0)).set 83 (.int 0)).set 84 (.int 0)).set 85 (.int 0)))), (x2, .inl (cA 1, 6, .inl (upd (upd (fun _ => 0) 0 1) 1 1))), (x3, .inl (cA 1, 4096, .inl (upd (upd (upd (upd g1 95 1) 3170 2) 1994 3) 4010 4))), (x4, .inl (cA 0, 17000, .inl ((upd (upd (upd (upd (upd (upd (upd (upd (upd (upd (upd (upd (upd (fun _ => 0) 0 95) 0 115) 1 101) 2 116) 0 105) 1 110) 2 112) 3 117) 4 116) 0 100) 1 97) 2 116) 3 97)))), (x6, .inl (cA 1, 13001, .inl (upd (upd (upd (upd (fun _ => 0) 1 1) 2 4) 3 9) 4 13))), (x5, .inl (cA 0, 40000, .inl (upd (upd (upd (upd (upd (upd (upd (upd (upd (upd (upd (upd (upd (fun _ => 0) 0 95) 1 115) 2 101) 3 116) 4 105) 5 110) 6 112) 7 117) 8 116) 9 100) 10 97) 11 116) 12 97))), (x7, .inl (cA 1, 13000, .inl (upd (upd (upd (upd (fun _ => 0) 0 0) 1 0) 2 0) 3 0))), (x8, .inl (cA 1, 6, .inl (fun _ => 0)))]) rfl ?_
  refine zz_aload_n X 0 dX16_activate_10 rfl rfl ?_
  refine zz_callVv X (rest := []) (As := []) (kX16_keepFault_1 hE l D cA K V x1 ((((((((((((((((((((((((((((((((((f1.set 227 (.int 0)).set 37 (.int 0)).set 42 (.int 0)).set 48 (.int 0)).set 20 (.int 0)).set 56 (.int 0)).set 63 (.int 0)).set 72 (.int 0)).set 20 (.int 1)).set 52 (.int 0)).set 20 (.int 2)).set 53 (.int 1)).set 20 (.int 3)).set 54 (.int 2)).set 20 (.int 4)).set 55 (.int 3)).set 83 (.int 0)).set 108 (.int 0)).set 78 (.int 0)).set 216 (.int 0)).set 217 (.int 0)).set 218 (.int 0)).set 215 (.int 1)).set 219 (.int 0)).set 220 (.int 0)).set 221 (.int 0)).set 222 (.int 0)).set 37 (.int 0)).set 42 (.int 0)).set 48 (.int 0)).set 108 (.int 0)).set 83 (.int 0)).set 84 (.int 0)).set 85 (.int 0)) hss (zq_len hf1_n (by simp only [List.length_set])) (zq_oth (by decide) (zq_oth (by decide) ((zq_same (zq_lt hf1_n (by decide) (by simp only [List.length_set]))))))) 0 (zgV zm_900 zm_901 zm_902 zm_451 zm_899) rfl (by decide +kernel) [1] [0, 2, 3, 4, 5, 6, 7, 8] [(x9, .inl (cA 1, 24, .inl (fun _ => 0))), (x2, .inl (cA 1, 6, .inl (upd (upd (fun _ => 0) 0 1) 1 1))), (x3, .inl (cA 1, 4096, .inl (upd (upd (upd (upd g1 95 1) 3170 2) 1994 3) 4010 4))), (x4, .inl (cA 0, 17000, .inl ((upd (upd (upd (upd (upd (upd (upd (upd (upd (upd (upd (upd (upd (fun _ => 0) 0 95) 0 115) 1 101) 2 116) 0 105) 1 110) 2 112) 3 117) 4 116) 0 100) 1 97) 2 116) 3 97)))), (x6, .inl (cA 1, 13001, .inl (upd (upd (upd (upd (fun _ => 0) 1 1) 2 4) 3 9) 4 13))), (x5, .inl (cA 0, 40000, .inl (upd (upd (upd (upd (upd (upd (upd (upd (upd (upd (upd (upd (upd (fun _ => 0) 0 95) 1 115) 2 101) 3 116) 4 105) 5 110) 6 112) 7 117) 8 116) 9 100) 10 97) 11 116) 12 97))), (x7, .inl (cA 1, 13000, .inl (upd (upd (upd (upd (fun _ => 0) 0 0) 1 0) 2 0) 3 0))), (x8, .inl (cA 1, 6, .inl (fun _ => 0)))] rfl rfl (by decide) rfl (by decide) (by decide) ⟨Nat.le_of_ble_eq_true rfl, Nat.le_of_ble_eq_true rfl⟩ 0 rfl rfl rfl rfl rfl (Nat.le_of_ble_eq_true rfl) dX16_activate_11 (Nat.le_of_ble_eq_true rfl) (Nat.le_of_ble_eq_true rfl) (fun _ hw4 => ?_)
  refine zz_show (ws' := [(x9, .inl (cA 1, 24, .inl (fun _ => 0))), (x2, .inl (cA 1, 6, .inl (upd (upd (fun _ => 0) 0 1) 1 1))), (x3, .inl (cA 1, 4096, .inl (upd (upd (upd (upd g1 95 1) 3170 2) 1994 3) 4010 4))), (x4, .inl (cA 0, 17000, .inl ((upd (upd (upd (upd (upd (upd (upd (upd (upd (upd (upd (upd (upd (fun _ => 0) 0 95) 0 115) 1 101) 2 116) 0 105) 1 110) 2 112) 3 117) 4 116) 0 100) 1 97) 2 116) 3 97)))), (x6, .inl (cA 1, 13001, .inl (upd (upd (upd (upd (fun _ => 0) 1 1) 2 4) 3 9) 4 13))), (x5, .inl (cA 0, 40000, .inl (upd (upd (upd (upd (upd (upd (upd (upd (upd (upd (upd (upd (upd (fun _ => 0) 0 95) 1 115) 2 101) 3 116) 4 105) 5 110) 6 112) 7 117) 8 116) 9 100) 10 97) 11 116) 12 97))), (x7, .inl (cA 1, 13000, .inl (upd (upd (upd (upd (fun _ => 0) 0 0) 1 0) 2 0) 3 0))), (x8, .inl (cA 1, 6, .inl (fun _ => 0))), (x1, .inr (16, (((((((((((((((((((((((((((((((((((((f1.set 227 (.int 0)).set 37 (.int 0)).set 42 (.int 0)).set 48 (.int 0)).set 20 (.int 0)).set 56 (.int 0)).set 63 (.int 0)).set 72 (.int 0)).set 20 (.int 1)).set 52 (.int 0)).set 20 (.int 2)).set 53 (.int 1)).set 20 (.int 3)).set 54 (.int 2)).set 20 (.int 4)).set 55 (.int 3)).set 83 (.int 0)).set 108 (.int 0)).set 78 (.int 0)).set 216 (.int 0)).set 217 (.int 0)).set 218 (.int 0)).set 215 (.int 1)).set 219 (.int 0)).set 220 (.int 0)).set 221 (.int 0)).set 222 (.int 0)).set 37 (.int 0)).set 42 (.int 0)).set 48 (.int 0)).set 108 (.int 0)).set 83 (.int 0)).set 84 (.int 0)).set 85 (.int 0)).set 223 (.int 0)).set 224 (.int (-1))).set 225 (.int (-1)))))]) rfl ?_
  refine zz_aload_n X 0 dX16_activate_14 rfl rfl ?_
  refine zz_get X 8 223 rfl rfl (by decide) (fun w h => List.mem_cons_of_mem _ (zf_X16 w h)) rfl (List.mem_cons_of_mem _ zm_898) (zq_oth (by decide) (zq_oth (by decide) ((zq_same (zq_lt hf1_n (by decide) (by simp only [List.length_set])))))) dX16_activate_15 ?_
  refine zz_if_eq X 27 dX16_activate_18 (by decide) (fun _ => ?_) (fun h => absurd (by decide) h)
  refine zz_aload_n X 0 dX16_activate_27 rfl rfl ?_
  refine zz_iconst X 0 dX16_activate_28 rfl ?_
  refine zz_iconst X 1 dX16_activate_29 rfl ?_
  refine zz_callVv X (rest := []) (As := [.int 0, .int 1]) (kX16_copyBundle_1 hE l D cA K V x1 (((((((((((((((((((((((((((((((((((((f1.set 227 (.int 0)).set 37 (.int 0)).set 42 (.int 0)).set 48 (.int 0)).set 20 (.int 0)).set 56 (.int 0)).set 63 (.int 0)).set 72 (.int 0)).set 20 (.int 1)).set 52 (.int 0)).set 20 (.int 2)).set 53 (.int 1)).set 20 (.int 3)).set 54 (.int 2)).set 20 (.int 4)).set 55 (.int 3)).set 83 (.int 0)).set 108 (.int 0)).set 78 (.int 0)).set 216 (.int 0)).set 217 (.int 0)).set 218 (.int 0)).set 215 (.int 1)).set 219 (.int 0)).set 220 (.int 0)).set 221 (.int 0)).set 222 (.int 0)).set 37 (.int 0)).set 42 (.int 0)).set 48 (.int 0)).set 108 (.int 0)).set 83 (.int 0)).set 84 (.int 0)).set 85 (.int 0)).set 223 (.int 0)).set 224 (.int (-1))).set 225 (.int (-1))) x8 x2 x9 hss (zq_len hf1_n (by simp only [List.length_set])) (zq_oth (by decide) (zq_oth (by decide) (zq_oth (by decide) (zq_oth (by decide) (zq_oth (by decide) (zq_oth (by decide) (zq_oth (by decide) (zq_oth (by decide) (zq_oth (by decide) (zq_oth (by decide) (zq_oth (by decide) (zq_oth (by decide) (zq_oth (by decide) (zq_oth (by decide) (zq_oth (by decide) (zq_oth (by decide) (zq_oth (by decide) (zq_oth (by decide) (zq_oth (by decide) (zq_oth (by decide) (zq_oth (by decide) (zq_oth (by decide) (zq_oth (by decide) (zq_oth (by decide) (zq_oth (by decide) (zq_oth (by decide) (zq_oth (by decide) (zq_oth (by decide) (zq_oth (by decide) (zq_oth (by decide) (zq_oth (by decide) (zq_oth (by decide) (zq_oth (by decide) (zq_oth (by decide) (zq_oth (by decide) (zq_oth (by decide) (zq_oth (by decide) (hf1_210)))))))))))))))))))))))))))))))))))))) (zq_oth (by decide) (zq_oth (by decide) (zq_oth (by decide) (zq_oth (by decide) (zq_oth (by decide) (zq_oth (by decide) (zq_oth (by decide) (zq_oth (by decide) (zq_oth (by decide) (zq_oth (by decide) (zq_oth (by decide) (zq_oth (by decide) (zq_oth (by decide) (zq_oth (by decide) (zq_oth (by decide) (zq_oth (by decide) (zq_oth (by decide) (zq_oth (by decide) (zq_oth (by decide) (zq_oth (by decide) (zq_oth (by decide) (zq_oth (by decide) (zq_oth (by decide) (zq_oth (by decide) (zq_oth (by decide) (zq_oth (by decide) (zq_oth (by decide) (zq_oth (by decide) (zq_oth (by decide) (zq_oth (by decide) (zq_oth (by decide) (zq_oth (by decide) (zq_oth (by decide) (zq_oth (by decide) (zq_oth (by decide) (zq_oth (by decide) (zq_oth (by decide) (hf1_211)))))))))))))))))))))))))))))))))))))) (zq_oth (by decide) (zq_oth (by decide) (zq_oth (by decide) (zq_oth (by decide) (zq_oth (by decide) (zq_oth (by decide) (zq_oth (by decide) (zq_oth (by decide) (zq_oth (by decide) (zq_oth (by decide) (zq_oth (by decide) (zq_oth (by decide) (zq_oth (by decide) (zq_oth (by decide) (zq_oth (by decide) (zq_oth (by decide) (zq_oth (by decide) (zq_oth (by decide) (zq_oth (by decide) (zq_oth (by decide) (zq_oth (by decide) (zq_oth (by decide) (zq_oth (by decide) (zq_oth (by decide) (zq_oth (by decide) (zq_oth (by decide) (zq_oth (by decide) (zq_oth (by decide) (zq_oth (by decide) (zq_oth (by decide) (zq_oth (by decide) (zq_oth (by decide) (zq_oth (by decide) (zq_oth (by decide) (zq_oth (by decide) (zq_oth (by decide) (zq_oth (by decide) (hf1_209))))))))))))))))))))))))))))))))))))))) 2 (zgV zm_913 zm_914 zm_915 zm_451 zm_912) rfl (by decide +kernel) [8, 7, 1, 0] [2, 3, 4, 5, 6] [(x3, .inl (cA 1, 4096, .inl (upd (upd (upd (upd g1 95 1) 3170 2) 1994 3) 4010 4))), (x4, .inl (cA 0, 17000, .inl ((upd (upd (upd (upd (upd (upd (upd (upd (upd (upd (upd (upd (upd (fun _ => 0) 0 95) 0 115) 1 101) 2 116) 0 105) 1 110) 2 112) 3 117) 4 116) 0 100) 1 97) 2 116) 3 97)))), (x6, .inl (cA 1, 13001, .inl (upd (upd (upd (upd (fun _ => 0) 1 1) 2 4) 3 9) 4 13))), (x5, .inl (cA 0, 40000, .inl (upd (upd (upd (upd (upd (upd (upd (upd (upd (upd (upd (upd (upd (fun _ => 0) 0 95) 1 115) 2 101) 3 116) 4 105) 5 110) 6 112) 7 117) 8 116) 9 100) 10 97) 11 116) 12 97))), (x7, .inl (cA 1, 13000, .inl (upd (upd (upd (upd (fun _ => 0) 0 0) 1 0) 2 0) 3 0)))] rfl rfl (by decide) rfl (by decide) (by decide) ⟨Nat.le_of_ble_eq_true rfl, Nat.le_of_ble_eq_true rfl⟩ 0 rfl rfl rfl rfl rfl (Nat.le_of_ble_eq_true rfl) dX16_activate_30 (Nat.le_of_ble_eq_true rfl) (Nat.le_of_ble_eq_true rfl) (fun _ hw5 => ?_)
  refine zz_show (ws' := [(x3, .inl (cA 1, 4096, .inl (upd (upd (upd (upd g1 95 1) 3170 2) 1994 3) 4010 4))), (x4, .inl (cA 0, 17000, .inl ((upd (upd (upd (upd (upd (upd (upd (upd (upd (upd (upd (upd (upd (fun _ => 0) 0 95) 0 115) 1 101) 2 116) 0 105) 1 110) 2 112) 3 117) 4 116) 0 100) 1 97) 2 116) 3 97)))), (x6, .inl (cA 1, 13001, .inl (upd (upd (upd (upd (fun _ => 0) 1 1) 2 4) 3 9) 4 13))), (x5, .inl (cA 0, 40000, .inl (upd (upd (upd (upd (upd (upd (upd (upd (upd (upd (upd (upd (upd (fun _ => 0) 0 95) 1 115) 2 101) 3 116) 4 105) 5 110) 6 112) 7 117) 8 116) 9 100) 10 97) 11 116) 12 97))), (x7, .inl (cA 1, 13000, .inl (upd (upd (upd (upd (fun _ => 0) 0 0) 1 0) 2 0) 3 0))), (x1, .inr (16, (((((((((((((((((((((((((((((((((((((f1.set 227 (.int 0)).set 37 (.int 0)).set 42 (.int 0)).set 48 (.int 0)).set 20 (.int 0)).set 56 (.int 0)).set 63 (.int 0)).set 72 (.int 0)).set 20 (.int 1)).set 52 (.int 0)).set 20 (.int 2)).set 53 (.int 1)).set 20 (.int 3)).set 54 (.int 2)).set 20 (.int 4)).set 55 (.int 3)).set 83 (.int 0)).set 108 (.int 0)).set 78 (.int 0)).set 216 (.int 0)).set 217 (.int 0)).set 218 (.int 0)).set 215 (.int 1)).set 219 (.int 0)).set 220 (.int 0)).set 221 (.int 0)).set 222 (.int 0)).set 37 (.int 0)).set 42 (.int 0)).set 48 (.int 0)).set 108 (.int 0)).set 83 (.int 0)).set 84 (.int 0)).set 85 (.int 0)).set 223 (.int 0)).set 224 (.int (-1))).set 225 (.int (-1))))), (x8, .inl (cA 1, 6, .inl (upd (fun _ => 0) 1 0))), (x2, .inl (cA 1, 6, .inl (upd (upd (upd (fun _ => 0) 0 1) 1 1) 1 1))), (x9, .inl (cA 1, 24, .inl (upd (upd (upd (upd (fun _ => 0) 4 0) 5 0) 6 0) 7 0)))]) rfl ?_
  refine zz_aload_n X 0 dX16_activate_33 rfl rfl ?_
  refine zz_get X 5 78 rfl rfl (by decide) (fun w h => List.mem_cons_of_mem _ (zf_X16 w h)) rfl (List.mem_cons_of_mem _ zm_856) (zq_oth (by decide) (zq_oth (by decide) (zq_oth (by decide) (zq_oth (by decide) (zq_oth (by decide) (zq_oth (by decide) (zq_oth (by decide) (zq_oth (by decide) (zq_oth (by decide) (zq_oth (by decide) (zq_oth (by decide) (zq_oth (by decide) (zq_oth (by decide) (zq_oth (by decide) (zq_oth (by decide) (zq_oth (by decide) (zq_oth (by decide) (zq_oth (by decide) ((zq_same (zq_lt hf1_n (by decide) (by simp only [List.length_set])))))))))))))))))))))) dX16_activate_34 ?_
  exact zz_iret X hr (()) [] (by decide) rfl rfl (Nat.le_of_ble_eq_true rfl) (Nat.le_of_ble_eq_true rfl) (rfl) dX16_activate_37

set_option maxHeartbeats 4000000 in
set_option maxRecDepth 100000 in
/-- fault -/
theorem kX16_fault_1 {E : zEn} (hE : zOk E) (l : Launch) (D : va_G) (cA : Nat → ClassId) (K : Nat → Nat) (V : Nat → Nat) (x1 : Nat) (x2 : Int32) (f1 : List Value) (hss : zSS E K V) (hf1_n : f1.length = 243) (hf1_225 : f1[225]? = some (.int (-1))) (hf1_224 : f1[224]? = some (.int (-1))) (hf1_223 : f1[223]? = some (.int 0)) : zMi E l yX16_fault zwX16_fault ({ frames := 0, cells := 0, slots := 0, locals := 0 }) D vwCl (zT cA) [.ref x1, .int x2] [(x1, .inr (16, f1))] (S := Unit) (fun (r : Int32) (u : Unit) => (r = (if x2 = 0 then 0 else (-1) : Int32))) (fun (u : Unit) => []) := by
  refine zz_enteri (cc := cX16_fault) (lv := [(0, .ref x1), (1, .int x2)]) hE 2 (by decide) rfl (Nat.le_of_ble_eq_true rfl) rfl ?_
  intro p e s m args below meth c X hr hin
  refine zz_aload_n X 0 dX16_fault_0 rfl rfl ?_
  refine zz_iconst X 0 dX16_fault_1 rfl ?_
  refine zz_put X 0 227 rfl rfl (by decide) (fun w h => List.mem_cons_of_mem _ (zf_X16 w h)) rfl (List.mem_cons_of_mem _ zm_655) tyX16 tyX16_ok nmX16 rfl (ty := .int) rfl rfl rfl (zq_lt hf1_n (by decide) (by simp only [List.length_set])) dX16_fault_2 [(x1, .inr (16, (f1.set 227 (.int 0))))] rfl ?_
  refine zz_iload_n X 1 dX16_fault_5 rfl rfl ?_
  refine zz_if_ne X 16 dX16_fault_6 (by decide) (fun c6_1 => ?_) (fun c6_1 => ?_)
  · skip
    refine zz_iload_n X 1 dX16_fault_16 rfl rfl ?_
    refine zz_iconst X 1 dX16_fault_17 rfl ?_
    refine zz_icmp_ne X 28 dX16_fault_18 (by decide) (fun c18_2 => ?_) (fun c18_2 => ?_)
    · skip
      refine zz_iload_n X 1 dX16_fault_28 rfl rfl ?_
      refine zz_iconst X 2 dX16_fault_29 rfl ?_
      refine zz_icmp_ne X 40 dX16_fault_30 (by decide) (fun c30_3 => ?_) (fun c30_3 => ?_)
      · skip
        refine zz_iconst X (-1) dX16_fault_40 rfl ?_
        exact zz_iret X hr (()) [] (by decide) rfl rfl (Nat.le_of_ble_eq_true rfl) (Nat.le_of_ble_eq_true rfl) ((if_neg c6_1).symm) dX16_fault_41
      · skip
        refine zz_aload_n X 0 dX16_fault_33 rfl rfl ?_
        refine zz_get X 0 225 rfl rfl (by decide) (fun w h => List.mem_cons_of_mem _ (zf_X16 w h)) rfl (List.mem_cons_of_mem _ zm_622) (zq_oth (by decide) (hf1_225)) dX16_fault_34 ?_
        refine zz_goto X 41 dX16_fault_37 (by decide) ?_
        exact zz_iret X hr (()) [] (by decide) rfl rfl (Nat.le_of_ble_eq_true rfl) (Nat.le_of_ble_eq_true rfl) ((if_neg c6_1).symm) dX16_fault_41
    · skip
      refine zz_aload_n X 0 dX16_fault_21 rfl rfl ?_
      refine zz_get X 0 224 rfl rfl (by decide) (fun w h => List.mem_cons_of_mem _ (zf_X16 w h)) rfl (List.mem_cons_of_mem _ zm_621) (zq_oth (by decide) (hf1_224)) dX16_fault_22 ?_
      refine zz_goto X 41 dX16_fault_25 (by decide) ?_
      exact zz_iret X hr (()) [] (by decide) rfl rfl (Nat.le_of_ble_eq_true rfl) (Nat.le_of_ble_eq_true rfl) ((if_neg c6_1).symm) dX16_fault_41
  · skip
    refine zz_aload_n X 0 dX16_fault_9 rfl rfl ?_
    refine zz_get X 0 223 rfl rfl (by decide) (fun w h => List.mem_cons_of_mem _ (zf_X16 w h)) rfl (List.mem_cons_of_mem _ zm_898) (zq_oth (by decide) (hf1_223)) dX16_fault_10 ?_
    refine zz_goto X 41 dX16_fault_13 (by decide) ?_
    exact zz_iret X hr (()) [] (by decide) rfl rfl (Nat.le_of_ble_eq_true rfl) (Nat.le_of_ble_eq_true rfl) ((if_pos c6_1).symm) dX16_fault_41

set_option maxHeartbeats 4000000 in
set_option maxRecDepth 100000 in
/-- node -/
theorem kX15_node_14 {E : zEn} (hE : zOk E) (l : Launch) (D : va_G) (cA : Nat → ClassId) (K : Nat → Nat) (V : Nat → Nat) (x1 : Nat) (f1 : List Value) (x2 : Nat) (f2 : Nat → Int64) (hss : zSS E K V) (hf1_n : f1.length = 8) (hf1_3 : f1[3]? = some (.int 0)) (hf1_0 : f1[0]? = some (.ref x2)) : zMi E l yX15_node zwX15_node ({ frames := 1, cells := 0, slots := 0, locals := 17 }) D vwCl (zT cA) [.ref x1, .int 0, .int 0, .int 0, .int 1, .int 1] [(x1, .inr (15, f1)), (x2, .inl (cA 2, 8000, .inr (.inl f2)))] (S := Unit) (fun (r : Int32) (u : Unit) => (r = 0)) (fun (u : Unit) => [(x1, .inr (15, (f1.set 3 (.int 1)))), (x2, .inl (cA 2, 8000, .inr (.inl (vp_updL f2 0 576461302059237376))))]) := by
  refine zz_enteri (cc := cX15_node) (lv := [(0, .ref x1), (1, .int 0), (2, .int 0), (3, .int 0), (4, .int 1), (5, .int 1)]) hE 6 (by decide) rfl (Nat.le_of_ble_eq_true rfl) rfl ?_
  intro p e s m args below meth c X hr hin
  refine zz_aload_n X 0 dX15_node_0 rfl rfl ?_
  refine zz_get X 0 3 rfl rfl (by decide) (fun w h => List.mem_cons_of_mem _ (zf_X15 w h)) rfl (List.mem_cons_of_mem _ zm_538) hf1_3 dX15_node_1 ?_
  refine zz_aload_n X 0 dX15_node_4 rfl rfl ?_
  refine zz_get X 0 0 rfl rfl (by decide) (fun w h => List.mem_cons_of_mem _ (zf_X15 w h)) rfl (List.mem_cons_of_mem _ zm_533) hf1_0 dX15_node_5 ?_
  refine zz_alen X 1 2 rfl rfl (8000) rfl dX15_node_8 ?_
  refine zz_icmp_ne X 16 dX15_node_9 (by decide) (fun _ => ?_) (fun h => absurd h (by decide))
  refine zz_aload_n X 0 dX15_node_16 rfl rfl ?_
  refine zz_get X 0 0 rfl rfl (by decide) (fun w h => List.mem_cons_of_mem _ (zf_X15 w h)) rfl (List.mem_cons_of_mem _ zm_533) hf1_0 dX15_node_17 ?_
  refine zz_aload_n X 0 dX15_node_20 rfl rfl ?_
  refine zz_get X 0 3 rfl rfl (by decide) (fun w h => List.mem_cons_of_mem _ (zf_X15 w h)) rfl (List.mem_cons_of_mem _ zm_538) hf1_3 dX15_node_21 ?_
  refine zz_iload_n X 1 dX15_node_24 rfl rfl ?_
  refine zz_i2l X (0) dX15_node_25 (by decide) ?_
  refine zz_iload_n X 3 dX15_node_26 rfl rfl ?_
  refine zz_i2l X (0) dX15_node_27 (by decide) ?_
  refine zz_iconst X 3 dX15_node_28 rfl ?_
  refine zz_lshl X (0) dX15_node_29 (by decide) ?_
  refine zz_lor X (0) dX15_node_30 (by decide) ?_
  refine zz_iload_n X 2 dX15_node_31 rfl rfl ?_
  refine zz_i2l X (0) dX15_node_32 (by decide) ?_
  refine zz_bipush X 21 dX15_node_33 rfl ?_
  refine zz_lshl X (0) dX15_node_35 (by decide) ?_
  refine zz_lor X (0) dX15_node_36 (by decide) ?_
  refine zz_iload X 4 dX15_node_37 rfl ?_
  refine zz_i2l X (1) dX15_node_39 (by decide) ?_
  refine zz_bipush X 39 dX15_node_40 rfl ?_
  refine zz_lshl X (549755813888) dX15_node_42 (by decide) ?_
  refine zz_lor X (549755813888) dX15_node_43 (by decide) ?_
  refine zz_bipush X 31 dX15_node_44 rfl ?_
  refine zz_iload X 5 dX15_node_46 rfl ?_
  refine zz_mmin X (1) (List.mem_cons_of_mem _ zm_541) (List.mem_cons_of_mem _ zm_257) (List.mem_cons_of_mem _ zm_258) (List.mem_cons_of_mem _ zm_259) (Nat.le_of_ble_eq_true rfl) (Nat.le_of_ble_eq_true rfl) (Nat.le_of_ble_eq_true rfl) (Nat.le_of_ble_eq_true rfl) dX15_node_48 (by decide) ?_
  refine zz_i2l X (1) dX15_node_51 (by decide) ?_
  refine zz_bipush X 59 dX15_node_52 rfl ?_
  refine zz_lshl X (576460752303423488) dX15_node_54 (by decide) ?_
  refine zz_lor X (576461302059237376) dX15_node_55 (by decide) ?_
  refine zz_last X 1 2 rfl rfl (vp_in_nI (n := 0) (by decide) (by decide)) 0 (by decide) dX15_node_56 [(x1, .inr (15, f1)), (x2, .inl (cA 2, 8000, .inr (.inl (vp_updL f2 0 576461302059237376))))] rfl ?_
  refine zz_aload_n X 0 dX15_node_57 rfl rfl ?_
  refine zz_dup X dX15_node_58 rfl ?_
  refine zz_get X 0 3 rfl rfl (by decide) (fun w h => List.mem_cons_of_mem _ (zf_X15 w h)) rfl (List.mem_cons_of_mem _ zm_538) hf1_3 dX15_node_59 ?_
  refine zz_iconst X 1 dX15_node_62 rfl ?_
  refine zz_iadd X (1) dX15_node_63 (by decide) ?_
  refine zz_put X 0 3 rfl rfl (by decide) (fun w h => List.mem_cons_of_mem _ (zf_X15 w h)) rfl (List.mem_cons_of_mem _ zm_538) tyX15 tyX15_ok nmX15 rfl (ty := .int) rfl rfl rfl (zq_lt hf1_n (by decide) (by simp only [List.length_set])) dX15_node_64 [(x1, .inr (15, (f1.set 3 (.int 1)))), (x2, .inl (cA 2, 8000, .inr (.inl (vp_updL f2 0 576461302059237376))))] rfl ?_
  refine zz_aload_n X 0 dX15_node_67 rfl rfl ?_
  refine zz_get X 0 3 rfl rfl (by decide) (fun w h => List.mem_cons_of_mem _ (zf_X15 w h)) rfl (List.mem_cons_of_mem _ zm_538) (zq_same (zq_lt hf1_n (by decide) (by simp only [List.length_set]))) dX15_node_68 ?_
  refine zz_iconst X 1 dX15_node_71 rfl ?_
  refine zz_isub X (0) dX15_node_72 (by decide) ?_
  exact zz_iret X hr (()) [0, 1] (by decide) rfl rfl (Nat.le_of_ble_eq_true rfl) (Nat.le_of_ble_eq_true rfl) (rfl) dX15_node_73

set_option maxHeartbeats 4000000 in
set_option maxRecDepth 100000 in
/-- clear -/
theorem kX15_clear_5 {E : zEn} (hE : zOk E) (l : Launch) (D : va_G) (cA : Nat → ClassId) (K : Nat → Nat) (V : Nat → Nat) (x1 : Nat) (f1 : List Value) (x2 : Nat) (f2 : Nat → Int64) (hss : zSS E K V) (hf1_n : f1.length = 8) (hf1_0 : f1[0]? = some (.ref x2)) : zMv E l yX15_clear zwX15_clear ({ frames := 2, cells := 0, slots := 0, locals := 42 }) D vwCl (zT cA) [.ref x1] [(x1, .inr (15, f1)), (x2, .inl (cA 2, 8000, .inr (.inl f2)))] (S := Unit) (fun (u : Unit) => (True)) (fun (u : Unit) => [(x1, .inr (15, ((((((f1.set 3 (.int 0)).set 4 (.int 0)).set 5 (.int 0)).set 3 (.int 1)).set 3 (.int 2)).set 3 (.int 3)))), (x2, .inl (cA 2, 8000, .inr (.inl (vp_updL (vp_updL (vp_updL f2 0 576461302059237376) 1 576461302059237377) 2 576461302059237378))))]) := by
  refine zz_enterv (cc := cX15_clear) (lv := [(0, .ref x1)]) hE 2 (by decide) rfl (Nat.le_of_ble_eq_true rfl) rfl ?_
  intro p e s m args below meth c X hr hin
  refine zz_aload_n X 0 dX15_clear_0 rfl rfl ?_
  refine zz_iconst X 0 dX15_clear_1 rfl ?_
  refine zz_put X 0 3 rfl rfl (by decide) (fun w h => List.mem_cons_of_mem _ (zf_X15 w h)) rfl (List.mem_cons_of_mem _ zm_538) tyX15 tyX15_ok nmX15 rfl (ty := .int) rfl rfl rfl (zq_lt hf1_n (by decide) (by simp only [List.length_set])) dX15_clear_2 [(x1, .inr (15, (f1.set 3 (.int 0)))), (x2, .inl (cA 2, 8000, .inr (.inl f2)))] rfl ?_
  refine zz_aload_n X 0 dX15_clear_5 rfl rfl ?_
  refine zz_iconst X 0 dX15_clear_6 rfl ?_
  refine zz_put X 0 4 rfl rfl (by decide) (fun w h => List.mem_cons_of_mem _ (zf_X15 w h)) rfl (List.mem_cons_of_mem _ zm_539) tyX15 tyX15_ok nmX15 rfl (ty := .int) rfl rfl rfl (zq_lt hf1_n (by decide) (by simp only [List.length_set])) dX15_clear_7 [(x1, .inr (15, ((f1.set 3 (.int 0)).set 4 (.int 0)))), (x2, .inl (cA 2, 8000, .inr (.inl f2)))] rfl ?_
  refine zz_aload_n X 0 dX15_clear_10 rfl rfl ?_
  refine zz_iconst X 0 dX15_clear_11 rfl ?_
  refine zz_put X 0 5 rfl rfl (by decide) (fun w h => List.mem_cons_of_mem _ (zf_X15 w h)) rfl (List.mem_cons_of_mem _ zm_540) tyX15 tyX15_ok nmX15 rfl (ty := .int) rfl rfl rfl (zq_lt hf1_n (by decide) (by simp only [List.length_set])) dX15_clear_12 [(x1, .inr (15, (((f1.set 3 (.int 0)).set 4 (.int 0)).set 5 (.int 0)))), (x2, .inl (cA 2, 8000, .inr (.inl f2)))] rfl ?_
  refine zz_iconst X 0 dX15_clear_15 rfl ?_
  refine zz_istore_n X [(1, .int 0), (0, .ref x1)] dX15_clear_16 rfl (by decide) rfl ?_
  refine zz_iload_n X 0 dX15_clear_17 rfl rfl ?_
  refine zz_iconst X 2 dX15_clear_18 rfl ?_
  refine zz_icmp_gt X 38 dX15_clear_19 (by decide) (fun h => absurd h (by decide)) (fun _ => ?_)
  refine zz_aload_n X 1 dX15_clear_22 rfl rfl ?_
  refine zz_iload_n X 0 dX15_clear_23 rfl rfl ?_
  refine zz_iconst X 0 dX15_clear_24 rfl ?_
  refine zz_iconst X 0 dX15_clear_25 rfl ?_
  refine zz_iconst X 1 dX15_clear_26 rfl ?_
  refine zz_iconst X 1 dX15_clear_27 rfl ?_
  refine zz_callVi X (rest := []) (As := [.int 0, .int 0, .int 0, .int 1, .int 1]) (kX15_node_14 hE l D cA K V x1 (((f1.set 3 (.int 0)).set 4 (.int 0)).set 5 (.int 0)) x2 f2 hss (zq_len hf1_n (by simp only [List.length_set])) (zq_oth (by decide) (zq_oth (by decide) ((zq_same (zq_lt hf1_n (by decide) (by simp only [List.length_set])))))) (zq_oth (by decide) (zq_oth (by decide) (zq_oth (by decide) (hf1_0))))) 5 (zgV zm_543 zm_544 zm_545 zm_527 zm_542) rfl (by decide +kernel) [0, 1] [] [] rfl rfl (by decide) rfl (by decide) (by decide) ⟨Nat.le_of_ble_eq_true rfl, Nat.le_of_ble_eq_true rfl⟩ 0 rfl rfl rfl rfl rfl (Nat.le_of_ble_eq_true rfl) dX15_clear_28 (Nat.le_of_ble_eq_true rfl) (Nat.le_of_ble_eq_true rfl) (fun r1 _ hw2 => ?_)
  obtain rfl := hw2
  refine zz_show (ws' := [(x1, .inr (15, ((((f1.set 3 (.int 0)).set 4 (.int 0)).set 5 (.int 0)).set 3 (.int 1)))), (x2, .inl (cA 2, 8000, .inr (.inl (vp_updL f2 0 576461302059237376))))]) rfl ?_
  refine zz_pop X dX15_clear_31 rfl ?_
  refine zz_iinc X 0 (1) [(1, .int 1), (0, .ref x1)] dX15_clear_32 rfl (by decide) (by decide) rfl ?_
  refine zz_goto X 17 dX15_clear_35 (by decide) ?_
  refine zz_iload_n X 0 dX15_clear_17 rfl rfl ?_
  refine zz_iconst X 2 dX15_clear_18 rfl ?_
  refine zz_icmp_gt X 38 dX15_clear_19 (by decide) (fun h => absurd h (by decide)) (fun _ => ?_)
  refine zz_aload_n X 1 dX15_clear_22 rfl rfl ?_
  refine zz_iload_n X 0 dX15_clear_23 rfl rfl ?_
  refine zz_iconst X 0 dX15_clear_24 rfl ?_
  refine zz_iconst X 0 dX15_clear_25 rfl ?_
  refine zz_iconst X 1 dX15_clear_26 rfl ?_
  refine zz_iconst X 1 dX15_clear_27 rfl ?_
  refine zz_callVi X (rest := []) (As := [.int 1, .int 0, .int 0, .int 1, .int 1]) (kX15_node_8 hE l D cA K V x1 ((((f1.set 3 (.int 0)).set 4 (.int 0)).set 5 (.int 0)).set 3 (.int 1)) x2 (vp_updL f2 0 576461302059237376) hss (zq_len hf1_n (by simp only [List.length_set])) (zq_same (zq_lt hf1_n (by decide) (by simp only [List.length_set]))) (zq_oth (by decide) (zq_oth (by decide) (zq_oth (by decide) (zq_oth (by decide) (hf1_0)))))) 5 (zgV zm_543 zm_544 zm_545 zm_527 zm_542) rfl (by decide +kernel) [0, 1] [] [] rfl rfl (by decide) rfl (by decide) (by decide) ⟨Nat.le_of_ble_eq_true rfl, Nat.le_of_ble_eq_true rfl⟩ 0 rfl rfl rfl rfl rfl (Nat.le_of_ble_eq_true rfl) dX15_clear_28 (Nat.le_of_ble_eq_true rfl) (Nat.le_of_ble_eq_true rfl) (fun r3 _ hw4 => ?_)
  obtain rfl := hw4
  refine zz_show (ws' := [(x1, .inr (15, (((((f1.set 3 (.int 0)).set 4 (.int 0)).set 5 (.int 0)).set 3 (.int 1)).set 3 (.int 2)))), (x2, .inl (cA 2, 8000, .inr (.inl (vp_updL (vp_updL f2 0 576461302059237376) 1 576461302059237377))))]) rfl ?_
  refine zz_pop X dX15_clear_31 rfl ?_
  refine zz_iinc X 0 (2) [(1, .int 2), (0, .ref x1)] dX15_clear_32 rfl (by decide) (by decide) rfl ?_
  refine zz_goto X 17 dX15_clear_35 (by decide) ?_
  refine zz_iload_n X 0 dX15_clear_17 rfl rfl ?_
  refine zz_iconst X 2 dX15_clear_18 rfl ?_
  refine zz_icmp_gt X 38 dX15_clear_19 (by decide) (fun h => absurd h (by decide)) (fun _ => ?_)
  refine zz_aload_n X 1 dX15_clear_22 rfl rfl ?_
  refine zz_iload_n X 0 dX15_clear_23 rfl rfl ?_
  refine zz_iconst X 0 dX15_clear_24 rfl ?_
  refine zz_iconst X 0 dX15_clear_25 rfl ?_
  refine zz_iconst X 1 dX15_clear_26 rfl ?_
  refine zz_iconst X 1 dX15_clear_27 rfl ?_
  refine zz_callVi X (rest := []) (As := [.int 2, .int 0, .int 0, .int 1, .int 1]) (kX15_node_9 hE l D cA K V x1 (((((f1.set 3 (.int 0)).set 4 (.int 0)).set 5 (.int 0)).set 3 (.int 1)).set 3 (.int 2)) x2 (vp_updL (vp_updL f2 0 576461302059237376) 1 576461302059237377) hss (zq_len hf1_n (by simp only [List.length_set])) (zq_same (zq_lt hf1_n (by decide) (by simp only [List.length_set]))) (zq_oth (by decide) (zq_oth (by decide) (zq_oth (by decide) (zq_oth (by decide) (zq_oth (by decide) (hf1_0))))))) 5 (zgV zm_543 zm_544 zm_545 zm_527 zm_542) rfl (by decide +kernel) [0, 1] [] [] rfl rfl (by decide) rfl (by decide) (by decide) ⟨Nat.le_of_ble_eq_true rfl, Nat.le_of_ble_eq_true rfl⟩ 0 rfl rfl rfl rfl rfl (Nat.le_of_ble_eq_true rfl) dX15_clear_28 (Nat.le_of_ble_eq_true rfl) (Nat.le_of_ble_eq_true rfl) (fun r5 _ hw6 => ?_)
  obtain rfl := hw6
  refine zz_show (ws' := [(x1, .inr (15, ((((((f1.set 3 (.int 0)).set 4 (.int 0)).set 5 (.int 0)).set 3 (.int 1)).set 3 (.int 2)).set 3 (.int 3)))), (x2, .inl (cA 2, 8000, .inr (.inl (vp_updL (vp_updL (vp_updL f2 0 576461302059237376) 1 576461302059237377) 2 576461302059237378))))]) rfl ?_
  refine zz_pop X dX15_clear_31 rfl ?_
  refine zz_iinc X 0 (3) [(1, .int 3), (0, .ref x1)] dX15_clear_32 rfl (by decide) (by decide) rfl ?_
  refine zz_goto X 17 dX15_clear_35 (by decide) ?_
  refine zz_iload_n X 0 dX15_clear_17 rfl rfl ?_
  refine zz_iconst X 2 dX15_clear_18 rfl ?_
  refine zz_icmp_gt X 38 dX15_clear_19 (by decide) (fun _ => ?_) (fun h => absurd (by decide) h)
  exact zz_vret X hr (()) [0, 1] (by decide) rfl rfl (Nat.le_of_ble_eq_true rfl) (Nat.le_of_ble_eq_true rfl) (trivial) dX15_clear_38

set_option maxHeartbeats 4000000 in
set_option maxRecDepth 100000 in
/-- jsonNext -/
theorem kX16_jsonNext_1 {E : zEn} (hE : zOk E) (l : Launch) (D : va_G) (cA : Nat → ClassId) (K : Nat → Nat) (V : Nat → Nat) (x1 : Nat) (f1 : List Value) (x2 : Nat) (hss : zSS E K V) (hf1_n : f1.length = 243) (hf1_5 : f1[5]? = some (.ref x2)) (hf1_6 : f1[6]? = some (.int 0)) (hf1_7 : f1[7]? = some (.int 0)) : zMi E l yX16_jsonNext zwX16_jsonNext ({ frames := 1, cells := 0, slots := 0, locals := 22 }) D vwCl (zT cA) [.ref x1] [(x1, .inr (16, f1))] (S := Unit) (fun (r : Int32) (u : Unit) => (r = (-1))) (fun (u : Unit) => [(x1, .inr (16, f1))]) := by
  refine zz_enteri (cc := cX16_jsonNext) (lv := [(0, .ref x1)]) hE 1 (by decide) rfl (Nat.le_of_ble_eq_true rfl) rfl ?_
  intro p e s m args below meth c X hr hin
  refine zz_aload_n X 0 dX16_jsonNext_0 rfl rfl ?_
  refine zz_get X 0 5 rfl rfl (by decide) (fun w h => List.mem_cons_of_mem _ (zf_X16 w h)) rfl (List.mem_cons_of_mem _ zm_952) hf1_5 dX16_jsonNext_1 ?_
  refine zz_aload_n X 0 dX16_jsonNext_4 rfl rfl ?_
  refine zz_get X 0 6 rfl rfl (by decide) (fun w h => List.mem_cons_of_mem _ (zf_X16 w h)) rfl (List.mem_cons_of_mem _ zm_953) hf1_6 dX16_jsonNext_5 ?_
  refine zz_aload_n X 0 dX16_jsonNext_8 rfl rfl ?_
  refine zz_get X 0 7 rfl rfl (by decide) (fun w h => List.mem_cons_of_mem _ (zf_X16 w h)) rfl (List.mem_cons_of_mem _ zm_954) hf1_7 dX16_jsonNext_9 ?_
  refine zz_callSi X (rest := []) (As := [.ref x2, .int 0, .int 0]) (kX16_see_1 hE l D cA K V x2 hss) 3 (zgS zm_789 zm_790 zm_451 zm_788) rfl (by decide +kernel) [] [0] [(x1, .inr (16, f1))] rfl rfl (by decide) rfl (by decide) (by decide) ⟨Nat.le_of_ble_eq_true rfl, Nat.le_of_ble_eq_true rfl⟩ rfl rfl rfl (Nat.le_of_ble_eq_true rfl) dX16_jsonNext_12 (Nat.le_of_ble_eq_true rfl) (Nat.le_of_ble_eq_true rfl) (fun r1 _ hw2 => ?_)
  obtain rfl := hw2
  refine zz_show (ws' := [(x1, .inr (16, f1))]) rfl ?_
  exact zz_iret X hr (()) [0] (by decide) rfl rfl (Nat.le_of_ble_eq_true rfl) (Nat.le_of_ble_eq_true rfl) (rfl) dX16_jsonNext_15

set_option maxHeartbeats 4000000 in
set_option maxRecDepth 100000 in
/-- jsonBlanks -/
theorem kX16_jsonBlanks_1 {E : zEn} (hE : zOk E) (l : Launch) (D : va_G) (cA : Nat → ClassId) (K : Nat → Nat) (V : Nat → Nat) (x1 : Nat) (f1 : List Value) (x2 : Nat) (hss : zSS E K V) (hf1_n : f1.length = 243) (hf1_5 : f1[5]? = some (.ref x2)) (hf1_6 : f1[6]? = some (.int 0)) (hf1_7 : f1[7]? = some (.int 0)) : zMv E l yX16_jsonBlanks zwX16_jsonBlanks ({ frames := 2, cells := 0, slots := 0, locals := 42 }) D vwCl (zT cA) [.ref x1] [(x1, .inr (16, f1))] (S := Unit) (fun (u : Unit) => (True)) (fun (u : Unit) => [(x1, .inr (16, f1))]) := by
  refine zz_enterv (cc := cX16_jsonBlanks) (lv := [(0, .ref x1)]) hE 1 (by decide) rfl (Nat.le_of_ble_eq_true rfl) rfl ?_
  intro p e s m args below meth c X hr hin
  refine zz_aload_n X 0 dX16_jsonBlanks_0 rfl rfl ?_
  refine zz_callVi X (rest := []) (As := []) (kX16_jsonNext_1 hE l D cA K V x1 f1 x2 hss (zq_len hf1_n (by simp only [List.length_set])) hf1_5 hf1_6 hf1_7) 0 (zgV zm_957 zm_958 zm_959 zm_451 zm_956) rfl (by decide +kernel) [0] [] [] rfl rfl (by decide) rfl (by decide) (by decide) ⟨Nat.le_of_ble_eq_true rfl, Nat.le_of_ble_eq_true rfl⟩ 0 rfl rfl rfl rfl rfl (Nat.le_of_ble_eq_true rfl) dX16_jsonBlanks_1 (Nat.le_of_ble_eq_true rfl) (Nat.le_of_ble_eq_true rfl) (fun r1 _ hw2 => ?_)
  obtain rfl := hw2
  refine zz_show (ws' := [(x1, .inr (16, f1))]) rfl ?_
  refine zz_bipush X 32 dX16_jsonBlanks_4 rfl ?_
  refine zz_icmp_eq X 36 dX16_jsonBlanks_6 (by decide) (fun h => absurd h (by decide)) (fun _ => ?_)
  refine zz_aload_n X 0 dX16_jsonBlanks_9 rfl rfl ?_
  refine zz_callVi X (rest := []) (As := []) (kX16_jsonNext_1 hE l D cA K V x1 f1 x2 hss (zq_len hf1_n (by simp only [List.length_set])) hf1_5 hf1_6 hf1_7) 0 (zgV zm_957 zm_958 zm_959 zm_451 zm_956) rfl (by decide +kernel) [0] [] [] rfl rfl (by decide) rfl (by decide) (by decide) ⟨Nat.le_of_ble_eq_true rfl, Nat.le_of_ble_eq_true rfl⟩ 0 rfl rfl rfl rfl rfl (Nat.le_of_ble_eq_true rfl) dX16_jsonBlanks_10 (Nat.le_of_ble_eq_true rfl) (Nat.le_of_ble_eq_true rfl) (fun r3 _ hw4 => ?_)
  obtain rfl := hw4
  refine zz_show (ws' := [(x1, .inr (16, f1))]) rfl ?_
  refine zz_bipush X 9 dX16_jsonBlanks_13 rfl ?_
  refine zz_icmp_eq X 36 dX16_jsonBlanks_15 (by decide) (fun h => absurd h (by decide)) (fun _ => ?_)
  refine zz_aload_n X 0 dX16_jsonBlanks_18 rfl rfl ?_
  refine zz_callVi X (rest := []) (As := []) (kX16_jsonNext_1 hE l D cA K V x1 f1 x2 hss (zq_len hf1_n (by simp only [List.length_set])) hf1_5 hf1_6 hf1_7) 0 (zgV zm_957 zm_958 zm_959 zm_451 zm_956) rfl (by decide +kernel) [0] [] [] rfl rfl (by decide) rfl (by decide) (by decide) ⟨Nat.le_of_ble_eq_true rfl, Nat.le_of_ble_eq_true rfl⟩ 0 rfl rfl rfl rfl rfl (Nat.le_of_ble_eq_true rfl) dX16_jsonBlanks_19 (Nat.le_of_ble_eq_true rfl) (Nat.le_of_ble_eq_true rfl) (fun r5 _ hw6 => ?_)
  obtain rfl := hw6
  refine zz_show (ws' := [(x1, .inr (16, f1))]) rfl ?_
  refine zz_bipush X 10 dX16_jsonBlanks_22 rfl ?_
  refine zz_icmp_eq X 36 dX16_jsonBlanks_24 (by decide) (fun h => absurd h (by decide)) (fun _ => ?_)
  refine zz_aload_n X 0 dX16_jsonBlanks_27 rfl rfl ?_
  refine zz_callVi X (rest := []) (As := []) (kX16_jsonNext_1 hE l D cA K V x1 f1 x2 hss (zq_len hf1_n (by simp only [List.length_set])) hf1_5 hf1_6 hf1_7) 0 (zgV zm_957 zm_958 zm_959 zm_451 zm_956) rfl (by decide +kernel) [0] [] [] rfl rfl (by decide) rfl (by decide) (by decide) ⟨Nat.le_of_ble_eq_true rfl, Nat.le_of_ble_eq_true rfl⟩ 0 rfl rfl rfl rfl rfl (Nat.le_of_ble_eq_true rfl) dX16_jsonBlanks_28 (Nat.le_of_ble_eq_true rfl) (Nat.le_of_ble_eq_true rfl) (fun r7 _ hw8 => ?_)
  obtain rfl := hw8
  refine zz_show (ws' := [(x1, .inr (16, f1))]) rfl ?_
  refine zz_bipush X 13 dX16_jsonBlanks_31 rfl ?_
  refine zz_icmp_ne X 49 dX16_jsonBlanks_33 (by decide) (fun _ => ?_) (fun h => absurd h (by decide))
  exact zz_vret X hr (()) [0] (by decide) rfl rfl (Nat.le_of_ble_eq_true rfl) (Nat.le_of_ble_eq_true rfl) (trivial) dX16_jsonBlanks_49

set_option maxHeartbeats 4000000 in
set_option maxRecDepth 100000 in
/-- isDigit -/
theorem kX16_isDigit_1 {E : zEn} (hE : zOk E) (l : Launch) (D : va_G) (cA : Nat → ClassId) (K : Nat → Nat) (V : Nat → Nat) (hss : zSS E K V) : zMi E l yX16_isDigit zwX16_isDigit ({ frames := 0, cells := 0, slots := 0, locals := 0 }) D vwCl (zT cA) [.int (-1)] [] (S := Unit) (fun (r : Int32) (u : Unit) => (r = 0)) (fun (u : Unit) => []) := by
  refine zz_enterz (cc := cX16_isDigit) (lv := [(0, .int (-1))]) hE 1 (by decide) rfl (Nat.le_of_ble_eq_true rfl) rfl ?_
  intro p e s m args below meth c X hr hin
  refine zz_iload_n X 0 dX16_isDigit_0 rfl rfl ?_
  refine zz_bipush X 48 dX16_isDigit_1 rfl ?_
  refine zz_icmp_lt X 16 dX16_isDigit_3 (by decide) (fun _ => ?_) (fun h => absurd (by decide) h)
  refine zz_iconst X 0 dX16_isDigit_16 rfl ?_
  exact zz_zret X hr (by decide) (()) [] (by decide) rfl rfl (Nat.le_of_ble_eq_true rfl) (Nat.le_of_ble_eq_true rfl) (rfl) dX16_isDigit_17

set_option maxHeartbeats 4000000 in
set_option maxRecDepth 100000 in
/-- wrongAt -/
theorem kX16_wrongAt_1 {E : zEn} (hE : zOk E) (l : Launch) (D : va_G) (cA : Nat → ClassId) (K : Nat → Nat) (V : Nat → Nat) (x1 : Nat) (f1 : List Value) (hss : zSS E K V) (hf1_n : f1.length = 243) (hf1_2 : f1[2]? = some (.int (-1))) : zMv E l yX16_wrongAt zwX16_wrongAt ({ frames := 0, cells := 0, slots := 0, locals := 0 }) D vwCl (zT cA) [.ref x1, .int 0] [(x1, .inr (16, f1))] (S := Unit) (fun (u : Unit) => (True)) (fun (u : Unit) => [(x1, .inr (16, (f1.set 2 (.int 0))))]) := by
  refine zz_enterv (cc := cX16_wrongAt) (lv := [(0, .ref x1), (1, .int 0)]) hE 2 (by decide) rfl (Nat.le_of_ble_eq_true rfl) rfl ?_
  intro p e s m args below meth c X hr hin
  refine zz_aload_n X 0 dX16_wrongAt_0 rfl rfl ?_
  refine zz_get X 0 2 rfl rfl (by decide) (fun w h => List.mem_cons_of_mem _ (zf_X16 w h)) rfl (List.mem_cons_of_mem _ zm_793) hf1_2 dX16_wrongAt_1 ?_
  refine zz_iconst X (-1) dX16_wrongAt_4 rfl ?_
  refine zz_icmp_ne X 13 dX16_wrongAt_5 (by decide) (fun h => absurd (by decide) h) (fun _ => ?_)
  refine zz_aload_n X 0 dX16_wrongAt_8 rfl rfl ?_
  refine zz_iload_n X 1 dX16_wrongAt_9 rfl rfl ?_
  refine zz_put X 0 2 rfl rfl (by decide) (fun w h => List.mem_cons_of_mem _ (zf_X16 w h)) rfl (List.mem_cons_of_mem _ zm_793) tyX16 tyX16_ok nmX16 rfl (ty := .int) rfl rfl rfl (zq_lt hf1_n (by decide) (by simp only [List.length_set])) dX16_wrongAt_10 [(x1, .inr (16, (f1.set 2 (.int 0))))] rfl ?_
  exact zz_vret X hr (()) [0] (by decide) rfl rfl (Nat.le_of_ble_eq_true rfl) (Nat.le_of_ble_eq_true rfl) (trivial) dX16_wrongAt_13

set_option maxHeartbeats 4000000 in
set_option maxRecDepth 100000 in
/-- jsonValue -/
theorem kX16_jsonValue_1 {E : zEn} (hE : zOk E) (l : Launch) (D : va_G) (cA : Nat → ClassId) (K : Nat → Nat) (V : Nat → Nat) (x1 : Nat) (f1 : List Value) (x2 : Nat) (hss : zSS E K V) (hf1_n : f1.length = 243) (hf1_5 : f1[5]? = some (.ref x2)) (hf1_6 : f1[6]? = some (.int 0)) (hf1_7 : f1[7]? = some (.int 0)) (hf1_2 : f1[2]? = some (.int (-1))) : zMi E l yX16_jsonValue zwX16_jsonValue ({ frames := 3, cells := 0, slots := 0, locals := 62 }) D vwCl (zT cA) [.ref x1, .int 0] [(x1, .inr (16, f1))] (S := Unit) (fun (r : Int32) (u : Unit) => (r = (-1))) (fun (u : Unit) => [(x1, .inr (16, (f1.set 2 (.int 0))))]) := by
  refine zz_enteri (cc := cX16_jsonValue) (lv := [(0, .ref x1), (1, .int 0)]) hE 6 (by decide) rfl (Nat.le_of_ble_eq_true rfl) rfl ?_
  intro p e s m args below meth c X hr hin
  refine zz_aload_n X 0 dX16_jsonValue_0 rfl rfl ?_
  refine zz_callVv X (rest := []) (As := []) (kX16_jsonBlanks_1 hE l D cA K V x1 f1 x2 hss (zq_len hf1_n (by simp only [List.length_set])) hf1_5 hf1_6 hf1_7) 0 (zgV zm_961 zm_962 zm_963 zm_451 zm_960) rfl (by decide +kernel) [0] [] [] rfl rfl (by decide) rfl (by decide) (by decide) ⟨Nat.le_of_ble_eq_true rfl, Nat.le_of_ble_eq_true rfl⟩ 0 rfl rfl rfl rfl rfl (Nat.le_of_ble_eq_true rfl) dX16_jsonValue_1 (Nat.le_of_ble_eq_true rfl) (Nat.le_of_ble_eq_true rfl) (fun _ hw1 => ?_)
  refine zz_show (ws' := [(x1, .inr (16, f1))]) rfl ?_
  refine zz_aload_n X 0 dX16_jsonValue_4 rfl rfl ?_
  refine zz_callVi X (rest := []) (As := []) (kX16_jsonNext_1 hE l D cA K V x1 f1 x2 hss (zq_len hf1_n (by simp only [List.length_set])) hf1_5 hf1_6 hf1_7) 0 (zgV zm_957 zm_958 zm_959 zm_451 zm_956) rfl (by decide +kernel) [0] [] [] rfl rfl (by decide) rfl (by decide) (by decide) ⟨Nat.le_of_ble_eq_true rfl, Nat.le_of_ble_eq_true rfl⟩ 0 rfl rfl rfl rfl rfl (Nat.le_of_ble_eq_true rfl) dX16_jsonValue_5 (Nat.le_of_ble_eq_true rfl) (Nat.le_of_ble_eq_true rfl) (fun r2 _ hw3 => ?_)
  obtain rfl := hw3
  refine zz_show (ws' := [(x1, .inr (16, f1))]) rfl ?_
  refine zz_istore_n X [(2, .int (-1)), (0, .ref x1), (1, .int 0)] dX16_jsonValue_8 rfl (by decide) rfl ?_
  refine zz_iload_n X 0 dX16_jsonValue_9 rfl rfl ?_
  refine zz_bipush X 110 dX16_jsonValue_10 rfl ?_
  refine zz_icmp_ne X 23 dX16_jsonValue_12 (by decide) (fun _ => ?_) (fun h => absurd h (by decide))
  refine zz_iload_n X 0 dX16_jsonValue_23 rfl rfl ?_
  refine zz_bipush X 102 dX16_jsonValue_24 rfl ?_
  refine zz_icmp_ne X 37 dX16_jsonValue_26 (by decide) (fun _ => ?_) (fun h => absurd h (by decide))
  refine zz_iload_n X 0 dX16_jsonValue_37 rfl rfl ?_
  refine zz_bipush X 116 dX16_jsonValue_38 rfl ?_
  refine zz_icmp_ne X 51 dX16_jsonValue_40 (by decide) (fun _ => ?_) (fun h => absurd h (by decide))
  refine zz_iload_n X 0 dX16_jsonValue_51 rfl rfl ?_
  refine zz_bipush X 34 dX16_jsonValue_52 rfl ?_
  refine zz_icmp_ne X 106 dX16_jsonValue_54 (by decide) (fun _ => ?_) (fun h => absurd h (by decide))
  refine zz_iload_n X 0 dX16_jsonValue_106 rfl rfl ?_
  refine zz_bipush X 45 dX16_jsonValue_107 rfl ?_
  refine zz_icmp_eq X 119 dX16_jsonValue_109 (by decide) (fun h => absurd h (by decide)) (fun _ => ?_)
  refine zz_iload_n X 0 dX16_jsonValue_112 rfl rfl ?_
  refine zz_callSi X (rest := []) (As := [.int (-1)]) (kX16_isDigit_1 hE l D cA K V hss) 1 (zgS zm_965 zm_966 zm_451 zm_964) rfl (by decide +kernel) [] [0] [(x1, .inr (16, f1))] rfl rfl (by decide) rfl (by decide) (by decide) ⟨Nat.le_of_ble_eq_true rfl, Nat.le_of_ble_eq_true rfl⟩ rfl rfl rfl (Nat.le_of_ble_eq_true rfl) dX16_jsonValue_113 (Nat.le_of_ble_eq_true rfl) (Nat.le_of_ble_eq_true rfl) (fun r4 _ hw5 => ?_)
  obtain rfl := hw5
  refine zz_show (ws' := [(x1, .inr (16, f1))]) rfl ?_
  refine zz_if_eq X 163 dX16_jsonValue_116 (by decide) (fun _ => ?_) (fun h => absurd (by decide) h)
  refine zz_iload_n X 0 dX16_jsonValue_163 rfl rfl ?_
  refine zz_bipush X 91 dX16_jsonValue_164 rfl ?_
  refine zz_icmp_eq X 175 dX16_jsonValue_166 (by decide) (fun h => absurd h (by decide)) (fun _ => ?_)
  refine zz_iload_n X 0 dX16_jsonValue_169 rfl rfl ?_
  refine zz_bipush X 123 dX16_jsonValue_170 rfl ?_
  refine zz_icmp_ne X 181 dX16_jsonValue_172 (by decide) (fun _ => ?_) (fun h => absurd h (by decide))
  refine zz_aload_n X 1 dX16_jsonValue_181 rfl rfl ?_
  refine zz_aload_n X 1 dX16_jsonValue_182 rfl rfl ?_
  refine zz_get X 0 6 rfl rfl (by decide) (fun w h => List.mem_cons_of_mem _ (zf_X16 w h)) rfl (List.mem_cons_of_mem _ zm_953) hf1_6 dX16_jsonValue_183 ?_
  refine zz_callVv X (rest := []) (As := [.int 0]) (kX16_wrongAt_1 hE l D cA K V x1 f1 hss (zq_len hf1_n (by simp only [List.length_set])) hf1_2) 1 (zgV zm_968 zm_969 zm_970 zm_451 zm_967) rfl (by decide +kernel) [0] [] [] rfl rfl (by decide) rfl (by decide) (by decide) ⟨Nat.le_of_ble_eq_true rfl, Nat.le_of_ble_eq_true rfl⟩ 0 rfl rfl rfl rfl rfl (Nat.le_of_ble_eq_true rfl) dX16_jsonValue_186 (Nat.le_of_ble_eq_true rfl) (Nat.le_of_ble_eq_true rfl) (fun _ hw6 => ?_)
  refine zz_show (ws' := [(x1, .inr (16, (f1.set 2 (.int 0))))]) rfl ?_
  refine zz_iconst X (-1) dX16_jsonValue_189 rfl ?_
  exact zz_iret X hr (()) [0] (by decide) rfl rfl (Nat.le_of_ble_eq_true rfl) (Nat.le_of_ble_eq_true rfl) (rfl) dX16_jsonValue_190

set_option maxHeartbeats 4000000 in
set_option maxRecDepth 100000 in
/-- readJson -/
theorem kX16_readJson_1 {E : zEn} (hE : zOk E) (l : Launch) (D : va_G) (cA : Nat → ClassId) (K : Nat → Nat) (V : Nat → Nat) (x1 : Nat) (x2 : Nat) (x3 : Nat) (f1 : List Value) (hss : zSS E K V) (hf1_n : f1.length = 243) (hf1_9 : f1[9]? = some (.int 0)) : zMi E l yX16_readJson zwX16_readJson ({ frames := 4, cells := 0, slots := 0, locals := 87 }) D vwCl (zT cA) [.ref x1, .ref x2, .ref x3, .int 0, .int 0] [(x1, .inr (16, f1))] (S := Unit) (fun (r : Int32) (u : Unit) => (r = (-1))) (fun (u : Unit) => [(x1, .inr (16, (((((((f1.set 4 (.ref x2)).set 5 (.ref x3)).set 6 (.int 0)).set 7 (.int 0)).set 2 (.int (-1))).set 2 (.int 0)).set 9 (.int 0))))]) := by
  refine zz_enteri (cc := cX16_readJson) (lv := [(0, .ref x1), (1, .ref x2), (2, .ref x3), (3, .int 0), (4, .int 0)]) hE 7 (by decide) rfl (Nat.le_of_ble_eq_true rfl) rfl ?_
  intro p e s m args below meth c X hr hin
  refine zz_aload_n X 0 dX16_readJson_0 rfl rfl ?_
  refine zz_aload_n X 1 dX16_readJson_1 rfl rfl ?_
  refine zz_put X 0 4 rfl rfl (by decide) (fun w h => List.mem_cons_of_mem _ (zf_X16 w h)) rfl (List.mem_cons_of_mem _ zm_951) tyX16 tyX16_ok nmX16 rfl (ty := (.object "PolicyHouseModel$Values")) rfl rfl rfl (zq_lt hf1_n (by decide) (by simp only [List.length_set])) dX16_readJson_2 [(x1, .inr (16, (f1.set 4 (.ref x2))))] rfl ?_
  refine zz_aload_n X 0 dX16_readJson_5 rfl rfl ?_
  refine zz_aload_n X 2 dX16_readJson_6 rfl rfl ?_
  refine zz_put X 0 5 rfl rfl (by decide) (fun w h => List.mem_cons_of_mem _ (zf_X16 w h)) rfl (List.mem_cons_of_mem _ zm_952) tyX16 tyX16_ok nmX16 rfl (ty := (.array .byte)) rfl rfl rfl (zq_lt hf1_n (by decide) (by simp only [List.length_set])) dX16_readJson_7 [(x1, .inr (16, ((f1.set 4 (.ref x2)).set 5 (.ref x3))))] rfl ?_
  refine zz_aload_n X 0 dX16_readJson_10 rfl rfl ?_
  refine zz_iload_n X 3 dX16_readJson_11 rfl rfl ?_
  refine zz_put X 0 6 rfl rfl (by decide) (fun w h => List.mem_cons_of_mem _ (zf_X16 w h)) rfl (List.mem_cons_of_mem _ zm_953) tyX16 tyX16_ok nmX16 rfl (ty := .int) rfl rfl rfl (zq_lt hf1_n (by decide) (by simp only [List.length_set])) dX16_readJson_12 [(x1, .inr (16, (((f1.set 4 (.ref x2)).set 5 (.ref x3)).set 6 (.int 0))))] rfl ?_
  refine zz_aload_n X 0 dX16_readJson_15 rfl rfl ?_
  refine zz_iload X 4 dX16_readJson_16 rfl ?_
  refine zz_put X 0 7 rfl rfl (by decide) (fun w h => List.mem_cons_of_mem _ (zf_X16 w h)) rfl (List.mem_cons_of_mem _ zm_954) tyX16 tyX16_ok nmX16 rfl (ty := .int) rfl rfl rfl (zq_lt hf1_n (by decide) (by simp only [List.length_set])) dX16_readJson_18 [(x1, .inr (16, ((((f1.set 4 (.ref x2)).set 5 (.ref x3)).set 6 (.int 0)).set 7 (.int 0))))] rfl ?_
  refine zz_aload_n X 0 dX16_readJson_21 rfl rfl ?_
  refine zz_iconst X (-1) dX16_readJson_22 rfl ?_
  refine zz_put X 0 2 rfl rfl (by decide) (fun w h => List.mem_cons_of_mem _ (zf_X16 w h)) rfl (List.mem_cons_of_mem _ zm_793) tyX16 tyX16_ok nmX16 rfl (ty := .int) rfl rfl rfl (zq_lt hf1_n (by decide) (by simp only [List.length_set])) dX16_readJson_23 [(x1, .inr (16, (((((f1.set 4 (.ref x2)).set 5 (.ref x3)).set 6 (.int 0)).set 7 (.int 0)).set 2 (.int (-1)))))] rfl ?_
  refine zz_aload_n X 0 dX16_readJson_26 rfl rfl ?_
  refine zz_get X 0 9 rfl rfl (by decide) (fun w h => List.mem_cons_of_mem _ (zf_X16 w h)) rfl (List.mem_cons_of_mem _ zm_955) (zq_oth (by decide) (zq_oth (by decide) (zq_oth (by decide) (zq_oth (by decide) (zq_oth (by decide) (hf1_9)))))) dX16_readJson_27 ?_
  refine zz_istore X [(5, .int 0), (0, .ref x1), (1, .ref x2), (2, .ref x3), (3, .int 0), (4, .int 0)] dX16_readJson_30 (by decide) rfl ?_
  refine zz_aload_n X 1 dX16_readJson_32 rfl rfl ?_
  refine zz_iconst X 0 dX16_readJson_33 rfl ?_
  refine zz_callVi X (rest := []) (As := [.int 0]) (kX16_jsonValue_1 hE l D cA K V x1 (((((f1.set 4 (.ref x2)).set 5 (.ref x3)).set 6 (.int 0)).set 7 (.int 0)).set 2 (.int (-1))) x3 hss (zq_len hf1_n (by simp only [List.length_set])) (zq_oth (by decide) (zq_oth (by decide) (zq_oth (by decide) ((zq_same (zq_lt hf1_n (by decide) (by simp only [List.length_set]))))))) (zq_oth (by decide) (zq_oth (by decide) ((zq_same (zq_lt hf1_n (by decide) (by simp only [List.length_set])))))) (zq_oth (by decide) ((zq_same (zq_lt hf1_n (by decide) (by simp only [List.length_set]))))) (zq_same (zq_lt hf1_n (by decide) (by simp only [List.length_set])))) 1 (zgV zm_972 zm_973 zm_974 zm_451 zm_971) rfl (by decide +kernel) [0] [] [] rfl rfl (by decide) rfl (by decide) (by decide) ⟨Nat.le_of_ble_eq_true rfl, Nat.le_of_ble_eq_true rfl⟩ 0 rfl rfl rfl rfl rfl (Nat.le_of_ble_eq_true rfl) dX16_readJson_34 (Nat.le_of_ble_eq_true rfl) (Nat.le_of_ble_eq_true rfl) (fun r1 _ hw2 => ?_)
  obtain rfl := hw2
  refine zz_show (ws' := [(x1, .inr (16, ((((((f1.set 4 (.ref x2)).set 5 (.ref x3)).set 6 (.int 0)).set 7 (.int 0)).set 2 (.int (-1))).set 2 (.int 0))))]) rfl ?_
  refine zz_istore X [(6, .int (-1)), (5, .int 0), (0, .ref x1), (1, .ref x2), (2, .ref x3), (3, .int 0), (4, .int 0)] dX16_readJson_37 (by decide) rfl ?_
  refine zz_aload_n X 2 dX16_readJson_39 rfl rfl ?_
  refine zz_get X 0 2 rfl rfl (by decide) (fun w h => List.mem_cons_of_mem _ (zf_X16 w h)) rfl (List.mem_cons_of_mem _ zm_793) (zq_same (zq_lt hf1_n (by decide) (by simp only [List.length_set]))) dX16_readJson_40 ?_
  refine zz_iconst X (-1) dX16_readJson_43 rfl ?_
  refine zz_icmp_ne X 70 dX16_readJson_44 (by decide) (fun _ => ?_) (fun h => absurd h (by decide))
  refine zz_aload_n X 2 dX16_readJson_70 rfl rfl ?_
  refine zz_iload X 1 dX16_readJson_71 rfl ?_
  refine zz_put X 0 9 rfl rfl (by decide) (fun w h => List.mem_cons_of_mem _ (zf_X16 w h)) rfl (List.mem_cons_of_mem _ zm_955) tyX16 tyX16_ok nmX16 rfl (ty := .int) rfl rfl rfl (zq_lt hf1_n (by decide) (by simp only [List.length_set])) dX16_readJson_73 [(x1, .inr (16, (((((((f1.set 4 (.ref x2)).set 5 (.ref x3)).set 6 (.int 0)).set 7 (.int 0)).set 2 (.int (-1))).set 2 (.int 0)).set 9 (.int 0))))] rfl ?_
  refine zz_aload_n X 2 dX16_readJson_76 rfl rfl ?_
  refine zz_get X 0 2 rfl rfl (by decide) (fun w h => List.mem_cons_of_mem _ (zf_X16 w h)) rfl (List.mem_cons_of_mem _ zm_793) (zq_oth (by decide) ((zq_same (zq_lt hf1_n (by decide) (by simp only [List.length_set]))))) dX16_readJson_77 ?_
  refine zz_iconst X (-1) dX16_readJson_80 rfl ?_
  refine zz_icmp_ne X 89 dX16_readJson_81 (by decide) (fun _ => ?_) (fun h => absurd h (by decide))
  refine zz_iconst X (-1) dX16_readJson_89 rfl ?_
  exact zz_iret X hr (()) [0] (by decide) rfl rfl (Nat.le_of_ble_eq_true rfl) (Nat.le_of_ble_eq_true rfl) (rfl) dX16_readJson_90

set_option maxHeartbeats 4000000 in
set_option maxRecDepth 100000 in
/-- data -/
theorem kX16_data_1 {E : zEn} (hE : zOk E) (l : Launch) (D : va_G) (cA : Nat → ClassId) (K : Nat → Nat) (V : Nat → Nat) (x1 : Nat) (f1 : List Value) (x2 : Nat) (x3 : Nat) (f2 : List Value) (x4 : Nat) (f3 : Nat → Int64) (hss : zSS E K V) (hf1_n : f1.length = 243) (hf1_229 : f1[229]? = some (.int 0)) (hf1_168 : f1[168]? = some (.ref x2)) (hf1_228 : f1[228]? = some (.ref x3)) (hf1_9 : f1[9]? = some (.int 0)) (hf2_n : f2.length = 8) (hf2_0 : f2[0]? = some (.ref x4)) : zMi E l yX16_data zwX16_data ({ frames := 5, cells := 0, slots := 0, locals := 113 }) D vwCl (zT cA) [.ref x1] [(x1, .inr (16, f1)), (x2, .inr (15, f2)), (x4, .inl (cA 2, 8000, .inr (.inl f3)))] (S := Unit) (fun (r : Int32) (u : Unit) => (r = (-1))) (fun (u : Unit) => []) := by
  refine zz_enteri (cc := cX16_data) (lv := [(0, .ref x1)]) hE 3 (by decide) rfl (Nat.le_of_ble_eq_true rfl) rfl ?_
  intro p e s m args below meth c X hr hin
  refine zz_aload_n X 0 dX16_data_0 rfl rfl ?_
  refine zz_callVi X (rest := []) (As := []) (kX16_take_1 hE l D cA K V x1 f1 hss (zq_len hf1_n (by simp only [List.length_set])) hf1_229) 0 (zgV zm_754 zm_755 zm_756 zm_451 zm_753) rfl (by decide +kernel) [0] [1, 2] [(x2, .inr (15, f2)), (x4, .inl (cA 2, 8000, .inr (.inl f3)))] rfl rfl (by decide) rfl (by decide) (by decide) ⟨Nat.le_of_ble_eq_true rfl, Nat.le_of_ble_eq_true rfl⟩ 0 rfl rfl rfl rfl rfl (Nat.le_of_ble_eq_true rfl) dX16_data_1 (Nat.le_of_ble_eq_true rfl) (Nat.le_of_ble_eq_true rfl) (fun r1 _ hw2 => ?_)
  obtain rfl := hw2
  refine zz_show (ws' := [(x2, .inr (15, f2)), (x4, .inl (cA 2, 8000, .inr (.inl f3))), (x1, .inr (16, ((f1.set 227 (.int 0)).set 229 (.int 0))))]) rfl ?_
  refine zz_istore_n X [(1, .int 0), (0, .ref x1)] dX16_data_4 rfl (by decide) rfl ?_
  refine zz_aload_n X 1 dX16_data_5 rfl rfl ?_
  refine zz_get X 2 168 rfl rfl (by decide) (fun w h => List.mem_cons_of_mem _ (zf_X16 w h)) rfl (List.mem_cons_of_mem _ zm_593) (zq_oth (by decide) (zq_oth (by decide) (hf1_168))) dX16_data_6 ?_
  refine zz_callVv X (rest := []) (As := []) (kX15_clear_5 hE l D cA K V x2 f2 x4 f3 hss (zq_len hf2_n (by simp only [List.length_set])) hf2_0) 0 (zgV zm_950 zm_548 zm_549 zm_527 zm_546) rfl (by decide +kernel) [0, 1] [2] [(x1, .inr (16, ((f1.set 227 (.int 0)).set 229 (.int 0))))] rfl rfl (by decide) rfl (by decide) (by decide) ⟨Nat.le_of_ble_eq_true rfl, Nat.le_of_ble_eq_true rfl⟩ 0 rfl rfl rfl rfl rfl (Nat.le_of_ble_eq_true rfl) dX16_data_9 (Nat.le_of_ble_eq_true rfl) (Nat.le_of_ble_eq_true rfl) (fun _ hw3 => ?_)
  refine zz_show (ws' := [(x1, .inr (16, ((f1.set 227 (.int 0)).set 229 (.int 0)))), (x2, .inr (15, ((((((f2.set 3 (.int 0)).set 4 (.int 0)).set 5 (.int 0)).set 3 (.int 1)).set 3 (.int 2)).set 3 (.int 3)))), (x4, .inl (cA 2, 8000, .inr (.inl (vp_updL (vp_updL (vp_updL f3 0 576461302059237376) 1 576461302059237377) 2 576461302059237378))))]) rfl ?_
  refine zz_aload_n X 1 dX16_data_12 rfl rfl ?_
  refine zz_aload_n X 1 dX16_data_13 rfl rfl ?_
  refine zz_get X 0 168 rfl rfl (by decide) (fun w h => List.mem_cons_of_mem _ (zf_X16 w h)) rfl (List.mem_cons_of_mem _ zm_593) (zq_oth (by decide) (zq_oth (by decide) (hf1_168))) dX16_data_14 ?_
  refine zz_aload_n X 1 dX16_data_17 rfl rfl ?_
  refine zz_get X 0 228 rfl rfl (by decide) (fun w h => List.mem_cons_of_mem _ (zf_X16 w h)) rfl (List.mem_cons_of_mem _ zm_623) (zq_oth (by decide) (zq_oth (by decide) (hf1_228))) dX16_data_18 ?_
  refine zz_iconst X 0 dX16_data_21 rfl ?_
  refine zz_iload_n X 0 dX16_data_22 rfl rfl ?_
  refine zz_callVi X (rest := []) (As := [.ref x2, .ref x3, .int 0, .int 0]) (kX16_readJson_1 hE l D cA K V x1 x2 x3 ((f1.set 227 (.int 0)).set 229 (.int 0)) hss (zq_len hf1_n (by simp only [List.length_set])) (zq_oth (by decide) (zq_oth (by decide) (hf1_9)))) 4 (zgV zm_976 zm_977 zm_978 zm_451 zm_975) rfl (by decide +kernel) [0] [1, 2] [(x2, .inr (15, ((((((f2.set 3 (.int 0)).set 4 (.int 0)).set 5 (.int 0)).set 3 (.int 1)).set 3 (.int 2)).set 3 (.int 3)))), (x4, .inl (cA 2, 8000, .inr (.inl (vp_updL (vp_updL (vp_updL f3 0 576461302059237376) 1 576461302059237377) 2 576461302059237378))))] rfl rfl (by decide) rfl (by decide) (by decide) ⟨Nat.le_of_ble_eq_true rfl, Nat.le_of_ble_eq_true rfl⟩ 0 rfl rfl rfl rfl rfl (Nat.le_of_ble_eq_true rfl) dX16_data_23 (Nat.le_of_ble_eq_true rfl) (Nat.le_of_ble_eq_true rfl) (fun r4 _ hw5 => ?_)
  obtain rfl := hw5
  refine zz_show (ws' := [(x2, .inr (15, ((((((f2.set 3 (.int 0)).set 4 (.int 0)).set 5 (.int 0)).set 3 (.int 1)).set 3 (.int 2)).set 3 (.int 3)))), (x4, .inl (cA 2, 8000, .inr (.inl (vp_updL (vp_updL (vp_updL f3 0 576461302059237376) 1 576461302059237377) 2 576461302059237378)))), (x1, .inr (16, (((((((((f1.set 227 (.int 0)).set 229 (.int 0)).set 4 (.ref x2)).set 5 (.ref x3)).set 6 (.int 0)).set 7 (.int 0)).set 2 (.int (-1))).set 2 (.int 0)).set 9 (.int 0))))]) rfl ?_
  refine zz_istore_n X [(2, .int (-1)), (1, .int 0), (0, .ref x1)] dX16_data_26 rfl (by decide) rfl ?_
  refine zz_iload_n X 0 dX16_data_27 rfl rfl ?_
  refine zz_iconst X (-1) dX16_data_28 rfl ?_
  refine zz_icmp_ne X 39 dX16_data_29 (by decide) (fun h => absurd (by decide) h) (fun _ => ?_)
  refine zz_iconst X (-1) dX16_data_32 rfl ?_
  refine zz_aload_n X 2 dX16_data_33 rfl rfl ?_
  refine zz_get X 2 2 rfl rfl (by decide) (fun w h => List.mem_cons_of_mem _ (zf_X16 w h)) rfl (List.mem_cons_of_mem _ zm_793) (zq_oth (by decide) ((zq_same (zq_lt hf1_n (by decide) (by simp only [List.length_set]))))) dX16_data_34 ?_
  refine zz_isub X ((-1)) dX16_data_37 (by decide) ?_
  exact zz_iret X hr (()) [] (by decide) rfl rfl (Nat.le_of_ble_eq_true rfl) (Nat.le_of_ble_eq_true rfl) (rfl) dX16_data_38

set_option maxHeartbeats 4000000 in
set_option maxRecDepth 100000 in
/-- patch -/
theorem kX16_patch_1 {E : zEn} (hE : zOk E) (l : Launch) (D : va_G) (cA : Nat → ClassId) (K : Nat → Nat) (V : Nat → Nat) (x1 : Nat) (f1 : List Value) (x2 : Nat) (x3 : Nat) (f2 : List Value) (x4 : Nat) (f3 : Nat → Int64) (hss : zSS E K V) (hf1_n : f1.length = 243) (hf1_229 : f1[229]? = some (.int 0)) (hf1_168 : f1[168]? = some (.ref x2)) (hf1_228 : f1[228]? = some (.ref x3)) (hf1_9 : f1[9]? = some (.int 0)) (hf2_n : f2.length = 8) (hf2_0 : f2[0]? = some (.ref x4)) : zMi E l yX16_patch zwX16_patch ({ frames := 5, cells := 0, slots := 0, locals := 113 }) D vwCl (zT cA) [.ref x1] [(x1, .inr (16, f1)), (x2, .inr (15, f2)), (x4, .inl (cA 2, 8000, .inr (.inl f3)))] (S := Unit) (fun (r : Int32) (u : Unit) => (r = (-1))) (fun (u : Unit) => []) := by
  refine zz_enteri (cc := cX16_patch) (lv := [(0, .ref x1)]) hE 3 (by decide) rfl (Nat.le_of_ble_eq_true rfl) rfl ?_
  intro p e s m args below meth c X hr hin
  refine zz_aload_n X 0 dX16_patch_0 rfl rfl ?_
  refine zz_callVi X (rest := []) (As := []) (kX16_take_1 hE l D cA K V x1 f1 hss (zq_len hf1_n (by simp only [List.length_set])) hf1_229) 0 (zgV zm_754 zm_755 zm_756 zm_451 zm_753) rfl (by decide +kernel) [0] [1, 2] [(x2, .inr (15, f2)), (x4, .inl (cA 2, 8000, .inr (.inl f3)))] rfl rfl (by decide) rfl (by decide) (by decide) ⟨Nat.le_of_ble_eq_true rfl, Nat.le_of_ble_eq_true rfl⟩ 0 rfl rfl rfl rfl rfl (Nat.le_of_ble_eq_true rfl) dX16_patch_1 (Nat.le_of_ble_eq_true rfl) (Nat.le_of_ble_eq_true rfl) (fun r1 _ hw2 => ?_)
  obtain rfl := hw2
  refine zz_show (ws' := [(x2, .inr (15, f2)), (x4, .inl (cA 2, 8000, .inr (.inl f3))), (x1, .inr (16, ((f1.set 227 (.int 0)).set 229 (.int 0))))]) rfl ?_
  refine zz_istore_n X [(1, .int 0), (0, .ref x1)] dX16_patch_4 rfl (by decide) rfl ?_
  refine zz_aload_n X 1 dX16_patch_5 rfl rfl ?_
  refine zz_get X 2 168 rfl rfl (by decide) (fun w h => List.mem_cons_of_mem _ (zf_X16 w h)) rfl (List.mem_cons_of_mem _ zm_593) (zq_oth (by decide) (zq_oth (by decide) (hf1_168))) dX16_patch_6 ?_
  refine zz_callVv X (rest := []) (As := []) (kX15_clear_5 hE l D cA K V x2 f2 x4 f3 hss (zq_len hf2_n (by simp only [List.length_set])) hf2_0) 0 (zgV zm_950 zm_548 zm_549 zm_527 zm_546) rfl (by decide +kernel) [0, 1] [2] [(x1, .inr (16, ((f1.set 227 (.int 0)).set 229 (.int 0))))] rfl rfl (by decide) rfl (by decide) (by decide) ⟨Nat.le_of_ble_eq_true rfl, Nat.le_of_ble_eq_true rfl⟩ 0 rfl rfl rfl rfl rfl (Nat.le_of_ble_eq_true rfl) dX16_patch_9 (Nat.le_of_ble_eq_true rfl) (Nat.le_of_ble_eq_true rfl) (fun _ hw3 => ?_)
  refine zz_show (ws' := [(x1, .inr (16, ((f1.set 227 (.int 0)).set 229 (.int 0)))), (x2, .inr (15, ((((((f2.set 3 (.int 0)).set 4 (.int 0)).set 5 (.int 0)).set 3 (.int 1)).set 3 (.int 2)).set 3 (.int 3)))), (x4, .inl (cA 2, 8000, .inr (.inl (vp_updL (vp_updL (vp_updL f3 0 576461302059237376) 1 576461302059237377) 2 576461302059237378))))]) rfl ?_
  refine zz_aload_n X 1 dX16_patch_12 rfl rfl ?_
  refine zz_aload_n X 1 dX16_patch_13 rfl rfl ?_
  refine zz_get X 0 168 rfl rfl (by decide) (fun w h => List.mem_cons_of_mem _ (zf_X16 w h)) rfl (List.mem_cons_of_mem _ zm_593) (zq_oth (by decide) (zq_oth (by decide) (hf1_168))) dX16_patch_14 ?_
  refine zz_aload_n X 1 dX16_patch_17 rfl rfl ?_
  refine zz_get X 0 228 rfl rfl (by decide) (fun w h => List.mem_cons_of_mem _ (zf_X16 w h)) rfl (List.mem_cons_of_mem _ zm_623) (zq_oth (by decide) (zq_oth (by decide) (hf1_228))) dX16_patch_18 ?_
  refine zz_iconst X 0 dX16_patch_21 rfl ?_
  refine zz_iload_n X 0 dX16_patch_22 rfl rfl ?_
  refine zz_callVi X (rest := []) (As := [.ref x2, .ref x3, .int 0, .int 0]) (kX16_readJson_1 hE l D cA K V x1 x2 x3 ((f1.set 227 (.int 0)).set 229 (.int 0)) hss (zq_len hf1_n (by simp only [List.length_set])) (zq_oth (by decide) (zq_oth (by decide) (hf1_9)))) 4 (zgV zm_976 zm_977 zm_978 zm_451 zm_975) rfl (by decide +kernel) [0] [1, 2] [(x2, .inr (15, ((((((f2.set 3 (.int 0)).set 4 (.int 0)).set 5 (.int 0)).set 3 (.int 1)).set 3 (.int 2)).set 3 (.int 3)))), (x4, .inl (cA 2, 8000, .inr (.inl (vp_updL (vp_updL (vp_updL f3 0 576461302059237376) 1 576461302059237377) 2 576461302059237378))))] rfl rfl (by decide) rfl (by decide) (by decide) ⟨Nat.le_of_ble_eq_true rfl, Nat.le_of_ble_eq_true rfl⟩ 0 rfl rfl rfl rfl rfl (Nat.le_of_ble_eq_true rfl) dX16_patch_23 (Nat.le_of_ble_eq_true rfl) (Nat.le_of_ble_eq_true rfl) (fun r4 _ hw5 => ?_)
  obtain rfl := hw5
  refine zz_show (ws' := [(x2, .inr (15, ((((((f2.set 3 (.int 0)).set 4 (.int 0)).set 5 (.int 0)).set 3 (.int 1)).set 3 (.int 2)).set 3 (.int 3)))), (x4, .inl (cA 2, 8000, .inr (.inl (vp_updL (vp_updL (vp_updL f3 0 576461302059237376) 1 576461302059237377) 2 576461302059237378)))), (x1, .inr (16, (((((((((f1.set 227 (.int 0)).set 229 (.int 0)).set 4 (.ref x2)).set 5 (.ref x3)).set 6 (.int 0)).set 7 (.int 0)).set 2 (.int (-1))).set 2 (.int 0)).set 9 (.int 0))))]) rfl ?_
  refine zz_istore_n X [(2, .int (-1)), (1, .int 0), (0, .ref x1)] dX16_patch_26 rfl (by decide) rfl ?_
  refine zz_iload_n X 0 dX16_patch_27 rfl rfl ?_
  refine zz_iconst X (-1) dX16_patch_28 rfl ?_
  refine zz_icmp_ne X 39 dX16_patch_29 (by decide) (fun h => absurd (by decide) h) (fun _ => ?_)
  refine zz_iconst X (-1) dX16_patch_32 rfl ?_
  refine zz_aload_n X 2 dX16_patch_33 rfl rfl ?_
  refine zz_get X 2 2 rfl rfl (by decide) (fun w h => List.mem_cons_of_mem _ (zf_X16 w h)) rfl (List.mem_cons_of_mem _ zm_793) (zq_oth (by decide) ((zq_same (zq_lt hf1_n (by decide) (by simp only [List.length_set]))))) dX16_patch_34 ?_
  refine zz_isub X ((-1)) dX16_patch_37 (by decide) ?_
  exact zz_iret X hr (()) [] (by decide) rfl rfl (Nat.le_of_ble_eq_true rfl) (Nat.le_of_ble_eq_true rfl) (rfl) dX16_patch_38

set_option maxHeartbeats 4000000 in
set_option maxRecDepth 100000 in
/-- input -/
theorem kX16_input_1 {E : zEn} (hE : zOk E) (l : Launch) (D : va_G) (cA : Nat → ClassId) (K : Nat → Nat) (V : Nat → Nat) (x1 : Nat) (f1 : List Value) (hss : zSS E K V) (hf1_n : f1.length = 243) (hf1_229 : f1[229]? = some (.int 0)) : zMi E l yX16_input zwX16_input ({ frames := 1, cells := 0, slots := 0, locals := 21 }) D vwCl (zT cA) [.ref x1] [(x1, .inr (16, f1))] (S := Unit) (fun (r : Int32) (u : Unit) => (r = 0)) (fun (u : Unit) => []) := by
  refine zz_enteri (cc := cX16_input) (lv := [(0, .ref x1)]) hE 3 (by decide) rfl (Nat.le_of_ble_eq_true rfl) rfl ?_
  intro p e s m args below meth c X hr hin
  refine zz_aload_n X 0 dX16_input_0 rfl rfl ?_
  refine zz_callVi X (rest := []) (As := []) (kX16_take_1 hE l D cA K V x1 f1 hss (zq_len hf1_n (by simp only [List.length_set])) hf1_229) 0 (zgV zm_754 zm_755 zm_756 zm_451 zm_753) rfl (by decide +kernel) [0] [] [] rfl rfl (by decide) rfl (by decide) (by decide) ⟨Nat.le_of_ble_eq_true rfl, Nat.le_of_ble_eq_true rfl⟩ 0 rfl rfl rfl rfl rfl (Nat.le_of_ble_eq_true rfl) dX16_input_1 (Nat.le_of_ble_eq_true rfl) (Nat.le_of_ble_eq_true rfl) (fun r1 _ hw2 => ?_)
  obtain rfl := hw2
  refine zz_show (ws' := [(x1, .inr (16, ((f1.set 227 (.int 0)).set 229 (.int 0))))]) rfl ?_
  refine zz_istore_n X [(1, .int 0), (0, .ref x1)] dX16_input_4 rfl (by decide) rfl ?_
  refine zz_iload_n X 0 dX16_input_5 rfl rfl ?_
  refine zz_if_ne X 16 dX16_input_6 (by decide) (fun h => absurd (by decide) h) (fun _ => ?_)
  refine zz_aload_n X 1 dX16_input_9 rfl rfl ?_
  refine zz_iconst X (-1) dX16_input_10 rfl ?_
  refine zz_put X 0 236 rfl rfl (by decide) (fun w h => List.mem_cons_of_mem _ (zf_X16 w h)) rfl (List.mem_cons_of_mem _ zm_630) tyX16 tyX16_ok nmX16 rfl (ty := .int) rfl rfl rfl (zq_lt hf1_n (by decide) (by simp only [List.length_set])) dX16_input_11 [(x1, .inr (16, (((f1.set 227 (.int 0)).set 229 (.int 0)).set 236 (.int (-1)))))] rfl ?_
  refine zz_iconst X 0 dX16_input_14 rfl ?_
  exact zz_iret X hr (()) [] (by decide) rfl rfl (Nat.le_of_ble_eq_true rfl) (Nat.le_of_ble_eq_true rfl) (rfl) dX16_input_15

set_option maxHeartbeats 4000000 in
set_option maxRecDepth 100000 in
/-- loadBundle -/
theorem kX16_loadBundle_2 {E : zEn} (hE : zOk E) (l : Launch) (D : va_G) (cA : Nat → ClassId) (K : Nat → Nat) (V : Nat → Nat) (x1 : Nat) (f1 : List Value) (x2 : Nat) (x3 : Nat) (x4 : Nat) (x5 : Nat) (x6 : Nat) (x7 : Nat) (x8 : Nat) (hss : zSS E K V) (hf1_n : f1.length = 243) (hf1_215 : f1[215]? = some (.int (-1))) (hf1_211 : f1[211]? = some (.ref x2)) (hf1_19 : f1[19]? = some (.ref x3)) (hf1_0 : f1[0]? = some (.ref x4)) (hf1_16 : f1[16]? = some (.ref x5)) (hf1_17 : f1[17]? = some (.ref x6)) (hf1_18 : f1[18]? = some (.ref x7)) (hf1_210 : f1[210]? = some (.ref x8)) (hf1_84 : f1[84]? = some (.int 0)) (hf1_85 : f1[85]? = some (.int 0)) : zMv E l yX16_loadBundle zwX16_loadBundle ({ frames := 6, cells := 0, slots := 0, locals := 128 }) D vwCl (zT cA) [.ref x1, .int 1] [(x1, .inr (16, f1)), (x2, .inl (cA 1, 6, .inl (upd (upd (fun _ => 0) 0 1) 1 1))), (x3, .inl (cA 1, 4096, .inl (fun _ => 0))), (x4, .inl (cA 0, 17000, .inl (fun _ => 0))), (x6, .inl (cA 1, 13001, .inl (fun _ => 0))), (x5, .inl (cA 0, 40000, .inl (fun _ => 0))), (x7, .inl (cA 1, 13000, .inl (fun _ => 0))), (x8, .inl (cA 1, 6, .inl (fun _ => 0)))] (S := Nat → Int32) (fun (u : Nat → Int32) => (∀ j : Nat, j < 4096 → u j = 0)) (fun (u : Nat → Int32) => [(x1, .inr (16, (((((((((((((((((((((((((((((((((f1.set 37 (.int 0)).set 42 (.int 0)).set 48 (.int 0)).set 20 (.int 0)).set 56 (.int 0)).set 63 (.int 0)).set 72 (.int 0)).set 20 (.int 1)).set 52 (.int 0)).set 20 (.int 2)).set 53 (.int 1)).set 20 (.int 3)).set 54 (.int 2)).set 20 (.int 4)).set 55 (.int 3)).set 83 (.int 0)).set 108 (.int 0)).set 78 (.int 0)).set 216 (.int 0)).set 217 (.int 0)).set 218 (.int 0)).set 215 (.int 1)).set 219 (.int 0)).set 220 (.int 0)).set 221 (.int 0)).set 222 (.int 0)).set 37 (.int 0)).set 42 (.int 0)).set 48 (.int 0)).set 108 (.int 0)).set 83 (.int 0)).set 84 (.int 0)).set 85 (.int 0)))), (x2, .inl (cA 1, 6, .inl (upd (upd (fun _ => 0) 0 1) 1 1))), (x3, .inl (cA 1, 4096, .inl (upd (upd (upd (upd u 95 1) 3170 2) 1994 3) 4010 4))), (x4, .inl (cA 0, 17000, .inl ((upd (upd (upd (upd (upd (upd (upd (upd (upd (upd (upd (upd (upd (fun _ => 0) 0 95) 0 115) 1 101) 2 116) 0 105) 1 110) 2 112) 3 117) 4 116) 0 100) 1 97) 2 116) 3 97)))), (x6, .inl (cA 1, 13001, .inl (upd (upd (upd (upd (fun _ => 0) 1 1) 2 4) 3 9) 4 13))), (x5, .inl (cA 0, 40000, .inl (upd (upd (upd (upd (upd (upd (upd (upd (upd (upd (upd (upd (upd (fun _ => 0) 0 95) 1 115) 2 101) 3 116) 4 105) 5 110) 6 112) 7 117) 8 116) 9 100) 10 97) 11 116) 12 97))), (x7, .inl (cA 1, 13000, .inl (upd (upd (upd (upd (fun _ => 0) 0 0) 1 0) 2 0) 3 0))), (x8, .inl (cA 1, 6, .inl (fun _ => 0)))]) := by
  refine zz_enterv (cc := cX16_loadBundle) (lv := [(0, .ref x1), (1, .int 1)]) hE 5 (by decide) rfl (Nat.le_of_ble_eq_true rfl) rfl ?_
  intro p e s m args below meth c X hr hin
  refine zz_aload_n X 0 dX16_loadBundle_0 rfl rfl ?_
  refine zz_get X 0 215 rfl rfl (by decide) (fun w h => List.mem_cons_of_mem _ (zf_X16 w h)) rfl (List.mem_cons_of_mem _ zm_620) hf1_215 dX16_loadBundle_1 ?_
  refine zz_aload_n X 0 dX16_loadBundle_4 rfl rfl ?_
  refine zz_get X 0 211 rfl rfl (by decide) (fun w h => List.mem_cons_of_mem _ (zf_X16 w h)) rfl (List.mem_cons_of_mem _ zm_616) hf1_211 dX16_loadBundle_5 ?_
  refine zz_iload_n X 1 dX16_loadBundle_8 rfl rfl ?_
  refine zz_iald X 1 1 rfl rfl (vp_in_nI (n := 1) (by decide) (by decide)) (1) rfl dX16_loadBundle_9 ?_
  refine zz_icmp_ne X 44 dX16_loadBundle_10 (by decide) (fun _ => ?_) (fun h => absurd h (by decide))
  refine zz_aload_n X 0 dX16_loadBundle_44 rfl rfl ?_
  refine zz_callVv X (rest := []) (As := []) (kX16_clearTrees_1 hE l D cA K V x1 f1 x3 x4 x5 x6 x7 hss (zq_len hf1_n (by simp only [List.length_set])) hf1_19 hf1_0 hf1_16 hf1_17 hf1_18) 0 (zgV zm_779 zm_780 zm_781 zm_451 zm_778) rfl (by decide +kernel) [0, 2, 3, 4, 5, 6] [1, 7] [(x2, .inl (cA 1, 6, .inl (upd (upd (fun _ => 0) 0 1) 1 1))), (x8, .inl (cA 1, 6, .inl (fun _ => 0)))] rfl rfl (by decide) rfl (by decide) (by decide) ⟨Nat.le_of_ble_eq_true rfl, Nat.le_of_ble_eq_true rfl⟩ 0 rfl rfl rfl rfl rfl (Nat.le_of_ble_eq_true rfl) dX16_loadBundle_45 (Nat.le_of_ble_eq_true rfl) (Nat.le_of_ble_eq_true rfl) (fun uhw2 hw2 => ?_)
  obtain ⟨g1, rfl⟩ : ∃ z, z = uhw2 := ⟨_, rfl⟩
  have hq3 := hw2
  refine zz_show (ws' := [(x2, .inl (cA 1, 6, .inl (upd (upd (fun _ => 0) 0 1) 1 1))), (x8, .inl (cA 1, 6, .inl (fun _ => 0))), (x1, .inr (16, (((((((((((((((f1.set 37 (.int 0)).set 42 (.int 0)).set 48 (.int 0)).set 20 (.int 0)).set 56 (.int 0)).set 63 (.int 0)).set 72 (.int 0)).set 20 (.int 1)).set 52 (.int 0)).set 20 (.int 2)).set 53 (.int 1)).set 20 (.int 3)).set 54 (.int 2)).set 20 (.int 4)).set 55 (.int 3)))), (x3, .inl (cA 1, 4096, .inl (upd (upd (upd (upd g1 95 1) 3170 2) 1994 3) 4010 4))), (x4, .inl (cA 0, 17000, .inl ((upd (upd (upd (upd (upd (upd (upd (upd (upd (upd (upd (upd (upd (fun _ => 0) 0 95) 0 115) 1 101) 2 116) 0 105) 1 110) 2 112) 3 117) 4 116) 0 100) 1 97) 2 116) 3 97)))), (x6, .inl (cA 1, 13001, .inl (upd (upd (upd (upd (fun _ => 0) 1 1) 2 4) 3 9) 4 13))), (x5, .inl (cA 0, 40000, .inl (upd (upd (upd (upd (upd (upd (upd (upd (upd (upd (upd (upd (upd (fun _ => 0) 0 95) 1 115) 2 101) 3 116) 4 105) 5 110) 6 112) 7 117) 8 116) 9 100) 10 97) 11 116) 12 97))), (x7, .inl (cA 1, 13000, .inl (upd (upd (upd (upd (fun _ => 0) 0 0) 1 0) 2 0) 3 0)))]) rfl ?_
  refine zz_iconst X 0 dX16_loadBundle_48 rfl ?_
  refine zz_istore_n X [(2, .int 0), (0, .ref x1), (1, .int 1)] dX16_loadBundle_49 rfl (by decide) rfl ?_
  refine zz_iload_n X 0 dX16_loadBundle_50 rfl rfl ?_
  refine zz_aload_n X 1 dX16_loadBundle_51 rfl rfl ?_
  refine zz_get X 2 210 rfl rfl (by decide) (fun w h => List.mem_cons_of_mem _ (zf_X16 w h)) rfl (List.mem_cons_of_mem _ zm_615) (zq_oth (by decide) (zq_oth (by decide) (zq_oth (by decide) (zq_oth (by decide) (zq_oth (by decide) (zq_oth (by decide) (zq_oth (by decide) (zq_oth (by decide) (zq_oth (by decide) (zq_oth (by decide) (zq_oth (by decide) (zq_oth (by decide) (zq_oth (by decide) (zq_oth (by decide) (zq_oth (by decide) (hf1_210)))))))))))))))) dX16_loadBundle_52 ?_
  refine zz_iload_n X 2 dX16_loadBundle_55 rfl rfl ?_
  refine zz_iald X 1 1 rfl rfl (vp_in_nI (n := 1) (by decide) (by decide)) (0) rfl dX16_loadBundle_56 ?_
  refine zz_icmp_ge X 141 dX16_loadBundle_57 (by decide) (fun _ => ?_) (fun h => absurd (by decide) h)
  refine zz_aload_n X 1 dX16_loadBundle_141 rfl rfl ?_
  refine zz_iconst X 0 dX16_loadBundle_142 rfl ?_
  refine zz_put X 2 83 rfl rfl (by decide) (fun w h => List.mem_cons_of_mem _ (zf_X16 w h)) rfl (List.mem_cons_of_mem _ zm_854) tyX16 tyX16_ok nmX16 rfl (ty := .int) rfl rfl rfl (zq_lt hf1_n (by decide) (by simp only [List.length_set])) dX16_loadBundle_143 [(x2, .inl (cA 1, 6, .inl (upd (upd (fun _ => 0) 0 1) 1 1))), (x8, .inl (cA 1, 6, .inl (fun _ => 0))), (x1, .inr (16, ((((((((((((((((f1.set 37 (.int 0)).set 42 (.int 0)).set 48 (.int 0)).set 20 (.int 0)).set 56 (.int 0)).set 63 (.int 0)).set 72 (.int 0)).set 20 (.int 1)).set 52 (.int 0)).set 20 (.int 2)).set 53 (.int 1)).set 20 (.int 3)).set 54 (.int 2)).set 20 (.int 4)).set 55 (.int 3)).set 83 (.int 0)))), (x3, .inl (cA 1, 4096, .inl (upd (upd (upd (upd g1 95 1) 3170 2) 1994 3) 4010 4))), (x4, .inl (cA 0, 17000, .inl ((upd (upd (upd (upd (upd (upd (upd (upd (upd (upd (upd (upd (upd (fun _ => 0) 0 95) 0 115) 1 101) 2 116) 0 105) 1 110) 2 112) 3 117) 4 116) 0 100) 1 97) 2 116) 3 97)))), (x6, .inl (cA 1, 13001, .inl (upd (upd (upd (upd (fun _ => 0) 1 1) 2 4) 3 9) 4 13))), (x5, .inl (cA 0, 40000, .inl (upd (upd (upd (upd (upd (upd (upd (upd (upd (upd (upd (upd (upd (fun _ => 0) 0 95) 1 115) 2 101) 3 116) 4 105) 5 110) 6 112) 7 117) 8 116) 9 100) 10 97) 11 116) 12 97))), (x7, .inl (cA 1, 13000, .inl (upd (upd (upd (upd (fun _ => 0) 0 0) 1 0) 2 0) 3 0)))] rfl ?_
  refine zz_aload_n X 1 dX16_loadBundle_146 rfl rfl ?_
  refine zz_callVv X (rest := []) (As := []) (kX16_checkBundle_1 hE l D cA K V x1 ((((((((((((((((f1.set 37 (.int 0)).set 42 (.int 0)).set 48 (.int 0)).set 20 (.int 0)).set 56 (.int 0)).set 63 (.int 0)).set 72 (.int 0)).set 20 (.int 1)).set 52 (.int 0)).set 20 (.int 2)).set 53 (.int 1)).set 20 (.int 3)).set 54 (.int 2)).set 20 (.int 4)).set 55 (.int 3)).set 83 (.int 0)) hss (zq_len hf1_n (by simp only [List.length_set])) (zq_oth (by decide) (zq_oth (by decide) (zq_oth (by decide) (zq_oth (by decide) (zq_oth (by decide) (zq_oth (by decide) (zq_oth (by decide) (zq_oth (by decide) (zq_oth (by decide) (zq_oth (by decide) (zq_oth (by decide) ((zq_same (zq_lt hf1_n (by decide) (by simp only [List.length_set]))))))))))))))) (zq_oth (by decide) (zq_oth (by decide) (zq_oth (by decide) (zq_oth (by decide) (zq_oth (by decide) (zq_oth (by decide) (zq_oth (by decide) (zq_oth (by decide) (zq_oth (by decide) ((zq_same (zq_lt hf1_n (by decide) (by simp only [List.length_set]))))))))))))) (zq_same (zq_lt hf1_n (by decide) (by simp only [List.length_set])))) 0 (zgV zm_882 zm_883 zm_884 zm_451 zm_881) rfl (by decide +kernel) [2] [0, 1, 3, 4, 5, 6, 7] [(x2, .inl (cA 1, 6, .inl (upd (upd (fun _ => 0) 0 1) 1 1))), (x8, .inl (cA 1, 6, .inl (fun _ => 0))), (x3, .inl (cA 1, 4096, .inl (upd (upd (upd (upd g1 95 1) 3170 2) 1994 3) 4010 4))), (x4, .inl (cA 0, 17000, .inl ((upd (upd (upd (upd (upd (upd (upd (upd (upd (upd (upd (upd (upd (fun _ => 0) 0 95) 0 115) 1 101) 2 116) 0 105) 1 110) 2 112) 3 117) 4 116) 0 100) 1 97) 2 116) 3 97)))), (x6, .inl (cA 1, 13001, .inl (upd (upd (upd (upd (fun _ => 0) 1 1) 2 4) 3 9) 4 13))), (x5, .inl (cA 0, 40000, .inl (upd (upd (upd (upd (upd (upd (upd (upd (upd (upd (upd (upd (upd (fun _ => 0) 0 95) 1 115) 2 101) 3 116) 4 105) 5 110) 6 112) 7 117) 8 116) 9 100) 10 97) 11 116) 12 97))), (x7, .inl (cA 1, 13000, .inl (upd (upd (upd (upd (fun _ => 0) 0 0) 1 0) 2 0) 3 0)))] rfl rfl (by decide) rfl (by decide) (by decide) ⟨Nat.le_of_ble_eq_true rfl, Nat.le_of_ble_eq_true rfl⟩ 0 rfl rfl rfl rfl rfl (Nat.le_of_ble_eq_true rfl) dX16_loadBundle_147 (Nat.le_of_ble_eq_true rfl) (Nat.le_of_ble_eq_true rfl) (fun _ hw4 => ?_)
  refine zz_show (ws' := [(x2, .inl (cA 1, 6, .inl (upd (upd (fun _ => 0) 0 1) 1 1))), (x8, .inl (cA 1, 6, .inl (fun _ => 0))), (x3, .inl (cA 1, 4096, .inl (upd (upd (upd (upd g1 95 1) 3170 2) 1994 3) 4010 4))), (x4, .inl (cA 0, 17000, .inl ((upd (upd (upd (upd (upd (upd (upd (upd (upd (upd (upd (upd (upd (fun _ => 0) 0 95) 0 115) 1 101) 2 116) 0 105) 1 110) 2 112) 3 117) 4 116) 0 100) 1 97) 2 116) 3 97)))), (x6, .inl (cA 1, 13001, .inl (upd (upd (upd (upd (fun _ => 0) 1 1) 2 4) 3 9) 4 13))), (x5, .inl (cA 0, 40000, .inl (upd (upd (upd (upd (upd (upd (upd (upd (upd (upd (upd (upd (upd (fun _ => 0) 0 95) 1 115) 2 101) 3 116) 4 105) 5 110) 6 112) 7 117) 8 116) 9 100) 10 97) 11 116) 12 97))), (x7, .inl (cA 1, 13000, .inl (upd (upd (upd (upd (fun _ => 0) 0 0) 1 0) 2 0) 3 0))), (x1, .inr (16, ((((((((((((((((((f1.set 37 (.int 0)).set 42 (.int 0)).set 48 (.int 0)).set 20 (.int 0)).set 56 (.int 0)).set 63 (.int 0)).set 72 (.int 0)).set 20 (.int 1)).set 52 (.int 0)).set 20 (.int 2)).set 53 (.int 1)).set 20 (.int 3)).set 54 (.int 2)).set 20 (.int 4)).set 55 (.int 3)).set 83 (.int 0)).set 108 (.int 0)).set 78 (.int 0))))]) rfl ?_
  refine zz_aload_n X 1 dX16_loadBundle_150 rfl rfl ?_
  refine zz_aload_n X 1 dX16_loadBundle_151 rfl rfl ?_
  refine zz_get X 7 83 rfl rfl (by decide) (fun w h => List.mem_cons_of_mem _ (zf_X16 w h)) rfl (List.mem_cons_of_mem _ zm_854) (zq_oth (by decide) (zq_oth (by decide) ((zq_same (zq_lt hf1_n (by decide) (by simp only [List.length_set])))))) dX16_loadBundle_152 ?_
  refine zz_put X 7 216 rfl rfl (by decide) (fun w h => List.mem_cons_of_mem _ (zf_X16 w h)) rfl (List.mem_cons_of_mem _ zm_885) tyX16 tyX16_ok nmX16 rfl (ty := .int) rfl rfl rfl (zq_lt hf1_n (by decide) (by simp only [List.length_set])) dX16_loadBundle_155 [(x2, .inl (cA 1, 6, .inl (upd (upd (fun _ => 0) 0 1) 1 1))), (x8, .inl (cA 1, 6, .inl (fun _ => 0))), (x3, .inl (cA 1, 4096, .inl (upd (upd (upd (upd g1 95 1) 3170 2) 1994 3) 4010 4))), (x4, .inl (cA 0, 17000, .inl ((upd (upd (upd (upd (upd (upd (upd (upd (upd (upd (upd (upd (upd (fun _ => 0) 0 95) 0 115) 1 101) 2 116) 0 105) 1 110) 2 112) 3 117) 4 116) 0 100) 1 97) 2 116) 3 97)))), (x6, .inl (cA 1, 13001, .inl (upd (upd (upd (upd (fun _ => 0) 1 1) 2 4) 3 9) 4 13))), (x5, .inl (cA 0, 40000, .inl (upd (upd (upd (upd (upd (upd (upd (upd (upd (upd (upd (upd (upd (fun _ => 0) 0 95) 1 115) 2 101) 3 116) 4 105) 5 110) 6 112) 7 117) 8 116) 9 100) 10 97) 11 116) 12 97))), (x7, .inl (cA 1, 13000, .inl (upd (upd (upd (upd (fun _ => 0) 0 0) 1 0) 2 0) 3 0))), (x1, .inr (16, (((((((((((((((((((f1.set 37 (.int 0)).set 42 (.int 0)).set 48 (.int 0)).set 20 (.int 0)).set 56 (.int 0)).set 63 (.int 0)).set 72 (.int 0)).set 20 (.int 1)).set 52 (.int 0)).set 20 (.int 2)).set 53 (.int 1)).set 20 (.int 3)).set 54 (.int 2)).set 20 (.int 4)).set 55 (.int 3)).set 83 (.int 0)).set 108 (.int 0)).set 78 (.int 0)).set 216 (.int 0))))] rfl ?_
  refine zz_aload_n X 1 dX16_loadBundle_158 rfl rfl ?_
  refine zz_aload_n X 1 dX16_loadBundle_159 rfl rfl ?_
  refine zz_get X 7 84 rfl rfl (by decide) (fun w h => List.mem_cons_of_mem _ (zf_X16 w h)) rfl (List.mem_cons_of_mem _ zm_886) (zq_oth (by decide) (zq_oth (by decide) (zq_oth (by decide) (zq_oth (by decide) (zq_oth (by decide) (zq_oth (by decide) (zq_oth (by decide) (zq_oth (by decide) (zq_oth (by decide) (zq_oth (by decide) (zq_oth (by decide) (zq_oth (by decide) (zq_oth (by decide) (zq_oth (by decide) (zq_oth (by decide) (zq_oth (by decide) (zq_oth (by decide) (zq_oth (by decide) (zq_oth (by decide) (hf1_84)))))))))))))))))))) dX16_loadBundle_160 ?_
  refine zz_put X 7 217 rfl rfl (by decide) (fun w h => List.mem_cons_of_mem _ (zf_X16 w h)) rfl (List.mem_cons_of_mem _ zm_887) tyX16 tyX16_ok nmX16 rfl (ty := .int) rfl rfl rfl (zq_lt hf1_n (by decide) (by simp only [List.length_set])) dX16_loadBundle_163 [(x2, .inl (cA 1, 6, .inl (upd (upd (fun _ => 0) 0 1) 1 1))), (x8, .inl (cA 1, 6, .inl (fun _ => 0))), (x3, .inl (cA 1, 4096, .inl (upd (upd (upd (upd g1 95 1) 3170 2) 1994 3) 4010 4))), (x4, .inl (cA 0, 17000, .inl ((upd (upd (upd (upd (upd (upd (upd (upd (upd (upd (upd (upd (upd (fun _ => 0) 0 95) 0 115) 1 101) 2 116) 0 105) 1 110) 2 112) 3 117) 4 116) 0 100) 1 97) 2 116) 3 97)))), (x6, .inl (cA 1, 13001, .inl (upd (upd (upd (upd (fun _ => 0) 1 1) 2 4) 3 9) 4 13))), (x5, .inl (cA 0, 40000, .inl (upd (upd (upd (upd (upd (upd (upd (upd (upd (upd (upd (upd (upd (fun _ => 0) 0 95) 1 115) 2 101) 3 116) 4 105) 5 110) 6 112) 7 117) 8 116) 9 100) 10 97) 11 116) 12 97))), (x7, .inl (cA 1, 13000, .inl (upd (upd (upd (upd (fun _ => 0) 0 0) 1 0) 2 0) 3 0))), (x1, .inr (16, ((((((((((((((((((((f1.set 37 (.int 0)).set 42 (.int 0)).set 48 (.int 0)).set 20 (.int 0)).set 56 (.int 0)).set 63 (.int 0)).set 72 (.int 0)).set 20 (.int 1)).set 52 (.int 0)).set 20 (.int 2)).set 53 (.int 1)).set 20 (.int 3)).set 54 (.int 2)).set 20 (.int 4)).set 55 (.int 3)).set 83 (.int 0)).set 108 (.int 0)).set 78 (.int 0)).set 216 (.int 0)).set 217 (.int 0))))] rfl ?_
  refine zz_aload_n X 1 dX16_loadBundle_166 rfl rfl ?_
  refine zz_aload_n X 1 dX16_loadBundle_167 rfl rfl ?_
  refine zz_get X 7 85 rfl rfl (by decide) (fun w h => List.mem_cons_of_mem _ (zf_X16 w h)) rfl (List.mem_cons_of_mem _ zm_888) (zq_oth (by decide) (zq_oth (by decide) (zq_oth (by decide) (zq_oth (by decide) (zq_oth (by decide) (zq_oth (by decide) (zq_oth (by decide) (zq_oth (by decide) (zq_oth (by decide) (zq_oth (by decide) (zq_oth (by decide) (zq_oth (by decide) (zq_oth (by decide) (zq_oth (by decide) (zq_oth (by decide) (zq_oth (by decide) (zq_oth (by decide) (zq_oth (by decide) (zq_oth (by decide) (zq_oth (by decide) (hf1_85))))))))))))))))))))) dX16_loadBundle_168 ?_
  refine zz_put X 7 218 rfl rfl (by decide) (fun w h => List.mem_cons_of_mem _ (zf_X16 w h)) rfl (List.mem_cons_of_mem _ zm_889) tyX16 tyX16_ok nmX16 rfl (ty := .int) rfl rfl rfl (zq_lt hf1_n (by decide) (by simp only [List.length_set])) dX16_loadBundle_171 [(x2, .inl (cA 1, 6, .inl (upd (upd (fun _ => 0) 0 1) 1 1))), (x8, .inl (cA 1, 6, .inl (fun _ => 0))), (x3, .inl (cA 1, 4096, .inl (upd (upd (upd (upd g1 95 1) 3170 2) 1994 3) 4010 4))), (x4, .inl (cA 0, 17000, .inl ((upd (upd (upd (upd (upd (upd (upd (upd (upd (upd (upd (upd (upd (fun _ => 0) 0 95) 0 115) 1 101) 2 116) 0 105) 1 110) 2 112) 3 117) 4 116) 0 100) 1 97) 2 116) 3 97)))), (x6, .inl (cA 1, 13001, .inl (upd (upd (upd (upd (fun _ => 0) 1 1) 2 4) 3 9) 4 13))), (x5, .inl (cA 0, 40000, .inl (upd (upd (upd (upd (upd (upd (upd (upd (upd (upd (upd (upd (upd (fun _ => 0) 0 95) 1 115) 2 101) 3 116) 4 105) 5 110) 6 112) 7 117) 8 116) 9 100) 10 97) 11 116) 12 97))), (x7, .inl (cA 1, 13000, .inl (upd (upd (upd (upd (fun _ => 0) 0 0) 1 0) 2 0) 3 0))), (x1, .inr (16, (((((((((((((((((((((f1.set 37 (.int 0)).set 42 (.int 0)).set 48 (.int 0)).set 20 (.int 0)).set 56 (.int 0)).set 63 (.int 0)).set 72 (.int 0)).set 20 (.int 1)).set 52 (.int 0)).set 20 (.int 2)).set 53 (.int 1)).set 20 (.int 3)).set 54 (.int 2)).set 20 (.int 4)).set 55 (.int 3)).set 83 (.int 0)).set 108 (.int 0)).set 78 (.int 0)).set 216 (.int 0)).set 217 (.int 0)).set 218 (.int 0))))] rfl ?_
  refine zz_aload_n X 1 dX16_loadBundle_174 rfl rfl ?_
  refine zz_aload_n X 1 dX16_loadBundle_175 rfl rfl ?_
  refine zz_get X 7 211 rfl rfl (by decide) (fun w h => List.mem_cons_of_mem _ (zf_X16 w h)) rfl (List.mem_cons_of_mem _ zm_616) (zq_oth (by decide) (zq_oth (by decide) (zq_oth (by decide) (zq_oth (by decide) (zq_oth (by decide) (zq_oth (by decide) (zq_oth (by decide) (zq_oth (by decide) (zq_oth (by decide) (zq_oth (by decide) (zq_oth (by decide) (zq_oth (by decide) (zq_oth (by decide) (zq_oth (by decide) (zq_oth (by decide) (zq_oth (by decide) (zq_oth (by decide) (zq_oth (by decide) (zq_oth (by decide) (zq_oth (by decide) (zq_oth (by decide) (hf1_211)))))))))))))))))))))) dX16_loadBundle_176 ?_
  refine zz_iload_n X 2 dX16_loadBundle_179 rfl rfl ?_
  refine zz_iald X 0 1 rfl rfl (vp_in_nI (n := 1) (by decide) (by decide)) (1) rfl dX16_loadBundle_180 ?_
  refine zz_put X 7 215 rfl rfl (by decide) (fun w h => List.mem_cons_of_mem _ (zf_X16 w h)) rfl (List.mem_cons_of_mem _ zm_620) tyX16 tyX16_ok nmX16 rfl (ty := .int) rfl rfl rfl (zq_lt hf1_n (by decide) (by simp only [List.length_set])) dX16_loadBundle_181 [(x2, .inl (cA 1, 6, .inl (upd (upd (fun _ => 0) 0 1) 1 1))), (x8, .inl (cA 1, 6, .inl (fun _ => 0))), (x3, .inl (cA 1, 4096, .inl (upd (upd (upd (upd g1 95 1) 3170 2) 1994 3) 4010 4))), (x4, .inl (cA 0, 17000, .inl ((upd (upd (upd (upd (upd (upd (upd (upd (upd (upd (upd (upd (upd (fun _ => 0) 0 95) 0 115) 1 101) 2 116) 0 105) 1 110) 2 112) 3 117) 4 116) 0 100) 1 97) 2 116) 3 97)))), (x6, .inl (cA 1, 13001, .inl (upd (upd (upd (upd (fun _ => 0) 1 1) 2 4) 3 9) 4 13))), (x5, .inl (cA 0, 40000, .inl (upd (upd (upd (upd (upd (upd (upd (upd (upd (upd (upd (upd (upd (fun _ => 0) 0 95) 1 115) 2 101) 3 116) 4 105) 5 110) 6 112) 7 117) 8 116) 9 100) 10 97) 11 116) 12 97))), (x7, .inl (cA 1, 13000, .inl (upd (upd (upd (upd (fun _ => 0) 0 0) 1 0) 2 0) 3 0))), (x1, .inr (16, ((((((((((((((((((((((f1.set 37 (.int 0)).set 42 (.int 0)).set 48 (.int 0)).set 20 (.int 0)).set 56 (.int 0)).set 63 (.int 0)).set 72 (.int 0)).set 20 (.int 1)).set 52 (.int 0)).set 20 (.int 2)).set 53 (.int 1)).set 20 (.int 3)).set 54 (.int 2)).set 20 (.int 4)).set 55 (.int 3)).set 83 (.int 0)).set 108 (.int 0)).set 78 (.int 0)).set 216 (.int 0)).set 217 (.int 0)).set 218 (.int 0)).set 215 (.int 1))))] rfl ?_
  refine zz_aload_n X 1 dX16_loadBundle_184 rfl rfl ?_
  refine zz_aload_n X 1 dX16_loadBundle_185 rfl rfl ?_
  refine zz_get X 7 37 rfl rfl (by decide) (fun w h => List.mem_cons_of_mem _ (zf_X16 w h)) rfl (List.mem_cons_of_mem _ zm_757) (zq_oth (by decide) (zq_oth (by decide) (zq_oth (by decide) (zq_oth (by decide) (zq_oth (by decide) (zq_oth (by decide) (zq_oth (by decide) (zq_oth (by decide) (zq_oth (by decide) (zq_oth (by decide) (zq_oth (by decide) (zq_oth (by decide) (zq_oth (by decide) (zq_oth (by decide) (zq_oth (by decide) (zq_oth (by decide) (zq_oth (by decide) (zq_oth (by decide) (zq_oth (by decide) (zq_oth (by decide) (zq_oth (by decide) ((zq_same (zq_lt hf1_n (by decide) (by simp only [List.length_set]))))))))))))))))))))))))) dX16_loadBundle_186 ?_
  refine zz_put X 7 219 rfl rfl (by decide) (fun w h => List.mem_cons_of_mem _ (zf_X16 w h)) rfl (List.mem_cons_of_mem _ zm_890) tyX16 tyX16_ok nmX16 rfl (ty := .int) rfl rfl rfl (zq_lt hf1_n (by decide) (by simp only [List.length_set])) dX16_loadBundle_189 [(x2, .inl (cA 1, 6, .inl (upd (upd (fun _ => 0) 0 1) 1 1))), (x8, .inl (cA 1, 6, .inl (fun _ => 0))), (x3, .inl (cA 1, 4096, .inl (upd (upd (upd (upd g1 95 1) 3170 2) 1994 3) 4010 4))), (x4, .inl (cA 0, 17000, .inl ((upd (upd (upd (upd (upd (upd (upd (upd (upd (upd (upd (upd (upd (fun _ => 0) 0 95) 0 115) 1 101) 2 116) 0 105) 1 110) 2 112) 3 117) 4 116) 0 100) 1 97) 2 116) 3 97)))), (x6, .inl (cA 1, 13001, .inl (upd (upd (upd (upd (fun _ => 0) 1 1) 2 4) 3 9) 4 13))), (x5, .inl (cA 0, 40000, .inl (upd (upd (upd (upd (upd (upd (upd (upd (upd (upd (upd (upd (upd (fun _ => 0) 0 95) 1 115) 2 101) 3 116) 4 105) 5 110) 6 112) 7 117) 8 116) 9 100) 10 97) 11 116) 12 97))), (x7, .inl (cA 1, 13000, .inl (upd (upd (upd (upd (fun _ => 0) 0 0) 1 0) 2 0) 3 0))), (x1, .inr (16, (((((((((((((((((((((((f1.set 37 (.int 0)).set 42 (.int 0)).set 48 (.int 0)).set 20 (.int 0)).set 56 (.int 0)).set 63 (.int 0)).set 72 (.int 0)).set 20 (.int 1)).set 52 (.int 0)).set 20 (.int 2)).set 53 (.int 1)).set 20 (.int 3)).set 54 (.int 2)).set 20 (.int 4)).set 55 (.int 3)).set 83 (.int 0)).set 108 (.int 0)).set 78 (.int 0)).set 216 (.int 0)).set 217 (.int 0)).set 218 (.int 0)).set 215 (.int 1)).set 219 (.int 0))))] rfl ?_
  refine zz_aload_n X 1 dX16_loadBundle_192 rfl rfl ?_
  refine zz_aload_n X 1 dX16_loadBundle_193 rfl rfl ?_
  refine zz_get X 7 42 rfl rfl (by decide) (fun w h => List.mem_cons_of_mem _ (zf_X16 w h)) rfl (List.mem_cons_of_mem _ zm_758) (zq_oth (by decide) (zq_oth (by decide) (zq_oth (by decide) (zq_oth (by decide) (zq_oth (by decide) (zq_oth (by decide) (zq_oth (by decide) (zq_oth (by decide) (zq_oth (by decide) (zq_oth (by decide) (zq_oth (by decide) (zq_oth (by decide) (zq_oth (by decide) (zq_oth (by decide) (zq_oth (by decide) (zq_oth (by decide) (zq_oth (by decide) (zq_oth (by decide) (zq_oth (by decide) (zq_oth (by decide) (zq_oth (by decide) ((zq_same (zq_lt hf1_n (by decide) (by simp only [List.length_set]))))))))))))))))))))))))) dX16_loadBundle_194 ?_
  refine zz_put X 7 220 rfl rfl (by decide) (fun w h => List.mem_cons_of_mem _ (zf_X16 w h)) rfl (List.mem_cons_of_mem _ zm_891) tyX16 tyX16_ok nmX16 rfl (ty := .int) rfl rfl rfl (zq_lt hf1_n (by decide) (by simp only [List.length_set])) dX16_loadBundle_197 [(x2, .inl (cA 1, 6, .inl (upd (upd (fun _ => 0) 0 1) 1 1))), (x8, .inl (cA 1, 6, .inl (fun _ => 0))), (x3, .inl (cA 1, 4096, .inl (upd (upd (upd (upd g1 95 1) 3170 2) 1994 3) 4010 4))), (x4, .inl (cA 0, 17000, .inl ((upd (upd (upd (upd (upd (upd (upd (upd (upd (upd (upd (upd (upd (fun _ => 0) 0 95) 0 115) 1 101) 2 116) 0 105) 1 110) 2 112) 3 117) 4 116) 0 100) 1 97) 2 116) 3 97)))), (x6, .inl (cA 1, 13001, .inl (upd (upd (upd (upd (fun _ => 0) 1 1) 2 4) 3 9) 4 13))), (x5, .inl (cA 0, 40000, .inl (upd (upd (upd (upd (upd (upd (upd (upd (upd (upd (upd (upd (upd (fun _ => 0) 0 95) 1 115) 2 101) 3 116) 4 105) 5 110) 6 112) 7 117) 8 116) 9 100) 10 97) 11 116) 12 97))), (x7, .inl (cA 1, 13000, .inl (upd (upd (upd (upd (fun _ => 0) 0 0) 1 0) 2 0) 3 0))), (x1, .inr (16, ((((((((((((((((((((((((f1.set 37 (.int 0)).set 42 (.int 0)).set 48 (.int 0)).set 20 (.int 0)).set 56 (.int 0)).set 63 (.int 0)).set 72 (.int 0)).set 20 (.int 1)).set 52 (.int 0)).set 20 (.int 2)).set 53 (.int 1)).set 20 (.int 3)).set 54 (.int 2)).set 20 (.int 4)).set 55 (.int 3)).set 83 (.int 0)).set 108 (.int 0)).set 78 (.int 0)).set 216 (.int 0)).set 217 (.int 0)).set 218 (.int 0)).set 215 (.int 1)).set 219 (.int 0)).set 220 (.int 0))))] rfl ?_
  refine zz_aload_n X 1 dX16_loadBundle_200 rfl rfl ?_
  refine zz_aload_n X 1 dX16_loadBundle_201 rfl rfl ?_
  refine zz_get X 7 48 rfl rfl (by decide) (fun w h => List.mem_cons_of_mem _ (zf_X16 w h)) rfl (List.mem_cons_of_mem _ zm_759) (zq_oth (by decide) (zq_oth (by decide) (zq_oth (by decide) (zq_oth (by decide) (zq_oth (by decide) (zq_oth (by decide) (zq_oth (by decide) (zq_oth (by decide) (zq_oth (by decide) (zq_oth (by decide) (zq_oth (by decide) (zq_oth (by decide) (zq_oth (by decide) (zq_oth (by decide) (zq_oth (by decide) (zq_oth (by decide) (zq_oth (by decide) (zq_oth (by decide) (zq_oth (by decide) (zq_oth (by decide) (zq_oth (by decide) ((zq_same (zq_lt hf1_n (by decide) (by simp only [List.length_set]))))))))))))))))))))))))) dX16_loadBundle_202 ?_
  refine zz_put X 7 221 rfl rfl (by decide) (fun w h => List.mem_cons_of_mem _ (zf_X16 w h)) rfl (List.mem_cons_of_mem _ zm_892) tyX16 tyX16_ok nmX16 rfl (ty := .int) rfl rfl rfl (zq_lt hf1_n (by decide) (by simp only [List.length_set])) dX16_loadBundle_205 [(x2, .inl (cA 1, 6, .inl (upd (upd (fun _ => 0) 0 1) 1 1))), (x8, .inl (cA 1, 6, .inl (fun _ => 0))), (x3, .inl (cA 1, 4096, .inl (upd (upd (upd (upd g1 95 1) 3170 2) 1994 3) 4010 4))), (x4, .inl (cA 0, 17000, .inl ((upd (upd (upd (upd (upd (upd (upd (upd (upd (upd (upd (upd (upd (fun _ => 0) 0 95) 0 115) 1 101) 2 116) 0 105) 1 110) 2 112) 3 117) 4 116) 0 100) 1 97) 2 116) 3 97)))), (x6, .inl (cA 1, 13001, .inl (upd (upd (upd (upd (fun _ => 0) 1 1) 2 4) 3 9) 4 13))), (x5, .inl (cA 0, 40000, .inl (upd (upd (upd (upd (upd (upd (upd (upd (upd (upd (upd (upd (upd (fun _ => 0) 0 95) 1 115) 2 101) 3 116) 4 105) 5 110) 6 112) 7 117) 8 116) 9 100) 10 97) 11 116) 12 97))), (x7, .inl (cA 1, 13000, .inl (upd (upd (upd (upd (fun _ => 0) 0 0) 1 0) 2 0) 3 0))), (x1, .inr (16, (((((((((((((((((((((((((f1.set 37 (.int 0)).set 42 (.int 0)).set 48 (.int 0)).set 20 (.int 0)).set 56 (.int 0)).set 63 (.int 0)).set 72 (.int 0)).set 20 (.int 1)).set 52 (.int 0)).set 20 (.int 2)).set 53 (.int 1)).set 20 (.int 3)).set 54 (.int 2)).set 20 (.int 4)).set 55 (.int 3)).set 83 (.int 0)).set 108 (.int 0)).set 78 (.int 0)).set 216 (.int 0)).set 217 (.int 0)).set 218 (.int 0)).set 215 (.int 1)).set 219 (.int 0)).set 220 (.int 0)).set 221 (.int 0))))] rfl ?_
  refine zz_aload_n X 1 dX16_loadBundle_208 rfl rfl ?_
  refine zz_aload_n X 1 dX16_loadBundle_209 rfl rfl ?_
  refine zz_get X 7 108 rfl rfl (by decide) (fun w h => List.mem_cons_of_mem _ (zf_X16 w h)) rfl (List.mem_cons_of_mem _ zm_855) (zq_oth (by decide) (zq_oth (by decide) (zq_oth (by decide) (zq_oth (by decide) (zq_oth (by decide) (zq_oth (by decide) (zq_oth (by decide) (zq_oth (by decide) ((zq_same (zq_lt hf1_n (by decide) (by simp only [List.length_set])))))))))))) dX16_loadBundle_210 ?_
  refine zz_put X 7 222 rfl rfl (by decide) (fun w h => List.mem_cons_of_mem _ (zf_X16 w h)) rfl (List.mem_cons_of_mem _ zm_893) tyX16 tyX16_ok nmX16 rfl (ty := .int) rfl rfl rfl (zq_lt hf1_n (by decide) (by simp only [List.length_set])) dX16_loadBundle_213 [(x2, .inl (cA 1, 6, .inl (upd (upd (fun _ => 0) 0 1) 1 1))), (x8, .inl (cA 1, 6, .inl (fun _ => 0))), (x3, .inl (cA 1, 4096, .inl (upd (upd (upd (upd g1 95 1) 3170 2) 1994 3) 4010 4))), (x4, .inl (cA 0, 17000, .inl ((upd (upd (upd (upd (upd (upd (upd (upd (upd (upd (upd (upd (upd (fun _ => 0) 0 95) 0 115) 1 101) 2 116) 0 105) 1 110) 2 112) 3 117) 4 116) 0 100) 1 97) 2 116) 3 97)))), (x6, .inl (cA 1, 13001, .inl (upd (upd (upd (upd (fun _ => 0) 1 1) 2 4) 3 9) 4 13))), (x5, .inl (cA 0, 40000, .inl (upd (upd (upd (upd (upd (upd (upd (upd (upd (upd (upd (upd (upd (fun _ => 0) 0 95) 1 115) 2 101) 3 116) 4 105) 5 110) 6 112) 7 117) 8 116) 9 100) 10 97) 11 116) 12 97))), (x7, .inl (cA 1, 13000, .inl (upd (upd (upd (upd (fun _ => 0) 0 0) 1 0) 2 0) 3 0))), (x1, .inr (16, ((((((((((((((((((((((((((f1.set 37 (.int 0)).set 42 (.int 0)).set 48 (.int 0)).set 20 (.int 0)).set 56 (.int 0)).set 63 (.int 0)).set 72 (.int 0)).set 20 (.int 1)).set 52 (.int 0)).set 20 (.int 2)).set 53 (.int 1)).set 20 (.int 3)).set 54 (.int 2)).set 20 (.int 4)).set 55 (.int 3)).set 83 (.int 0)).set 108 (.int 0)).set 78 (.int 0)).set 216 (.int 0)).set 217 (.int 0)).set 218 (.int 0)).set 215 (.int 1)).set 219 (.int 0)).set 220 (.int 0)).set 221 (.int 0)).set 222 (.int 0))))] rfl ?_
  refine zz_aload_n X 1 dX16_loadBundle_216 rfl rfl ?_
  refine zz_aload_n X 1 dX16_loadBundle_217 rfl rfl ?_
  refine zz_get X 7 219 rfl rfl (by decide) (fun w h => List.mem_cons_of_mem _ (zf_X16 w h)) rfl (List.mem_cons_of_mem _ zm_890) (zq_oth (by decide) (zq_oth (by decide) (zq_oth (by decide) ((zq_same (zq_lt hf1_n (by decide) (by simp only [List.length_set]))))))) dX16_loadBundle_218 ?_
  refine zz_put X 7 37 rfl rfl (by decide) (fun w h => List.mem_cons_of_mem _ (zf_X16 w h)) rfl (List.mem_cons_of_mem _ zm_757) tyX16 tyX16_ok nmX16 rfl (ty := .int) rfl rfl rfl (zq_lt hf1_n (by decide) (by simp only [List.length_set])) dX16_loadBundle_221 [(x2, .inl (cA 1, 6, .inl (upd (upd (fun _ => 0) 0 1) 1 1))), (x8, .inl (cA 1, 6, .inl (fun _ => 0))), (x3, .inl (cA 1, 4096, .inl (upd (upd (upd (upd g1 95 1) 3170 2) 1994 3) 4010 4))), (x4, .inl (cA 0, 17000, .inl ((upd (upd (upd (upd (upd (upd (upd (upd (upd (upd (upd (upd (upd (fun _ => 0) 0 95) 0 115) 1 101) 2 116) 0 105) 1 110) 2 112) 3 117) 4 116) 0 100) 1 97) 2 116) 3 97)))), (x6, .inl (cA 1, 13001, .inl (upd (upd (upd (upd (fun _ => 0) 1 1) 2 4) 3 9) 4 13))), (x5, .inl (cA 0, 40000, .inl (upd (upd (upd (upd (upd (upd (upd (upd (upd (upd (upd (upd (upd (fun _ => 0) 0 95) 1 115) 2 101) 3 116) 4 105) 5 110) 6 112) 7 117) 8 116) 9 100) 10 97) 11 116) 12 97))), (x7, .inl (cA 1, 13000, .inl (upd (upd (upd (upd (fun _ => 0) 0 0) 1 0) 2 0) 3 0))), (x1, .inr (16, (((((((((((((((((((((((((((f1.set 37 (.int 0)).set 42 (.int 0)).set 48 (.int 0)).set 20 (.int 0)).set 56 (.int 0)).set 63 (.int 0)).set 72 (.int 0)).set 20 (.int 1)).set 52 (.int 0)).set 20 (.int 2)).set 53 (.int 1)).set 20 (.int 3)).set 54 (.int 2)).set 20 (.int 4)).set 55 (.int 3)).set 83 (.int 0)).set 108 (.int 0)).set 78 (.int 0)).set 216 (.int 0)).set 217 (.int 0)).set 218 (.int 0)).set 215 (.int 1)).set 219 (.int 0)).set 220 (.int 0)).set 221 (.int 0)).set 222 (.int 0)).set 37 (.int 0))))] rfl ?_
  refine zz_aload_n X 1 dX16_loadBundle_224 rfl rfl ?_
  refine zz_aload_n X 1 dX16_loadBundle_225 rfl rfl ?_
  refine zz_get X 7 220 rfl rfl (by decide) (fun w h => List.mem_cons_of_mem _ (zf_X16 w h)) rfl (List.mem_cons_of_mem _ zm_891) (zq_oth (by decide) (zq_oth (by decide) (zq_oth (by decide) ((zq_same (zq_lt hf1_n (by decide) (by simp only [List.length_set]))))))) dX16_loadBundle_226 ?_
  refine zz_put X 7 42 rfl rfl (by decide) (fun w h => List.mem_cons_of_mem _ (zf_X16 w h)) rfl (List.mem_cons_of_mem _ zm_758) tyX16 tyX16_ok nmX16 rfl (ty := .int) rfl rfl rfl (zq_lt hf1_n (by decide) (by simp only [List.length_set])) dX16_loadBundle_229 [(x2, .inl (cA 1, 6, .inl (upd (upd (fun _ => 0) 0 1) 1 1))), (x8, .inl (cA 1, 6, .inl (fun _ => 0))), (x3, .inl (cA 1, 4096, .inl (upd (upd (upd (upd g1 95 1) 3170 2) 1994 3) 4010 4))), (x4, .inl (cA 0, 17000, .inl ((upd (upd (upd (upd (upd (upd (upd (upd (upd (upd (upd (upd (upd (fun _ => 0) 0 95) 0 115) 1 101) 2 116) 0 105) 1 110) 2 112) 3 117) 4 116) 0 100) 1 97) 2 116) 3 97)))), (x6, .inl (cA 1, 13001, .inl (upd (upd (upd (upd (fun _ => 0) 1 1) 2 4) 3 9) 4 13))), (x5, .inl (cA 0, 40000, .inl (upd (upd (upd (upd (upd (upd (upd (upd (upd (upd (upd (upd (upd (fun _ => 0) 0 95) 1 115) 2 101) 3 116) 4 105) 5 110) 6 112) 7 117) 8 116) 9 100) 10 97) 11 116) 12 97))), (x7, .inl (cA 1, 13000, .inl (upd (upd (upd (upd (fun _ => 0) 0 0) 1 0) 2 0) 3 0))), (x1, .inr (16, ((((((((((((((((((((((((((((f1.set 37 (.int 0)).set 42 (.int 0)).set 48 (.int 0)).set 20 (.int 0)).set 56 (.int 0)).set 63 (.int 0)).set 72 (.int 0)).set 20 (.int 1)).set 52 (.int 0)).set 20 (.int 2)).set 53 (.int 1)).set 20 (.int 3)).set 54 (.int 2)).set 20 (.int 4)).set 55 (.int 3)).set 83 (.int 0)).set 108 (.int 0)).set 78 (.int 0)).set 216 (.int 0)).set 217 (.int 0)).set 218 (.int 0)).set 215 (.int 1)).set 219 (.int 0)).set 220 (.int 0)).set 221 (.int 0)).set 222 (.int 0)).set 37 (.int 0)).set 42 (.int 0))))] rfl ?_
  refine zz_aload_n X 1 dX16_loadBundle_232 rfl rfl ?_
  refine zz_aload_n X 1 dX16_loadBundle_233 rfl rfl ?_
  refine zz_get X 7 221 rfl rfl (by decide) (fun w h => List.mem_cons_of_mem _ (zf_X16 w h)) rfl (List.mem_cons_of_mem _ zm_892) (zq_oth (by decide) (zq_oth (by decide) (zq_oth (by decide) ((zq_same (zq_lt hf1_n (by decide) (by simp only [List.length_set]))))))) dX16_loadBundle_234 ?_
  refine zz_put X 7 48 rfl rfl (by decide) (fun w h => List.mem_cons_of_mem _ (zf_X16 w h)) rfl (List.mem_cons_of_mem _ zm_759) tyX16 tyX16_ok nmX16 rfl (ty := .int) rfl rfl rfl (zq_lt hf1_n (by decide) (by simp only [List.length_set])) dX16_loadBundle_237 [(x2, .inl (cA 1, 6, .inl (upd (upd (fun _ => 0) 0 1) 1 1))), (x8, .inl (cA 1, 6, .inl (fun _ => 0))), (x3, .inl (cA 1, 4096, .inl (upd (upd (upd (upd g1 95 1) 3170 2) 1994 3) 4010 4))), (x4, .inl (cA 0, 17000, .inl ((upd (upd (upd (upd (upd (upd (upd (upd (upd (upd (upd (upd (upd (fun _ => 0) 0 95) 0 115) 1 101) 2 116) 0 105) 1 110) 2 112) 3 117) 4 116) 0 100) 1 97) 2 116) 3 97)))), (x6, .inl (cA 1, 13001, .inl (upd (upd (upd (upd (fun _ => 0) 1 1) 2 4) 3 9) 4 13))), (x5, .inl (cA 0, 40000, .inl (upd (upd (upd (upd (upd (upd (upd (upd (upd (upd (upd (upd (upd (fun _ => 0) 0 95) 1 115) 2 101) 3 116) 4 105) 5 110) 6 112) 7 117) 8 116) 9 100) 10 97) 11 116) 12 97))), (x7, .inl (cA 1, 13000, .inl (upd (upd (upd (upd (fun _ => 0) 0 0) 1 0) 2 0) 3 0))), (x1, .inr (16, (((((((((((((((((((((((((((((f1.set 37 (.int 0)).set 42 (.int 0)).set 48 (.int 0)).set 20 (.int 0)).set 56 (.int 0)).set 63 (.int 0)).set 72 (.int 0)).set 20 (.int 1)).set 52 (.int 0)).set 20 (.int 2)).set 53 (.int 1)).set 20 (.int 3)).set 54 (.int 2)).set 20 (.int 4)).set 55 (.int 3)).set 83 (.int 0)).set 108 (.int 0)).set 78 (.int 0)).set 216 (.int 0)).set 217 (.int 0)).set 218 (.int 0)).set 215 (.int 1)).set 219 (.int 0)).set 220 (.int 0)).set 221 (.int 0)).set 222 (.int 0)).set 37 (.int 0)).set 42 (.int 0)).set 48 (.int 0))))] rfl ?_
  refine zz_aload_n X 1 dX16_loadBundle_240 rfl rfl ?_
  refine zz_aload_n X 1 dX16_loadBundle_241 rfl rfl ?_
  refine zz_get X 7 222 rfl rfl (by decide) (fun w h => List.mem_cons_of_mem _ (zf_X16 w h)) rfl (List.mem_cons_of_mem _ zm_893) (zq_oth (by decide) (zq_oth (by decide) (zq_oth (by decide) ((zq_same (zq_lt hf1_n (by decide) (by simp only [List.length_set]))))))) dX16_loadBundle_242 ?_
  refine zz_put X 7 108 rfl rfl (by decide) (fun w h => List.mem_cons_of_mem _ (zf_X16 w h)) rfl (List.mem_cons_of_mem _ zm_855) tyX16 tyX16_ok nmX16 rfl (ty := .int) rfl rfl rfl (zq_lt hf1_n (by decide) (by simp only [List.length_set])) dX16_loadBundle_245 [(x2, .inl (cA 1, 6, .inl (upd (upd (fun _ => 0) 0 1) 1 1))), (x8, .inl (cA 1, 6, .inl (fun _ => 0))), (x3, .inl (cA 1, 4096, .inl (upd (upd (upd (upd g1 95 1) 3170 2) 1994 3) 4010 4))), (x4, .inl (cA 0, 17000, .inl ((upd (upd (upd (upd (upd (upd (upd (upd (upd (upd (upd (upd (upd (fun _ => 0) 0 95) 0 115) 1 101) 2 116) 0 105) 1 110) 2 112) 3 117) 4 116) 0 100) 1 97) 2 116) 3 97)))), (x6, .inl (cA 1, 13001, .inl (upd (upd (upd (upd (fun _ => 0) 1 1) 2 4) 3 9) 4 13))), (x5, .inl (cA 0, 40000, .inl (upd (upd (upd (upd (upd (upd (upd (upd (upd (upd (upd (upd (upd (fun _ => 0) 0 95) 1 115) 2 101) 3 116) 4 105) 5 110) 6 112) 7 117) 8 116) 9 100) 10 97) 11 116) 12 97))), (x7, .inl (cA 1, 13000, .inl (upd (upd (upd (upd (fun _ => 0) 0 0) 1 0) 2 0) 3 0))), (x1, .inr (16, ((((((((((((((((((((((((((((((f1.set 37 (.int 0)).set 42 (.int 0)).set 48 (.int 0)).set 20 (.int 0)).set 56 (.int 0)).set 63 (.int 0)).set 72 (.int 0)).set 20 (.int 1)).set 52 (.int 0)).set 20 (.int 2)).set 53 (.int 1)).set 20 (.int 3)).set 54 (.int 2)).set 20 (.int 4)).set 55 (.int 3)).set 83 (.int 0)).set 108 (.int 0)).set 78 (.int 0)).set 216 (.int 0)).set 217 (.int 0)).set 218 (.int 0)).set 215 (.int 1)).set 219 (.int 0)).set 220 (.int 0)).set 221 (.int 0)).set 222 (.int 0)).set 37 (.int 0)).set 42 (.int 0)).set 48 (.int 0)).set 108 (.int 0))))] rfl ?_
  refine zz_aload_n X 1 dX16_loadBundle_248 rfl rfl ?_
  refine zz_aload_n X 1 dX16_loadBundle_249 rfl rfl ?_
  refine zz_get X 7 216 rfl rfl (by decide) (fun w h => List.mem_cons_of_mem _ (zf_X16 w h)) rfl (List.mem_cons_of_mem _ zm_885) (zq_oth (by decide) (zq_oth (by decide) (zq_oth (by decide) (zq_oth (by decide) (zq_oth (by decide) (zq_oth (by decide) (zq_oth (by decide) (zq_oth (by decide) (zq_oth (by decide) (zq_oth (by decide) (zq_oth (by decide) ((zq_same (zq_lt hf1_n (by decide) (by simp only [List.length_set]))))))))))))))) dX16_loadBundle_250 ?_
  refine zz_put X 7 83 rfl rfl (by decide) (fun w h => List.mem_cons_of_mem _ (zf_X16 w h)) rfl (List.mem_cons_of_mem _ zm_854) tyX16 tyX16_ok nmX16 rfl (ty := .int) rfl rfl rfl (zq_lt hf1_n (by decide) (by simp only [List.length_set])) dX16_loadBundle_253 [(x2, .inl (cA 1, 6, .inl (upd (upd (fun _ => 0) 0 1) 1 1))), (x8, .inl (cA 1, 6, .inl (fun _ => 0))), (x3, .inl (cA 1, 4096, .inl (upd (upd (upd (upd g1 95 1) 3170 2) 1994 3) 4010 4))), (x4, .inl (cA 0, 17000, .inl ((upd (upd (upd (upd (upd (upd (upd (upd (upd (upd (upd (upd (upd (fun _ => 0) 0 95) 0 115) 1 101) 2 116) 0 105) 1 110) 2 112) 3 117) 4 116) 0 100) 1 97) 2 116) 3 97)))), (x6, .inl (cA 1, 13001, .inl (upd (upd (upd (upd (fun _ => 0) 1 1) 2 4) 3 9) 4 13))), (x5, .inl (cA 0, 40000, .inl (upd (upd (upd (upd (upd (upd (upd (upd (upd (upd (upd (upd (upd (fun _ => 0) 0 95) 1 115) 2 101) 3 116) 4 105) 5 110) 6 112) 7 117) 8 116) 9 100) 10 97) 11 116) 12 97))), (x7, .inl (cA 1, 13000, .inl (upd (upd (upd (upd (fun _ => 0) 0 0) 1 0) 2 0) 3 0))), (x1, .inr (16, (((((((((((((((((((((((((((((((f1.set 37 (.int 0)).set 42 (.int 0)).set 48 (.int 0)).set 20 (.int 0)).set 56 (.int 0)).set 63 (.int 0)).set 72 (.int 0)).set 20 (.int 1)).set 52 (.int 0)).set 20 (.int 2)).set 53 (.int 1)).set 20 (.int 3)).set 54 (.int 2)).set 20 (.int 4)).set 55 (.int 3)).set 83 (.int 0)).set 108 (.int 0)).set 78 (.int 0)).set 216 (.int 0)).set 217 (.int 0)).set 218 (.int 0)).set 215 (.int 1)).set 219 (.int 0)).set 220 (.int 0)).set 221 (.int 0)).set 222 (.int 0)).set 37 (.int 0)).set 42 (.int 0)).set 48 (.int 0)).set 108 (.int 0)).set 83 (.int 0))))] rfl ?_
  refine zz_aload_n X 1 dX16_loadBundle_256 rfl rfl ?_
  refine zz_aload_n X 1 dX16_loadBundle_257 rfl rfl ?_
  refine zz_get X 7 217 rfl rfl (by decide) (fun w h => List.mem_cons_of_mem _ (zf_X16 w h)) rfl (List.mem_cons_of_mem _ zm_887) (zq_oth (by decide) (zq_oth (by decide) (zq_oth (by decide) (zq_oth (by decide) (zq_oth (by decide) (zq_oth (by decide) (zq_oth (by decide) (zq_oth (by decide) (zq_oth (by decide) (zq_oth (by decide) (zq_oth (by decide) ((zq_same (zq_lt hf1_n (by decide) (by simp only [List.length_set]))))))))))))))) dX16_loadBundle_258 ?_
  refine zz_put X 7 84 rfl rfl (by decide) (fun w h => List.mem_cons_of_mem _ (zf_X16 w h)) rfl (List.mem_cons_of_mem _ zm_886) tyX16 tyX16_ok nmX16 rfl (ty := .int) rfl rfl rfl (zq_lt hf1_n (by decide) (by simp only [List.length_set])) dX16_loadBundle_261 [(x2, .inl (cA 1, 6, .inl (upd (upd (fun _ => 0) 0 1) 1 1))), (x8, .inl (cA 1, 6, .inl (fun _ => 0))), (x3, .inl (cA 1, 4096, .inl (upd (upd (upd (upd g1 95 1) 3170 2) 1994 3) 4010 4))), (x4, .inl (cA 0, 17000, .inl ((upd (upd (upd (upd (upd (upd (upd (upd (upd (upd (upd (upd (upd (fun _ => 0) 0 95) 0 115) 1 101) 2 116) 0 105) 1 110) 2 112) 3 117) 4 116) 0 100) 1 97) 2 116) 3 97)))), (x6, .inl (cA 1, 13001, .inl (upd (upd (upd (upd (fun _ => 0) 1 1) 2 4) 3 9) 4 13))), (x5, .inl (cA 0, 40000, .inl (upd (upd (upd (upd (upd (upd (upd (upd (upd (upd (upd (upd (upd (fun _ => 0) 0 95) 1 115) 2 101) 3 116) 4 105) 5 110) 6 112) 7 117) 8 116) 9 100) 10 97) 11 116) 12 97))), (x7, .inl (cA 1, 13000, .inl (upd (upd (upd (upd (fun _ => 0) 0 0) 1 0) 2 0) 3 0))), (x1, .inr (16, ((((((((((((((((((((((((((((((((f1.set 37 (.int 0)).set 42 (.int 0)).set 48 (.int 0)).set 20 (.int 0)).set 56 (.int 0)).set 63 (.int 0)).set 72 (.int 0)).set 20 (.int 1)).set 52 (.int 0)).set 20 (.int 2)).set 53 (.int 1)).set 20 (.int 3)).set 54 (.int 2)).set 20 (.int 4)).set 55 (.int 3)).set 83 (.int 0)).set 108 (.int 0)).set 78 (.int 0)).set 216 (.int 0)).set 217 (.int 0)).set 218 (.int 0)).set 215 (.int 1)).set 219 (.int 0)).set 220 (.int 0)).set 221 (.int 0)).set 222 (.int 0)).set 37 (.int 0)).set 42 (.int 0)).set 48 (.int 0)).set 108 (.int 0)).set 83 (.int 0)).set 84 (.int 0))))] rfl ?_
  refine zz_aload_n X 1 dX16_loadBundle_264 rfl rfl ?_
  refine zz_aload_n X 1 dX16_loadBundle_265 rfl rfl ?_
  refine zz_get X 7 218 rfl rfl (by decide) (fun w h => List.mem_cons_of_mem _ (zf_X16 w h)) rfl (List.mem_cons_of_mem _ zm_889) (zq_oth (by decide) (zq_oth (by decide) (zq_oth (by decide) (zq_oth (by decide) (zq_oth (by decide) (zq_oth (by decide) (zq_oth (by decide) (zq_oth (by decide) (zq_oth (by decide) (zq_oth (by decide) (zq_oth (by decide) ((zq_same (zq_lt hf1_n (by decide) (by simp only [List.length_set]))))))))))))))) dX16_loadBundle_266 ?_
  refine zz_put X 7 85 rfl rfl (by decide) (fun w h => List.mem_cons_of_mem _ (zf_X16 w h)) rfl (List.mem_cons_of_mem _ zm_888) tyX16 tyX16_ok nmX16 rfl (ty := .int) rfl rfl rfl (zq_lt hf1_n (by decide) (by simp only [List.length_set])) dX16_loadBundle_269 [(x2, .inl (cA 1, 6, .inl (upd (upd (fun _ => 0) 0 1) 1 1))), (x8, .inl (cA 1, 6, .inl (fun _ => 0))), (x3, .inl (cA 1, 4096, .inl (upd (upd (upd (upd g1 95 1) 3170 2) 1994 3) 4010 4))), (x4, .inl (cA 0, 17000, .inl ((upd (upd (upd (upd (upd (upd (upd (upd (upd (upd (upd (upd (upd (fun _ => 0) 0 95) 0 115) 1 101) 2 116) 0 105) 1 110) 2 112) 3 117) 4 116) 0 100) 1 97) 2 116) 3 97)))), (x6, .inl (cA 1, 13001, .inl (upd (upd (upd (upd (fun _ => 0) 1 1) 2 4) 3 9) 4 13))), (x5, .inl (cA 0, 40000, .inl (upd (upd (upd (upd (upd (upd (upd (upd (upd (upd (upd (upd (upd (fun _ => 0) 0 95) 1 115) 2 101) 3 116) 4 105) 5 110) 6 112) 7 117) 8 116) 9 100) 10 97) 11 116) 12 97))), (x7, .inl (cA 1, 13000, .inl (upd (upd (upd (upd (fun _ => 0) 0 0) 1 0) 2 0) 3 0))), (x1, .inr (16, (((((((((((((((((((((((((((((((((f1.set 37 (.int 0)).set 42 (.int 0)).set 48 (.int 0)).set 20 (.int 0)).set 56 (.int 0)).set 63 (.int 0)).set 72 (.int 0)).set 20 (.int 1)).set 52 (.int 0)).set 20 (.int 2)).set 53 (.int 1)).set 20 (.int 3)).set 54 (.int 2)).set 20 (.int 4)).set 55 (.int 3)).set 83 (.int 0)).set 108 (.int 0)).set 78 (.int 0)).set 216 (.int 0)).set 217 (.int 0)).set 218 (.int 0)).set 215 (.int 1)).set 219 (.int 0)).set 220 (.int 0)).set 221 (.int 0)).set 222 (.int 0)).set 37 (.int 0)).set 42 (.int 0)).set 48 (.int 0)).set 108 (.int 0)).set 83 (.int 0)).set 84 (.int 0)).set 85 (.int 0))))] rfl ?_
  exact zz_vret X hr (g1) [7, 0, 2, 3, 4, 5, 6, 1] (by decide) rfl rfl (Nat.le_of_ble_eq_true rfl) (Nat.le_of_ble_eq_true rfl) (hq3) dX16_loadBundle_272

set_option maxHeartbeats 4000000 in
set_option maxRecDepth 100000 in
/-- newBody -/
theorem kX16_newBody_1 {E : zEn} (hE : zOk E) (l : Launch) (D : va_G) (cA : Nat → ClassId) (K : Nat → Nat) (V : Nat → Nat) (x1 : Nat) (f1 : List Value) (x2 : Nat) (x3 : Nat) (x4 : Nat) (x5 : Nat) (x6 : Nat) (hss : zSS E K V) (hf1_n : f1.length = 243) (hf1_48 : f1[48]? = some (.int 0)) (hf1_43 : f1[43]? = some (.ref x2)) (hf1_44 : f1[44]? = some (.ref x3)) (hf1_45 : f1[45]? = some (.ref x4)) (hf1_50 : f1[50]? = some (.int 400)) (hf1_46 : f1[46]? = some (.ref x5)) (hf1_47 : f1[47]? = some (.ref x6)) : zMi E l yX16_newBody zwX16_newBody ({ frames := 0, cells := 0, slots := 0, locals := 0 }) D vwCl (zT cA) [.ref x1, .int 0] [(x1, .inr (16, f1)), (x2, .inl (cA 1, 7700, .inl (fun _ => 0))), (x3, .inl (cA 1, 7700, .inl (fun _ => 0))), (x4, .inl (cA 1, 7700, .inl (fun _ => 0))), (x5, .inl (cA 1, 7700, .inl (fun _ => 0))), (x6, .inl (cA 1, 7700, .inl (fun _ => 0)))] (S := Unit) (fun (r : Int32) (u : Unit) => (r = 0)) (fun (u : Unit) => [(x1, .inr (16, (f1.set 48 (.int 1)))), (x2, .inl (cA 1, 7700, .inl (upd (fun _ => 0) 0 (-1)))), (x3, .inl (cA 1, 7700, .inl (upd (fun _ => 0) 0 (-1)))), (x4, .inl (cA 1, 7700, .inl (upd (fun _ => 0) 0 400))), (x5, .inl (cA 1, 7700, .inl (upd (fun _ => 0) 0 0))), (x6, .inl (cA 1, 7700, .inl (upd (fun _ => 0) 0 0)))]) := by
  refine zz_enteri (cc := cX16_newBody) (lv := [(0, .ref x1), (1, .int 0)]) hE 3 (by decide) rfl (Nat.le_of_ble_eq_true rfl) rfl ?_
  intro p e s m args below meth c X hr hin
  refine zz_aload_n X 0 dX16_newBody_0 rfl rfl ?_
  refine zz_get X 0 48 rfl rfl (by decide) (fun w h => List.mem_cons_of_mem _ (zf_X16 w h)) rfl (List.mem_cons_of_mem _ zm_759) hf1_48 dX16_newBody_1 ?_
  refine zz_istore_n X [(2, .int 0), (0, .ref x1), (1, .int 0)] dX16_newBody_4 rfl (by decide) rfl ?_
  refine zz_aload_n X 1 dX16_newBody_5 rfl rfl ?_
  refine zz_get X 0 43 rfl rfl (by decide) (fun w h => List.mem_cons_of_mem _ (zf_X16 w h)) rfl (List.mem_cons_of_mem _ zm_478) hf1_43 dX16_newBody_6 ?_
  refine zz_iload_n X 0 dX16_newBody_9 rfl rfl ?_
  refine zz_iconst X (-1) dX16_newBody_10 rfl ?_
  refine zz_iast X 1 1 rfl rfl (vp_in_nI (n := 0) (by decide) (by decide)) 0 (by decide) dX16_newBody_11 [(x1, .inr (16, f1)), (x2, .inl (cA 1, 7700, .inl (upd (fun _ => 0) 0 (-1)))), (x3, .inl (cA 1, 7700, .inl (fun _ => 0))), (x4, .inl (cA 1, 7700, .inl (fun _ => 0))), (x5, .inl (cA 1, 7700, .inl (fun _ => 0))), (x6, .inl (cA 1, 7700, .inl (fun _ => 0)))] rfl ?_
  refine zz_aload_n X 1 dX16_newBody_12 rfl rfl ?_
  refine zz_get X 0 44 rfl rfl (by decide) (fun w h => List.mem_cons_of_mem _ (zf_X16 w h)) rfl (List.mem_cons_of_mem _ zm_479) hf1_44 dX16_newBody_13 ?_
  refine zz_iload_n X 0 dX16_newBody_16 rfl rfl ?_
  refine zz_iconst X (-1) dX16_newBody_17 rfl ?_
  refine zz_iast X 2 1 rfl rfl (vp_in_nI (n := 0) (by decide) (by decide)) 0 (by decide) dX16_newBody_18 [(x1, .inr (16, f1)), (x2, .inl (cA 1, 7700, .inl (upd (fun _ => 0) 0 (-1)))), (x3, .inl (cA 1, 7700, .inl (upd (fun _ => 0) 0 (-1)))), (x4, .inl (cA 1, 7700, .inl (fun _ => 0))), (x5, .inl (cA 1, 7700, .inl (fun _ => 0))), (x6, .inl (cA 1, 7700, .inl (fun _ => 0)))] rfl ?_
  refine zz_aload_n X 1 dX16_newBody_19 rfl rfl ?_
  refine zz_get X 0 45 rfl rfl (by decide) (fun w h => List.mem_cons_of_mem _ (zf_X16 w h)) rfl (List.mem_cons_of_mem _ zm_480) hf1_45 dX16_newBody_20 ?_
  refine zz_iload_n X 0 dX16_newBody_23 rfl rfl ?_
  refine zz_aload_n X 1 dX16_newBody_24 rfl rfl ?_
  refine zz_get X 0 50 rfl rfl (by decide) (fun w h => List.mem_cons_of_mem _ (zf_X16 w h)) rfl (List.mem_cons_of_mem _ zm_803) hf1_50 dX16_newBody_25 ?_
  refine zz_iast X 3 1 rfl rfl (vp_in_nI (n := 0) (by decide) (by decide)) 0 (by decide) dX16_newBody_28 [(x1, .inr (16, f1)), (x2, .inl (cA 1, 7700, .inl (upd (fun _ => 0) 0 (-1)))), (x3, .inl (cA 1, 7700, .inl (upd (fun _ => 0) 0 (-1)))), (x4, .inl (cA 1, 7700, .inl (upd (fun _ => 0) 0 400))), (x5, .inl (cA 1, 7700, .inl (fun _ => 0))), (x6, .inl (cA 1, 7700, .inl (fun _ => 0)))] rfl ?_
  refine zz_aload_n X 1 dX16_newBody_29 rfl rfl ?_
  refine zz_get X 0 46 rfl rfl (by decide) (fun w h => List.mem_cons_of_mem _ (zf_X16 w h)) rfl (List.mem_cons_of_mem _ zm_481) hf1_46 dX16_newBody_30 ?_
  refine zz_iload_n X 0 dX16_newBody_33 rfl rfl ?_
  refine zz_iload_n X 2 dX16_newBody_34 rfl rfl ?_
  refine zz_iast X 4 1 rfl rfl (vp_in_nI (n := 0) (by decide) (by decide)) 0 (by decide) dX16_newBody_35 [(x1, .inr (16, f1)), (x2, .inl (cA 1, 7700, .inl (upd (fun _ => 0) 0 (-1)))), (x3, .inl (cA 1, 7700, .inl (upd (fun _ => 0) 0 (-1)))), (x4, .inl (cA 1, 7700, .inl (upd (fun _ => 0) 0 400))), (x5, .inl (cA 1, 7700, .inl (upd (fun _ => 0) 0 0))), (x6, .inl (cA 1, 7700, .inl (fun _ => 0)))] rfl ?_
  refine zz_aload_n X 1 dX16_newBody_36 rfl rfl ?_
  refine zz_get X 0 47 rfl rfl (by decide) (fun w h => List.mem_cons_of_mem _ (zf_X16 w h)) rfl (List.mem_cons_of_mem _ zm_482) hf1_47 dX16_newBody_37 ?_
  refine zz_iload_n X 0 dX16_newBody_40 rfl rfl ?_
  refine zz_iconst X 0 dX16_newBody_41 rfl ?_
  refine zz_iast X 5 1 rfl rfl (vp_in_nI (n := 0) (by decide) (by decide)) 0 (by decide) dX16_newBody_42 [(x1, .inr (16, f1)), (x2, .inl (cA 1, 7700, .inl (upd (fun _ => 0) 0 (-1)))), (x3, .inl (cA 1, 7700, .inl (upd (fun _ => 0) 0 (-1)))), (x4, .inl (cA 1, 7700, .inl (upd (fun _ => 0) 0 400))), (x5, .inl (cA 1, 7700, .inl (upd (fun _ => 0) 0 0))), (x6, .inl (cA 1, 7700, .inl (upd (fun _ => 0) 0 0)))] rfl ?_
  refine zz_aload_n X 1 dX16_newBody_43 rfl rfl ?_
  refine zz_dup X dX16_newBody_44 rfl ?_
  refine zz_get X 0 48 rfl rfl (by decide) (fun w h => List.mem_cons_of_mem _ (zf_X16 w h)) rfl (List.mem_cons_of_mem _ zm_759) hf1_48 dX16_newBody_45 ?_
  refine zz_iconst X 1 dX16_newBody_48 rfl ?_
  refine zz_iadd X (1) dX16_newBody_49 (by decide) ?_
  refine zz_put X 0 48 rfl rfl (by decide) (fun w h => List.mem_cons_of_mem _ (zf_X16 w h)) rfl (List.mem_cons_of_mem _ zm_759) tyX16 tyX16_ok nmX16 rfl (ty := .int) rfl rfl rfl (zq_lt hf1_n (by decide) (by simp only [List.length_set])) dX16_newBody_50 [(x1, .inr (16, (f1.set 48 (.int 1)))), (x2, .inl (cA 1, 7700, .inl (upd (fun _ => 0) 0 (-1)))), (x3, .inl (cA 1, 7700, .inl (upd (fun _ => 0) 0 (-1)))), (x4, .inl (cA 1, 7700, .inl (upd (fun _ => 0) 0 400))), (x5, .inl (cA 1, 7700, .inl (upd (fun _ => 0) 0 0))), (x6, .inl (cA 1, 7700, .inl (upd (fun _ => 0) 0 0)))] rfl ?_
  refine zz_iload_n X 0 dX16_newBody_53 rfl rfl ?_
  exact zz_iret X hr (()) [0, 1, 2, 3, 4, 5] (by decide) rfl rfl (Nat.le_of_ble_eq_true rfl) (Nat.le_of_ble_eq_true rfl) (rfl) dX16_newBody_54

set_option maxHeartbeats 4000000 in
set_option maxRecDepth 100000 in
/-- isKey -/
theorem kX16_isKey_3 {E : zEn} (hE : zOk E) (l : Launch) (D : va_G) (cA : Nat → ClassId) (K : Nat → Nat) (V : Nat → Nat) (x1 : Nat) (f1 : List Value) (hss : zSS E K V) (hf1_n : f1.length = 243) (hf1_28 : f1[28]? = some (.int (-1))) (hf1_23 : f1[23]? = some (.int 0)) : zMi E l yX16_isKey zwX16_isKey ({ frames := 1, cells := 0, slots := 0, locals := 20 }) D vwCl (zT cA) [.ref x1, .int 44] [(x1, .inr (16, f1))] (S := Unit) (fun (r : Int32) (u : Unit) => (r = 0)) (fun (u : Unit) => [(x1, .inr (16, f1))]) := by
  refine zz_enterz (cc := cX16_isKey) (lv := [(0, .ref x1), (1, .int 44)]) hE 2 (by decide) rfl (Nat.le_of_ble_eq_true rfl) rfl ?_
  intro p e s m args below meth c X hr hin
  refine zz_aload_n X 0 dX16_isKey_0 rfl rfl ?_
  refine zz_callVi X (rest := []) (As := []) (kX16_bad_1 hE l D cA K V x1 f1 hss (zq_len hf1_n (by simp only [List.length_set])) hf1_28) 0 (zgV zm_805 zm_806 zm_807 zm_451 zm_804) rfl (by decide +kernel) [0] [] [] rfl rfl (by decide) rfl (by decide) (by decide) ⟨Nat.le_of_ble_eq_true rfl, Nat.le_of_ble_eq_true rfl⟩ 0 rfl rfl rfl rfl rfl (Nat.le_of_ble_eq_true rfl) dX16_isKey_1 (Nat.le_of_ble_eq_true rfl) (Nat.le_of_ble_eq_true rfl) (fun r1 _ hw2 => ?_)
  obtain rfl := hw2
  refine zz_show (ws' := [(x1, .inr (16, f1))]) rfl ?_
  refine zz_if_ne X 27 dX16_isKey_4 (by decide) (fun h => absurd (by decide) h) (fun _ => ?_)
  refine zz_aload_n X 0 dX16_isKey_7 rfl rfl ?_
  refine zz_get X 0 23 rfl rfl (by decide) (fun w h => List.mem_cons_of_mem _ (zf_X16 w h)) rfl (List.mem_cons_of_mem _ zm_794) hf1_23 dX16_isKey_8 ?_
  refine zz_iconst X 3 dX16_isKey_11 rfl ?_
  refine zz_icmp_ne X 27 dX16_isKey_12 (by decide) (fun _ => ?_) (fun h => absurd h (by decide))
  refine zz_iconst X 0 dX16_isKey_27 rfl ?_
  exact zz_zret X hr (by decide) (()) [0] (by decide) rfl rfl (Nat.le_of_ble_eq_true rfl) (Nat.le_of_ble_eq_true rfl) (rfl) dX16_isKey_28

set_option maxHeartbeats 4000000 in
set_option maxRecDepth 100000 in
/-- isKey -/
theorem kX16_isKey_4 {E : zEn} (hE : zOk E) (l : Launch) (D : va_G) (cA : Nat → ClassId) (K : Nat → Nat) (V : Nat → Nat) (x1 : Nat) (f1 : List Value) (hss : zSS E K V) (hf1_n : f1.length = 243) (hf1_28 : f1[28]? = some (.int (-1))) (hf1_23 : f1[23]? = some (.int 0)) : zMi E l yX16_isKey zwX16_isKey ({ frames := 1, cells := 0, slots := 0, locals := 20 }) D vwCl (zT cA) [.ref x1, .int 52] [(x1, .inr (16, f1))] (S := Unit) (fun (r : Int32) (u : Unit) => (r = 0)) (fun (u : Unit) => [(x1, .inr (16, f1))]) := by
  refine zz_enterz (cc := cX16_isKey) (lv := [(0, .ref x1), (1, .int 52)]) hE 2 (by decide) rfl (Nat.le_of_ble_eq_true rfl) rfl ?_
  intro p e s m args below meth c X hr hin
  refine zz_aload_n X 0 dX16_isKey_0 rfl rfl ?_
  refine zz_callVi X (rest := []) (As := []) (kX16_bad_1 hE l D cA K V x1 f1 hss (zq_len hf1_n (by simp only [List.length_set])) hf1_28) 0 (zgV zm_805 zm_806 zm_807 zm_451 zm_804) rfl (by decide +kernel) [0] [] [] rfl rfl (by decide) rfl (by decide) (by decide) ⟨Nat.le_of_ble_eq_true rfl, Nat.le_of_ble_eq_true rfl⟩ 0 rfl rfl rfl rfl rfl (Nat.le_of_ble_eq_true rfl) dX16_isKey_1 (Nat.le_of_ble_eq_true rfl) (Nat.le_of_ble_eq_true rfl) (fun r1 _ hw2 => ?_)
  obtain rfl := hw2
  refine zz_show (ws' := [(x1, .inr (16, f1))]) rfl ?_
  refine zz_if_ne X 27 dX16_isKey_4 (by decide) (fun h => absurd (by decide) h) (fun _ => ?_)
  refine zz_aload_n X 0 dX16_isKey_7 rfl rfl ?_
  refine zz_get X 0 23 rfl rfl (by decide) (fun w h => List.mem_cons_of_mem _ (zf_X16 w h)) rfl (List.mem_cons_of_mem _ zm_794) hf1_23 dX16_isKey_8 ?_
  refine zz_iconst X 3 dX16_isKey_11 rfl ?_
  refine zz_icmp_ne X 27 dX16_isKey_12 (by decide) (fun _ => ?_) (fun h => absurd h (by decide))
  refine zz_iconst X 0 dX16_isKey_27 rfl ?_
  exact zz_zret X hr (by decide) (()) [0] (by decide) rfl rfl (Nat.le_of_ble_eq_true rfl) (Nat.le_of_ble_eq_true rfl) (rfl) dX16_isKey_28

set_option maxHeartbeats 4000000 in
set_option maxRecDepth 100000 in
/-- isKey -/
theorem kX16_isKey_5 {E : zEn} (hE : zOk E) (l : Launch) (D : va_G) (cA : Nat → ClassId) (K : Nat → Nat) (V : Nat → Nat) (x1 : Nat) (f1 : List Value) (hss : zSS E K V) (hf1_n : f1.length = 243) (hf1_28 : f1[28]? = some (.int (-1))) (hf1_23 : f1[23]? = some (.int 0)) : zMi E l yX16_isKey zwX16_isKey ({ frames := 1, cells := 0, slots := 0, locals := 20 }) D vwCl (zT cA) [.ref x1, .int 58] [(x1, .inr (16, f1))] (S := Unit) (fun (r : Int32) (u : Unit) => (r = 0)) (fun (u : Unit) => [(x1, .inr (16, f1))]) := by
  refine zz_enterz (cc := cX16_isKey) (lv := [(0, .ref x1), (1, .int 58)]) hE 2 (by decide) rfl (Nat.le_of_ble_eq_true rfl) rfl ?_
  intro p e s m args below meth c X hr hin
  refine zz_aload_n X 0 dX16_isKey_0 rfl rfl ?_
  refine zz_callVi X (rest := []) (As := []) (kX16_bad_1 hE l D cA K V x1 f1 hss (zq_len hf1_n (by simp only [List.length_set])) hf1_28) 0 (zgV zm_805 zm_806 zm_807 zm_451 zm_804) rfl (by decide +kernel) [0] [] [] rfl rfl (by decide) rfl (by decide) (by decide) ⟨Nat.le_of_ble_eq_true rfl, Nat.le_of_ble_eq_true rfl⟩ 0 rfl rfl rfl rfl rfl (Nat.le_of_ble_eq_true rfl) dX16_isKey_1 (Nat.le_of_ble_eq_true rfl) (Nat.le_of_ble_eq_true rfl) (fun r1 _ hw2 => ?_)
  obtain rfl := hw2
  refine zz_show (ws' := [(x1, .inr (16, f1))]) rfl ?_
  refine zz_if_ne X 27 dX16_isKey_4 (by decide) (fun h => absurd (by decide) h) (fun _ => ?_)
  refine zz_aload_n X 0 dX16_isKey_7 rfl rfl ?_
  refine zz_get X 0 23 rfl rfl (by decide) (fun w h => List.mem_cons_of_mem _ (zf_X16 w h)) rfl (List.mem_cons_of_mem _ zm_794) hf1_23 dX16_isKey_8 ?_
  refine zz_iconst X 3 dX16_isKey_11 rfl ?_
  refine zz_icmp_ne X 27 dX16_isKey_12 (by decide) (fun _ => ?_) (fun h => absurd h (by decide))
  refine zz_iconst X 0 dX16_isKey_27 rfl ?_
  exact zz_zret X hr (by decide) (()) [0] (by decide) rfl rfl (Nat.le_of_ble_eq_true rfl) (Nat.le_of_ble_eq_true rfl) (rfl) dX16_isKey_28

set_option maxHeartbeats 4000000 in
set_option maxRecDepth 100000 in
/-- isSign -/
theorem kX16_isSign_1 {E : zEn} (hE : zOk E) (l : Launch) (D : va_G) (cA : Nat → ClassId) (K : Nat → Nat) (V : Nat → Nat) (x1 : Nat) (f1 : List Value) (hss : zSS E K V) (hf1_n : f1.length = 243) (hf1_28 : f1[28]? = some (.int (-1))) (hf1_23 : f1[23]? = some (.int 0)) : zMi E l yX16_isSign zwX16_isSign ({ frames := 1, cells := 0, slots := 0, locals := 20 }) D vwCl (zT cA) [.ref x1, .int 45] [(x1, .inr (16, f1))] (S := Unit) (fun (r : Int32) (u : Unit) => (r = 0)) (fun (u : Unit) => [(x1, .inr (16, f1))]) := by
  refine zz_enterz (cc := cX16_isSign) (lv := [(0, .ref x1), (1, .int 45)]) hE 2 (by decide) rfl (Nat.le_of_ble_eq_true rfl) rfl ?_
  intro p e s m args below meth c X hr hin
  refine zz_aload_n X 0 dX16_isSign_0 rfl rfl ?_
  refine zz_callVi X (rest := []) (As := []) (kX16_bad_1 hE l D cA K V x1 f1 hss (zq_len hf1_n (by simp only [List.length_set])) hf1_28) 0 (zgV zm_805 zm_806 zm_807 zm_451 zm_804) rfl (by decide +kernel) [0] [] [] rfl rfl (by decide) rfl (by decide) (by decide) ⟨Nat.le_of_ble_eq_true rfl, Nat.le_of_ble_eq_true rfl⟩ 0 rfl rfl rfl rfl rfl (Nat.le_of_ble_eq_true rfl) dX16_isSign_1 (Nat.le_of_ble_eq_true rfl) (Nat.le_of_ble_eq_true rfl) (fun r1 _ hw2 => ?_)
  obtain rfl := hw2
  refine zz_show (ws' := [(x1, .inr (16, f1))]) rfl ?_
  refine zz_if_ne X 28 dX16_isSign_4 (by decide) (fun h => absurd (by decide) h) (fun _ => ?_)
  refine zz_aload_n X 0 dX16_isSign_7 rfl rfl ?_
  refine zz_get X 0 23 rfl rfl (by decide) (fun w h => List.mem_cons_of_mem _ (zf_X16 w h)) rfl (List.mem_cons_of_mem _ zm_794) hf1_23 dX16_isSign_8 ?_
  refine zz_bipush X 6 dX16_isSign_11 rfl ?_
  refine zz_icmp_ne X 28 dX16_isSign_13 (by decide) (fun _ => ?_) (fun h => absurd h (by decide))
  refine zz_iconst X 0 dX16_isSign_28 rfl ?_
  exact zz_zret X hr (by decide) (()) [0] (by decide) rfl rfl (Nat.le_of_ble_eq_true rfl) (Nat.le_of_ble_eq_true rfl) (rfl) dX16_isSign_29

set_option maxHeartbeats 4000000 in
set_option maxRecDepth 100000 in
/-- isSign -/
theorem kX16_isSign_2 {E : zEn} (hE : zOk E) (l : Launch) (D : va_G) (cA : Nat → ClassId) (K : Nat → Nat) (V : Nat → Nat) (x1 : Nat) (f1 : List Value) (hss : zSS E K V) (hf1_n : f1.length = 243) (hf1_28 : f1[28]? = some (.int (-1))) (hf1_23 : f1[23]? = some (.int 0)) : zMi E l yX16_isSign zwX16_isSign ({ frames := 1, cells := 0, slots := 0, locals := 20 }) D vwCl (zT cA) [.ref x1, .int 40] [(x1, .inr (16, f1))] (S := Unit) (fun (r : Int32) (u : Unit) => (r = 0)) (fun (u : Unit) => [(x1, .inr (16, f1))]) := by
  refine zz_enterz (cc := cX16_isSign) (lv := [(0, .ref x1), (1, .int 40)]) hE 2 (by decide) rfl (Nat.le_of_ble_eq_true rfl) rfl ?_
  intro p e s m args below meth c X hr hin
  refine zz_aload_n X 0 dX16_isSign_0 rfl rfl ?_
  refine zz_callVi X (rest := []) (As := []) (kX16_bad_1 hE l D cA K V x1 f1 hss (zq_len hf1_n (by simp only [List.length_set])) hf1_28) 0 (zgV zm_805 zm_806 zm_807 zm_451 zm_804) rfl (by decide +kernel) [0] [] [] rfl rfl (by decide) rfl (by decide) (by decide) ⟨Nat.le_of_ble_eq_true rfl, Nat.le_of_ble_eq_true rfl⟩ 0 rfl rfl rfl rfl rfl (Nat.le_of_ble_eq_true rfl) dX16_isSign_1 (Nat.le_of_ble_eq_true rfl) (Nat.le_of_ble_eq_true rfl) (fun r1 _ hw2 => ?_)
  obtain rfl := hw2
  refine zz_show (ws' := [(x1, .inr (16, f1))]) rfl ?_
  refine zz_if_ne X 28 dX16_isSign_4 (by decide) (fun h => absurd (by decide) h) (fun _ => ?_)
  refine zz_aload_n X 0 dX16_isSign_7 rfl rfl ?_
  refine zz_get X 0 23 rfl rfl (by decide) (fun w h => List.mem_cons_of_mem _ (zf_X16 w h)) rfl (List.mem_cons_of_mem _ zm_794) hf1_23 dX16_isSign_8 ?_
  refine zz_bipush X 6 dX16_isSign_11 rfl ?_
  refine zz_icmp_ne X 28 dX16_isSign_13 (by decide) (fun _ => ?_) (fun h => absurd h (by decide))
  refine zz_iconst X 0 dX16_isSign_28 rfl ?_
  exact zz_zret X hr (by decide) (()) [0] (by decide) rfl rfl (Nat.le_of_ble_eq_true rfl) (Nat.le_of_ble_eq_true rfl) (rfl) dX16_isSign_29

set_option maxHeartbeats 4000000 in
set_option maxRecDepth 100000 in
/-- isSign -/
theorem kX16_isSign_3 {E : zEn} (hE : zOk E) (l : Launch) (D : va_G) (cA : Nat → ClassId) (K : Nat → Nat) (V : Nat → Nat) (x1 : Nat) (f1 : List Value) (hss : zSS E K V) (hf1_n : f1.length = 243) (hf1_28 : f1[28]? = some (.int (-1))) (hf1_23 : f1[23]? = some (.int 0)) : zMi E l yX16_isSign zwX16_isSign ({ frames := 1, cells := 0, slots := 0, locals := 20 }) D vwCl (zT cA) [.ref x1, .int 91] [(x1, .inr (16, f1))] (S := Unit) (fun (r : Int32) (u : Unit) => (r = 0)) (fun (u : Unit) => [(x1, .inr (16, f1))]) := by
  refine zz_enterz (cc := cX16_isSign) (lv := [(0, .ref x1), (1, .int 91)]) hE 2 (by decide) rfl (Nat.le_of_ble_eq_true rfl) rfl ?_
  intro p e s m args below meth c X hr hin
  refine zz_aload_n X 0 dX16_isSign_0 rfl rfl ?_
  refine zz_callVi X (rest := []) (As := []) (kX16_bad_1 hE l D cA K V x1 f1 hss (zq_len hf1_n (by simp only [List.length_set])) hf1_28) 0 (zgV zm_805 zm_806 zm_807 zm_451 zm_804) rfl (by decide +kernel) [0] [] [] rfl rfl (by decide) rfl (by decide) (by decide) ⟨Nat.le_of_ble_eq_true rfl, Nat.le_of_ble_eq_true rfl⟩ 0 rfl rfl rfl rfl rfl (Nat.le_of_ble_eq_true rfl) dX16_isSign_1 (Nat.le_of_ble_eq_true rfl) (Nat.le_of_ble_eq_true rfl) (fun r1 _ hw2 => ?_)
  obtain rfl := hw2
  refine zz_show (ws' := [(x1, .inr (16, f1))]) rfl ?_
  refine zz_if_ne X 28 dX16_isSign_4 (by decide) (fun h => absurd (by decide) h) (fun _ => ?_)
  refine zz_aload_n X 0 dX16_isSign_7 rfl rfl ?_
  refine zz_get X 0 23 rfl rfl (by decide) (fun w h => List.mem_cons_of_mem _ (zf_X16 w h)) rfl (List.mem_cons_of_mem _ zm_794) hf1_23 dX16_isSign_8 ?_
  refine zz_bipush X 6 dX16_isSign_11 rfl ?_
  refine zz_icmp_ne X 28 dX16_isSign_13 (by decide) (fun _ => ?_) (fun h => absurd h (by decide))
  refine zz_iconst X 0 dX16_isSign_28 rfl ?_
  exact zz_zret X hr (by decide) (()) [0] (by decide) rfl rfl (Nat.le_of_ble_eq_true rfl) (Nat.le_of_ble_eq_true rfl) (rfl) dX16_isSign_29

set_option maxHeartbeats 4000000 in
set_option maxRecDepth 100000 in
/-- isSign -/
theorem kX16_isSign_4 {E : zEn} (hE : zOk E) (l : Launch) (D : va_G) (cA : Nat → ClassId) (K : Nat → Nat) (V : Nat → Nat) (x1 : Nat) (f1 : List Value) (hss : zSS E K V) (hf1_n : f1.length = 243) (hf1_28 : f1[28]? = some (.int (-1))) (hf1_23 : f1[23]? = some (.int 0)) : zMi E l yX16_isSign zwX16_isSign ({ frames := 1, cells := 0, slots := 0, locals := 20 }) D vwCl (zT cA) [.ref x1, .int 123] [(x1, .inr (16, f1))] (S := Unit) (fun (r : Int32) (u : Unit) => (r = 0)) (fun (u : Unit) => [(x1, .inr (16, f1))]) := by
  refine zz_enterz (cc := cX16_isSign) (lv := [(0, .ref x1), (1, .int 123)]) hE 2 (by decide) rfl (Nat.le_of_ble_eq_true rfl) rfl ?_
  intro p e s m args below meth c X hr hin
  refine zz_aload_n X 0 dX16_isSign_0 rfl rfl ?_
  refine zz_callVi X (rest := []) (As := []) (kX16_bad_1 hE l D cA K V x1 f1 hss (zq_len hf1_n (by simp only [List.length_set])) hf1_28) 0 (zgV zm_805 zm_806 zm_807 zm_451 zm_804) rfl (by decide +kernel) [0] [] [] rfl rfl (by decide) rfl (by decide) (by decide) ⟨Nat.le_of_ble_eq_true rfl, Nat.le_of_ble_eq_true rfl⟩ 0 rfl rfl rfl rfl rfl (Nat.le_of_ble_eq_true rfl) dX16_isSign_1 (Nat.le_of_ble_eq_true rfl) (Nat.le_of_ble_eq_true rfl) (fun r1 _ hw2 => ?_)
  obtain rfl := hw2
  refine zz_show (ws' := [(x1, .inr (16, f1))]) rfl ?_
  refine zz_if_ne X 28 dX16_isSign_4 (by decide) (fun h => absurd (by decide) h) (fun _ => ?_)
  refine zz_aload_n X 0 dX16_isSign_7 rfl rfl ?_
  refine zz_get X 0 23 rfl rfl (by decide) (fun w h => List.mem_cons_of_mem _ (zf_X16 w h)) rfl (List.mem_cons_of_mem _ zm_794) hf1_23 dX16_isSign_8 ?_
  refine zz_bipush X 6 dX16_isSign_11 rfl ?_
  refine zz_icmp_ne X 28 dX16_isSign_13 (by decide) (fun _ => ?_) (fun h => absurd h (by decide))
  refine zz_iconst X 0 dX16_isSign_28 rfl ?_
  exact zz_zret X hr (by decide) (()) [0] (by decide) rfl rfl (Nat.le_of_ble_eq_true rfl) (Nat.le_of_ble_eq_true rfl) (rfl) dX16_isSign_29

set_option maxHeartbeats 4000000 in
set_option maxRecDepth 100000 in
/-- isName -/
theorem kX16_isName_2 {E : zEn} (hE : zOk E) (l : Launch) (D : va_G) (cA : Nat → ClassId) (K : Nat → Nat) (V : Nat → Nat) (x1 : Nat) (f1 : List Value) (hss : zSS E K V) (hf1_n : f1.length = 243) (hf1_28 : f1[28]? = some (.int (-1))) (hf1_23 : f1[23]? = some (.int 0)) : zMi E l yX16_isName zwX16_isName ({ frames := 1, cells := 0, slots := 0, locals := 20 }) D vwCl (zT cA) [.ref x1] [(x1, .inr (16, f1))] (S := Unit) (fun (r : Int32) (u : Unit) => (r = 0)) (fun (u : Unit) => [(x1, .inr (16, f1))]) := by
  refine zz_enterz (cc := cX16_isName) (lv := [(0, .ref x1)]) hE 1 (by decide) rfl (Nat.le_of_ble_eq_true rfl) rfl ?_
  intro p e s m args below meth c X hr hin
  refine zz_aload_n X 0 dX16_isName_0 rfl rfl ?_
  refine zz_callVi X (rest := []) (As := []) (kX16_bad_1 hE l D cA K V x1 f1 hss (zq_len hf1_n (by simp only [List.length_set])) hf1_28) 0 (zgV zm_805 zm_806 zm_807 zm_451 zm_804) rfl (by decide +kernel) [0] [] [] rfl rfl (by decide) rfl (by decide) (by decide) ⟨Nat.le_of_ble_eq_true rfl, Nat.le_of_ble_eq_true rfl⟩ 0 rfl rfl rfl rfl rfl (Nat.le_of_ble_eq_true rfl) dX16_isName_1 (Nat.le_of_ble_eq_true rfl) (Nat.le_of_ble_eq_true rfl) (fun r1 _ hw2 => ?_)
  obtain rfl := hw2
  refine zz_show (ws' := [(x1, .inr (16, f1))]) rfl ?_
  refine zz_if_ne X 19 dX16_isName_4 (by decide) (fun h => absurd (by decide) h) (fun _ => ?_)
  refine zz_aload_n X 0 dX16_isName_7 rfl rfl ?_
  refine zz_get X 0 23 rfl rfl (by decide) (fun w h => List.mem_cons_of_mem _ (zf_X16 w h)) rfl (List.mem_cons_of_mem _ zm_794) hf1_23 dX16_isName_8 ?_
  refine zz_iconst X 2 dX16_isName_11 rfl ?_
  refine zz_icmp_ne X 19 dX16_isName_12 (by decide) (fun _ => ?_) (fun h => absurd h (by decide))
  refine zz_iconst X 0 dX16_isName_19 rfl ?_
  exact zz_zret X hr (by decide) (()) [0] (by decide) rfl rfl (Nat.le_of_ble_eq_true rfl) (Nat.le_of_ble_eq_true rfl) (rfl) dX16_isName_20

set_option maxHeartbeats 4000000 in
set_option maxRecDepth 100000 in
/-- term -/
theorem kX16_term_1 {E : zEn} (hE : zOk E) (l : Launch) (D : va_G) (cA : Nat → ClassId) (K : Nat → Nat) (V : Nat → Nat) (x1 : Nat) (f1 : List Value) (hss : zSS E K V) (hf1_n : f1.length = 243) (hf1_28 : f1[28]? = some (.int (-1))) (hf1_25 : f1[25]? = some (.int 0)) (hf1_23 : f1[23]? = some (.int 0)) : zMi E l yX16_term zwX16_term ({ frames := 2, cells := 0, slots := 0, locals := 41 }) D vwCl (zT cA) [.ref x1] [(x1, .inr (16, f1))] (S := Unit) (fun (r : Int32) (u : Unit) => (r = (-1))) (fun (u : Unit) => [(x1, .inr (16, (f1.set 28 (.int 0))))]) := by
  refine zz_enteri (cc := cX16_term) (lv := [(0, .ref x1)]) hE 3 (by decide) rfl (Nat.le_of_ble_eq_true rfl) rfl ?_
  intro p e s m args below meth c X hr hin
  refine zz_aload_n X 0 dX16_term_0 rfl rfl ?_
  refine zz_callVi X (rest := []) (As := []) (kX16_bad_1 hE l D cA K V x1 f1 hss (zq_len hf1_n (by simp only [List.length_set])) hf1_28) 0 (zgV zm_805 zm_806 zm_807 zm_451 zm_804) rfl (by decide +kernel) [0] [] [] rfl rfl (by decide) rfl (by decide) (by decide) ⟨Nat.le_of_ble_eq_true rfl, Nat.le_of_ble_eq_true rfl⟩ 0 rfl rfl rfl rfl rfl (Nat.le_of_ble_eq_true rfl) dX16_term_1 (Nat.le_of_ble_eq_true rfl) (Nat.le_of_ble_eq_true rfl) (fun r1 _ hw2 => ?_)
  obtain rfl := hw2
  refine zz_show (ws' := [(x1, .inr (16, f1))]) rfl ?_
  refine zz_if_eq X 9 dX16_term_4 (by decide) (fun _ => ?_) (fun h => absurd (by decide) h)
  refine zz_aload_n X 0 dX16_term_9 rfl rfl ?_
  refine zz_get X 0 25 rfl rfl (by decide) (fun w h => List.mem_cons_of_mem _ (zf_X16 w h)) rfl (List.mem_cons_of_mem _ zm_791) hf1_25 dX16_term_10 ?_
  refine zz_istore_n X [(1, .int 0), (0, .ref x1)] dX16_term_13 rfl (by decide) rfl ?_
  refine zz_aload_n X 1 dX16_term_14 rfl rfl ?_
  refine zz_get X 0 23 rfl rfl (by decide) (fun w h => List.mem_cons_of_mem _ (zf_X16 w h)) rfl (List.mem_cons_of_mem _ zm_794) hf1_23 dX16_term_15 ?_
  refine zz_iconst X 3 dX16_term_18 rfl ?_
  refine zz_icmp_ne X 71 dX16_term_19 (by decide) (fun _ => ?_) (fun h => absurd h (by decide))
  refine zz_aload_n X 1 dX16_term_71 rfl rfl ?_
  refine zz_get X 0 23 rfl rfl (by decide) (fun w h => List.mem_cons_of_mem _ (zf_X16 w h)) rfl (List.mem_cons_of_mem _ zm_794) hf1_23 dX16_term_72 ?_
  refine zz_iconst X 4 dX16_term_75 rfl ?_
  refine zz_icmp_eq X 87 dX16_term_76 (by decide) (fun h => absurd h (by decide)) (fun _ => ?_)
  refine zz_aload_n X 1 dX16_term_79 rfl rfl ?_
  refine zz_get X 0 23 rfl rfl (by decide) (fun w h => List.mem_cons_of_mem _ (zf_X16 w h)) rfl (List.mem_cons_of_mem _ zm_794) hf1_23 dX16_term_80 ?_
  refine zz_iconst X 5 dX16_term_83 rfl ?_
  refine zz_icmp_ne X 94 dX16_term_84 (by decide) (fun _ => ?_) (fun h => absurd h (by decide))
  refine zz_aload_n X 1 dX16_term_94 rfl rfl ?_
  refine zz_bipush X 45 dX16_term_95 rfl ?_
  refine zz_callVi X (rest := []) (As := [.int 45]) (kX16_isSign_1 hE l D cA K V x1 f1 hss (zq_len hf1_n (by simp only [List.length_set])) hf1_28 hf1_23) 1 (zgV zm_1047 zm_1048 zm_1049 zm_451 zm_1046) rfl (by decide +kernel) [0] [] [] rfl rfl (by decide) rfl (by decide) (by decide) ⟨Nat.le_of_ble_eq_true rfl, Nat.le_of_ble_eq_true rfl⟩ 0 rfl rfl rfl rfl rfl (Nat.le_of_ble_eq_true rfl) dX16_term_97 (Nat.le_of_ble_eq_true rfl) (Nat.le_of_ble_eq_true rfl) (fun r3 _ hw4 => ?_)
  obtain rfl := hw4
  refine zz_show (ws' := [(x1, .inr (16, f1))]) rfl ?_
  refine zz_if_eq X 142 dX16_term_100 (by decide) (fun _ => ?_) (fun h => absurd (by decide) h)
  refine zz_aload_n X 1 dX16_term_142 rfl rfl ?_
  refine zz_bipush X 40 dX16_term_143 rfl ?_
  refine zz_callVi X (rest := []) (As := [.int 40]) (kX16_isSign_2 hE l D cA K V x1 f1 hss (zq_len hf1_n (by simp only [List.length_set])) hf1_28 hf1_23) 1 (zgV zm_1047 zm_1048 zm_1049 zm_451 zm_1046) rfl (by decide +kernel) [0] [] [] rfl rfl (by decide) rfl (by decide) (by decide) ⟨Nat.le_of_ble_eq_true rfl, Nat.le_of_ble_eq_true rfl⟩ 0 rfl rfl rfl rfl rfl (Nat.le_of_ble_eq_true rfl) dX16_term_145 (Nat.le_of_ble_eq_true rfl) (Nat.le_of_ble_eq_true rfl) (fun r5 _ hw6 => ?_)
  obtain rfl := hw6
  refine zz_show (ws' := [(x1, .inr (16, f1))]) rfl ?_
  refine zz_if_eq X 193 dX16_term_148 (by decide) (fun _ => ?_) (fun h => absurd (by decide) h)
  refine zz_aload_n X 1 dX16_term_193 rfl rfl ?_
  refine zz_bipush X 91 dX16_term_194 rfl ?_
  refine zz_callVi X (rest := []) (As := [.int 91]) (kX16_isSign_3 hE l D cA K V x1 f1 hss (zq_len hf1_n (by simp only [List.length_set])) hf1_28 hf1_23) 1 (zgV zm_1047 zm_1048 zm_1049 zm_451 zm_1046) rfl (by decide +kernel) [0] [] [] rfl rfl (by decide) rfl (by decide) (by decide) ⟨Nat.le_of_ble_eq_true rfl, Nat.le_of_ble_eq_true rfl⟩ 0 rfl rfl rfl rfl rfl (Nat.le_of_ble_eq_true rfl) dX16_term_196 (Nat.le_of_ble_eq_true rfl) (Nat.le_of_ble_eq_true rfl) (fun r7 _ hw8 => ?_)
  obtain rfl := hw8
  refine zz_show (ws' := [(x1, .inr (16, f1))]) rfl ?_
  refine zz_if_eq X 208 dX16_term_199 (by decide) (fun _ => ?_) (fun h => absurd (by decide) h)
  refine zz_aload_n X 1 dX16_term_208 rfl rfl ?_
  refine zz_bipush X 123 dX16_term_209 rfl ?_
  refine zz_callVi X (rest := []) (As := [.int 123]) (kX16_isSign_4 hE l D cA K V x1 f1 hss (zq_len hf1_n (by simp only [List.length_set])) hf1_28 hf1_23) 1 (zgV zm_1047 zm_1048 zm_1049 zm_451 zm_1046) rfl (by decide +kernel) [0] [] [] rfl rfl (by decide) rfl (by decide) (by decide) ⟨Nat.le_of_ble_eq_true rfl, Nat.le_of_ble_eq_true rfl⟩ 0 rfl rfl rfl rfl rfl (Nat.le_of_ble_eq_true rfl) dX16_term_211 (Nat.le_of_ble_eq_true rfl) (Nat.le_of_ble_eq_true rfl) (fun r9 _ hw10 => ?_)
  obtain rfl := hw10
  refine zz_show (ws' := [(x1, .inr (16, f1))]) rfl ?_
  refine zz_if_eq X 223 dX16_term_214 (by decide) (fun _ => ?_) (fun h => absurd (by decide) h)
  refine zz_aload_n X 1 dX16_term_223 rfl rfl ?_
  refine zz_callVi X (rest := []) (As := []) (kX16_isName_2 hE l D cA K V x1 f1 hss (zq_len hf1_n (by simp only [List.length_set])) hf1_28 hf1_23) 0 (zgV zm_821 zm_822 zm_823 zm_451 zm_820) rfl (by decide +kernel) [0] [] [] rfl rfl (by decide) rfl (by decide) (by decide) ⟨Nat.le_of_ble_eq_true rfl, Nat.le_of_ble_eq_true rfl⟩ 0 rfl rfl rfl rfl rfl (Nat.le_of_ble_eq_true rfl) dX16_term_224 (Nat.le_of_ble_eq_true rfl) (Nat.le_of_ble_eq_true rfl) (fun r11 _ hw12 => ?_)
  obtain rfl := hw12
  refine zz_show (ws' := [(x1, .inr (16, f1))]) rfl ?_
  refine zz_if_eq X 251 dX16_term_227 (by decide) (fun _ => ?_) (fun h => absurd (by decide) h)
  refine zz_aload_n X 1 dX16_term_251 rfl rfl ?_
  refine zz_iload_n X 0 dX16_term_252 rfl rfl ?_
  refine zz_callVv X (rest := []) (As := [.int 0]) (kX16_fail_1 hE l D cA K V x1 f1 hss (zq_len hf1_n (by simp only [List.length_set])) hf1_28) 1 (zgV zm_813 zm_814 zm_815 zm_451 zm_812) rfl (by decide +kernel) [0] [] [] rfl rfl (by decide) rfl (by decide) (by decide) ⟨Nat.le_of_ble_eq_true rfl, Nat.le_of_ble_eq_true rfl⟩ 0 rfl rfl rfl rfl rfl (Nat.le_of_ble_eq_true rfl) dX16_term_253 (Nat.le_of_ble_eq_true rfl) (Nat.le_of_ble_eq_true rfl) (fun _ hw13 => ?_)
  refine zz_show (ws' := [(x1, .inr (16, (f1.set 28 (.int 0))))]) rfl ?_
  refine zz_iconst X (-1) dX16_term_256 rfl ?_
  exact zz_iret X hr (()) [0] (by decide) rfl rfl (Nat.le_of_ble_eq_true rfl) (Nat.le_of_ble_eq_true rfl) (rfl) dX16_term_257

set_option maxHeartbeats 4000000 in
set_option maxRecDepth 100000 in
/-- isOf -/
theorem kX16_isOf_1 {E : zEn} (hE : zOk E) (l : Launch) (D : va_G) (cA : Nat → ClassId) (K : Nat → Nat) (V : Nat → Nat) (x1 : Nat) (f1 : List Value) (hss : zSS E K V) (hf1_n : f1.length = 243) (hf1_28 : f1[28]? = some (.int 0)) : zMi E l yX16_isOf zwX16_isOf ({ frames := 1, cells := 0, slots := 0, locals := 20 }) D vwCl (zT cA) [.ref x1, .int 3] [(x1, .inr (16, f1))] (S := Unit) (fun (r : Int32) (u : Unit) => (r = 0)) (fun (u : Unit) => [(x1, .inr (16, f1))]) := by
  refine zz_enterz (cc := cX16_isOf) (lv := [(0, .ref x1), (1, .int 3)]) hE 2 (by decide) rfl (Nat.le_of_ble_eq_true rfl) rfl ?_
  intro p e s m args below meth c X hr hin
  refine zz_aload_n X 0 dX16_isOf_0 rfl rfl ?_
  refine zz_callVi X (rest := []) (As := []) (kX16_bad_2 hE l D cA K V x1 f1 hss (zq_len hf1_n (by simp only [List.length_set])) hf1_28) 0 (zgV zm_805 zm_806 zm_807 zm_451 zm_804) rfl (by decide +kernel) [0] [] [] rfl rfl (by decide) rfl (by decide) (by decide) ⟨Nat.le_of_ble_eq_true rfl, Nat.le_of_ble_eq_true rfl⟩ 0 rfl rfl rfl rfl rfl (Nat.le_of_ble_eq_true rfl) dX16_isOf_1 (Nat.le_of_ble_eq_true rfl) (Nat.le_of_ble_eq_true rfl) (fun r1 _ hw2 => ?_)
  obtain rfl := hw2
  refine zz_show (ws' := [(x1, .inr (16, f1))]) rfl ?_
  refine zz_if_ne X 16 dX16_isOf_4 (by decide) (fun _ => ?_) (fun h => absurd h (by decide))
  refine zz_iconst X 0 dX16_isOf_16 rfl ?_
  exact zz_zret X hr (by decide) (()) [0] (by decide) rfl rfl (Nat.le_of_ble_eq_true rfl) (Nat.le_of_ble_eq_true rfl) (rfl) dX16_isOf_17

set_option maxHeartbeats 4000000 in
set_option maxRecDepth 100000 in
/-- chain -/
theorem kX16_chain_1 {E : zEn} (hE : zOk E) (l : Launch) (D : va_G) (cA : Nat → ClassId) (K : Nat → Nat) (V : Nat → Nat) (x1 : Nat) (f1 : List Value) (hss : zSS E K V) (hf1_n : f1.length = 243) (hf1_25 : f1[25]? = some (.int 0)) (hf1_28 : f1[28]? = some (.int (-1))) (hf1_23 : f1[23]? = some (.int 0)) : zMi E l yX16_chain zwX16_chain ({ frames := 3, cells := 0, slots := 0, locals := 63 }) D vwCl (zT cA) [.ref x1, .int 3] [(x1, .inr (16, f1))] (S := Unit) (fun (r : Int32) (u : Unit) => (r = (-1))) (fun (u : Unit) => [(x1, .inr (16, (f1.set 28 (.int 0))))]) := by
  refine zz_enteri (cc := cX16_chain) (lv := [(0, .ref x1), (1, .int 3)]) hE 10 (by decide) rfl (Nat.le_of_ble_eq_true rfl) rfl ?_
  intro p e s m args below meth c X hr hin
  refine zz_aload_n X 0 dX16_chain_0 rfl rfl ?_
  refine zz_get X 0 25 rfl rfl (by decide) (fun w h => List.mem_cons_of_mem _ (zf_X16 w h)) rfl (List.mem_cons_of_mem _ zm_791) hf1_25 dX16_chain_1 ?_
  refine zz_istore_n X [(2, .int 0), (0, .ref x1), (1, .int 3)] dX16_chain_4 rfl (by decide) rfl ?_
  refine zz_iload_n X 2 dX16_chain_5 rfl rfl ?_
  refine zz_iconst X 3 dX16_chain_6 rfl ?_
  refine zz_icmp_ne X 17 dX16_chain_7 (by decide) (fun h => absurd (by decide) h) (fun _ => ?_)
  refine zz_aload_n X 1 dX16_chain_10 rfl rfl ?_
  refine zz_callVi X (rest := []) (As := []) (kX16_term_1 hE l D cA K V x1 f1 hss (zq_len hf1_n (by simp only [List.length_set])) hf1_28 hf1_25 hf1_23) 0 (zgV zm_1051 zm_1052 zm_1053 zm_451 zm_1050) rfl (by decide +kernel) [0] [] [] rfl rfl (by decide) rfl (by decide) (by decide) ⟨Nat.le_of_ble_eq_true rfl, Nat.le_of_ble_eq_true rfl⟩ 0 rfl rfl rfl rfl rfl (Nat.le_of_ble_eq_true rfl) dX16_chain_11 (Nat.le_of_ble_eq_true rfl) (Nat.le_of_ble_eq_true rfl) (fun r1 _ hw2 => ?_)
  obtain rfl := hw2
  refine zz_show (ws' := [(x1, .inr (16, (f1.set 28 (.int 0))))]) rfl ?_
  refine zz_goto X 24 dX16_chain_14 (by decide) ?_
  refine zz_istore_n X [(3, .int (-1)), (2, .int 0), (0, .ref x1), (1, .int 3)] dX16_chain_24 rfl (by decide) rfl ?_
  refine zz_aload_n X 2 dX16_chain_25 rfl rfl ?_
  refine zz_iload_n X 3 dX16_chain_26 rfl rfl ?_
  refine zz_callVi X (rest := []) (As := [.int 3]) (kX16_isOf_1 hE l D cA K V x1 (f1.set 28 (.int 0)) hss (zq_len hf1_n (by simp only [List.length_set])) (zq_same (zq_lt hf1_n (by decide) (by simp only [List.length_set])))) 1 (zgV zm_1055 zm_1056 zm_1057 zm_451 zm_1054) rfl (by decide +kernel) [0] [] [] rfl rfl (by decide) rfl (by decide) (by decide) ⟨Nat.le_of_ble_eq_true rfl, Nat.le_of_ble_eq_true rfl⟩ 0 rfl rfl rfl rfl rfl (Nat.le_of_ble_eq_true rfl) dX16_chain_27 (Nat.le_of_ble_eq_true rfl) (Nat.le_of_ble_eq_true rfl) (fun r3 _ hw4 => ?_)
  obtain rfl := hw4
  refine zz_show (ws' := [(x1, .inr (16, (f1.set 28 (.int 0))))]) rfl ?_
  refine zz_if_ne X 35 dX16_chain_30 (by decide) (fun h => absurd (by decide) h) (fun _ => ?_)
  refine zz_iload_n X 0 dX16_chain_33 rfl rfl ?_
  exact zz_iret X hr (()) [0] (by decide) rfl rfl (Nat.le_of_ble_eq_true rfl) (Nat.le_of_ble_eq_true rfl) (rfl) dX16_chain_34

set_option maxHeartbeats 4000000 in
set_option maxRecDepth 100000 in
/-- isOf -/
theorem kX16_isOf_2 {E : zEn} (hE : zOk E) (l : Launch) (D : va_G) (cA : Nat → ClassId) (K : Nat → Nat) (V : Nat → Nat) (x1 : Nat) (f1 : List Value) (hss : zSS E K V) (hf1_n : f1.length = 243) (hf1_28 : f1[28]? = some (.int 0)) : zMi E l yX16_isOf zwX16_isOf ({ frames := 1, cells := 0, slots := 0, locals := 20 }) D vwCl (zT cA) [.ref x1, .int 2] [(x1, .inr (16, f1))] (S := Unit) (fun (r : Int32) (u : Unit) => (r = 0)) (fun (u : Unit) => [(x1, .inr (16, f1))]) := by
  refine zz_enterz (cc := cX16_isOf) (lv := [(0, .ref x1), (1, .int 2)]) hE 2 (by decide) rfl (Nat.le_of_ble_eq_true rfl) rfl ?_
  intro p e s m args below meth c X hr hin
  refine zz_aload_n X 0 dX16_isOf_0 rfl rfl ?_
  refine zz_callVi X (rest := []) (As := []) (kX16_bad_2 hE l D cA K V x1 f1 hss (zq_len hf1_n (by simp only [List.length_set])) hf1_28) 0 (zgV zm_805 zm_806 zm_807 zm_451 zm_804) rfl (by decide +kernel) [0] [] [] rfl rfl (by decide) rfl (by decide) (by decide) ⟨Nat.le_of_ble_eq_true rfl, Nat.le_of_ble_eq_true rfl⟩ 0 rfl rfl rfl rfl rfl (Nat.le_of_ble_eq_true rfl) dX16_isOf_1 (Nat.le_of_ble_eq_true rfl) (Nat.le_of_ble_eq_true rfl) (fun r1 _ hw2 => ?_)
  obtain rfl := hw2
  refine zz_show (ws' := [(x1, .inr (16, f1))]) rfl ?_
  refine zz_if_ne X 16 dX16_isOf_4 (by decide) (fun _ => ?_) (fun h => absurd h (by decide))
  refine zz_iconst X 0 dX16_isOf_16 rfl ?_
  exact zz_zret X hr (by decide) (()) [0] (by decide) rfl rfl (Nat.le_of_ble_eq_true rfl) (Nat.le_of_ble_eq_true rfl) (rfl) dX16_isOf_17

set_option maxHeartbeats 4000000 in
set_option maxRecDepth 100000 in
/-- chain -/
theorem kX16_chain_2 {E : zEn} (hE : zOk E) (l : Launch) (D : va_G) (cA : Nat → ClassId) (K : Nat → Nat) (V : Nat → Nat) (x1 : Nat) (f1 : List Value) (hss : zSS E K V) (hf1_n : f1.length = 243) (hf1_25 : f1[25]? = some (.int 0)) (hf1_28 : f1[28]? = some (.int (-1))) (hf1_23 : f1[23]? = some (.int 0)) : zMi E l yX16_chain zwX16_chain ({ frames := 4, cells := 0, slots := 0, locals := 92 }) D vwCl (zT cA) [.ref x1, .int 2] [(x1, .inr (16, f1))] (S := Unit) (fun (r : Int32) (u : Unit) => (r = (-1))) (fun (u : Unit) => [(x1, .inr (16, (f1.set 28 (.int 0))))]) := by
  refine zz_enteri (cc := cX16_chain) (lv := [(0, .ref x1), (1, .int 2)]) hE 10 (by decide) rfl (Nat.le_of_ble_eq_true rfl) rfl ?_
  intro p e s m args below meth c X hr hin
  refine zz_aload_n X 0 dX16_chain_0 rfl rfl ?_
  refine zz_get X 0 25 rfl rfl (by decide) (fun w h => List.mem_cons_of_mem _ (zf_X16 w h)) rfl (List.mem_cons_of_mem _ zm_791) hf1_25 dX16_chain_1 ?_
  refine zz_istore_n X [(2, .int 0), (0, .ref x1), (1, .int 2)] dX16_chain_4 rfl (by decide) rfl ?_
  refine zz_iload_n X 2 dX16_chain_5 rfl rfl ?_
  refine zz_iconst X 3 dX16_chain_6 rfl ?_
  refine zz_icmp_ne X 17 dX16_chain_7 (by decide) (fun _ => ?_) (fun h => absurd h (by decide))
  refine zz_aload_n X 1 dX16_chain_17 rfl rfl ?_
  refine zz_iload_n X 2 dX16_chain_18 rfl rfl ?_
  refine zz_iconst X 1 dX16_chain_19 rfl ?_
  refine zz_iadd X (3) dX16_chain_20 (by decide) ?_
  refine zz_callVi X (rest := []) (As := [.int 3]) (kX16_chain_1 hE l D cA K V x1 f1 hss (zq_len hf1_n (by simp only [List.length_set])) hf1_25 hf1_28 hf1_23) 1 (zgV zm_1059 zm_1060 zm_1061 zm_451 zm_1058) rfl (by decide +kernel) [0] [] [] rfl rfl (by decide) rfl (by decide) (by decide) ⟨Nat.le_of_ble_eq_true rfl, Nat.le_of_ble_eq_true rfl⟩ 0 rfl rfl rfl rfl rfl (Nat.le_of_ble_eq_true rfl) dX16_chain_21 (Nat.le_of_ble_eq_true rfl) (Nat.le_of_ble_eq_true rfl) (fun r1 _ hw2 => ?_)
  obtain rfl := hw2
  refine zz_show (ws' := [(x1, .inr (16, (f1.set 28 (.int 0))))]) rfl ?_
  refine zz_istore_n X [(3, .int (-1)), (2, .int 0), (0, .ref x1), (1, .int 2)] dX16_chain_24 rfl (by decide) rfl ?_
  refine zz_aload_n X 2 dX16_chain_25 rfl rfl ?_
  refine zz_iload_n X 3 dX16_chain_26 rfl rfl ?_
  refine zz_callVi X (rest := []) (As := [.int 2]) (kX16_isOf_2 hE l D cA K V x1 (f1.set 28 (.int 0)) hss (zq_len hf1_n (by simp only [List.length_set])) (zq_same (zq_lt hf1_n (by decide) (by simp only [List.length_set])))) 1 (zgV zm_1055 zm_1056 zm_1057 zm_451 zm_1054) rfl (by decide +kernel) [0] [] [] rfl rfl (by decide) rfl (by decide) (by decide) ⟨Nat.le_of_ble_eq_true rfl, Nat.le_of_ble_eq_true rfl⟩ 0 rfl rfl rfl rfl rfl (Nat.le_of_ble_eq_true rfl) dX16_chain_27 (Nat.le_of_ble_eq_true rfl) (Nat.le_of_ble_eq_true rfl) (fun r3 _ hw4 => ?_)
  obtain rfl := hw4
  refine zz_show (ws' := [(x1, .inr (16, (f1.set 28 (.int 0))))]) rfl ?_
  refine zz_if_ne X 35 dX16_chain_30 (by decide) (fun h => absurd (by decide) h) (fun _ => ?_)
  refine zz_iload_n X 0 dX16_chain_33 rfl rfl ?_
  exact zz_iret X hr (()) [0] (by decide) rfl rfl (Nat.le_of_ble_eq_true rfl) (Nat.le_of_ble_eq_true rfl) (rfl) dX16_chain_34

set_option maxHeartbeats 4000000 in
set_option maxRecDepth 100000 in
/-- isOf -/
theorem kX16_isOf_3 {E : zEn} (hE : zOk E) (l : Launch) (D : va_G) (cA : Nat → ClassId) (K : Nat → Nat) (V : Nat → Nat) (x1 : Nat) (f1 : List Value) (hss : zSS E K V) (hf1_n : f1.length = 243) (hf1_28 : f1[28]? = some (.int 0)) : zMi E l yX16_isOf zwX16_isOf ({ frames := 1, cells := 0, slots := 0, locals := 20 }) D vwCl (zT cA) [.ref x1, .int 1] [(x1, .inr (16, f1))] (S := Unit) (fun (r : Int32) (u : Unit) => (r = 0)) (fun (u : Unit) => [(x1, .inr (16, f1))]) := by
  refine zz_enterz (cc := cX16_isOf) (lv := [(0, .ref x1), (1, .int 1)]) hE 2 (by decide) rfl (Nat.le_of_ble_eq_true rfl) rfl ?_
  intro p e s m args below meth c X hr hin
  refine zz_aload_n X 0 dX16_isOf_0 rfl rfl ?_
  refine zz_callVi X (rest := []) (As := []) (kX16_bad_2 hE l D cA K V x1 f1 hss (zq_len hf1_n (by simp only [List.length_set])) hf1_28) 0 (zgV zm_805 zm_806 zm_807 zm_451 zm_804) rfl (by decide +kernel) [0] [] [] rfl rfl (by decide) rfl (by decide) (by decide) ⟨Nat.le_of_ble_eq_true rfl, Nat.le_of_ble_eq_true rfl⟩ 0 rfl rfl rfl rfl rfl (Nat.le_of_ble_eq_true rfl) dX16_isOf_1 (Nat.le_of_ble_eq_true rfl) (Nat.le_of_ble_eq_true rfl) (fun r1 _ hw2 => ?_)
  obtain rfl := hw2
  refine zz_show (ws' := [(x1, .inr (16, f1))]) rfl ?_
  refine zz_if_ne X 16 dX16_isOf_4 (by decide) (fun _ => ?_) (fun h => absurd h (by decide))
  refine zz_iconst X 0 dX16_isOf_16 rfl ?_
  exact zz_zret X hr (by decide) (()) [0] (by decide) rfl rfl (Nat.le_of_ble_eq_true rfl) (Nat.le_of_ble_eq_true rfl) (rfl) dX16_isOf_17

set_option maxHeartbeats 4000000 in
set_option maxRecDepth 100000 in
/-- chain -/
theorem kX16_chain_3 {E : zEn} (hE : zOk E) (l : Launch) (D : va_G) (cA : Nat → ClassId) (K : Nat → Nat) (V : Nat → Nat) (x1 : Nat) (f1 : List Value) (hss : zSS E K V) (hf1_n : f1.length = 243) (hf1_25 : f1[25]? = some (.int 0)) (hf1_28 : f1[28]? = some (.int (-1))) (hf1_23 : f1[23]? = some (.int 0)) : zMi E l yX16_chain zwX16_chain ({ frames := 5, cells := 0, slots := 0, locals := 121 }) D vwCl (zT cA) [.ref x1, .int 1] [(x1, .inr (16, f1))] (S := Unit) (fun (r : Int32) (u : Unit) => (r = (-1))) (fun (u : Unit) => [(x1, .inr (16, (f1.set 28 (.int 0))))]) := by
  refine zz_enteri (cc := cX16_chain) (lv := [(0, .ref x1), (1, .int 1)]) hE 10 (by decide) rfl (Nat.le_of_ble_eq_true rfl) rfl ?_
  intro p e s m args below meth c X hr hin
  refine zz_aload_n X 0 dX16_chain_0 rfl rfl ?_
  refine zz_get X 0 25 rfl rfl (by decide) (fun w h => List.mem_cons_of_mem _ (zf_X16 w h)) rfl (List.mem_cons_of_mem _ zm_791) hf1_25 dX16_chain_1 ?_
  refine zz_istore_n X [(2, .int 0), (0, .ref x1), (1, .int 1)] dX16_chain_4 rfl (by decide) rfl ?_
  refine zz_iload_n X 2 dX16_chain_5 rfl rfl ?_
  refine zz_iconst X 3 dX16_chain_6 rfl ?_
  refine zz_icmp_ne X 17 dX16_chain_7 (by decide) (fun _ => ?_) (fun h => absurd h (by decide))
  refine zz_aload_n X 1 dX16_chain_17 rfl rfl ?_
  refine zz_iload_n X 2 dX16_chain_18 rfl rfl ?_
  refine zz_iconst X 1 dX16_chain_19 rfl ?_
  refine zz_iadd X (2) dX16_chain_20 (by decide) ?_
  refine zz_callVi X (rest := []) (As := [.int 2]) (kX16_chain_2 hE l D cA K V x1 f1 hss (zq_len hf1_n (by simp only [List.length_set])) hf1_25 hf1_28 hf1_23) 1 (zgV zm_1059 zm_1060 zm_1061 zm_451 zm_1058) rfl (by decide +kernel) [0] [] [] rfl rfl (by decide) rfl (by decide) (by decide) ⟨Nat.le_of_ble_eq_true rfl, Nat.le_of_ble_eq_true rfl⟩ 0 rfl rfl rfl rfl rfl (Nat.le_of_ble_eq_true rfl) dX16_chain_21 (Nat.le_of_ble_eq_true rfl) (Nat.le_of_ble_eq_true rfl) (fun r1 _ hw2 => ?_)
  obtain rfl := hw2
  refine zz_show (ws' := [(x1, .inr (16, (f1.set 28 (.int 0))))]) rfl ?_
  refine zz_istore_n X [(3, .int (-1)), (2, .int 0), (0, .ref x1), (1, .int 1)] dX16_chain_24 rfl (by decide) rfl ?_
  refine zz_aload_n X 2 dX16_chain_25 rfl rfl ?_
  refine zz_iload_n X 3 dX16_chain_26 rfl rfl ?_
  refine zz_callVi X (rest := []) (As := [.int 1]) (kX16_isOf_3 hE l D cA K V x1 (f1.set 28 (.int 0)) hss (zq_len hf1_n (by simp only [List.length_set])) (zq_same (zq_lt hf1_n (by decide) (by simp only [List.length_set])))) 1 (zgV zm_1055 zm_1056 zm_1057 zm_451 zm_1054) rfl (by decide +kernel) [0] [] [] rfl rfl (by decide) rfl (by decide) (by decide) ⟨Nat.le_of_ble_eq_true rfl, Nat.le_of_ble_eq_true rfl⟩ 0 rfl rfl rfl rfl rfl (Nat.le_of_ble_eq_true rfl) dX16_chain_27 (Nat.le_of_ble_eq_true rfl) (Nat.le_of_ble_eq_true rfl) (fun r3 _ hw4 => ?_)
  obtain rfl := hw4
  refine zz_show (ws' := [(x1, .inr (16, (f1.set 28 (.int 0))))]) rfl ?_
  refine zz_if_ne X 35 dX16_chain_30 (by decide) (fun h => absurd (by decide) h) (fun _ => ?_)
  refine zz_iload_n X 0 dX16_chain_33 rfl rfl ?_
  exact zz_iret X hr (()) [0] (by decide) rfl rfl (Nat.le_of_ble_eq_true rfl) (Nat.le_of_ble_eq_true rfl) (rfl) dX16_chain_34

set_option maxHeartbeats 4000000 in
set_option maxRecDepth 100000 in
/-- isOf -/
theorem kX16_isOf_4 {E : zEn} (hE : zOk E) (l : Launch) (D : va_G) (cA : Nat → ClassId) (K : Nat → Nat) (V : Nat → Nat) (x1 : Nat) (f1 : List Value) (hss : zSS E K V) (hf1_n : f1.length = 243) (hf1_28 : f1[28]? = some (.int 0)) : zMi E l yX16_isOf zwX16_isOf ({ frames := 1, cells := 0, slots := 0, locals := 20 }) D vwCl (zT cA) [.ref x1, .int 0] [(x1, .inr (16, f1))] (S := Unit) (fun (r : Int32) (u : Unit) => (r = 0)) (fun (u : Unit) => [(x1, .inr (16, f1))]) := by
  refine zz_enterz (cc := cX16_isOf) (lv := [(0, .ref x1), (1, .int 0)]) hE 2 (by decide) rfl (Nat.le_of_ble_eq_true rfl) rfl ?_
  intro p e s m args below meth c X hr hin
  refine zz_aload_n X 0 dX16_isOf_0 rfl rfl ?_
  refine zz_callVi X (rest := []) (As := []) (kX16_bad_2 hE l D cA K V x1 f1 hss (zq_len hf1_n (by simp only [List.length_set])) hf1_28) 0 (zgV zm_805 zm_806 zm_807 zm_451 zm_804) rfl (by decide +kernel) [0] [] [] rfl rfl (by decide) rfl (by decide) (by decide) ⟨Nat.le_of_ble_eq_true rfl, Nat.le_of_ble_eq_true rfl⟩ 0 rfl rfl rfl rfl rfl (Nat.le_of_ble_eq_true rfl) dX16_isOf_1 (Nat.le_of_ble_eq_true rfl) (Nat.le_of_ble_eq_true rfl) (fun r1 _ hw2 => ?_)
  obtain rfl := hw2
  refine zz_show (ws' := [(x1, .inr (16, f1))]) rfl ?_
  refine zz_if_ne X 16 dX16_isOf_4 (by decide) (fun _ => ?_) (fun h => absurd h (by decide))
  refine zz_iconst X 0 dX16_isOf_16 rfl ?_
  exact zz_zret X hr (by decide) (()) [0] (by decide) rfl rfl (Nat.le_of_ble_eq_true rfl) (Nat.le_of_ble_eq_true rfl) (rfl) dX16_isOf_17

set_option maxHeartbeats 4000000 in
set_option maxRecDepth 100000 in
/-- chain -/
theorem kX16_chain_4 {E : zEn} (hE : zOk E) (l : Launch) (D : va_G) (cA : Nat → ClassId) (K : Nat → Nat) (V : Nat → Nat) (x1 : Nat) (f1 : List Value) (hss : zSS E K V) (hf1_n : f1.length = 243) (hf1_25 : f1[25]? = some (.int 0)) (hf1_28 : f1[28]? = some (.int (-1))) (hf1_23 : f1[23]? = some (.int 0)) : zMi E l yX16_chain zwX16_chain ({ frames := 6, cells := 0, slots := 0, locals := 150 }) D vwCl (zT cA) [.ref x1, .int 0] [(x1, .inr (16, f1))] (S := Unit) (fun (r : Int32) (u : Unit) => (r = (-1))) (fun (u : Unit) => [(x1, .inr (16, (f1.set 28 (.int 0))))]) := by
  refine zz_enteri (cc := cX16_chain) (lv := [(0, .ref x1), (1, .int 0)]) hE 10 (by decide) rfl (Nat.le_of_ble_eq_true rfl) rfl ?_
  intro p e s m args below meth c X hr hin
  refine zz_aload_n X 0 dX16_chain_0 rfl rfl ?_
  refine zz_get X 0 25 rfl rfl (by decide) (fun w h => List.mem_cons_of_mem _ (zf_X16 w h)) rfl (List.mem_cons_of_mem _ zm_791) hf1_25 dX16_chain_1 ?_
  refine zz_istore_n X [(2, .int 0), (0, .ref x1), (1, .int 0)] dX16_chain_4 rfl (by decide) rfl ?_
  refine zz_iload_n X 2 dX16_chain_5 rfl rfl ?_
  refine zz_iconst X 3 dX16_chain_6 rfl ?_
  refine zz_icmp_ne X 17 dX16_chain_7 (by decide) (fun _ => ?_) (fun h => absurd h (by decide))
  refine zz_aload_n X 1 dX16_chain_17 rfl rfl ?_
  refine zz_iload_n X 2 dX16_chain_18 rfl rfl ?_
  refine zz_iconst X 1 dX16_chain_19 rfl ?_
  refine zz_iadd X (1) dX16_chain_20 (by decide) ?_
  refine zz_callVi X (rest := []) (As := [.int 1]) (kX16_chain_3 hE l D cA K V x1 f1 hss (zq_len hf1_n (by simp only [List.length_set])) hf1_25 hf1_28 hf1_23) 1 (zgV zm_1059 zm_1060 zm_1061 zm_451 zm_1058) rfl (by decide +kernel) [0] [] [] rfl rfl (by decide) rfl (by decide) (by decide) ⟨Nat.le_of_ble_eq_true rfl, Nat.le_of_ble_eq_true rfl⟩ 0 rfl rfl rfl rfl rfl (Nat.le_of_ble_eq_true rfl) dX16_chain_21 (Nat.le_of_ble_eq_true rfl) (Nat.le_of_ble_eq_true rfl) (fun r1 _ hw2 => ?_)
  obtain rfl := hw2
  refine zz_show (ws' := [(x1, .inr (16, (f1.set 28 (.int 0))))]) rfl ?_
  refine zz_istore_n X [(3, .int (-1)), (2, .int 0), (0, .ref x1), (1, .int 0)] dX16_chain_24 rfl (by decide) rfl ?_
  refine zz_aload_n X 2 dX16_chain_25 rfl rfl ?_
  refine zz_iload_n X 3 dX16_chain_26 rfl rfl ?_
  refine zz_callVi X (rest := []) (As := [.int 0]) (kX16_isOf_4 hE l D cA K V x1 (f1.set 28 (.int 0)) hss (zq_len hf1_n (by simp only [List.length_set])) (zq_same (zq_lt hf1_n (by decide) (by simp only [List.length_set])))) 1 (zgV zm_1055 zm_1056 zm_1057 zm_451 zm_1054) rfl (by decide +kernel) [0] [] [] rfl rfl (by decide) rfl (by decide) (by decide) ⟨Nat.le_of_ble_eq_true rfl, Nat.le_of_ble_eq_true rfl⟩ 0 rfl rfl rfl rfl rfl (Nat.le_of_ble_eq_true rfl) dX16_chain_27 (Nat.le_of_ble_eq_true rfl) (Nat.le_of_ble_eq_true rfl) (fun r3 _ hw4 => ?_)
  obtain rfl := hw4
  refine zz_show (ws' := [(x1, .inr (16, (f1.set 28 (.int 0))))]) rfl ?_
  refine zz_if_ne X 35 dX16_chain_30 (by decide) (fun h => absurd (by decide) h) (fun _ => ?_)
  refine zz_iload_n X 0 dX16_chain_33 rfl rfl ?_
  exact zz_iret X hr (()) [0] (by decide) rfl rfl (Nat.le_of_ble_eq_true rfl) (Nat.le_of_ble_eq_true rfl) (rfl) dX16_chain_34

set_option maxHeartbeats 4000000 in
set_option maxRecDepth 100000 in
/-- isComparison -/
theorem kX16_isComparison_1 {E : zEn} (hE : zOk E) (l : Launch) (D : va_G) (cA : Nat → ClassId) (K : Nat → Nat) (V : Nat → Nat) (x1 : Nat) (f1 : List Value) (hss : zSS E K V) (hf1_n : f1.length = 243) (hf1_28 : f1[28]? = some (.int 0)) : zMi E l yX16_isComparison zwX16_isComparison ({ frames := 1, cells := 0, slots := 0, locals := 20 }) D vwCl (zT cA) [.ref x1] [(x1, .inr (16, f1))] (S := Unit) (fun (r : Int32) (u : Unit) => (r = 0)) (fun (u : Unit) => [(x1, .inr (16, f1))]) := by
  refine zz_enterz (cc := cX16_isComparison) (lv := [(0, .ref x1)]) hE 1 (by decide) rfl (Nat.le_of_ble_eq_true rfl) rfl ?_
  intro p e s m args below meth c X hr hin
  refine zz_aload_n X 0 dX16_isComparison_0 rfl rfl ?_
  refine zz_callVi X (rest := []) (As := []) (kX16_bad_2 hE l D cA K V x1 f1 hss (zq_len hf1_n (by simp only [List.length_set])) hf1_28) 0 (zgV zm_805 zm_806 zm_807 zm_451 zm_804) rfl (by decide +kernel) [0] [] [] rfl rfl (by decide) rfl (by decide) (by decide) ⟨Nat.le_of_ble_eq_true rfl, Nat.le_of_ble_eq_true rfl⟩ 0 rfl rfl rfl rfl rfl (Nat.le_of_ble_eq_true rfl) dX16_isComparison_1 (Nat.le_of_ble_eq_true rfl) (Nat.le_of_ble_eq_true rfl) (fun r1 _ hw2 => ?_)
  obtain rfl := hw2
  refine zz_show (ws' := [(x1, .inr (16, f1))]) rfl ?_
  refine zz_if_ne X 87 dX16_isComparison_4 (by decide) (fun _ => ?_) (fun h => absurd h (by decide))
  refine zz_iconst X 0 dX16_isComparison_87 rfl ?_
  exact zz_zret X hr (by decide) (()) [0] (by decide) rfl rfl (Nat.le_of_ble_eq_true rfl) (Nat.le_of_ble_eq_true rfl) (rfl) dX16_isComparison_88

set_option maxHeartbeats 4000000 in
set_option maxRecDepth 100000 in
/-- expression -/
theorem kX16_expression_1 {E : zEn} (hE : zOk E) (l : Launch) (D : va_G) (cA : Nat → ClassId) (K : Nat → Nat) (V : Nat → Nat) (x1 : Nat) (f1 : List Value) (hss : zSS E K V) (hf1_n : f1.length = 243) (hf1_25 : f1[25]? = some (.int 0)) (hf1_28 : f1[28]? = some (.int (-1))) (hf1_23 : f1[23]? = some (.int 0)) : zMi E l yX16_expression zwX16_expression ({ frames := 7, cells := 0, slots := 0, locals := 179 }) D vwCl (zT cA) [.ref x1] [(x1, .inr (16, f1))] (S := Unit) (fun (r : Int32) (u : Unit) => (r = (-1))) (fun (u : Unit) => [(x1, .inr (16, (f1.set 28 (.int 0))))]) := by
  refine zz_enteri (cc := cX16_expression) (lv := [(0, .ref x1)]) hE 7 (by decide) rfl (Nat.le_of_ble_eq_true rfl) rfl ?_
  intro p e s m args below meth c X hr hin
  refine zz_aload_n X 0 dX16_expression_0 rfl rfl ?_
  refine zz_get X 0 25 rfl rfl (by decide) (fun w h => List.mem_cons_of_mem _ (zf_X16 w h)) rfl (List.mem_cons_of_mem _ zm_791) hf1_25 dX16_expression_1 ?_
  refine zz_istore_n X [(1, .int 0), (0, .ref x1)] dX16_expression_4 rfl (by decide) rfl ?_
  refine zz_aload_n X 1 dX16_expression_5 rfl rfl ?_
  refine zz_iconst X 0 dX16_expression_6 rfl ?_
  refine zz_callVi X (rest := []) (As := [.int 0]) (kX16_chain_4 hE l D cA K V x1 f1 hss (zq_len hf1_n (by simp only [List.length_set])) hf1_25 hf1_28 hf1_23) 1 (zgV zm_1059 zm_1060 zm_1061 zm_451 zm_1058) rfl (by decide +kernel) [0] [] [] rfl rfl (by decide) rfl (by decide) (by decide) ⟨Nat.le_of_ble_eq_true rfl, Nat.le_of_ble_eq_true rfl⟩ 0 rfl rfl rfl rfl rfl (Nat.le_of_ble_eq_true rfl) dX16_expression_7 (Nat.le_of_ble_eq_true rfl) (Nat.le_of_ble_eq_true rfl) (fun r1 _ hw2 => ?_)
  obtain rfl := hw2
  refine zz_show (ws' := [(x1, .inr (16, (f1.set 28 (.int 0))))]) rfl ?_
  refine zz_istore_n X [(2, .int (-1)), (1, .int 0), (0, .ref x1)] dX16_expression_10 rfl (by decide) rfl ?_
  refine zz_aload_n X 2 dX16_expression_11 rfl rfl ?_
  refine zz_callVi X (rest := []) (As := []) (kX16_isComparison_1 hE l D cA K V x1 (f1.set 28 (.int 0)) hss (zq_len hf1_n (by simp only [List.length_set])) (zq_same (zq_lt hf1_n (by decide) (by simp only [List.length_set])))) 0 (zgV zm_1063 zm_1064 zm_1065 zm_451 zm_1062) rfl (by decide +kernel) [0] [] [] rfl rfl (by decide) rfl (by decide) (by decide) ⟨Nat.le_of_ble_eq_true rfl, Nat.le_of_ble_eq_true rfl⟩ 0 rfl rfl rfl rfl rfl (Nat.le_of_ble_eq_true rfl) dX16_expression_12 (Nat.le_of_ble_eq_true rfl) (Nat.le_of_ble_eq_true rfl) (fun r3 _ hw4 => ?_)
  obtain rfl := hw4
  refine zz_show (ws' := [(x1, .inr (16, (f1.set 28 (.int 0))))]) rfl ?_
  refine zz_if_ne X 20 dX16_expression_15 (by decide) (fun h => absurd (by decide) h) (fun _ => ?_)
  refine zz_iload_n X 0 dX16_expression_18 rfl rfl ?_
  exact zz_iret X hr (()) [0] (by decide) rfl rfl (Nat.le_of_ble_eq_true rfl) (Nat.le_of_ble_eq_true rfl) (rfl) dX16_expression_19

set_option maxHeartbeats 4000000 in
set_option maxRecDepth 100000 in
/-- isSign -/
theorem kX16_isSign_5 {E : zEn} (hE : zOk E) (l : Launch) (D : va_G) (cA : Nat → ClassId) (K : Nat → Nat) (V : Nat → Nat) (x1 : Nat) (f1 : List Value) (hss : zSS E K V) (hf1_n : f1.length = 243) (hf1_28 : f1[28]? = some (.int 0)) : zMi E l yX16_isSign zwX16_isSign ({ frames := 1, cells := 0, slots := 0, locals := 20 }) D vwCl (zT cA) [.ref x1, .int 61] [(x1, .inr (16, f1))] (S := Unit) (fun (r : Int32) (u : Unit) => (r = 0)) (fun (u : Unit) => [(x1, .inr (16, f1))]) := by
  refine zz_enterz (cc := cX16_isSign) (lv := [(0, .ref x1), (1, .int 61)]) hE 2 (by decide) rfl (Nat.le_of_ble_eq_true rfl) rfl ?_
  intro p e s m args below meth c X hr hin
  refine zz_aload_n X 0 dX16_isSign_0 rfl rfl ?_
  refine zz_callVi X (rest := []) (As := []) (kX16_bad_2 hE l D cA K V x1 f1 hss (zq_len hf1_n (by simp only [List.length_set])) hf1_28) 0 (zgV zm_805 zm_806 zm_807 zm_451 zm_804) rfl (by decide +kernel) [0] [] [] rfl rfl (by decide) rfl (by decide) (by decide) ⟨Nat.le_of_ble_eq_true rfl, Nat.le_of_ble_eq_true rfl⟩ 0 rfl rfl rfl rfl rfl (Nat.le_of_ble_eq_true rfl) dX16_isSign_1 (Nat.le_of_ble_eq_true rfl) (Nat.le_of_ble_eq_true rfl) (fun r1 _ hw2 => ?_)
  obtain rfl := hw2
  refine zz_show (ws' := [(x1, .inr (16, f1))]) rfl ?_
  refine zz_if_ne X 28 dX16_isSign_4 (by decide) (fun _ => ?_) (fun h => absurd h (by decide))
  refine zz_iconst X 0 dX16_isSign_28 rfl ?_
  exact zz_zret X hr (by decide) (()) [0] (by decide) rfl rfl (Nat.le_of_ble_eq_true rfl) (Nat.le_of_ble_eq_true rfl) (rfl) dX16_isSign_29

set_option maxHeartbeats 4000000 in
set_option maxRecDepth 100000 in
/-- isSign -/
theorem kX16_isSign_6 {E : zEn} (hE : zOk E) (l : Launch) (D : va_G) (cA : Nat → ClassId) (K : Nat → Nat) (V : Nat → Nat) (x1 : Nat) (f1 : List Value) (hss : zSS E K V) (hf1_n : f1.length = 243) (hf1_28 : f1[28]? = some (.int 0)) : zMi E l yX16_isSign zwX16_isSign ({ frames := 1, cells := 0, slots := 0, locals := 20 }) D vwCl (zT cA) [.ref x1, .int 300] [(x1, .inr (16, f1))] (S := Unit) (fun (r : Int32) (u : Unit) => (r = 0)) (fun (u : Unit) => [(x1, .inr (16, f1))]) := by
  refine zz_enterz (cc := cX16_isSign) (lv := [(0, .ref x1), (1, .int 300)]) hE 2 (by decide) rfl (Nat.le_of_ble_eq_true rfl) rfl ?_
  intro p e s m args below meth c X hr hin
  refine zz_aload_n X 0 dX16_isSign_0 rfl rfl ?_
  refine zz_callVi X (rest := []) (As := []) (kX16_bad_2 hE l D cA K V x1 f1 hss (zq_len hf1_n (by simp only [List.length_set])) hf1_28) 0 (zgV zm_805 zm_806 zm_807 zm_451 zm_804) rfl (by decide +kernel) [0] [] [] rfl rfl (by decide) rfl (by decide) (by decide) ⟨Nat.le_of_ble_eq_true rfl, Nat.le_of_ble_eq_true rfl⟩ 0 rfl rfl rfl rfl rfl (Nat.le_of_ble_eq_true rfl) dX16_isSign_1 (Nat.le_of_ble_eq_true rfl) (Nat.le_of_ble_eq_true rfl) (fun r1 _ hw2 => ?_)
  obtain rfl := hw2
  refine zz_show (ws' := [(x1, .inr (16, f1))]) rfl ?_
  refine zz_if_ne X 28 dX16_isSign_4 (by decide) (fun _ => ?_) (fun h => absurd h (by decide))
  refine zz_iconst X 0 dX16_isSign_28 rfl ?_
  exact zz_zret X hr (by decide) (()) [0] (by decide) rfl rfl (Nat.le_of_ble_eq_true rfl) (Nat.le_of_ble_eq_true rfl) (rfl) dX16_isSign_29

set_option maxHeartbeats 4000000 in
set_option maxRecDepth 100000 in
/-- node -/
theorem kX16_node_1 {E : zEn} (hE : zOk E) (l : Launch) (D : va_G) (cA : Nat → ClassId) (K : Nat → Nat) (V : Nat → Nat) (x1 : Nat) (f1 : List Value) (x2 : Nat) (x3 : Nat) (x4 : Nat) (x5 : Nat) (x6 : Nat) (x7 : Nat) (hss : zSS E K V) (hf1_n : f1.length = 243) (hf1_31 : f1[31]? = some (.ref x2)) (hf1_37 : f1[37]? = some (.int 0)) (hf1_32 : f1[32]? = some (.ref x3)) (hf1_33 : f1[33]? = some (.ref x4)) (hf1_34 : f1[34]? = some (.ref x5)) (hf1_35 : f1[35]? = some (.ref x6)) (hf1_36 : f1[36]? = some (.ref x7)) : zMi E l yX16_node zwX16_node ({ frames := 0, cells := 0, slots := 0, locals := 0 }) D vwCl (zT cA) [.ref x1, .int 24, .int 0, .int (-1), .int 0, .int (-1)] [(x1, .inr (16, f1)), (x2, .inl (cA 1, 46000, .inl (fun _ => 0))), (x3, .inl (cA 1, 46000, .inl (fun _ => 0))), (x4, .inl (cA 1, 46000, .inl (fun _ => 0))), (x5, .inl (cA 1, 46000, .inl (fun _ => 0))), (x6, .inl (cA 1, 46000, .inl (fun _ => 0))), (x7, .inl (cA 1, 46000, .inl (fun _ => 0)))] (S := Unit) (fun (r : Int32) (u : Unit) => (r = 0)) (fun (u : Unit) => [(x1, .inr (16, (f1.set 37 (.int 1)))), (x2, .inl (cA 1, 46000, .inl (upd (fun _ => 0) 0 24))), (x3, .inl (cA 1, 46000, .inl (upd (fun _ => 0) 0 0))), (x4, .inl (cA 1, 46000, .inl (upd (fun _ => 0) 0 (-1)))), (x5, .inl (cA 1, 46000, .inl (upd (fun _ => 0) 0 0))), (x6, .inl (cA 1, 46000, .inl (upd (fun _ => 0) 0 (-1)))), (x7, .inl (cA 1, 46000, .inl (upd (fun _ => 0) 0 (-1))))]) := by
  refine zz_enteri (cc := cX16_node) (lv := [(0, .ref x1), (1, .int 24), (2, .int 0), (3, .int (-1)), (4, .int 0), (5, .int (-1))]) hE 6 (by decide) rfl (Nat.le_of_ble_eq_true rfl) rfl ?_
  intro p e s m args below meth c X hr hin
  refine zz_aload_n X 0 dX16_node_0 rfl rfl ?_
  refine zz_get X 0 31 rfl rfl (by decide) (fun w h => List.mem_cons_of_mem _ (zf_X16 w h)) rfl (List.mem_cons_of_mem _ zm_468) hf1_31 dX16_node_1 ?_
  refine zz_aload_n X 0 dX16_node_4 rfl rfl ?_
  refine zz_get X 0 37 rfl rfl (by decide) (fun w h => List.mem_cons_of_mem _ (zf_X16 w h)) rfl (List.mem_cons_of_mem _ zm_757) hf1_37 dX16_node_5 ?_
  refine zz_iload_n X 1 dX16_node_8 rfl rfl ?_
  refine zz_iast X 1 1 rfl rfl (vp_in_nI (n := 0) (by decide) (by decide)) 0 (by decide) dX16_node_9 [(x1, .inr (16, f1)), (x2, .inl (cA 1, 46000, .inl (upd (fun _ => 0) 0 24))), (x3, .inl (cA 1, 46000, .inl (fun _ => 0))), (x4, .inl (cA 1, 46000, .inl (fun _ => 0))), (x5, .inl (cA 1, 46000, .inl (fun _ => 0))), (x6, .inl (cA 1, 46000, .inl (fun _ => 0))), (x7, .inl (cA 1, 46000, .inl (fun _ => 0)))] rfl ?_
  refine zz_aload_n X 0 dX16_node_10 rfl rfl ?_
  refine zz_get X 0 32 rfl rfl (by decide) (fun w h => List.mem_cons_of_mem _ (zf_X16 w h)) rfl (List.mem_cons_of_mem _ zm_469) hf1_32 dX16_node_11 ?_
  refine zz_aload_n X 0 dX16_node_14 rfl rfl ?_
  refine zz_get X 0 37 rfl rfl (by decide) (fun w h => List.mem_cons_of_mem _ (zf_X16 w h)) rfl (List.mem_cons_of_mem _ zm_757) hf1_37 dX16_node_15 ?_
  refine zz_iload_n X 2 dX16_node_18 rfl rfl ?_
  refine zz_iast X 2 1 rfl rfl (vp_in_nI (n := 0) (by decide) (by decide)) 0 (by decide) dX16_node_19 [(x1, .inr (16, f1)), (x2, .inl (cA 1, 46000, .inl (upd (fun _ => 0) 0 24))), (x3, .inl (cA 1, 46000, .inl (upd (fun _ => 0) 0 0))), (x4, .inl (cA 1, 46000, .inl (fun _ => 0))), (x5, .inl (cA 1, 46000, .inl (fun _ => 0))), (x6, .inl (cA 1, 46000, .inl (fun _ => 0))), (x7, .inl (cA 1, 46000, .inl (fun _ => 0)))] rfl ?_
  refine zz_aload_n X 0 dX16_node_20 rfl rfl ?_
  refine zz_get X 0 33 rfl rfl (by decide) (fun w h => List.mem_cons_of_mem _ (zf_X16 w h)) rfl (List.mem_cons_of_mem _ zm_470) hf1_33 dX16_node_21 ?_
  refine zz_aload_n X 0 dX16_node_24 rfl rfl ?_
  refine zz_get X 0 37 rfl rfl (by decide) (fun w h => List.mem_cons_of_mem _ (zf_X16 w h)) rfl (List.mem_cons_of_mem _ zm_757) hf1_37 dX16_node_25 ?_
  refine zz_iload_n X 3 dX16_node_28 rfl rfl ?_
  refine zz_iast X 3 1 rfl rfl (vp_in_nI (n := 0) (by decide) (by decide)) 0 (by decide) dX16_node_29 [(x1, .inr (16, f1)), (x2, .inl (cA 1, 46000, .inl (upd (fun _ => 0) 0 24))), (x3, .inl (cA 1, 46000, .inl (upd (fun _ => 0) 0 0))), (x4, .inl (cA 1, 46000, .inl (upd (fun _ => 0) 0 (-1)))), (x5, .inl (cA 1, 46000, .inl (fun _ => 0))), (x6, .inl (cA 1, 46000, .inl (fun _ => 0))), (x7, .inl (cA 1, 46000, .inl (fun _ => 0)))] rfl ?_
  refine zz_aload_n X 0 dX16_node_30 rfl rfl ?_
  refine zz_get X 0 34 rfl rfl (by decide) (fun w h => List.mem_cons_of_mem _ (zf_X16 w h)) rfl (List.mem_cons_of_mem _ zm_471) hf1_34 dX16_node_31 ?_
  refine zz_aload_n X 0 dX16_node_34 rfl rfl ?_
  refine zz_get X 0 37 rfl rfl (by decide) (fun w h => List.mem_cons_of_mem _ (zf_X16 w h)) rfl (List.mem_cons_of_mem _ zm_757) hf1_37 dX16_node_35 ?_
  refine zz_iload X 4 dX16_node_38 rfl ?_
  refine zz_iast X 4 1 rfl rfl (vp_in_nI (n := 0) (by decide) (by decide)) 0 (by decide) dX16_node_40 [(x1, .inr (16, f1)), (x2, .inl (cA 1, 46000, .inl (upd (fun _ => 0) 0 24))), (x3, .inl (cA 1, 46000, .inl (upd (fun _ => 0) 0 0))), (x4, .inl (cA 1, 46000, .inl (upd (fun _ => 0) 0 (-1)))), (x5, .inl (cA 1, 46000, .inl (upd (fun _ => 0) 0 0))), (x6, .inl (cA 1, 46000, .inl (fun _ => 0))), (x7, .inl (cA 1, 46000, .inl (fun _ => 0)))] rfl ?_
  refine zz_aload_n X 0 dX16_node_41 rfl rfl ?_
  refine zz_get X 0 35 rfl rfl (by decide) (fun w h => List.mem_cons_of_mem _ (zf_X16 w h)) rfl (List.mem_cons_of_mem _ zm_472) hf1_35 dX16_node_42 ?_
  refine zz_aload_n X 0 dX16_node_45 rfl rfl ?_
  refine zz_get X 0 37 rfl rfl (by decide) (fun w h => List.mem_cons_of_mem _ (zf_X16 w h)) rfl (List.mem_cons_of_mem _ zm_757) hf1_37 dX16_node_46 ?_
  refine zz_iload X 5 dX16_node_49 rfl ?_
  refine zz_iast X 5 1 rfl rfl (vp_in_nI (n := 0) (by decide) (by decide)) 0 (by decide) dX16_node_51 [(x1, .inr (16, f1)), (x2, .inl (cA 1, 46000, .inl (upd (fun _ => 0) 0 24))), (x3, .inl (cA 1, 46000, .inl (upd (fun _ => 0) 0 0))), (x4, .inl (cA 1, 46000, .inl (upd (fun _ => 0) 0 (-1)))), (x5, .inl (cA 1, 46000, .inl (upd (fun _ => 0) 0 0))), (x6, .inl (cA 1, 46000, .inl (upd (fun _ => 0) 0 (-1)))), (x7, .inl (cA 1, 46000, .inl (fun _ => 0)))] rfl ?_
  refine zz_aload_n X 0 dX16_node_52 rfl rfl ?_
  refine zz_get X 0 36 rfl rfl (by decide) (fun w h => List.mem_cons_of_mem _ (zf_X16 w h)) rfl (List.mem_cons_of_mem _ zm_473) hf1_36 dX16_node_53 ?_
  refine zz_aload_n X 0 dX16_node_56 rfl rfl ?_
  refine zz_get X 0 37 rfl rfl (by decide) (fun w h => List.mem_cons_of_mem _ (zf_X16 w h)) rfl (List.mem_cons_of_mem _ zm_757) hf1_37 dX16_node_57 ?_
  refine zz_iconst X (-1) dX16_node_60 rfl ?_
  refine zz_iast X 6 1 rfl rfl (vp_in_nI (n := 0) (by decide) (by decide)) 0 (by decide) dX16_node_61 [(x1, .inr (16, f1)), (x2, .inl (cA 1, 46000, .inl (upd (fun _ => 0) 0 24))), (x3, .inl (cA 1, 46000, .inl (upd (fun _ => 0) 0 0))), (x4, .inl (cA 1, 46000, .inl (upd (fun _ => 0) 0 (-1)))), (x5, .inl (cA 1, 46000, .inl (upd (fun _ => 0) 0 0))), (x6, .inl (cA 1, 46000, .inl (upd (fun _ => 0) 0 (-1)))), (x7, .inl (cA 1, 46000, .inl (upd (fun _ => 0) 0 (-1))))] rfl ?_
  refine zz_aload_n X 0 dX16_node_62 rfl rfl ?_
  refine zz_dup X dX16_node_63 rfl ?_
  refine zz_get X 0 37 rfl rfl (by decide) (fun w h => List.mem_cons_of_mem _ (zf_X16 w h)) rfl (List.mem_cons_of_mem _ zm_757) hf1_37 dX16_node_64 ?_
  refine zz_iconst X 1 dX16_node_67 rfl ?_
  refine zz_iadd X (1) dX16_node_68 (by decide) ?_
  refine zz_put X 0 37 rfl rfl (by decide) (fun w h => List.mem_cons_of_mem _ (zf_X16 w h)) rfl (List.mem_cons_of_mem _ zm_757) tyX16 tyX16_ok nmX16 rfl (ty := .int) rfl rfl rfl (zq_lt hf1_n (by decide) (by simp only [List.length_set])) dX16_node_69 [(x1, .inr (16, (f1.set 37 (.int 1)))), (x2, .inl (cA 1, 46000, .inl (upd (fun _ => 0) 0 24))), (x3, .inl (cA 1, 46000, .inl (upd (fun _ => 0) 0 0))), (x4, .inl (cA 1, 46000, .inl (upd (fun _ => 0) 0 (-1)))), (x5, .inl (cA 1, 46000, .inl (upd (fun _ => 0) 0 0))), (x6, .inl (cA 1, 46000, .inl (upd (fun _ => 0) 0 (-1)))), (x7, .inl (cA 1, 46000, .inl (upd (fun _ => 0) 0 (-1))))] rfl ?_
  refine zz_aload_n X 0 dX16_node_72 rfl rfl ?_
  refine zz_get X 0 37 rfl rfl (by decide) (fun w h => List.mem_cons_of_mem _ (zf_X16 w h)) rfl (List.mem_cons_of_mem _ zm_757) (zq_same (zq_lt hf1_n (by decide) (by simp only [List.length_set]))) dX16_node_73 ?_
  refine zz_iconst X 1 dX16_node_76 rfl ?_
  refine zz_isub X (0) dX16_node_77 (by decide) ?_
  exact zz_iret X hr (()) [0, 1, 2, 3, 4, 5, 6] (by decide) rfl rfl (Nat.le_of_ble_eq_true rfl) (Nat.le_of_ble_eq_true rfl) (rfl) dX16_node_78

set_option maxHeartbeats 4000000 in
set_option maxRecDepth 100000 in
/-- isKey -/
theorem kX16_isKey_6 {E : zEn} (hE : zOk E) (l : Launch) (D : va_G) (cA : Nat → ClassId) (K : Nat → Nat) (V : Nat → Nat) (x1 : Nat) (f1 : List Value) (hss : zSS E K V) (hf1_n : f1.length = 243) (hf1_28 : f1[28]? = some (.int 0)) : zMi E l yX16_isKey zwX16_isKey ({ frames := 1, cells := 0, slots := 0, locals := 20 }) D vwCl (zT cA) [.ref x1, .int 62] [(x1, .inr (16, f1))] (S := Unit) (fun (r : Int32) (u : Unit) => (r = 0)) (fun (u : Unit) => [(x1, .inr (16, f1))]) := by
  refine zz_enterz (cc := cX16_isKey) (lv := [(0, .ref x1), (1, .int 62)]) hE 2 (by decide) rfl (Nat.le_of_ble_eq_true rfl) rfl ?_
  intro p e s m args below meth c X hr hin
  refine zz_aload_n X 0 dX16_isKey_0 rfl rfl ?_
  refine zz_callVi X (rest := []) (As := []) (kX16_bad_2 hE l D cA K V x1 f1 hss (zq_len hf1_n (by simp only [List.length_set])) hf1_28) 0 (zgV zm_805 zm_806 zm_807 zm_451 zm_804) rfl (by decide +kernel) [0] [] [] rfl rfl (by decide) rfl (by decide) (by decide) ⟨Nat.le_of_ble_eq_true rfl, Nat.le_of_ble_eq_true rfl⟩ 0 rfl rfl rfl rfl rfl (Nat.le_of_ble_eq_true rfl) dX16_isKey_1 (Nat.le_of_ble_eq_true rfl) (Nat.le_of_ble_eq_true rfl) (fun r1 _ hw2 => ?_)
  obtain rfl := hw2
  refine zz_show (ws' := [(x1, .inr (16, f1))]) rfl ?_
  refine zz_if_ne X 27 dX16_isKey_4 (by decide) (fun _ => ?_) (fun h => absurd h (by decide))
  refine zz_iconst X 0 dX16_isKey_27 rfl ?_
  exact zz_zret X hr (by decide) (()) [0] (by decide) rfl rfl (Nat.le_of_ble_eq_true rfl) (Nat.le_of_ble_eq_true rfl) (rfl) dX16_isKey_28

set_option maxHeartbeats 4000000 in
set_option maxRecDepth 100000 in
/-- withs -/
theorem kX16_withs_1 {E : zEn} (hE : zOk E) (l : Launch) (D : va_G) (cA : Nat → ClassId) (K : Nat → Nat) (V : Nat → Nat) (x1 : Nat) (f1 : List Value) (hss : zSS E K V) (hf1_n : f1.length = 243) (hf1_28 : f1[28]? = some (.int 0)) : zMv E l yX16_withs zwX16_withs ({ frames := 2, cells := 0, slots := 0, locals := 41 }) D vwCl (zT cA) [.ref x1, .int 0] [(x1, .inr (16, f1))] (S := Unit) (fun (u : Unit) => (True)) (fun (u : Unit) => [(x1, .inr (16, f1))]) := by
  refine zz_enterv (cc := cX16_withs) (lv := [(0, .ref x1), (1, .int 0)]) hE 10 (by decide) rfl (Nat.le_of_ble_eq_true rfl) rfl ?_
  intro p e s m args below meth c X hr hin
  refine zz_iconst X (-1) dX16_withs_0 rfl ?_
  refine zz_istore_n X [(2, .int (-1)), (0, .ref x1), (1, .int 0)] dX16_withs_1 rfl (by decide) rfl ?_
  refine zz_iconst X 0 dX16_withs_2 rfl ?_
  refine zz_istore_n X [(3, .int 0), (2, .int (-1)), (0, .ref x1), (1, .int 0)] dX16_withs_3 rfl (by decide) rfl ?_
  refine zz_aload_n X 2 dX16_withs_4 rfl rfl ?_
  refine zz_bipush X 62 dX16_withs_5 rfl ?_
  refine zz_callVi X (rest := []) (As := [.int 62]) (kX16_isKey_6 hE l D cA K V x1 f1 hss (zq_len hf1_n (by simp only [List.length_set])) hf1_28) 1 (zgV zm_809 zm_810 zm_811 zm_451 zm_808) rfl (by decide +kernel) [0] [] [] rfl rfl (by decide) rfl (by decide) (by decide) ⟨Nat.le_of_ble_eq_true rfl, Nat.le_of_ble_eq_true rfl⟩ 0 rfl rfl rfl rfl rfl (Nat.le_of_ble_eq_true rfl) dX16_withs_7 (Nat.le_of_ble_eq_true rfl) (Nat.le_of_ble_eq_true rfl) (fun r1 _ hw2 => ?_)
  obtain rfl := hw2
  refine zz_show (ws' := [(x1, .inr (16, f1))]) rfl ?_
  refine zz_if_eq X 198 dX16_withs_10 (by decide) (fun _ => ?_) (fun h => absurd (by decide) h)
  exact zz_vret X hr (()) [0] (by decide) rfl rfl (Nat.le_of_ble_eq_true rfl) (Nat.le_of_ble_eq_true rfl) (trivial) dX16_withs_198

set_option maxHeartbeats 4000000 in
set_option maxRecDepth 100000 in
/-- literal -/
theorem kX16_literal_1 {E : zEn} (hE : zOk E) (l : Launch) (D : va_G) (cA : Nat → ClassId) (K : Nat → Nat) (V : Nat → Nat) (x1 : Nat) (f1 : List Value) (x2 : Nat) (x3 : Nat) (x4 : Nat) (x5 : Nat) (x6 : Nat) (x7 : Nat) (hss : zSS E K V) (hf1_n : f1.length = 243) (hf1_25 : f1[25]? = some (.int 0)) (hf1_28 : f1[28]? = some (.int (-1))) (hf1_23 : f1[23]? = some (.int 0)) (hf1_31 : f1[31]? = some (.ref x2)) (hf1_37 : f1[37]? = some (.int 0)) (hf1_32 : f1[32]? = some (.ref x3)) (hf1_33 : f1[33]? = some (.ref x4)) (hf1_34 : f1[34]? = some (.ref x5)) (hf1_35 : f1[35]? = some (.ref x6)) (hf1_36 : f1[36]? = some (.ref x7)) : zMi E l yX16_literal zwX16_literal ({ frames := 8, cells := 0, slots := 0, locals := 205 }) D vwCl (zT cA) [.ref x1] [(x1, .inr (16, f1)), (x2, .inl (cA 1, 46000, .inl (fun _ => 0))), (x3, .inl (cA 1, 46000, .inl (fun _ => 0))), (x4, .inl (cA 1, 46000, .inl (fun _ => 0))), (x5, .inl (cA 1, 46000, .inl (fun _ => 0))), (x6, .inl (cA 1, 46000, .inl (fun _ => 0))), (x7, .inl (cA 1, 46000, .inl (fun _ => 0)))] (S := Unit) (fun (r : Int32) (u : Unit) => (r = 0)) (fun (u : Unit) => [(x1, .inr (16, ((f1.set 28 (.int 0)).set 37 (.int 1)))), (x2, .inl (cA 1, 46000, .inl (upd (fun _ => 0) 0 24))), (x3, .inl (cA 1, 46000, .inl (upd (fun _ => 0) 0 0))), (x4, .inl (cA 1, 46000, .inl (upd (fun _ => 0) 0 (-1)))), (x5, .inl (cA 1, 46000, .inl (upd (fun _ => 0) 0 0))), (x6, .inl (cA 1, 46000, .inl (upd (fun _ => 0) 0 (-1)))), (x7, .inl (cA 1, 46000, .inl (upd (fun _ => 0) 0 (-1))))]) := by
  refine zz_enteri (cc := cX16_literal) (lv := [(0, .ref x1)]) hE 4 (by decide) rfl (Nat.le_of_ble_eq_true rfl) rfl ?_
  intro p e s m args below meth c X hr hin
  refine zz_aload_n X 0 dX16_literal_0 rfl rfl ?_
  refine zz_get X 0 25 rfl rfl (by decide) (fun w h => List.mem_cons_of_mem _ (zf_X16 w h)) rfl (List.mem_cons_of_mem _ zm_791) hf1_25 dX16_literal_1 ?_
  refine zz_istore_n X [(1, .int 0), (0, .ref x1)] dX16_literal_4 rfl (by decide) rfl ?_
  refine zz_aload_n X 1 dX16_literal_5 rfl rfl ?_
  refine zz_bipush X 44 dX16_literal_6 rfl ?_
  refine zz_callVi X (rest := []) (As := [.int 44]) (kX16_isKey_3 hE l D cA K V x1 f1 hss (zq_len hf1_n (by simp only [List.length_set])) hf1_28 hf1_23) 1 (zgV zm_809 zm_810 zm_811 zm_451 zm_808) rfl (by decide +kernel) [0] [1, 2, 3, 4, 5, 6] [(x2, .inl (cA 1, 46000, .inl (fun _ => 0))), (x3, .inl (cA 1, 46000, .inl (fun _ => 0))), (x4, .inl (cA 1, 46000, .inl (fun _ => 0))), (x5, .inl (cA 1, 46000, .inl (fun _ => 0))), (x6, .inl (cA 1, 46000, .inl (fun _ => 0))), (x7, .inl (cA 1, 46000, .inl (fun _ => 0)))] rfl rfl (by decide) rfl (by decide) (by decide) ⟨Nat.le_of_ble_eq_true rfl, Nat.le_of_ble_eq_true rfl⟩ 0 rfl rfl rfl rfl rfl (Nat.le_of_ble_eq_true rfl) dX16_literal_8 (Nat.le_of_ble_eq_true rfl) (Nat.le_of_ble_eq_true rfl) (fun r1 _ hw2 => ?_)
  obtain rfl := hw2
  refine zz_show (ws' := [(x2, .inl (cA 1, 46000, .inl (fun _ => 0))), (x3, .inl (cA 1, 46000, .inl (fun _ => 0))), (x4, .inl (cA 1, 46000, .inl (fun _ => 0))), (x5, .inl (cA 1, 46000, .inl (fun _ => 0))), (x6, .inl (cA 1, 46000, .inl (fun _ => 0))), (x7, .inl (cA 1, 46000, .inl (fun _ => 0))), (x1, .inr (16, f1))]) rfl ?_
  refine zz_if_eq X 40 dX16_literal_11 (by decide) (fun _ => ?_) (fun h => absurd (by decide) h)
  refine zz_aload_n X 1 dX16_literal_40 rfl rfl ?_
  refine zz_bipush X 52 dX16_literal_41 rfl ?_
  refine zz_callVi X (rest := []) (As := [.int 52]) (kX16_isKey_4 hE l D cA K V x1 f1 hss (zq_len hf1_n (by simp only [List.length_set])) hf1_28 hf1_23) 1 (zgV zm_809 zm_810 zm_811 zm_451 zm_808) rfl (by decide +kernel) [6] [0, 1, 2, 3, 4, 5] [(x2, .inl (cA 1, 46000, .inl (fun _ => 0))), (x3, .inl (cA 1, 46000, .inl (fun _ => 0))), (x4, .inl (cA 1, 46000, .inl (fun _ => 0))), (x5, .inl (cA 1, 46000, .inl (fun _ => 0))), (x6, .inl (cA 1, 46000, .inl (fun _ => 0))), (x7, .inl (cA 1, 46000, .inl (fun _ => 0)))] rfl rfl (by decide) rfl (by decide) (by decide) ⟨Nat.le_of_ble_eq_true rfl, Nat.le_of_ble_eq_true rfl⟩ 0 rfl rfl rfl rfl rfl (Nat.le_of_ble_eq_true rfl) dX16_literal_43 (Nat.le_of_ble_eq_true rfl) (Nat.le_of_ble_eq_true rfl) (fun r3 _ hw4 => ?_)
  obtain rfl := hw4
  refine zz_show (ws' := [(x2, .inl (cA 1, 46000, .inl (fun _ => 0))), (x3, .inl (cA 1, 46000, .inl (fun _ => 0))), (x4, .inl (cA 1, 46000, .inl (fun _ => 0))), (x5, .inl (cA 1, 46000, .inl (fun _ => 0))), (x6, .inl (cA 1, 46000, .inl (fun _ => 0))), (x7, .inl (cA 1, 46000, .inl (fun _ => 0))), (x1, .inr (16, f1))]) rfl ?_
  refine zz_if_eq X 58 dX16_literal_46 (by decide) (fun _ => ?_) (fun h => absurd (by decide) h)
  refine zz_aload_n X 1 dX16_literal_58 rfl rfl ?_
  refine zz_bipush X 58 dX16_literal_59 rfl ?_
  refine zz_callVi X (rest := []) (As := [.int 58]) (kX16_isKey_5 hE l D cA K V x1 f1 hss (zq_len hf1_n (by simp only [List.length_set])) hf1_28 hf1_23) 1 (zgV zm_809 zm_810 zm_811 zm_451 zm_808) rfl (by decide +kernel) [6] [0, 1, 2, 3, 4, 5] [(x2, .inl (cA 1, 46000, .inl (fun _ => 0))), (x3, .inl (cA 1, 46000, .inl (fun _ => 0))), (x4, .inl (cA 1, 46000, .inl (fun _ => 0))), (x5, .inl (cA 1, 46000, .inl (fun _ => 0))), (x6, .inl (cA 1, 46000, .inl (fun _ => 0))), (x7, .inl (cA 1, 46000, .inl (fun _ => 0)))] rfl rfl (by decide) rfl (by decide) (by decide) ⟨Nat.le_of_ble_eq_true rfl, Nat.le_of_ble_eq_true rfl⟩ 0 rfl rfl rfl rfl rfl (Nat.le_of_ble_eq_true rfl) dX16_literal_61 (Nat.le_of_ble_eq_true rfl) (Nat.le_of_ble_eq_true rfl) (fun r5 _ hw6 => ?_)
  obtain rfl := hw6
  refine zz_show (ws' := [(x2, .inl (cA 1, 46000, .inl (fun _ => 0))), (x3, .inl (cA 1, 46000, .inl (fun _ => 0))), (x4, .inl (cA 1, 46000, .inl (fun _ => 0))), (x5, .inl (cA 1, 46000, .inl (fun _ => 0))), (x6, .inl (cA 1, 46000, .inl (fun _ => 0))), (x7, .inl (cA 1, 46000, .inl (fun _ => 0))), (x1, .inr (16, f1))]) rfl ?_
  refine zz_if_eq X 88 dX16_literal_64 (by decide) (fun _ => ?_) (fun h => absurd (by decide) h)
  refine zz_aload_n X 1 dX16_literal_88 rfl rfl ?_
  refine zz_callVi X (rest := []) (As := []) (kX16_expression_1 hE l D cA K V x1 f1 hss (zq_len hf1_n (by simp only [List.length_set])) hf1_25 hf1_28 hf1_23) 0 (zgV zm_1067 zm_1068 zm_1069 zm_451 zm_1066) rfl (by decide +kernel) [6] [0, 1, 2, 3, 4, 5] [(x2, .inl (cA 1, 46000, .inl (fun _ => 0))), (x3, .inl (cA 1, 46000, .inl (fun _ => 0))), (x4, .inl (cA 1, 46000, .inl (fun _ => 0))), (x5, .inl (cA 1, 46000, .inl (fun _ => 0))), (x6, .inl (cA 1, 46000, .inl (fun _ => 0))), (x7, .inl (cA 1, 46000, .inl (fun _ => 0)))] rfl rfl (by decide) rfl (by decide) (by decide) ⟨Nat.le_of_ble_eq_true rfl, Nat.le_of_ble_eq_true rfl⟩ 0 rfl rfl rfl rfl rfl (Nat.le_of_ble_eq_true rfl) dX16_literal_89 (Nat.le_of_ble_eq_true rfl) (Nat.le_of_ble_eq_true rfl) (fun r7 _ hw8 => ?_)
  obtain rfl := hw8
  refine zz_show (ws' := [(x2, .inl (cA 1, 46000, .inl (fun _ => 0))), (x3, .inl (cA 1, 46000, .inl (fun _ => 0))), (x4, .inl (cA 1, 46000, .inl (fun _ => 0))), (x5, .inl (cA 1, 46000, .inl (fun _ => 0))), (x6, .inl (cA 1, 46000, .inl (fun _ => 0))), (x7, .inl (cA 1, 46000, .inl (fun _ => 0))), (x1, .inr (16, (f1.set 28 (.int 0))))]) rfl ?_
  refine zz_istore_n X [(3, .int (-1)), (1, .int 0), (0, .ref x1)] dX16_literal_92 rfl (by decide) rfl ?_
  refine zz_aload_n X 2 dX16_literal_93 rfl rfl ?_
  refine zz_bipush X 61 dX16_literal_94 rfl ?_
  refine zz_callVi X (rest := []) (As := [.int 61]) (kX16_isSign_5 hE l D cA K V x1 (f1.set 28 (.int 0)) hss (zq_len hf1_n (by simp only [List.length_set])) (zq_same (zq_lt hf1_n (by decide) (by simp only [List.length_set])))) 1 (zgV zm_1047 zm_1048 zm_1049 zm_451 zm_1046) rfl (by decide +kernel) [6] [0, 1, 2, 3, 4, 5] [(x2, .inl (cA 1, 46000, .inl (fun _ => 0))), (x3, .inl (cA 1, 46000, .inl (fun _ => 0))), (x4, .inl (cA 1, 46000, .inl (fun _ => 0))), (x5, .inl (cA 1, 46000, .inl (fun _ => 0))), (x6, .inl (cA 1, 46000, .inl (fun _ => 0))), (x7, .inl (cA 1, 46000, .inl (fun _ => 0)))] rfl rfl (by decide) rfl (by decide) (by decide) ⟨Nat.le_of_ble_eq_true rfl, Nat.le_of_ble_eq_true rfl⟩ 0 rfl rfl rfl rfl rfl (Nat.le_of_ble_eq_true rfl) dX16_literal_96 (Nat.le_of_ble_eq_true rfl) (Nat.le_of_ble_eq_true rfl) (fun r9 _ hw10 => ?_)
  obtain rfl := hw10
  refine zz_show (ws' := [(x2, .inl (cA 1, 46000, .inl (fun _ => 0))), (x3, .inl (cA 1, 46000, .inl (fun _ => 0))), (x4, .inl (cA 1, 46000, .inl (fun _ => 0))), (x5, .inl (cA 1, 46000, .inl (fun _ => 0))), (x6, .inl (cA 1, 46000, .inl (fun _ => 0))), (x7, .inl (cA 1, 46000, .inl (fun _ => 0))), (x1, .inr (16, (f1.set 28 (.int 0))))]) rfl ?_
  refine zz_if_eq X 123 dX16_literal_99 (by decide) (fun _ => ?_) (fun h => absurd (by decide) h)
  refine zz_aload_n X 2 dX16_literal_123 rfl rfl ?_
  refine zz_sipush X 300 dX16_literal_124 rfl ?_
  refine zz_callVi X (rest := []) (As := [.int 300]) (kX16_isSign_6 hE l D cA K V x1 (f1.set 28 (.int 0)) hss (zq_len hf1_n (by simp only [List.length_set])) (zq_same (zq_lt hf1_n (by decide) (by simp only [List.length_set])))) 1 (zgV zm_1047 zm_1048 zm_1049 zm_451 zm_1046) rfl (by decide +kernel) [6] [0, 1, 2, 3, 4, 5] [(x2, .inl (cA 1, 46000, .inl (fun _ => 0))), (x3, .inl (cA 1, 46000, .inl (fun _ => 0))), (x4, .inl (cA 1, 46000, .inl (fun _ => 0))), (x5, .inl (cA 1, 46000, .inl (fun _ => 0))), (x6, .inl (cA 1, 46000, .inl (fun _ => 0))), (x7, .inl (cA 1, 46000, .inl (fun _ => 0)))] rfl rfl (by decide) rfl (by decide) (by decide) ⟨Nat.le_of_ble_eq_true rfl, Nat.le_of_ble_eq_true rfl⟩ 0 rfl rfl rfl rfl rfl (Nat.le_of_ble_eq_true rfl) dX16_literal_127 (Nat.le_of_ble_eq_true rfl) (Nat.le_of_ble_eq_true rfl) (fun r11 _ hw12 => ?_)
  obtain rfl := hw12
  refine zz_show (ws' := [(x2, .inl (cA 1, 46000, .inl (fun _ => 0))), (x3, .inl (cA 1, 46000, .inl (fun _ => 0))), (x4, .inl (cA 1, 46000, .inl (fun _ => 0))), (x5, .inl (cA 1, 46000, .inl (fun _ => 0))), (x6, .inl (cA 1, 46000, .inl (fun _ => 0))), (x7, .inl (cA 1, 46000, .inl (fun _ => 0))), (x1, .inr (16, (f1.set 28 (.int 0))))]) rfl ?_
  refine zz_if_eq X 178 dX16_literal_130 (by decide) (fun _ => ?_) (fun h => absurd (by decide) h)
  refine zz_aload_n X 2 dX16_literal_178 rfl rfl ?_
  refine zz_bipush X 24 dX16_literal_179 rfl ?_
  refine zz_iload_n X 1 dX16_literal_181 rfl rfl ?_
  refine zz_iload_n X 0 dX16_literal_182 rfl rfl ?_
  refine zz_iconst X 0 dX16_literal_183 rfl ?_
  refine zz_iconst X (-1) dX16_literal_184 rfl ?_
  refine zz_callVi X (rest := []) (As := [.int 24, .int 0, .int (-1), .int 0, .int (-1)]) (kX16_node_1 hE l D cA K V x1 (f1.set 28 (.int 0)) x2 x3 x4 x5 x6 x7 hss (zq_len hf1_n (by simp only [List.length_set])) (zq_oth (by decide) (hf1_31)) (zq_oth (by decide) (hf1_37)) (zq_oth (by decide) (hf1_32)) (zq_oth (by decide) (hf1_33)) (zq_oth (by decide) (hf1_34)) (zq_oth (by decide) (hf1_35)) (zq_oth (by decide) (hf1_36))) 5 (zgV zm_1071 zm_1072 zm_1073 zm_451 zm_1070) rfl (by decide +kernel) [6, 0, 1, 2, 3, 4, 5] [] [] rfl rfl (by decide) rfl (by decide) (by decide) ⟨Nat.le_of_ble_eq_true rfl, Nat.le_of_ble_eq_true rfl⟩ 0 rfl rfl rfl rfl rfl (Nat.le_of_ble_eq_true rfl) dX16_literal_185 (Nat.le_of_ble_eq_true rfl) (Nat.le_of_ble_eq_true rfl) (fun r13 _ hw14 => ?_)
  obtain rfl := hw14
  refine zz_show (ws' := [(x1, .inr (16, ((f1.set 28 (.int 0)).set 37 (.int 1)))), (x2, .inl (cA 1, 46000, .inl (upd (fun _ => 0) 0 24))), (x3, .inl (cA 1, 46000, .inl (upd (fun _ => 0) 0 0))), (x4, .inl (cA 1, 46000, .inl (upd (fun _ => 0) 0 (-1)))), (x5, .inl (cA 1, 46000, .inl (upd (fun _ => 0) 0 0))), (x6, .inl (cA 1, 46000, .inl (upd (fun _ => 0) 0 (-1)))), (x7, .inl (cA 1, 46000, .inl (upd (fun _ => 0) 0 (-1))))]) rfl ?_
  refine zz_istore_n X [(2, .int 0), (3, .int (-1)), (1, .int 0), (0, .ref x1)] dX16_literal_188 rfl (by decide) rfl ?_
  refine zz_aload_n X 3 dX16_literal_189 rfl rfl ?_
  refine zz_iload_n X 0 dX16_literal_190 rfl rfl ?_
  refine zz_callVv X (rest := []) (As := [.int 0]) (kX16_withs_1 hE l D cA K V x1 ((f1.set 28 (.int 0)).set 37 (.int 1)) hss (zq_len hf1_n (by simp only [List.length_set])) (zq_oth (by decide) ((zq_same (zq_lt hf1_n (by decide) (by simp only [List.length_set])))))) 1 (zgV zm_1075 zm_1076 zm_1077 zm_451 zm_1074) rfl (by decide +kernel) [0] [1, 2, 3, 4, 5, 6] [(x2, .inl (cA 1, 46000, .inl (upd (fun _ => 0) 0 24))), (x3, .inl (cA 1, 46000, .inl (upd (fun _ => 0) 0 0))), (x4, .inl (cA 1, 46000, .inl (upd (fun _ => 0) 0 (-1)))), (x5, .inl (cA 1, 46000, .inl (upd (fun _ => 0) 0 0))), (x6, .inl (cA 1, 46000, .inl (upd (fun _ => 0) 0 (-1)))), (x7, .inl (cA 1, 46000, .inl (upd (fun _ => 0) 0 (-1))))] rfl rfl (by decide) rfl (by decide) (by decide) ⟨Nat.le_of_ble_eq_true rfl, Nat.le_of_ble_eq_true rfl⟩ 0 rfl rfl rfl rfl rfl (Nat.le_of_ble_eq_true rfl) dX16_literal_191 (Nat.le_of_ble_eq_true rfl) (Nat.le_of_ble_eq_true rfl) (fun _ hw15 => ?_)
  refine zz_show (ws' := [(x2, .inl (cA 1, 46000, .inl (upd (fun _ => 0) 0 24))), (x3, .inl (cA 1, 46000, .inl (upd (fun _ => 0) 0 0))), (x4, .inl (cA 1, 46000, .inl (upd (fun _ => 0) 0 (-1)))), (x5, .inl (cA 1, 46000, .inl (upd (fun _ => 0) 0 0))), (x6, .inl (cA 1, 46000, .inl (upd (fun _ => 0) 0 (-1)))), (x7, .inl (cA 1, 46000, .inl (upd (fun _ => 0) 0 (-1)))), (x1, .inr (16, ((f1.set 28 (.int 0)).set 37 (.int 1))))]) rfl ?_
  refine zz_iload_n X 0 dX16_literal_194 rfl rfl ?_
  exact zz_iret X hr (()) [6, 0, 1, 2, 3, 4, 5] (by decide) rfl rfl (Nat.le_of_ble_eq_true rfl) (Nat.le_of_ble_eq_true rfl) (rfl) dX16_literal_195

set_option maxHeartbeats 4000000 in
set_option maxRecDepth 100000 in
/-- hang -/
theorem kX16_hang_1 {E : zEn} (hE : zOk E) (l : Launch) (D : va_G) (cA : Nat → ClassId) (K : Nat → Nat) (V : Nat → Nat) (x1 : Nat) (f1 : List Value) (hss : zSS E K V) (hf1_n : f1.length = 243) : zMi E l yX16_hang zwX16_hang ({ frames := 0, cells := 0, slots := 0, locals := 0 }) D vwCl (zT cA) [.ref x1, .int (-1), .int 0] [(x1, .inr (16, f1))] (S := Unit) (fun (r : Int32) (u : Unit) => (r = 0)) (fun (u : Unit) => [(x1, .inr (16, f1))]) := by
  refine zz_enteri (cc := cX16_hang) (lv := [(0, .ref x1), (1, .int (-1)), (2, .int 0)]) hE 3 (by decide) rfl (Nat.le_of_ble_eq_true rfl) rfl ?_
  intro p e s m args below meth c X hr hin
  refine zz_iload_n X 1 dX16_hang_0 rfl rfl ?_
  refine zz_iconst X (-1) dX16_hang_1 rfl ?_
  refine zz_icmp_eq X 17 dX16_hang_2 (by decide) (fun _ => ?_) (fun h => absurd (by decide) h)
  refine zz_iload_n X 2 dX16_hang_17 rfl rfl ?_
  exact zz_iret X hr (()) [0] (by decide) rfl rfl (Nat.le_of_ble_eq_true rfl) (Nat.le_of_ble_eq_true rfl) (rfl) dX16_hang_18

set_option maxHeartbeats 4000000 in
set_option maxRecDepth 100000 in
/-- literals -/
theorem kX16_literals_1 {E : zEn} (hE : zOk E) (l : Launch) (D : va_G) (cA : Nat → ClassId) (K : Nat → Nat) (V : Nat → Nat) (x1 : Nat) (f1 : List Value) (x2 : Nat) (x3 : Nat) (x4 : Nat) (x5 : Nat) (x6 : Nat) (x7 : Nat) (x8 : Nat) (x9 : Nat) (x10 : Nat) (x11 : Nat) (x12 : Nat) (hss : zSS E K V) (hf1_n : f1.length = 243) (hf1_48 : f1[48]? = some (.int 0)) (hf1_43 : f1[43]? = some (.ref x2)) (hf1_44 : f1[44]? = some (.ref x3)) (hf1_45 : f1[45]? = some (.ref x4)) (hf1_50 : f1[50]? = some (.int 400)) (hf1_46 : f1[46]? = some (.ref x5)) (hf1_47 : f1[47]? = some (.ref x6)) (hf1_28 : f1[28]? = some (.int (-1))) (hf1_25 : f1[25]? = some (.int 0)) (hf1_23 : f1[23]? = some (.int 0)) (hf1_31 : f1[31]? = some (.ref x7)) (hf1_37 : f1[37]? = some (.int 0)) (hf1_32 : f1[32]? = some (.ref x8)) (hf1_33 : f1[33]? = some (.ref x9)) (hf1_34 : f1[34]? = some (.ref x10)) (hf1_35 : f1[35]? = some (.ref x11)) (hf1_36 : f1[36]? = some (.ref x12)) : zMi E l yX16_literals zwX16_literals ({ frames := 9, cells := 0, slots := 0, locals := 228 }) D vwCl (zT cA) [.ref x1, .int 0, .int 0] [(x1, .inr (16, f1)), (x2, .inl (cA 1, 7700, .inl (fun _ => 0))), (x3, .inl (cA 1, 7700, .inl (fun _ => 0))), (x4, .inl (cA 1, 7700, .inl (fun _ => 0))), (x5, .inl (cA 1, 7700, .inl (fun _ => 0))), (x6, .inl (cA 1, 7700, .inl (fun _ => 0))), (x7, .inl (cA 1, 46000, .inl (fun _ => 0))), (x8, .inl (cA 1, 46000, .inl (fun _ => 0))), (x9, .inl (cA 1, 46000, .inl (fun _ => 0))), (x10, .inl (cA 1, 46000, .inl (fun _ => 0))), (x11, .inl (cA 1, 46000, .inl (fun _ => 0))), (x12, .inl (cA 1, 46000, .inl (fun _ => 0)))] (S := Unit) (fun (r : Int32) (u : Unit) => (r = 0)) (fun (u : Unit) => [(x1, .inr (16, (((f1.set 48 (.int 1)).set 28 (.int 0)).set 37 (.int 1)))), (x2, .inl (cA 1, 7700, .inl (upd (upd (fun _ => 0) 0 (-1)) 0 0))), (x3, .inl (cA 1, 7700, .inl (upd (fun _ => 0) 0 (-1)))), (x4, .inl (cA 1, 7700, .inl (upd (fun _ => 0) 0 400))), (x5, .inl (cA 1, 7700, .inl (upd (fun _ => 0) 0 0))), (x6, .inl (cA 1, 7700, .inl (upd (upd (fun _ => 0) 0 0) 0 1))), (x7, .inl (cA 1, 46000, .inl (upd (fun _ => 0) 0 24))), (x8, .inl (cA 1, 46000, .inl (upd (fun _ => 0) 0 0))), (x9, .inl (cA 1, 46000, .inl (upd (fun _ => 0) 0 (-1)))), (x10, .inl (cA 1, 46000, .inl (upd (fun _ => 0) 0 0))), (x11, .inl (cA 1, 46000, .inl (upd (fun _ => 0) 0 (-1)))), (x12, .inl (cA 1, 46000, .inl (upd (fun _ => 0) 0 (-1))))]) := by
  refine zz_enteri (cc := cX16_literals) (lv := [(0, .ref x1), (1, .int 0), (2, .int 0)]) hE 6 (by decide) rfl (Nat.le_of_ble_eq_true rfl) rfl ?_
  intro p e s m args below meth c X hr hin
  refine zz_aload_n X 0 dX16_literals_0 rfl rfl ?_
  refine zz_iload_n X 2 dX16_literals_1 rfl rfl ?_
  refine zz_callVi X (rest := []) (As := [.int 0]) (kX16_newBody_1 hE l D cA K V x1 f1 x2 x3 x4 x5 x6 hss (zq_len hf1_n (by simp only [List.length_set])) hf1_48 hf1_43 hf1_44 hf1_45 hf1_50 hf1_46 hf1_47) 1 (zgV zm_1043 zm_1044 zm_1045 zm_451 zm_1042) rfl (by decide +kernel) [0, 1, 2, 3, 4, 5] [6, 7, 8, 9, 10, 11] [(x7, .inl (cA 1, 46000, .inl (fun _ => 0))), (x8, .inl (cA 1, 46000, .inl (fun _ => 0))), (x9, .inl (cA 1, 46000, .inl (fun _ => 0))), (x10, .inl (cA 1, 46000, .inl (fun _ => 0))), (x11, .inl (cA 1, 46000, .inl (fun _ => 0))), (x12, .inl (cA 1, 46000, .inl (fun _ => 0)))] rfl rfl (by decide) rfl (by decide) (by decide) ⟨Nat.le_of_ble_eq_true rfl, Nat.le_of_ble_eq_true rfl⟩ 0 rfl rfl rfl rfl rfl (Nat.le_of_ble_eq_true rfl) dX16_literals_2 (Nat.le_of_ble_eq_true rfl) (Nat.le_of_ble_eq_true rfl) (fun r1 _ hw2 => ?_)
  obtain rfl := hw2
  refine zz_show (ws' := [(x7, .inl (cA 1, 46000, .inl (fun _ => 0))), (x8, .inl (cA 1, 46000, .inl (fun _ => 0))), (x9, .inl (cA 1, 46000, .inl (fun _ => 0))), (x10, .inl (cA 1, 46000, .inl (fun _ => 0))), (x11, .inl (cA 1, 46000, .inl (fun _ => 0))), (x12, .inl (cA 1, 46000, .inl (fun _ => 0))), (x1, .inr (16, (f1.set 48 (.int 1)))), (x2, .inl (cA 1, 7700, .inl (upd (fun _ => 0) 0 (-1)))), (x3, .inl (cA 1, 7700, .inl (upd (fun _ => 0) 0 (-1)))), (x4, .inl (cA 1, 7700, .inl (upd (fun _ => 0) 0 400))), (x5, .inl (cA 1, 7700, .inl (upd (fun _ => 0) 0 0))), (x6, .inl (cA 1, 7700, .inl (upd (fun _ => 0) 0 0)))]) rfl ?_
  refine zz_istore_n X [(3, .int 0), (0, .ref x1), (1, .int 0), (2, .int 0)] dX16_literals_5 rfl (by decide) rfl ?_
  refine zz_iconst X (-1) dX16_literals_6 rfl ?_
  refine zz_istore X [(4, .int (-1)), (3, .int 0), (0, .ref x1), (1, .int 0), (2, .int 0)] dX16_literals_7 (by decide) rfl ?_
  refine zz_aload_n X 2 dX16_literals_9 rfl rfl ?_
  refine zz_callVi X (rest := []) (As := []) (kX16_bad_1 hE l D cA K V x1 (f1.set 48 (.int 1)) hss (zq_len hf1_n (by simp only [List.length_set])) (zq_oth (by decide) (hf1_28))) 0 (zgV zm_805 zm_806 zm_807 zm_451 zm_804) rfl (by decide +kernel) [6] [0, 1, 2, 3, 4, 5, 7, 8, 9, 10, 11] [(x7, .inl (cA 1, 46000, .inl (fun _ => 0))), (x8, .inl (cA 1, 46000, .inl (fun _ => 0))), (x9, .inl (cA 1, 46000, .inl (fun _ => 0))), (x10, .inl (cA 1, 46000, .inl (fun _ => 0))), (x11, .inl (cA 1, 46000, .inl (fun _ => 0))), (x12, .inl (cA 1, 46000, .inl (fun _ => 0))), (x2, .inl (cA 1, 7700, .inl (upd (fun _ => 0) 0 (-1)))), (x3, .inl (cA 1, 7700, .inl (upd (fun _ => 0) 0 (-1)))), (x4, .inl (cA 1, 7700, .inl (upd (fun _ => 0) 0 400))), (x5, .inl (cA 1, 7700, .inl (upd (fun _ => 0) 0 0))), (x6, .inl (cA 1, 7700, .inl (upd (fun _ => 0) 0 0)))] rfl rfl (by decide) rfl (by decide) (by decide) ⟨Nat.le_of_ble_eq_true rfl, Nat.le_of_ble_eq_true rfl⟩ 0 rfl rfl rfl rfl rfl (Nat.le_of_ble_eq_true rfl) dX16_literals_10 (Nat.le_of_ble_eq_true rfl) (Nat.le_of_ble_eq_true rfl) (fun r3 _ hw4 => ?_)
  obtain rfl := hw4
  refine zz_show (ws' := [(x7, .inl (cA 1, 46000, .inl (fun _ => 0))), (x8, .inl (cA 1, 46000, .inl (fun _ => 0))), (x9, .inl (cA 1, 46000, .inl (fun _ => 0))), (x10, .inl (cA 1, 46000, .inl (fun _ => 0))), (x11, .inl (cA 1, 46000, .inl (fun _ => 0))), (x12, .inl (cA 1, 46000, .inl (fun _ => 0))), (x2, .inl (cA 1, 7700, .inl (upd (fun _ => 0) 0 (-1)))), (x3, .inl (cA 1, 7700, .inl (upd (fun _ => 0) 0 (-1)))), (x4, .inl (cA 1, 7700, .inl (upd (fun _ => 0) 0 400))), (x5, .inl (cA 1, 7700, .inl (upd (fun _ => 0) 0 0))), (x6, .inl (cA 1, 7700, .inl (upd (fun _ => 0) 0 0))), (x1, .inr (16, (f1.set 48 (.int 1))))]) rfl ?_
  refine zz_if_ne X 20 dX16_literals_13 (by decide) (fun h => absurd (by decide) h) (fun _ => ?_)
  refine zz_iconst X 1 dX16_literals_16 rfl ?_
  refine zz_goto X 21 dX16_literals_17 (by decide) ?_
  refine zz_istore X [(5, .int 1), (4, .int (-1)), (3, .int 0), (0, .ref x1), (1, .int 0), (2, .int 0)] dX16_literals_21 (by decide) rfl ?_
  refine zz_iload X 0 dX16_literals_23 rfl ?_
  refine zz_if_eq X 165 dX16_literals_25 (by decide) (fun h => absurd h (by decide)) (fun _ => ?_)
  refine zz_aload_n X 3 dX16_literals_28 rfl rfl ?_
  refine zz_iload X 1 dX16_literals_29 rfl ?_
  refine zz_aload_n X 3 dX16_literals_31 rfl rfl ?_
  refine zz_callVi X (rest := [.int (-1), .ref x1]) (As := []) (kX16_literal_1 hE l D cA K V x1 (f1.set 48 (.int 1)) x7 x8 x9 x10 x11 x12 hss (zq_len hf1_n (by simp only [List.length_set])) (zq_oth (by decide) (hf1_25)) (zq_oth (by decide) (hf1_28)) (zq_oth (by decide) (hf1_23)) (zq_oth (by decide) (hf1_31)) (zq_oth (by decide) (hf1_37)) (zq_oth (by decide) (hf1_32)) (zq_oth (by decide) (hf1_33)) (zq_oth (by decide) (hf1_34)) (zq_oth (by decide) (hf1_35)) (zq_oth (by decide) (hf1_36))) 0 (zgV zm_1079 zm_1080 zm_1081 zm_451 zm_1078) rfl (by decide +kernel) [11, 0, 1, 2, 3, 4, 5] [6, 7, 8, 9, 10] [(x2, .inl (cA 1, 7700, .inl (upd (fun _ => 0) 0 (-1)))), (x3, .inl (cA 1, 7700, .inl (upd (fun _ => 0) 0 (-1)))), (x4, .inl (cA 1, 7700, .inl (upd (fun _ => 0) 0 400))), (x5, .inl (cA 1, 7700, .inl (upd (fun _ => 0) 0 0))), (x6, .inl (cA 1, 7700, .inl (upd (fun _ => 0) 0 0)))] rfl rfl (by decide) rfl (by decide) (by decide) ⟨Nat.le_of_ble_eq_true rfl, Nat.le_of_ble_eq_true rfl⟩ 0 rfl rfl rfl rfl rfl (Nat.le_of_ble_eq_true rfl) dX16_literals_32 (Nat.le_of_ble_eq_true rfl) (Nat.le_of_ble_eq_true rfl) (fun r5 _ hw6 => ?_)
  obtain rfl := hw6
  refine zz_show (ws' := [(x2, .inl (cA 1, 7700, .inl (upd (fun _ => 0) 0 (-1)))), (x3, .inl (cA 1, 7700, .inl (upd (fun _ => 0) 0 (-1)))), (x4, .inl (cA 1, 7700, .inl (upd (fun _ => 0) 0 400))), (x5, .inl (cA 1, 7700, .inl (upd (fun _ => 0) 0 0))), (x6, .inl (cA 1, 7700, .inl (upd (fun _ => 0) 0 0))), (x1, .inr (16, (((f1.set 48 (.int 1)).set 28 (.int 0)).set 37 (.int 1)))), (x7, .inl (cA 1, 46000, .inl (upd (fun _ => 0) 0 24))), (x8, .inl (cA 1, 46000, .inl (upd (fun _ => 0) 0 0))), (x9, .inl (cA 1, 46000, .inl (upd (fun _ => 0) 0 (-1)))), (x10, .inl (cA 1, 46000, .inl (upd (fun _ => 0) 0 0))), (x11, .inl (cA 1, 46000, .inl (upd (fun _ => 0) 0 (-1)))), (x12, .inl (cA 1, 46000, .inl (upd (fun _ => 0) 0 (-1))))]) rfl ?_
  refine zz_callVi X (rest := []) (As := [.int (-1), .int 0]) (kX16_hang_1 hE l D cA K V x1 (((f1.set 48 (.int 1)).set 28 (.int 0)).set 37 (.int 1)) hss (zq_len hf1_n (by simp only [List.length_set]))) 2 (zgV zm_1083 zm_1084 zm_1085 zm_451 zm_1082) rfl (by decide +kernel) [5] [0, 1, 2, 3, 4, 6, 7, 8, 9, 10, 11] [(x2, .inl (cA 1, 7700, .inl (upd (fun _ => 0) 0 (-1)))), (x3, .inl (cA 1, 7700, .inl (upd (fun _ => 0) 0 (-1)))), (x4, .inl (cA 1, 7700, .inl (upd (fun _ => 0) 0 400))), (x5, .inl (cA 1, 7700, .inl (upd (fun _ => 0) 0 0))), (x6, .inl (cA 1, 7700, .inl (upd (fun _ => 0) 0 0))), (x7, .inl (cA 1, 46000, .inl (upd (fun _ => 0) 0 24))), (x8, .inl (cA 1, 46000, .inl (upd (fun _ => 0) 0 0))), (x9, .inl (cA 1, 46000, .inl (upd (fun _ => 0) 0 (-1)))), (x10, .inl (cA 1, 46000, .inl (upd (fun _ => 0) 0 0))), (x11, .inl (cA 1, 46000, .inl (upd (fun _ => 0) 0 (-1)))), (x12, .inl (cA 1, 46000, .inl (upd (fun _ => 0) 0 (-1))))] rfl rfl (by decide) rfl (by decide) (by decide) ⟨Nat.le_of_ble_eq_true rfl, Nat.le_of_ble_eq_true rfl⟩ 0 rfl rfl rfl rfl rfl (Nat.le_of_ble_eq_true rfl) dX16_literals_35 (Nat.le_of_ble_eq_true rfl) (Nat.le_of_ble_eq_true rfl) (fun r7 _ hw8 => ?_)
  obtain rfl := hw8
  refine zz_show (ws' := [(x2, .inl (cA 1, 7700, .inl (upd (fun _ => 0) 0 (-1)))), (x3, .inl (cA 1, 7700, .inl (upd (fun _ => 0) 0 (-1)))), (x4, .inl (cA 1, 7700, .inl (upd (fun _ => 0) 0 400))), (x5, .inl (cA 1, 7700, .inl (upd (fun _ => 0) 0 0))), (x6, .inl (cA 1, 7700, .inl (upd (fun _ => 0) 0 0))), (x7, .inl (cA 1, 46000, .inl (upd (fun _ => 0) 0 24))), (x8, .inl (cA 1, 46000, .inl (upd (fun _ => 0) 0 0))), (x9, .inl (cA 1, 46000, .inl (upd (fun _ => 0) 0 (-1)))), (x10, .inl (cA 1, 46000, .inl (upd (fun _ => 0) 0 0))), (x11, .inl (cA 1, 46000, .inl (upd (fun _ => 0) 0 (-1)))), (x12, .inl (cA 1, 46000, .inl (upd (fun _ => 0) 0 (-1)))), (x1, .inr (16, (((f1.set 48 (.int 1)).set 28 (.int 0)).set 37 (.int 1))))]) rfl ?_
  refine zz_istore X [(4, .int 0), (5, .int 1), (3, .int 0), (0, .ref x1), (1, .int 0), (2, .int 0)] dX16_literals_38 (by decide) rfl ?_
  refine zz_aload_n X 3 dX16_literals_40 rfl rfl ?_
  refine zz_get X 11 43 rfl rfl (by decide) (fun w h => List.mem_cons_of_mem _ (zf_X16 w h)) rfl (List.mem_cons_of_mem _ zm_478) (zq_oth (by decide) (zq_oth (by decide) (zq_oth (by decide) (hf1_43)))) dX16_literals_41 ?_
  refine zz_iload_n X 2 dX16_literals_44 rfl rfl ?_
  refine zz_iald X 0 1 rfl rfl (vp_in_nI (n := 0) (by decide) (by decide)) ((-1)) rfl dX16_literals_45 ?_
  refine zz_iconst X (-1) dX16_literals_46 rfl ?_
  refine zz_icmp_ne X 58 dX16_literals_47 (by decide) (fun h => absurd (by decide) h) (fun _ => ?_)
  refine zz_aload_n X 3 dX16_literals_50 rfl rfl ?_
  refine zz_get X 11 43 rfl rfl (by decide) (fun w h => List.mem_cons_of_mem _ (zf_X16 w h)) rfl (List.mem_cons_of_mem _ zm_478) (zq_oth (by decide) (zq_oth (by decide) (zq_oth (by decide) (hf1_43)))) dX16_literals_51 ?_
  refine zz_iload_n X 2 dX16_literals_54 rfl rfl ?_
  refine zz_iload X 0 dX16_literals_55 rfl ?_
  refine zz_iast X 0 1 rfl rfl (vp_in_nI (n := 0) (by decide) (by decide)) 0 (by decide) dX16_literals_57 [(x2, .inl (cA 1, 7700, .inl (upd (upd (fun _ => 0) 0 (-1)) 0 0))), (x3, .inl (cA 1, 7700, .inl (upd (fun _ => 0) 0 (-1)))), (x4, .inl (cA 1, 7700, .inl (upd (fun _ => 0) 0 400))), (x5, .inl (cA 1, 7700, .inl (upd (fun _ => 0) 0 0))), (x6, .inl (cA 1, 7700, .inl (upd (fun _ => 0) 0 0))), (x7, .inl (cA 1, 46000, .inl (upd (fun _ => 0) 0 24))), (x8, .inl (cA 1, 46000, .inl (upd (fun _ => 0) 0 0))), (x9, .inl (cA 1, 46000, .inl (upd (fun _ => 0) 0 (-1)))), (x10, .inl (cA 1, 46000, .inl (upd (fun _ => 0) 0 0))), (x11, .inl (cA 1, 46000, .inl (upd (fun _ => 0) 0 (-1)))), (x12, .inl (cA 1, 46000, .inl (upd (fun _ => 0) 0 (-1)))), (x1, .inr (16, (((f1.set 48 (.int 1)).set 28 (.int 0)).set 37 (.int 1))))] rfl ?_
  refine zz_aload_n X 3 dX16_literals_58 rfl rfl ?_
  refine zz_get X 11 47 rfl rfl (by decide) (fun w h => List.mem_cons_of_mem _ (zf_X16 w h)) rfl (List.mem_cons_of_mem _ zm_482) (zq_oth (by decide) (zq_oth (by decide) (zq_oth (by decide) (hf1_47)))) dX16_literals_59 ?_
  refine zz_iload_n X 2 dX16_literals_62 rfl rfl ?_
  refine zz_dup2 X dX16_literals_63 rfl rfl ?_
  refine zz_iald X 4 1 rfl rfl (vp_in_nI (n := 0) (by decide) (by decide)) (0) rfl dX16_literals_64 ?_
  refine zz_iconst X 1 dX16_literals_65 rfl ?_
  refine zz_iadd X (1) dX16_literals_66 (by decide) ?_
  refine zz_iast X 4 1 rfl rfl (vp_in_nI (n := 0) (by decide) (by decide)) 0 (by decide) dX16_literals_67 [(x2, .inl (cA 1, 7700, .inl (upd (upd (fun _ => 0) 0 (-1)) 0 0))), (x3, .inl (cA 1, 7700, .inl (upd (fun _ => 0) 0 (-1)))), (x4, .inl (cA 1, 7700, .inl (upd (fun _ => 0) 0 400))), (x5, .inl (cA 1, 7700, .inl (upd (fun _ => 0) 0 0))), (x6, .inl (cA 1, 7700, .inl (upd (upd (fun _ => 0) 0 0) 0 1))), (x7, .inl (cA 1, 46000, .inl (upd (fun _ => 0) 0 24))), (x8, .inl (cA 1, 46000, .inl (upd (fun _ => 0) 0 0))), (x9, .inl (cA 1, 46000, .inl (upd (fun _ => 0) 0 (-1)))), (x10, .inl (cA 1, 46000, .inl (upd (fun _ => 0) 0 0))), (x11, .inl (cA 1, 46000, .inl (upd (fun _ => 0) 0 (-1)))), (x12, .inl (cA 1, 46000, .inl (upd (fun _ => 0) 0 (-1)))), (x1, .inr (16, (((f1.set 48 (.int 1)).set 28 (.int 0)).set 37 (.int 1))))] rfl ?_
  refine zz_aload_n X 3 dX16_literals_68 rfl rfl ?_
  refine zz_callVi X (rest := []) (As := []) (kX16_bad_2 hE l D cA K V x1 (((f1.set 48 (.int 1)).set 28 (.int 0)).set 37 (.int 1)) hss (zq_len hf1_n (by simp only [List.length_set])) (zq_oth (by decide) ((zq_same (zq_lt hf1_n (by decide) (by simp only [List.length_set])))))) 0 (zgV zm_805 zm_806 zm_807 zm_451 zm_804) rfl (by decide +kernel) [11] [0, 1, 2, 3, 4, 5, 6, 7, 8, 9, 10] [(x2, .inl (cA 1, 7700, .inl (upd (upd (fun _ => 0) 0 (-1)) 0 0))), (x3, .inl (cA 1, 7700, .inl (upd (fun _ => 0) 0 (-1)))), (x4, .inl (cA 1, 7700, .inl (upd (fun _ => 0) 0 400))), (x5, .inl (cA 1, 7700, .inl (upd (fun _ => 0) 0 0))), (x6, .inl (cA 1, 7700, .inl (upd (upd (fun _ => 0) 0 0) 0 1))), (x7, .inl (cA 1, 46000, .inl (upd (fun _ => 0) 0 24))), (x8, .inl (cA 1, 46000, .inl (upd (fun _ => 0) 0 0))), (x9, .inl (cA 1, 46000, .inl (upd (fun _ => 0) 0 (-1)))), (x10, .inl (cA 1, 46000, .inl (upd (fun _ => 0) 0 0))), (x11, .inl (cA 1, 46000, .inl (upd (fun _ => 0) 0 (-1)))), (x12, .inl (cA 1, 46000, .inl (upd (fun _ => 0) 0 (-1))))] rfl rfl (by decide) rfl (by decide) (by decide) ⟨Nat.le_of_ble_eq_true rfl, Nat.le_of_ble_eq_true rfl⟩ 0 rfl rfl rfl rfl rfl (Nat.le_of_ble_eq_true rfl) dX16_literals_69 (Nat.le_of_ble_eq_true rfl) (Nat.le_of_ble_eq_true rfl) (fun r9 _ hw10 => ?_)
  obtain rfl := hw10
  refine zz_show (ws' := [(x2, .inl (cA 1, 7700, .inl (upd (upd (fun _ => 0) 0 (-1)) 0 0))), (x3, .inl (cA 1, 7700, .inl (upd (fun _ => 0) 0 (-1)))), (x4, .inl (cA 1, 7700, .inl (upd (fun _ => 0) 0 400))), (x5, .inl (cA 1, 7700, .inl (upd (fun _ => 0) 0 0))), (x6, .inl (cA 1, 7700, .inl (upd (upd (fun _ => 0) 0 0) 0 1))), (x7, .inl (cA 1, 46000, .inl (upd (fun _ => 0) 0 24))), (x8, .inl (cA 1, 46000, .inl (upd (fun _ => 0) 0 0))), (x9, .inl (cA 1, 46000, .inl (upd (fun _ => 0) 0 (-1)))), (x10, .inl (cA 1, 46000, .inl (upd (fun _ => 0) 0 0))), (x11, .inl (cA 1, 46000, .inl (upd (fun _ => 0) 0 (-1)))), (x12, .inl (cA 1, 46000, .inl (upd (fun _ => 0) 0 (-1)))), (x1, .inr (16, (((f1.set 48 (.int 1)).set 28 (.int 0)).set 37 (.int 1))))]) rfl ?_
  refine zz_if_eq X 77 dX16_literals_72 (by decide) (fun h => absurd h (by decide)) (fun _ => ?_)
  refine zz_iload_n X 2 dX16_literals_75 rfl rfl ?_
  exact zz_iret X hr (()) [11, 0, 1, 2, 3, 4, 5, 6, 7, 8, 9, 10] (by decide) rfl rfl (Nat.le_of_ble_eq_true rfl) (Nat.le_of_ble_eq_true rfl) (rfl) dX16_literals_76

set_option maxHeartbeats 4000000 in
set_option maxRecDepth 100000 in
/-- readQuery -/
theorem kX16_readQuery_1 {E : zEn} (hE : zOk E) (l : Launch) (D : va_G) (cA : Nat → ClassId) (K : Nat → Nat) (V : Nat → Nat) (x1 : Nat) (x2 : Nat) (f1 : List Value) (x3 : Nat) (x4 : Nat) (x5 : Nat) (x6 : Nat) (x7 : Nat) (x8 : Nat) (x9 : Nat) (x10 : Nat) (x11 : Nat) (x12 : Nat) (x13 : Nat) (hss : zSS E K V) (hf1_n : f1.length = 243) (hf1_48 : f1[48]? = some (.int 0)) (hf1_43 : f1[43]? = some (.ref x3)) (hf1_44 : f1[44]? = some (.ref x4)) (hf1_45 : f1[45]? = some (.ref x5)) (hf1_46 : f1[46]? = some (.ref x6)) (hf1_47 : f1[47]? = some (.ref x7)) (hf1_31 : f1[31]? = some (.ref x8)) (hf1_37 : f1[37]? = some (.int 0)) (hf1_32 : f1[32]? = some (.ref x9)) (hf1_33 : f1[33]? = some (.ref x10)) (hf1_34 : f1[34]? = some (.ref x11)) (hf1_35 : f1[35]? = some (.ref x12)) (hf1_36 : f1[36]? = some (.ref x13)) : zMv E l yX16_readQuery zwX16_readQuery ({ frames := 10, cells := 0, slots := 0, locals := 253 }) D vwCl (zT cA) [.ref x1, .ref x2, .int 0] [(x1, .inr (16, f1)), (x3, .inl (cA 1, 7700, .inl (fun _ => 0))), (x4, .inl (cA 1, 7700, .inl (fun _ => 0))), (x5, .inl (cA 1, 7700, .inl (fun _ => 0))), (x6, .inl (cA 1, 7700, .inl (fun _ => 0))), (x7, .inl (cA 1, 7700, .inl (fun _ => 0))), (x8, .inl (cA 1, 46000, .inl (fun _ => 0))), (x9, .inl (cA 1, 46000, .inl (fun _ => 0))), (x10, .inl (cA 1, 46000, .inl (fun _ => 0))), (x11, .inl (cA 1, 46000, .inl (fun _ => 0))), (x12, .inl (cA 1, 46000, .inl (fun _ => 0))), (x13, .inl (cA 1, 46000, .inl (fun _ => 0)))] (S := Unit) (fun (u : Unit) => (True)) (fun (u : Unit) => [(x1, .inr (16, (((((((((((((((((f1.set 21 (.ref x2)).set 22 (.int 0)).set 28 (.int (-1))).set 26 (.int 0)).set 29 (.int 0)).set 30 (.int 0)).set 25 (.int 0)).set 27 (.int (-1))).set 2 (.int (-1))).set 23 (.int 0)).set 26 (.int 0)).set 50 (.int 400)).set 49 (.int 0)).set 48 (.int 1)).set 28 (.int 0)).set 37 (.int 1)).set 226 (.int 0)))), (x3, .inl (cA 1, 7700, .inl (upd (upd (fun _ => 0) 0 (-1)) 0 0))), (x4, .inl (cA 1, 7700, .inl (upd (fun _ => 0) 0 (-1)))), (x5, .inl (cA 1, 7700, .inl (upd (fun _ => 0) 0 400))), (x6, .inl (cA 1, 7700, .inl (upd (fun _ => 0) 0 0))), (x7, .inl (cA 1, 7700, .inl (upd (upd (fun _ => 0) 0 0) 0 1))), (x8, .inl (cA 1, 46000, .inl (upd (fun _ => 0) 0 24))), (x9, .inl (cA 1, 46000, .inl (upd (fun _ => 0) 0 0))), (x10, .inl (cA 1, 46000, .inl (upd (fun _ => 0) 0 (-1)))), (x11, .inl (cA 1, 46000, .inl (upd (fun _ => 0) 0 0))), (x12, .inl (cA 1, 46000, .inl (upd (fun _ => 0) 0 (-1)))), (x13, .inl (cA 1, 46000, .inl (upd (fun _ => 0) 0 (-1))))]) := by
  refine zz_enterv (cc := cX16_readQuery) (lv := [(0, .ref x1), (1, .ref x2), (2, .int 0)]) hE 3 (by decide) rfl (Nat.le_of_ble_eq_true rfl) rfl ?_
  intro p e s m args below meth c X hr hin
  refine zz_aload_n X 0 dX16_readQuery_0 rfl rfl ?_
  refine zz_aload_n X 1 dX16_readQuery_1 rfl rfl ?_
  refine zz_iload_n X 2 dX16_readQuery_2 rfl rfl ?_
  refine zz_callVv X (rest := []) (As := [.ref x2, .int 0]) (kX16_begin_1 hE l D cA K V x1 x2 f1 hss (zq_len hf1_n (by simp only [List.length_set]))) 2 (zgV zm_800 zm_801 zm_802 zm_451 zm_799) rfl (by decide +kernel) [0] [1, 2, 3, 4, 5, 6, 7, 8, 9, 10, 11] [(x3, .inl (cA 1, 7700, .inl (fun _ => 0))), (x4, .inl (cA 1, 7700, .inl (fun _ => 0))), (x5, .inl (cA 1, 7700, .inl (fun _ => 0))), (x6, .inl (cA 1, 7700, .inl (fun _ => 0))), (x7, .inl (cA 1, 7700, .inl (fun _ => 0))), (x8, .inl (cA 1, 46000, .inl (fun _ => 0))), (x9, .inl (cA 1, 46000, .inl (fun _ => 0))), (x10, .inl (cA 1, 46000, .inl (fun _ => 0))), (x11, .inl (cA 1, 46000, .inl (fun _ => 0))), (x12, .inl (cA 1, 46000, .inl (fun _ => 0))), (x13, .inl (cA 1, 46000, .inl (fun _ => 0)))] rfl rfl (by decide) rfl (by decide) (by decide) ⟨Nat.le_of_ble_eq_true rfl, Nat.le_of_ble_eq_true rfl⟩ 0 rfl rfl rfl rfl rfl (Nat.le_of_ble_eq_true rfl) dX16_readQuery_3 (Nat.le_of_ble_eq_true rfl) (Nat.le_of_ble_eq_true rfl) (fun _ hw1 => ?_)
  refine zz_show (ws' := [(x3, .inl (cA 1, 7700, .inl (fun _ => 0))), (x4, .inl (cA 1, 7700, .inl (fun _ => 0))), (x5, .inl (cA 1, 7700, .inl (fun _ => 0))), (x6, .inl (cA 1, 7700, .inl (fun _ => 0))), (x7, .inl (cA 1, 7700, .inl (fun _ => 0))), (x8, .inl (cA 1, 46000, .inl (fun _ => 0))), (x9, .inl (cA 1, 46000, .inl (fun _ => 0))), (x10, .inl (cA 1, 46000, .inl (fun _ => 0))), (x11, .inl (cA 1, 46000, .inl (fun _ => 0))), (x12, .inl (cA 1, 46000, .inl (fun _ => 0))), (x13, .inl (cA 1, 46000, .inl (fun _ => 0))), (x1, .inr (16, (((((((((((f1.set 21 (.ref x2)).set 22 (.int 0)).set 28 (.int (-1))).set 26 (.int 0)).set 29 (.int 0)).set 30 (.int 0)).set 25 (.int 0)).set 27 (.int (-1))).set 2 (.int (-1))).set 23 (.int 0)).set 26 (.int 0))))]) rfl ?_
  refine zz_aload_n X 0 dX16_readQuery_6 rfl rfl ?_
  refine zz_sipush X 400 dX16_readQuery_7 rfl ?_
  refine zz_put X 11 50 rfl rfl (by decide) (fun w h => List.mem_cons_of_mem _ (zf_X16 w h)) rfl (List.mem_cons_of_mem _ zm_803) tyX16 tyX16_ok nmX16 rfl (ty := .int) rfl rfl rfl (zq_lt hf1_n (by decide) (by simp only [List.length_set])) dX16_readQuery_10 [(x3, .inl (cA 1, 7700, .inl (fun _ => 0))), (x4, .inl (cA 1, 7700, .inl (fun _ => 0))), (x5, .inl (cA 1, 7700, .inl (fun _ => 0))), (x6, .inl (cA 1, 7700, .inl (fun _ => 0))), (x7, .inl (cA 1, 7700, .inl (fun _ => 0))), (x8, .inl (cA 1, 46000, .inl (fun _ => 0))), (x9, .inl (cA 1, 46000, .inl (fun _ => 0))), (x10, .inl (cA 1, 46000, .inl (fun _ => 0))), (x11, .inl (cA 1, 46000, .inl (fun _ => 0))), (x12, .inl (cA 1, 46000, .inl (fun _ => 0))), (x13, .inl (cA 1, 46000, .inl (fun _ => 0))), (x1, .inr (16, ((((((((((((f1.set 21 (.ref x2)).set 22 (.int 0)).set 28 (.int (-1))).set 26 (.int 0)).set 29 (.int 0)).set 30 (.int 0)).set 25 (.int 0)).set 27 (.int (-1))).set 2 (.int (-1))).set 23 (.int 0)).set 26 (.int 0)).set 50 (.int 400))))] rfl ?_
  refine zz_aload_n X 0 dX16_readQuery_13 rfl rfl ?_
  refine zz_iconst X 0 dX16_readQuery_14 rfl ?_
  refine zz_put X 11 49 rfl rfl (by decide) (fun w h => List.mem_cons_of_mem _ (zf_X16 w h)) rfl (List.mem_cons_of_mem _ zm_1041) tyX16 tyX16_ok nmX16 rfl (ty := .int) rfl rfl rfl (zq_lt hf1_n (by decide) (by simp only [List.length_set])) dX16_readQuery_15 [(x3, .inl (cA 1, 7700, .inl (fun _ => 0))), (x4, .inl (cA 1, 7700, .inl (fun _ => 0))), (x5, .inl (cA 1, 7700, .inl (fun _ => 0))), (x6, .inl (cA 1, 7700, .inl (fun _ => 0))), (x7, .inl (cA 1, 7700, .inl (fun _ => 0))), (x8, .inl (cA 1, 46000, .inl (fun _ => 0))), (x9, .inl (cA 1, 46000, .inl (fun _ => 0))), (x10, .inl (cA 1, 46000, .inl (fun _ => 0))), (x11, .inl (cA 1, 46000, .inl (fun _ => 0))), (x12, .inl (cA 1, 46000, .inl (fun _ => 0))), (x13, .inl (cA 1, 46000, .inl (fun _ => 0))), (x1, .inr (16, (((((((((((((f1.set 21 (.ref x2)).set 22 (.int 0)).set 28 (.int (-1))).set 26 (.int 0)).set 29 (.int 0)).set 30 (.int 0)).set 25 (.int 0)).set 27 (.int (-1))).set 2 (.int (-1))).set 23 (.int 0)).set 26 (.int 0)).set 50 (.int 400)).set 49 (.int 0))))] rfl ?_
  refine zz_aload_n X 0 dX16_readQuery_18 rfl rfl ?_
  refine zz_aload_n X 0 dX16_readQuery_19 rfl rfl ?_
  refine zz_iconst X 0 dX16_readQuery_20 rfl ?_
  refine zz_iconst X 0 dX16_readQuery_21 rfl ?_
  refine zz_callVi X (rest := [.ref x1]) (As := [.int 0, .int 0]) (kX16_literals_1 hE l D cA K V x1 (((((((((((((f1.set 21 (.ref x2)).set 22 (.int 0)).set 28 (.int (-1))).set 26 (.int 0)).set 29 (.int 0)).set 30 (.int 0)).set 25 (.int 0)).set 27 (.int (-1))).set 2 (.int (-1))).set 23 (.int 0)).set 26 (.int 0)).set 50 (.int 400)).set 49 (.int 0)) x3 x4 x5 x6 x7 x8 x9 x10 x11 x12 x13 hss (zq_len hf1_n (by simp only [List.length_set])) (zq_oth (by decide) (zq_oth (by decide) (zq_oth (by decide) (zq_oth (by decide) (zq_oth (by decide) (zq_oth (by decide) (zq_oth (by decide) (zq_oth (by decide) (zq_oth (by decide) (zq_oth (by decide) (zq_oth (by decide) (zq_oth (by decide) (zq_oth (by decide) (hf1_48)))))))))))))) (zq_oth (by decide) (zq_oth (by decide) (zq_oth (by decide) (zq_oth (by decide) (zq_oth (by decide) (zq_oth (by decide) (zq_oth (by decide) (zq_oth (by decide) (zq_oth (by decide) (zq_oth (by decide) (zq_oth (by decide) (zq_oth (by decide) (zq_oth (by decide) (hf1_43)))))))))))))) (zq_oth (by decide) (zq_oth (by decide) (zq_oth (by decide) (zq_oth (by decide) (zq_oth (by decide) (zq_oth (by decide) (zq_oth (by decide) (zq_oth (by decide) (zq_oth (by decide) (zq_oth (by decide) (zq_oth (by decide) (zq_oth (by decide) (zq_oth (by decide) (hf1_44)))))))))))))) (zq_oth (by decide) (zq_oth (by decide) (zq_oth (by decide) (zq_oth (by decide) (zq_oth (by decide) (zq_oth (by decide) (zq_oth (by decide) (zq_oth (by decide) (zq_oth (by decide) (zq_oth (by decide) (zq_oth (by decide) (zq_oth (by decide) (zq_oth (by decide) (hf1_45)))))))))))))) (zq_oth (by decide) ((zq_same (zq_lt hf1_n (by decide) (by simp only [List.length_set]))))) (zq_oth (by decide) (zq_oth (by decide) (zq_oth (by decide) (zq_oth (by decide) (zq_oth (by decide) (zq_oth (by decide) (zq_oth (by decide) (zq_oth (by decide) (zq_oth (by decide) (zq_oth (by decide) (zq_oth (by decide) (zq_oth (by decide) (zq_oth (by decide) (hf1_46)))))))))))))) (zq_oth (by decide) (zq_oth (by decide) (zq_oth (by decide) (zq_oth (by decide) (zq_oth (by decide) (zq_oth (by decide) (zq_oth (by decide) (zq_oth (by decide) (zq_oth (by decide) (zq_oth (by decide) (zq_oth (by decide) (zq_oth (by decide) (zq_oth (by decide) (hf1_47)))))))))))))) (zq_oth (by decide) (zq_oth (by decide) (zq_oth (by decide) (zq_oth (by decide) (zq_oth (by decide) (zq_oth (by decide) (zq_oth (by decide) (zq_oth (by decide) (zq_oth (by decide) (zq_oth (by decide) ((zq_same (zq_lt hf1_n (by decide) (by simp only [List.length_set])))))))))))))) (zq_oth (by decide) (zq_oth (by decide) (zq_oth (by decide) (zq_oth (by decide) (zq_oth (by decide) (zq_oth (by decide) ((zq_same (zq_lt hf1_n (by decide) (by simp only [List.length_set])))))))))) (zq_oth (by decide) (zq_oth (by decide) (zq_oth (by decide) ((zq_same (zq_lt hf1_n (by decide) (by simp only [List.length_set]))))))) (zq_oth (by decide) (zq_oth (by decide) (zq_oth (by decide) (zq_oth (by decide) (zq_oth (by decide) (zq_oth (by decide) (zq_oth (by decide) (zq_oth (by decide) (zq_oth (by decide) (zq_oth (by decide) (zq_oth (by decide) (zq_oth (by decide) (zq_oth (by decide) (hf1_31)))))))))))))) (zq_oth (by decide) (zq_oth (by decide) (zq_oth (by decide) (zq_oth (by decide) (zq_oth (by decide) (zq_oth (by decide) (zq_oth (by decide) (zq_oth (by decide) (zq_oth (by decide) (zq_oth (by decide) (zq_oth (by decide) (zq_oth (by decide) (zq_oth (by decide) (hf1_37)))))))))))))) (zq_oth (by decide) (zq_oth (by decide) (zq_oth (by decide) (zq_oth (by decide) (zq_oth (by decide) (zq_oth (by decide) (zq_oth (by decide) (zq_oth (by decide) (zq_oth (by decide) (zq_oth (by decide) (zq_oth (by decide) (zq_oth (by decide) (zq_oth (by decide) (hf1_32)))))))))))))) (zq_oth (by decide) (zq_oth (by decide) (zq_oth (by decide) (zq_oth (by decide) (zq_oth (by decide) (zq_oth (by decide) (zq_oth (by decide) (zq_oth (by decide) (zq_oth (by decide) (zq_oth (by decide) (zq_oth (by decide) (zq_oth (by decide) (zq_oth (by decide) (hf1_33)))))))))))))) (zq_oth (by decide) (zq_oth (by decide) (zq_oth (by decide) (zq_oth (by decide) (zq_oth (by decide) (zq_oth (by decide) (zq_oth (by decide) (zq_oth (by decide) (zq_oth (by decide) (zq_oth (by decide) (zq_oth (by decide) (zq_oth (by decide) (zq_oth (by decide) (hf1_34)))))))))))))) (zq_oth (by decide) (zq_oth (by decide) (zq_oth (by decide) (zq_oth (by decide) (zq_oth (by decide) (zq_oth (by decide) (zq_oth (by decide) (zq_oth (by decide) (zq_oth (by decide) (zq_oth (by decide) (zq_oth (by decide) (zq_oth (by decide) (zq_oth (by decide) (hf1_35)))))))))))))) (zq_oth (by decide) (zq_oth (by decide) (zq_oth (by decide) (zq_oth (by decide) (zq_oth (by decide) (zq_oth (by decide) (zq_oth (by decide) (zq_oth (by decide) (zq_oth (by decide) (zq_oth (by decide) (zq_oth (by decide) (zq_oth (by decide) (zq_oth (by decide) (hf1_36))))))))))))))) 2 (zgV zm_1087 zm_1088 zm_1089 zm_451 zm_1086) rfl (by decide +kernel) [11, 0, 1, 2, 3, 4, 5, 6, 7, 8, 9, 10] [] [] rfl rfl (by decide) rfl (by decide) (by decide) ⟨Nat.le_of_ble_eq_true rfl, Nat.le_of_ble_eq_true rfl⟩ 0 rfl rfl rfl rfl rfl (Nat.le_of_ble_eq_true rfl) dX16_readQuery_22 (Nat.le_of_ble_eq_true rfl) (Nat.le_of_ble_eq_true rfl) (fun r2 _ hw3 => ?_)
  obtain rfl := hw3
  refine zz_show (ws' := [(x1, .inr (16, ((((((((((((((((f1.set 21 (.ref x2)).set 22 (.int 0)).set 28 (.int (-1))).set 26 (.int 0)).set 29 (.int 0)).set 30 (.int 0)).set 25 (.int 0)).set 27 (.int (-1))).set 2 (.int (-1))).set 23 (.int 0)).set 26 (.int 0)).set 50 (.int 400)).set 49 (.int 0)).set 48 (.int 1)).set 28 (.int 0)).set 37 (.int 1)))), (x3, .inl (cA 1, 7700, .inl (upd (upd (fun _ => 0) 0 (-1)) 0 0))), (x4, .inl (cA 1, 7700, .inl (upd (fun _ => 0) 0 (-1)))), (x5, .inl (cA 1, 7700, .inl (upd (fun _ => 0) 0 400))), (x6, .inl (cA 1, 7700, .inl (upd (fun _ => 0) 0 0))), (x7, .inl (cA 1, 7700, .inl (upd (upd (fun _ => 0) 0 0) 0 1))), (x8, .inl (cA 1, 46000, .inl (upd (fun _ => 0) 0 24))), (x9, .inl (cA 1, 46000, .inl (upd (fun _ => 0) 0 0))), (x10, .inl (cA 1, 46000, .inl (upd (fun _ => 0) 0 (-1)))), (x11, .inl (cA 1, 46000, .inl (upd (fun _ => 0) 0 0))), (x12, .inl (cA 1, 46000, .inl (upd (fun _ => 0) 0 (-1)))), (x13, .inl (cA 1, 46000, .inl (upd (fun _ => 0) 0 (-1))))]) rfl ?_
  refine zz_put X 0 226 rfl rfl (by decide) (fun w h => List.mem_cons_of_mem _ (zf_X16 w h)) rfl (List.mem_cons_of_mem _ zm_1090) tyX16 tyX16_ok nmX16 rfl (ty := .int) rfl rfl rfl (zq_lt hf1_n (by decide) (by simp only [List.length_set])) dX16_readQuery_25 [(x1, .inr (16, (((((((((((((((((f1.set 21 (.ref x2)).set 22 (.int 0)).set 28 (.int (-1))).set 26 (.int 0)).set 29 (.int 0)).set 30 (.int 0)).set 25 (.int 0)).set 27 (.int (-1))).set 2 (.int (-1))).set 23 (.int 0)).set 26 (.int 0)).set 50 (.int 400)).set 49 (.int 0)).set 48 (.int 1)).set 28 (.int 0)).set 37 (.int 1)).set 226 (.int 0)))), (x3, .inl (cA 1, 7700, .inl (upd (upd (fun _ => 0) 0 (-1)) 0 0))), (x4, .inl (cA 1, 7700, .inl (upd (fun _ => 0) 0 (-1)))), (x5, .inl (cA 1, 7700, .inl (upd (fun _ => 0) 0 400))), (x6, .inl (cA 1, 7700, .inl (upd (fun _ => 0) 0 0))), (x7, .inl (cA 1, 7700, .inl (upd (upd (fun _ => 0) 0 0) 0 1))), (x8, .inl (cA 1, 46000, .inl (upd (fun _ => 0) 0 24))), (x9, .inl (cA 1, 46000, .inl (upd (fun _ => 0) 0 0))), (x10, .inl (cA 1, 46000, .inl (upd (fun _ => 0) 0 (-1)))), (x11, .inl (cA 1, 46000, .inl (upd (fun _ => 0) 0 0))), (x12, .inl (cA 1, 46000, .inl (upd (fun _ => 0) 0 (-1)))), (x13, .inl (cA 1, 46000, .inl (upd (fun _ => 0) 0 (-1))))] rfl ?_
  refine zz_aload_n X 0 dX16_readQuery_28 rfl rfl ?_
  refine zz_callVi X (rest := []) (As := []) (kX16_bad_2 hE l D cA K V x1 (((((((((((((((((f1.set 21 (.ref x2)).set 22 (.int 0)).set 28 (.int (-1))).set 26 (.int 0)).set 29 (.int 0)).set 30 (.int 0)).set 25 (.int 0)).set 27 (.int (-1))).set 2 (.int (-1))).set 23 (.int 0)).set 26 (.int 0)).set 50 (.int 400)).set 49 (.int 0)).set 48 (.int 1)).set 28 (.int 0)).set 37 (.int 1)).set 226 (.int 0)) hss (zq_len hf1_n (by simp only [List.length_set])) (zq_oth (by decide) (zq_oth (by decide) ((zq_same (zq_lt hf1_n (by decide) (by simp only [List.length_set]))))))) 0 (zgV zm_805 zm_806 zm_807 zm_451 zm_804) rfl (by decide +kernel) [0] [1, 2, 3, 4, 5, 6, 7, 8, 9, 10, 11] [(x3, .inl (cA 1, 7700, .inl (upd (upd (fun _ => 0) 0 (-1)) 0 0))), (x4, .inl (cA 1, 7700, .inl (upd (fun _ => 0) 0 (-1)))), (x5, .inl (cA 1, 7700, .inl (upd (fun _ => 0) 0 400))), (x6, .inl (cA 1, 7700, .inl (upd (fun _ => 0) 0 0))), (x7, .inl (cA 1, 7700, .inl (upd (upd (fun _ => 0) 0 0) 0 1))), (x8, .inl (cA 1, 46000, .inl (upd (fun _ => 0) 0 24))), (x9, .inl (cA 1, 46000, .inl (upd (fun _ => 0) 0 0))), (x10, .inl (cA 1, 46000, .inl (upd (fun _ => 0) 0 (-1)))), (x11, .inl (cA 1, 46000, .inl (upd (fun _ => 0) 0 0))), (x12, .inl (cA 1, 46000, .inl (upd (fun _ => 0) 0 (-1)))), (x13, .inl (cA 1, 46000, .inl (upd (fun _ => 0) 0 (-1))))] rfl rfl (by decide) rfl (by decide) (by decide) ⟨Nat.le_of_ble_eq_true rfl, Nat.le_of_ble_eq_true rfl⟩ 0 rfl rfl rfl rfl rfl (Nat.le_of_ble_eq_true rfl) dX16_readQuery_29 (Nat.le_of_ble_eq_true rfl) (Nat.le_of_ble_eq_true rfl) (fun r4 _ hw5 => ?_)
  obtain rfl := hw5
  refine zz_show (ws' := [(x3, .inl (cA 1, 7700, .inl (upd (upd (fun _ => 0) 0 (-1)) 0 0))), (x4, .inl (cA 1, 7700, .inl (upd (fun _ => 0) 0 (-1)))), (x5, .inl (cA 1, 7700, .inl (upd (fun _ => 0) 0 400))), (x6, .inl (cA 1, 7700, .inl (upd (fun _ => 0) 0 0))), (x7, .inl (cA 1, 7700, .inl (upd (upd (fun _ => 0) 0 0) 0 1))), (x8, .inl (cA 1, 46000, .inl (upd (fun _ => 0) 0 24))), (x9, .inl (cA 1, 46000, .inl (upd (fun _ => 0) 0 0))), (x10, .inl (cA 1, 46000, .inl (upd (fun _ => 0) 0 (-1)))), (x11, .inl (cA 1, 46000, .inl (upd (fun _ => 0) 0 0))), (x12, .inl (cA 1, 46000, .inl (upd (fun _ => 0) 0 (-1)))), (x13, .inl (cA 1, 46000, .inl (upd (fun _ => 0) 0 (-1)))), (x1, .inr (16, (((((((((((((((((f1.set 21 (.ref x2)).set 22 (.int 0)).set 28 (.int (-1))).set 26 (.int 0)).set 29 (.int 0)).set 30 (.int 0)).set 25 (.int 0)).set 27 (.int (-1))).set 2 (.int (-1))).set 23 (.int 0)).set 26 (.int 0)).set 50 (.int 400)).set 49 (.int 0)).set 48 (.int 1)).set 28 (.int 0)).set 37 (.int 1)).set 226 (.int 0))))]) rfl ?_
  refine zz_if_ne X 50 dX16_readQuery_32 (by decide) (fun _ => ?_) (fun h => absurd h (by decide))
  exact zz_vret X hr (()) [11, 0, 1, 2, 3, 4, 5, 6, 7, 8, 9, 10] (by decide) rfl rfl (Nat.le_of_ble_eq_true rfl) (Nat.le_of_ble_eq_true rfl) (trivial) dX16_readQuery_50

set_option maxHeartbeats 4000000 in
set_option maxRecDepth 100000 in
/-- prepare -/
theorem kX16_prepare_1 {E : zEn} (hE : zOk E) (l : Launch) (D : va_G) (cA : Nat → ClassId) (K : Nat → Nat) (V : Nat → Nat) (x1 : Nat) (f1 : List Value) (x2 : Nat) (x3 : Nat) (x4 : Nat) (x5 : Nat) (x6 : Nat) (x7 : Nat) (x8 : Nat) (x9 : Nat) (x10 : Nat) (x11 : Nat) (x12 : Nat) (x13 : Nat) (x14 : Nat) (x15 : Nat) (x16 : Nat) (x17 : Nat) (x18 : Nat) (x19 : Nat) (x20 : Nat) (hss : zSS E K V) (hf1_n : f1.length = 243) (hf1_229 : f1[229]? = some (.int 0)) (hf1_215 : f1[215]? = some (.int (-1))) (hf1_211 : f1[211]? = some (.ref x2)) (hf1_19 : f1[19]? = some (.ref x3)) (hf1_0 : f1[0]? = some (.ref x4)) (hf1_16 : f1[16]? = some (.ref x5)) (hf1_17 : f1[17]? = some (.ref x6)) (hf1_18 : f1[18]? = some (.ref x7)) (hf1_210 : f1[210]? = some (.ref x8)) (hf1_84 : f1[84]? = some (.int 0)) (hf1_85 : f1[85]? = some (.int 0)) (hf1_228 : f1[228]? = some (.ref x9)) (hf1_43 : f1[43]? = some (.ref x10)) (hf1_44 : f1[44]? = some (.ref x11)) (hf1_45 : f1[45]? = some (.ref x12)) (hf1_46 : f1[46]? = some (.ref x13)) (hf1_47 : f1[47]? = some (.ref x14)) (hf1_31 : f1[31]? = some (.ref x15)) (hf1_32 : f1[32]? = some (.ref x16)) (hf1_33 : f1[33]? = some (.ref x17)) (hf1_34 : f1[34]? = some (.ref x18)) (hf1_35 : f1[35]? = some (.ref x19)) (hf1_36 : f1[36]? = some (.ref x20)) : zMi E l yX16_prepare zwX16_prepare ({ frames := 11, cells := 0, slots := 0, locals := 275 }) D vwCl (zT cA) [.ref x1] [(x1, .inr (16, f1)), (x2, .inl (cA 1, 6, .inl (upd (upd (fun _ => 0) 0 1) 1 1))), (x3, .inl (cA 1, 4096, .inl (fun _ => 0))), (x4, .inl (cA 0, 17000, .inl (fun _ => 0))), (x6, .inl (cA 1, 13001, .inl (fun _ => 0))), (x5, .inl (cA 0, 40000, .inl (fun _ => 0))), (x7, .inl (cA 1, 13000, .inl (fun _ => 0))), (x8, .inl (cA 1, 6, .inl (fun _ => 0))), (x10, .inl (cA 1, 7700, .inl (fun _ => 0))), (x11, .inl (cA 1, 7700, .inl (fun _ => 0))), (x12, .inl (cA 1, 7700, .inl (fun _ => 0))), (x13, .inl (cA 1, 7700, .inl (fun _ => 0))), (x14, .inl (cA 1, 7700, .inl (fun _ => 0))), (x15, .inl (cA 1, 46000, .inl (fun _ => 0))), (x16, .inl (cA 1, 46000, .inl (fun _ => 0))), (x17, .inl (cA 1, 46000, .inl (fun _ => 0))), (x18, .inl (cA 1, 46000, .inl (fun _ => 0))), (x19, .inl (cA 1, 46000, .inl (fun _ => 0))), (x20, .inl (cA 1, 46000, .inl (fun _ => 0)))] (S := Unit) (fun (r : Int32) (u : Unit) => (r = (-1))) (fun (u : Unit) => []) := by
  refine zz_enteri (cc := cX16_prepare) (lv := [(0, .ref x1)]) hE 4 (by decide) rfl (Nat.le_of_ble_eq_true rfl) rfl ?_
  intro p e s m args below meth c X hr hin
  refine zz_aload_n X 0 dX16_prepare_0 rfl rfl ?_
  refine zz_callVi X (rest := []) (As := []) (kX16_take_1 hE l D cA K V x1 f1 hss (zq_len hf1_n (by simp only [List.length_set])) hf1_229) 0 (zgV zm_754 zm_755 zm_756 zm_451 zm_753) rfl (by decide +kernel) [0] [1, 2, 3, 4, 5, 6, 7, 8, 9, 10, 11, 12, 13, 14, 15, 16, 17, 18] [(x2, .inl (cA 1, 6, .inl (upd (upd (fun _ => 0) 0 1) 1 1))), (x3, .inl (cA 1, 4096, .inl (fun _ => 0))), (x4, .inl (cA 0, 17000, .inl (fun _ => 0))), (x6, .inl (cA 1, 13001, .inl (fun _ => 0))), (x5, .inl (cA 0, 40000, .inl (fun _ => 0))), (x7, .inl (cA 1, 13000, .inl (fun _ => 0))), (x8, .inl (cA 1, 6, .inl (fun _ => 0))), (x10, .inl (cA 1, 7700, .inl (fun _ => 0))), (x11, .inl (cA 1, 7700, .inl (fun _ => 0))), (x12, .inl (cA 1, 7700, .inl (fun _ => 0))), (x13, .inl (cA 1, 7700, .inl (fun _ => 0))), (x14, .inl (cA 1, 7700, .inl (fun _ => 0))), (x15, .inl (cA 1, 46000, .inl (fun _ => 0))), (x16, .inl (cA 1, 46000, .inl (fun _ => 0))), (x17, .inl (cA 1, 46000, .inl (fun _ => 0))), (x18, .inl (cA 1, 46000, .inl (fun _ => 0))), (x19, .inl (cA 1, 46000, .inl (fun _ => 0))), (x20, .inl (cA 1, 46000, .inl (fun _ => 0)))] rfl rfl (by decide) rfl (by decide) (by decide) ⟨Nat.le_of_ble_eq_true rfl, Nat.le_of_ble_eq_true rfl⟩ 0 rfl rfl rfl rfl rfl (Nat.le_of_ble_eq_true rfl) dX16_prepare_1 (Nat.le_of_ble_eq_true rfl) (Nat.le_of_ble_eq_true rfl) (fun r1 _ hw2 => ?_)
  obtain rfl := hw2
  refine zz_show (ws' := [(x2, .inl (cA 1, 6, .inl (upd (upd (fun _ => 0) 0 1) 1 1))), (x3, .inl (cA 1, 4096, .inl (fun _ => 0))), (x4, .inl (cA 0, 17000, .inl (fun _ => 0))), (x6, .inl (cA 1, 13001, .inl (fun _ => 0))), (x5, .inl (cA 0, 40000, .inl (fun _ => 0))), (x7, .inl (cA 1, 13000, .inl (fun _ => 0))), (x8, .inl (cA 1, 6, .inl (fun _ => 0))), (x10, .inl (cA 1, 7700, .inl (fun _ => 0))), (x11, .inl (cA 1, 7700, .inl (fun _ => 0))), (x12, .inl (cA 1, 7700, .inl (fun _ => 0))), (x13, .inl (cA 1, 7700, .inl (fun _ => 0))), (x14, .inl (cA 1, 7700, .inl (fun _ => 0))), (x15, .inl (cA 1, 46000, .inl (fun _ => 0))), (x16, .inl (cA 1, 46000, .inl (fun _ => 0))), (x17, .inl (cA 1, 46000, .inl (fun _ => 0))), (x18, .inl (cA 1, 46000, .inl (fun _ => 0))), (x19, .inl (cA 1, 46000, .inl (fun _ => 0))), (x20, .inl (cA 1, 46000, .inl (fun _ => 0))), (x1, .inr (16, ((f1.set 227 (.int 0)).set 229 (.int 0))))]) rfl ?_
  refine zz_istore_n X [(1, .int 0), (0, .ref x1)] dX16_prepare_4 rfl (by decide) rfl ?_
  refine zz_aload_n X 1 dX16_prepare_5 rfl rfl ?_
  refine zz_iconst X 1 dX16_prepare_6 rfl ?_
  refine zz_callVv X (rest := []) (As := [.int 1]) (kX16_loadBundle_2 hE l D cA K V x1 ((f1.set 227 (.int 0)).set 229 (.int 0)) x2 x3 x4 x5 x6 x7 x8 hss (zq_len hf1_n (by simp only [List.length_set])) (zq_oth (by decide) (zq_oth (by decide) (hf1_215))) (zq_oth (by decide) (zq_oth (by decide) (hf1_211))) (zq_oth (by decide) (zq_oth (by decide) (hf1_19))) (zq_oth (by decide) (zq_oth (by decide) (hf1_0))) (zq_oth (by decide) (zq_oth (by decide) (hf1_16))) (zq_oth (by decide) (zq_oth (by decide) (hf1_17))) (zq_oth (by decide) (zq_oth (by decide) (hf1_18))) (zq_oth (by decide) (zq_oth (by decide) (hf1_210))) (zq_oth (by decide) (zq_oth (by decide) (hf1_84))) (zq_oth (by decide) (zq_oth (by decide) (hf1_85)))) 1 (zgV zm_895 zm_896 zm_897 zm_451 zm_894) rfl (by decide +kernel) [18, 0, 1, 2, 3, 4, 5, 6] [7, 8, 9, 10, 11, 12, 13, 14, 15, 16, 17] [(x10, .inl (cA 1, 7700, .inl (fun _ => 0))), (x11, .inl (cA 1, 7700, .inl (fun _ => 0))), (x12, .inl (cA 1, 7700, .inl (fun _ => 0))), (x13, .inl (cA 1, 7700, .inl (fun _ => 0))), (x14, .inl (cA 1, 7700, .inl (fun _ => 0))), (x15, .inl (cA 1, 46000, .inl (fun _ => 0))), (x16, .inl (cA 1, 46000, .inl (fun _ => 0))), (x17, .inl (cA 1, 46000, .inl (fun _ => 0))), (x18, .inl (cA 1, 46000, .inl (fun _ => 0))), (x19, .inl (cA 1, 46000, .inl (fun _ => 0))), (x20, .inl (cA 1, 46000, .inl (fun _ => 0)))] rfl rfl (by decide) rfl (by decide) (by decide) ⟨Nat.le_of_ble_eq_true rfl, Nat.le_of_ble_eq_true rfl⟩ 0 rfl rfl rfl rfl rfl (Nat.le_of_ble_eq_true rfl) dX16_prepare_7 (Nat.le_of_ble_eq_true rfl) (Nat.le_of_ble_eq_true rfl) (fun uhw4 hw4 => ?_)
  obtain ⟨g3, rfl⟩ : ∃ z, z = uhw4 := ⟨_, rfl⟩
  have hq5 := hw4
  refine zz_show (ws' := [(x10, .inl (cA 1, 7700, .inl (fun _ => 0))), (x11, .inl (cA 1, 7700, .inl (fun _ => 0))), (x12, .inl (cA 1, 7700, .inl (fun _ => 0))), (x13, .inl (cA 1, 7700, .inl (fun _ => 0))), (x14, .inl (cA 1, 7700, .inl (fun _ => 0))), (x15, .inl (cA 1, 46000, .inl (fun _ => 0))), (x16, .inl (cA 1, 46000, .inl (fun _ => 0))), (x17, .inl (cA 1, 46000, .inl (fun _ => 0))), (x18, .inl (cA 1, 46000, .inl (fun _ => 0))), (x19, .inl (cA 1, 46000, .inl (fun _ => 0))), (x20, .inl (cA 1, 46000, .inl (fun _ => 0))), (x1, .inr (16, (((((((((((((((((((((((((((((((((((f1.set 227 (.int 0)).set 229 (.int 0)).set 37 (.int 0)).set 42 (.int 0)).set 48 (.int 0)).set 20 (.int 0)).set 56 (.int 0)).set 63 (.int 0)).set 72 (.int 0)).set 20 (.int 1)).set 52 (.int 0)).set 20 (.int 2)).set 53 (.int 1)).set 20 (.int 3)).set 54 (.int 2)).set 20 (.int 4)).set 55 (.int 3)).set 83 (.int 0)).set 108 (.int 0)).set 78 (.int 0)).set 216 (.int 0)).set 217 (.int 0)).set 218 (.int 0)).set 215 (.int 1)).set 219 (.int 0)).set 220 (.int 0)).set 221 (.int 0)).set 222 (.int 0)).set 37 (.int 0)).set 42 (.int 0)).set 48 (.int 0)).set 108 (.int 0)).set 83 (.int 0)).set 84 (.int 0)).set 85 (.int 0)))), (x2, .inl (cA 1, 6, .inl (upd (upd (fun _ => 0) 0 1) 1 1))), (x3, .inl (cA 1, 4096, .inl (upd (upd (upd (upd g3 95 1) 3170 2) 1994 3) 4010 4))), (x4, .inl (cA 0, 17000, .inl ((upd (upd (upd (upd (upd (upd (upd (upd (upd (upd (upd (upd (upd (fun _ => 0) 0 95) 0 115) 1 101) 2 116) 0 105) 1 110) 2 112) 3 117) 4 116) 0 100) 1 97) 2 116) 3 97)))), (x6, .inl (cA 1, 13001, .inl (upd (upd (upd (upd (fun _ => 0) 1 1) 2 4) 3 9) 4 13))), (x5, .inl (cA 0, 40000, .inl (upd (upd (upd (upd (upd (upd (upd (upd (upd (upd (upd (upd (upd (fun _ => 0) 0 95) 1 115) 2 101) 3 116) 4 105) 5 110) 6 112) 7 117) 8 116) 9 100) 10 97) 11 116) 12 97))), (x7, .inl (cA 1, 13000, .inl (upd (upd (upd (upd (fun _ => 0) 0 0) 1 0) 2 0) 3 0))), (x8, .inl (cA 1, 6, .inl (fun _ => 0)))]) rfl ?_
  refine zz_aload_n X 1 dX16_prepare_10 rfl rfl ?_
  refine zz_aload_n X 1 dX16_prepare_11 rfl rfl ?_
  refine zz_get X 11 228 rfl rfl (by decide) (fun w h => List.mem_cons_of_mem _ (zf_X16 w h)) rfl (List.mem_cons_of_mem _ zm_623) (zq_oth (by decide) (zq_oth (by decide) (zq_oth (by decide) (zq_oth (by decide) (zq_oth (by decide) (zq_oth (by decide) (zq_oth (by decide) (zq_oth (by decide) (zq_oth (by decide) (zq_oth (by decide) (zq_oth (by decide) (zq_oth (by decide) (zq_oth (by decide) (zq_oth (by decide) (zq_oth (by decide) (zq_oth (by decide) (zq_oth (by decide) (zq_oth (by decide) (zq_oth (by decide) (zq_oth (by decide) (zq_oth (by decide) (zq_oth (by decide) (zq_oth (by decide) (zq_oth (by decide) (zq_oth (by decide) (zq_oth (by decide) (zq_oth (by decide) (zq_oth (by decide) (zq_oth (by decide) (zq_oth (by decide) (zq_oth (by decide) (zq_oth (by decide) (zq_oth (by decide) (zq_oth (by decide) (zq_oth (by decide) (hf1_228)))))))))))))))))))))))))))))))))))) dX16_prepare_12 ?_
  refine zz_iload_n X 0 dX16_prepare_15 rfl rfl ?_
  refine zz_callVv X (rest := []) (As := [.ref x9, .int 0]) (kX16_readQuery_1 hE l D cA K V x1 x9 (((((((((((((((((((((((((((((((((((f1.set 227 (.int 0)).set 229 (.int 0)).set 37 (.int 0)).set 42 (.int 0)).set 48 (.int 0)).set 20 (.int 0)).set 56 (.int 0)).set 63 (.int 0)).set 72 (.int 0)).set 20 (.int 1)).set 52 (.int 0)).set 20 (.int 2)).set 53 (.int 1)).set 20 (.int 3)).set 54 (.int 2)).set 20 (.int 4)).set 55 (.int 3)).set 83 (.int 0)).set 108 (.int 0)).set 78 (.int 0)).set 216 (.int 0)).set 217 (.int 0)).set 218 (.int 0)).set 215 (.int 1)).set 219 (.int 0)).set 220 (.int 0)).set 221 (.int 0)).set 222 (.int 0)).set 37 (.int 0)).set 42 (.int 0)).set 48 (.int 0)).set 108 (.int 0)).set 83 (.int 0)).set 84 (.int 0)).set 85 (.int 0)) x10 x11 x12 x13 x14 x15 x16 x17 x18 x19 x20 hss (zq_len hf1_n (by simp only [List.length_set])) (zq_oth (by decide) (zq_oth (by decide) (zq_oth (by decide) (zq_oth (by decide) ((zq_same (zq_lt hf1_n (by decide) (by simp only [List.length_set])))))))) (zq_oth (by decide) (zq_oth (by decide) (zq_oth (by decide) (zq_oth (by decide) (zq_oth (by decide) (zq_oth (by decide) (zq_oth (by decide) (zq_oth (by decide) (zq_oth (by decide) (zq_oth (by decide) (zq_oth (by decide) (zq_oth (by decide) (zq_oth (by decide) (zq_oth (by decide) (zq_oth (by decide) (zq_oth (by decide) (zq_oth (by decide) (zq_oth (by decide) (zq_oth (by decide) (zq_oth (by decide) (zq_oth (by decide) (zq_oth (by decide) (zq_oth (by decide) (zq_oth (by decide) (zq_oth (by decide) (zq_oth (by decide) (zq_oth (by decide) (zq_oth (by decide) (zq_oth (by decide) (zq_oth (by decide) (zq_oth (by decide) (zq_oth (by decide) (zq_oth (by decide) (zq_oth (by decide) (zq_oth (by decide) (hf1_43)))))))))))))))))))))))))))))))))))) (zq_oth (by decide) (zq_oth (by decide) (zq_oth (by decide) (zq_oth (by decide) (zq_oth (by decide) (zq_oth (by decide) (zq_oth (by decide) (zq_oth (by decide) (zq_oth (by decide) (zq_oth (by decide) (zq_oth (by decide) (zq_oth (by decide) (zq_oth (by decide) (zq_oth (by decide) (zq_oth (by decide) (zq_oth (by decide) (zq_oth (by decide) (zq_oth (by decide) (zq_oth (by decide) (zq_oth (by decide) (zq_oth (by decide) (zq_oth (by decide) (zq_oth (by decide) (zq_oth (by decide) (zq_oth (by decide) (zq_oth (by decide) (zq_oth (by decide) (zq_oth (by decide) (zq_oth (by decide) (zq_oth (by decide) (zq_oth (by decide) (zq_oth (by decide) (zq_oth (by decide) (zq_oth (by decide) (zq_oth (by decide) (hf1_44)))))))))))))))))))))))))))))))))))) (zq_oth (by decide) (zq_oth (by decide) (zq_oth (by decide) (zq_oth (by decide) (zq_oth (by decide) (zq_oth (by decide) (zq_oth (by decide) (zq_oth (by decide) (zq_oth (by decide) (zq_oth (by decide) (zq_oth (by decide) (zq_oth (by decide) (zq_oth (by decide) (zq_oth (by decide) (zq_oth (by decide) (zq_oth (by decide) (zq_oth (by decide) (zq_oth (by decide) (zq_oth (by decide) (zq_oth (by decide) (zq_oth (by decide) (zq_oth (by decide) (zq_oth (by decide) (zq_oth (by decide) (zq_oth (by decide) (zq_oth (by decide) (zq_oth (by decide) (zq_oth (by decide) (zq_oth (by decide) (zq_oth (by decide) (zq_oth (by decide) (zq_oth (by decide) (zq_oth (by decide) (zq_oth (by decide) (zq_oth (by decide) (hf1_45)))))))))))))))))))))))))))))))))))) (zq_oth (by decide) (zq_oth (by decide) (zq_oth (by decide) (zq_oth (by decide) (zq_oth (by decide) (zq_oth (by decide) (zq_oth (by decide) (zq_oth (by decide) (zq_oth (by decide) (zq_oth (by decide) (zq_oth (by decide) (zq_oth (by decide) (zq_oth (by decide) (zq_oth (by decide) (zq_oth (by decide) (zq_oth (by decide) (zq_oth (by decide) (zq_oth (by decide) (zq_oth (by decide) (zq_oth (by decide) (zq_oth (by decide) (zq_oth (by decide) (zq_oth (by decide) (zq_oth (by decide) (zq_oth (by decide) (zq_oth (by decide) (zq_oth (by decide) (zq_oth (by decide) (zq_oth (by decide) (zq_oth (by decide) (zq_oth (by decide) (zq_oth (by decide) (zq_oth (by decide) (zq_oth (by decide) (zq_oth (by decide) (hf1_46)))))))))))))))))))))))))))))))))))) (zq_oth (by decide) (zq_oth (by decide) (zq_oth (by decide) (zq_oth (by decide) (zq_oth (by decide) (zq_oth (by decide) (zq_oth (by decide) (zq_oth (by decide) (zq_oth (by decide) (zq_oth (by decide) (zq_oth (by decide) (zq_oth (by decide) (zq_oth (by decide) (zq_oth (by decide) (zq_oth (by decide) (zq_oth (by decide) (zq_oth (by decide) (zq_oth (by decide) (zq_oth (by decide) (zq_oth (by decide) (zq_oth (by decide) (zq_oth (by decide) (zq_oth (by decide) (zq_oth (by decide) (zq_oth (by decide) (zq_oth (by decide) (zq_oth (by decide) (zq_oth (by decide) (zq_oth (by decide) (zq_oth (by decide) (zq_oth (by decide) (zq_oth (by decide) (zq_oth (by decide) (zq_oth (by decide) (zq_oth (by decide) (hf1_47)))))))))))))))))))))))))))))))))))) (zq_oth (by decide) (zq_oth (by decide) (zq_oth (by decide) (zq_oth (by decide) (zq_oth (by decide) (zq_oth (by decide) (zq_oth (by decide) (zq_oth (by decide) (zq_oth (by decide) (zq_oth (by decide) (zq_oth (by decide) (zq_oth (by decide) (zq_oth (by decide) (zq_oth (by decide) (zq_oth (by decide) (zq_oth (by decide) (zq_oth (by decide) (zq_oth (by decide) (zq_oth (by decide) (zq_oth (by decide) (zq_oth (by decide) (zq_oth (by decide) (zq_oth (by decide) (zq_oth (by decide) (zq_oth (by decide) (zq_oth (by decide) (zq_oth (by decide) (zq_oth (by decide) (zq_oth (by decide) (zq_oth (by decide) (zq_oth (by decide) (zq_oth (by decide) (zq_oth (by decide) (zq_oth (by decide) (zq_oth (by decide) (hf1_31)))))))))))))))))))))))))))))))))))) (zq_oth (by decide) (zq_oth (by decide) (zq_oth (by decide) (zq_oth (by decide) (zq_oth (by decide) (zq_oth (by decide) ((zq_same (zq_lt hf1_n (by decide) (by simp only [List.length_set])))))))))) (zq_oth (by decide) (zq_oth (by decide) (zq_oth (by decide) (zq_oth (by decide) (zq_oth (by decide) (zq_oth (by decide) (zq_oth (by decide) (zq_oth (by decide) (zq_oth (by decide) (zq_oth (by decide) (zq_oth (by decide) (zq_oth (by decide) (zq_oth (by decide) (zq_oth (by decide) (zq_oth (by decide) (zq_oth (by decide) (zq_oth (by decide) (zq_oth (by decide) (zq_oth (by decide) (zq_oth (by decide) (zq_oth (by decide) (zq_oth (by decide) (zq_oth (by decide) (zq_oth (by decide) (zq_oth (by decide) (zq_oth (by decide) (zq_oth (by decide) (zq_oth (by decide) (zq_oth (by decide) (zq_oth (by decide) (zq_oth (by decide) (zq_oth (by decide) (zq_oth (by decide) (zq_oth (by decide) (zq_oth (by decide) (hf1_32)))))))))))))))))))))))))))))))))))) (zq_oth (by decide) (zq_oth (by decide) (zq_oth (by decide) (zq_oth (by decide) (zq_oth (by decide) (zq_oth (by decide) (zq_oth (by decide) (zq_oth (by decide) (zq_oth (by decide) (zq_oth (by decide) (zq_oth (by decide) (zq_oth (by decide) (zq_oth (by decide) (zq_oth (by decide) (zq_oth (by decide) (zq_oth (by decide) (zq_oth (by decide) (zq_oth (by decide) (zq_oth (by decide) (zq_oth (by decide) (zq_oth (by decide) (zq_oth (by decide) (zq_oth (by decide) (zq_oth (by decide) (zq_oth (by decide) (zq_oth (by decide) (zq_oth (by decide) (zq_oth (by decide) (zq_oth (by decide) (zq_oth (by decide) (zq_oth (by decide) (zq_oth (by decide) (zq_oth (by decide) (zq_oth (by decide) (zq_oth (by decide) (hf1_33)))))))))))))))))))))))))))))))))))) (zq_oth (by decide) (zq_oth (by decide) (zq_oth (by decide) (zq_oth (by decide) (zq_oth (by decide) (zq_oth (by decide) (zq_oth (by decide) (zq_oth (by decide) (zq_oth (by decide) (zq_oth (by decide) (zq_oth (by decide) (zq_oth (by decide) (zq_oth (by decide) (zq_oth (by decide) (zq_oth (by decide) (zq_oth (by decide) (zq_oth (by decide) (zq_oth (by decide) (zq_oth (by decide) (zq_oth (by decide) (zq_oth (by decide) (zq_oth (by decide) (zq_oth (by decide) (zq_oth (by decide) (zq_oth (by decide) (zq_oth (by decide) (zq_oth (by decide) (zq_oth (by decide) (zq_oth (by decide) (zq_oth (by decide) (zq_oth (by decide) (zq_oth (by decide) (zq_oth (by decide) (zq_oth (by decide) (zq_oth (by decide) (hf1_34)))))))))))))))))))))))))))))))))))) (zq_oth (by decide) (zq_oth (by decide) (zq_oth (by decide) (zq_oth (by decide) (zq_oth (by decide) (zq_oth (by decide) (zq_oth (by decide) (zq_oth (by decide) (zq_oth (by decide) (zq_oth (by decide) (zq_oth (by decide) (zq_oth (by decide) (zq_oth (by decide) (zq_oth (by decide) (zq_oth (by decide) (zq_oth (by decide) (zq_oth (by decide) (zq_oth (by decide) (zq_oth (by decide) (zq_oth (by decide) (zq_oth (by decide) (zq_oth (by decide) (zq_oth (by decide) (zq_oth (by decide) (zq_oth (by decide) (zq_oth (by decide) (zq_oth (by decide) (zq_oth (by decide) (zq_oth (by decide) (zq_oth (by decide) (zq_oth (by decide) (zq_oth (by decide) (zq_oth (by decide) (zq_oth (by decide) (zq_oth (by decide) (hf1_35)))))))))))))))))))))))))))))))))))) (zq_oth (by decide) (zq_oth (by decide) (zq_oth (by decide) (zq_oth (by decide) (zq_oth (by decide) (zq_oth (by decide) (zq_oth (by decide) (zq_oth (by decide) (zq_oth (by decide) (zq_oth (by decide) (zq_oth (by decide) (zq_oth (by decide) (zq_oth (by decide) (zq_oth (by decide) (zq_oth (by decide) (zq_oth (by decide) (zq_oth (by decide) (zq_oth (by decide) (zq_oth (by decide) (zq_oth (by decide) (zq_oth (by decide) (zq_oth (by decide) (zq_oth (by decide) (zq_oth (by decide) (zq_oth (by decide) (zq_oth (by decide) (zq_oth (by decide) (zq_oth (by decide) (zq_oth (by decide) (zq_oth (by decide) (zq_oth (by decide) (zq_oth (by decide) (zq_oth (by decide) (zq_oth (by decide) (zq_oth (by decide) (hf1_36))))))))))))))))))))))))))))))))))))) 2 (zgV zm_1092 zm_1093 zm_1094 zm_451 zm_1091) rfl (by decide +kernel) [11, 0, 1, 2, 3, 4, 5, 6, 7, 8, 9, 10] [12, 13, 14, 15, 16, 17, 18] [(x2, .inl (cA 1, 6, .inl (upd (upd (fun _ => 0) 0 1) 1 1))), (x3, .inl (cA 1, 4096, .inl (upd (upd (upd (upd g3 95 1) 3170 2) 1994 3) 4010 4))), (x4, .inl (cA 0, 17000, .inl ((upd (upd (upd (upd (upd (upd (upd (upd (upd (upd (upd (upd (upd (fun _ => 0) 0 95) 0 115) 1 101) 2 116) 0 105) 1 110) 2 112) 3 117) 4 116) 0 100) 1 97) 2 116) 3 97)))), (x6, .inl (cA 1, 13001, .inl (upd (upd (upd (upd (fun _ => 0) 1 1) 2 4) 3 9) 4 13))), (x5, .inl (cA 0, 40000, .inl (upd (upd (upd (upd (upd (upd (upd (upd (upd (upd (upd (upd (upd (fun _ => 0) 0 95) 1 115) 2 101) 3 116) 4 105) 5 110) 6 112) 7 117) 8 116) 9 100) 10 97) 11 116) 12 97))), (x7, .inl (cA 1, 13000, .inl (upd (upd (upd (upd (fun _ => 0) 0 0) 1 0) 2 0) 3 0))), (x8, .inl (cA 1, 6, .inl (fun _ => 0)))] rfl rfl (by decide) rfl (by decide) (by decide) ⟨Nat.le_of_ble_eq_true rfl, Nat.le_of_ble_eq_true rfl⟩ 0 rfl rfl rfl rfl rfl (Nat.le_of_ble_eq_true rfl) dX16_prepare_16 (Nat.le_of_ble_eq_true rfl) (Nat.le_of_ble_eq_true rfl) (fun _ hw6 => ?_)
  refine zz_show (ws' := [(x2, .inl (cA 1, 6, .inl (upd (upd (fun _ => 0) 0 1) 1 1))), (x3, .inl (cA 1, 4096, .inl (upd (upd (upd (upd g3 95 1) 3170 2) 1994 3) 4010 4))), (x4, .inl (cA 0, 17000, .inl ((upd (upd (upd (upd (upd (upd (upd (upd (upd (upd (upd (upd (upd (fun _ => 0) 0 95) 0 115) 1 101) 2 116) 0 105) 1 110) 2 112) 3 117) 4 116) 0 100) 1 97) 2 116) 3 97)))), (x6, .inl (cA 1, 13001, .inl (upd (upd (upd (upd (fun _ => 0) 1 1) 2 4) 3 9) 4 13))), (x5, .inl (cA 0, 40000, .inl (upd (upd (upd (upd (upd (upd (upd (upd (upd (upd (upd (upd (upd (fun _ => 0) 0 95) 1 115) 2 101) 3 116) 4 105) 5 110) 6 112) 7 117) 8 116) 9 100) 10 97) 11 116) 12 97))), (x7, .inl (cA 1, 13000, .inl (upd (upd (upd (upd (fun _ => 0) 0 0) 1 0) 2 0) 3 0))), (x8, .inl (cA 1, 6, .inl (fun _ => 0))), (x1, .inr (16, ((((((((((((((((((((((((((((((((((((((((((((((((((((f1.set 227 (.int 0)).set 229 (.int 0)).set 37 (.int 0)).set 42 (.int 0)).set 48 (.int 0)).set 20 (.int 0)).set 56 (.int 0)).set 63 (.int 0)).set 72 (.int 0)).set 20 (.int 1)).set 52 (.int 0)).set 20 (.int 2)).set 53 (.int 1)).set 20 (.int 3)).set 54 (.int 2)).set 20 (.int 4)).set 55 (.int 3)).set 83 (.int 0)).set 108 (.int 0)).set 78 (.int 0)).set 216 (.int 0)).set 217 (.int 0)).set 218 (.int 0)).set 215 (.int 1)).set 219 (.int 0)).set 220 (.int 0)).set 221 (.int 0)).set 222 (.int 0)).set 37 (.int 0)).set 42 (.int 0)).set 48 (.int 0)).set 108 (.int 0)).set 83 (.int 0)).set 84 (.int 0)).set 85 (.int 0)).set 21 (.ref x9)).set 22 (.int 0)).set 28 (.int (-1))).set 26 (.int 0)).set 29 (.int 0)).set 30 (.int 0)).set 25 (.int 0)).set 27 (.int (-1))).set 2 (.int (-1))).set 23 (.int 0)).set 26 (.int 0)).set 50 (.int 400)).set 49 (.int 0)).set 48 (.int 1)).set 28 (.int 0)).set 37 (.int 1)).set 226 (.int 0)))), (x10, .inl (cA 1, 7700, .inl (upd (upd (fun _ => 0) 0 (-1)) 0 0))), (x11, .inl (cA 1, 7700, .inl (upd (fun _ => 0) 0 (-1)))), (x12, .inl (cA 1, 7700, .inl (upd (fun _ => 0) 0 400))), (x13, .inl (cA 1, 7700, .inl (upd (fun _ => 0) 0 0))), (x14, .inl (cA 1, 7700, .inl (upd (upd (fun _ => 0) 0 0) 0 1))), (x15, .inl (cA 1, 46000, .inl (upd (fun _ => 0) 0 24))), (x16, .inl (cA 1, 46000, .inl (upd (fun _ => 0) 0 0))), (x17, .inl (cA 1, 46000, .inl (upd (fun _ => 0) 0 (-1)))), (x18, .inl (cA 1, 46000, .inl (upd (fun _ => 0) 0 0))), (x19, .inl (cA 1, 46000, .inl (upd (fun _ => 0) 0 (-1)))), (x20, .inl (cA 1, 46000, .inl (upd (fun _ => 0) 0 (-1))))]) rfl ?_
  refine zz_aload_n X 1 dX16_prepare_19 rfl rfl ?_
  refine zz_callVi X (rest := []) (As := []) (kX16_bad_2 hE l D cA K V x1 ((((((((((((((((((((((((((((((((((((((((((((((((((((f1.set 227 (.int 0)).set 229 (.int 0)).set 37 (.int 0)).set 42 (.int 0)).set 48 (.int 0)).set 20 (.int 0)).set 56 (.int 0)).set 63 (.int 0)).set 72 (.int 0)).set 20 (.int 1)).set 52 (.int 0)).set 20 (.int 2)).set 53 (.int 1)).set 20 (.int 3)).set 54 (.int 2)).set 20 (.int 4)).set 55 (.int 3)).set 83 (.int 0)).set 108 (.int 0)).set 78 (.int 0)).set 216 (.int 0)).set 217 (.int 0)).set 218 (.int 0)).set 215 (.int 1)).set 219 (.int 0)).set 220 (.int 0)).set 221 (.int 0)).set 222 (.int 0)).set 37 (.int 0)).set 42 (.int 0)).set 48 (.int 0)).set 108 (.int 0)).set 83 (.int 0)).set 84 (.int 0)).set 85 (.int 0)).set 21 (.ref x9)).set 22 (.int 0)).set 28 (.int (-1))).set 26 (.int 0)).set 29 (.int 0)).set 30 (.int 0)).set 25 (.int 0)).set 27 (.int (-1))).set 2 (.int (-1))).set 23 (.int 0)).set 26 (.int 0)).set 50 (.int 400)).set 49 (.int 0)).set 48 (.int 1)).set 28 (.int 0)).set 37 (.int 1)).set 226 (.int 0)) hss (zq_len hf1_n (by simp only [List.length_set])) (zq_oth (by decide) (zq_oth (by decide) ((zq_same (zq_lt hf1_n (by decide) (by simp only [List.length_set]))))))) 0 (zgV zm_805 zm_806 zm_807 zm_451 zm_804) rfl (by decide +kernel) [7] [0, 1, 2, 3, 4, 5, 6, 8, 9, 10, 11, 12, 13, 14, 15, 16, 17, 18] [(x2, .inl (cA 1, 6, .inl (upd (upd (fun _ => 0) 0 1) 1 1))), (x3, .inl (cA 1, 4096, .inl (upd (upd (upd (upd g3 95 1) 3170 2) 1994 3) 4010 4))), (x4, .inl (cA 0, 17000, .inl ((upd (upd (upd (upd (upd (upd (upd (upd (upd (upd (upd (upd (upd (fun _ => 0) 0 95) 0 115) 1 101) 2 116) 0 105) 1 110) 2 112) 3 117) 4 116) 0 100) 1 97) 2 116) 3 97)))), (x6, .inl (cA 1, 13001, .inl (upd (upd (upd (upd (fun _ => 0) 1 1) 2 4) 3 9) 4 13))), (x5, .inl (cA 0, 40000, .inl (upd (upd (upd (upd (upd (upd (upd (upd (upd (upd (upd (upd (upd (fun _ => 0) 0 95) 1 115) 2 101) 3 116) 4 105) 5 110) 6 112) 7 117) 8 116) 9 100) 10 97) 11 116) 12 97))), (x7, .inl (cA 1, 13000, .inl (upd (upd (upd (upd (fun _ => 0) 0 0) 1 0) 2 0) 3 0))), (x8, .inl (cA 1, 6, .inl (fun _ => 0))), (x10, .inl (cA 1, 7700, .inl (upd (upd (fun _ => 0) 0 (-1)) 0 0))), (x11, .inl (cA 1, 7700, .inl (upd (fun _ => 0) 0 (-1)))), (x12, .inl (cA 1, 7700, .inl (upd (fun _ => 0) 0 400))), (x13, .inl (cA 1, 7700, .inl (upd (fun _ => 0) 0 0))), (x14, .inl (cA 1, 7700, .inl (upd (upd (fun _ => 0) 0 0) 0 1))), (x15, .inl (cA 1, 46000, .inl (upd (fun _ => 0) 0 24))), (x16, .inl (cA 1, 46000, .inl (upd (fun _ => 0) 0 0))), (x17, .inl (cA 1, 46000, .inl (upd (fun _ => 0) 0 (-1)))), (x18, .inl (cA 1, 46000, .inl (upd (fun _ => 0) 0 0))), (x19, .inl (cA 1, 46000, .inl (upd (fun _ => 0) 0 (-1)))), (x20, .inl (cA 1, 46000, .inl (upd (fun _ => 0) 0 (-1))))] rfl rfl (by decide) rfl (by decide) (by decide) ⟨Nat.le_of_ble_eq_true rfl, Nat.le_of_ble_eq_true rfl⟩ 0 rfl rfl rfl rfl rfl (Nat.le_of_ble_eq_true rfl) dX16_prepare_20 (Nat.le_of_ble_eq_true rfl) (Nat.le_of_ble_eq_true rfl) (fun r7 _ hw8 => ?_)
  obtain rfl := hw8
  refine zz_show (ws' := [(x2, .inl (cA 1, 6, .inl (upd (upd (fun _ => 0) 0 1) 1 1))), (x3, .inl (cA 1, 4096, .inl (upd (upd (upd (upd g3 95 1) 3170 2) 1994 3) 4010 4))), (x4, .inl (cA 0, 17000, .inl ((upd (upd (upd (upd (upd (upd (upd (upd (upd (upd (upd (upd (upd (fun _ => 0) 0 95) 0 115) 1 101) 2 116) 0 105) 1 110) 2 112) 3 117) 4 116) 0 100) 1 97) 2 116) 3 97)))), (x6, .inl (cA 1, 13001, .inl (upd (upd (upd (upd (fun _ => 0) 1 1) 2 4) 3 9) 4 13))), (x5, .inl (cA 0, 40000, .inl (upd (upd (upd (upd (upd (upd (upd (upd (upd (upd (upd (upd (upd (fun _ => 0) 0 95) 1 115) 2 101) 3 116) 4 105) 5 110) 6 112) 7 117) 8 116) 9 100) 10 97) 11 116) 12 97))), (x7, .inl (cA 1, 13000, .inl (upd (upd (upd (upd (fun _ => 0) 0 0) 1 0) 2 0) 3 0))), (x8, .inl (cA 1, 6, .inl (fun _ => 0))), (x10, .inl (cA 1, 7700, .inl (upd (upd (fun _ => 0) 0 (-1)) 0 0))), (x11, .inl (cA 1, 7700, .inl (upd (fun _ => 0) 0 (-1)))), (x12, .inl (cA 1, 7700, .inl (upd (fun _ => 0) 0 400))), (x13, .inl (cA 1, 7700, .inl (upd (fun _ => 0) 0 0))), (x14, .inl (cA 1, 7700, .inl (upd (upd (fun _ => 0) 0 0) 0 1))), (x15, .inl (cA 1, 46000, .inl (upd (fun _ => 0) 0 24))), (x16, .inl (cA 1, 46000, .inl (upd (fun _ => 0) 0 0))), (x17, .inl (cA 1, 46000, .inl (upd (fun _ => 0) 0 (-1)))), (x18, .inl (cA 1, 46000, .inl (upd (fun _ => 0) 0 0))), (x19, .inl (cA 1, 46000, .inl (upd (fun _ => 0) 0 (-1)))), (x20, .inl (cA 1, 46000, .inl (upd (fun _ => 0) 0 (-1)))), (x1, .inr (16, ((((((((((((((((((((((((((((((((((((((((((((((((((((f1.set 227 (.int 0)).set 229 (.int 0)).set 37 (.int 0)).set 42 (.int 0)).set 48 (.int 0)).set 20 (.int 0)).set 56 (.int 0)).set 63 (.int 0)).set 72 (.int 0)).set 20 (.int 1)).set 52 (.int 0)).set 20 (.int 2)).set 53 (.int 1)).set 20 (.int 3)).set 54 (.int 2)).set 20 (.int 4)).set 55 (.int 3)).set 83 (.int 0)).set 108 (.int 0)).set 78 (.int 0)).set 216 (.int 0)).set 217 (.int 0)).set 218 (.int 0)).set 215 (.int 1)).set 219 (.int 0)).set 220 (.int 0)).set 221 (.int 0)).set 222 (.int 0)).set 37 (.int 0)).set 42 (.int 0)).set 48 (.int 0)).set 108 (.int 0)).set 83 (.int 0)).set 84 (.int 0)).set 85 (.int 0)).set 21 (.ref x9)).set 22 (.int 0)).set 28 (.int (-1))).set 26 (.int 0)).set 29 (.int 0)).set 30 (.int 0)).set 25 (.int 0)).set 27 (.int (-1))).set 2 (.int (-1))).set 23 (.int 0)).set 26 (.int 0)).set 50 (.int 400)).set 49 (.int 0)).set 48 (.int 1)).set 28 (.int 0)).set 37 (.int 1)).set 226 (.int 0))))]) rfl ?_
  refine zz_if_eq X 33 dX16_prepare_23 (by decide) (fun h => absurd h (by decide)) (fun _ => ?_)
  refine zz_iconst X (-1) dX16_prepare_26 rfl ?_
  refine zz_aload_n X 1 dX16_prepare_27 rfl rfl ?_
  refine zz_get X 18 28 rfl rfl (by decide) (fun w h => List.mem_cons_of_mem _ (zf_X16 w h)) rfl (List.mem_cons_of_mem _ zm_784) (zq_oth (by decide) (zq_oth (by decide) ((zq_same (zq_lt hf1_n (by decide) (by simp only [List.length_set])))))) dX16_prepare_28 ?_
  refine zz_isub X ((-1)) dX16_prepare_31 (by decide) ?_
  exact zz_iret X hr (()) [] (by decide) rfl rfl (Nat.le_of_ble_eq_true rfl) (Nat.le_of_ble_eq_true rfl) (rfl) dX16_prepare_32

set_option maxHeartbeats 4000000 in
set_option maxRecDepth 100000 in
/-- isQuery -/
theorem kX16_isQuery_1 {E : zEn} (hE : zOk E) (l : Launch) (D : va_G) (cA : Nat → ClassId) (K : Nat → Nat) (V : Nat → Nat) (x1 : Nat) (x2 : Int32) (f1 : List Value) (x3 : Nat) (hss : zSS E K V) (hf1_n : f1.length = 243) (hf1_213 : f1[213]? = some (.ref x3)) : zMi E l yX16_isQuery zwX16_isQuery ({ frames := 0, cells := 0, slots := 0, locals := 0 }) D vwCl (zT cA) [.ref x1, .int x2] [(x1, .inr (16, f1)), (x3, .inl (cA 3, 4, .inl (fun _ => 0)))] (S := Unit) (fun (r : Int32) (u : Unit) => (r = 0)) (fun (u : Unit) => [(x1, .inr (16, f1)), (x3, .inl (cA 3, 4, .inl (fun _ => 0)))]) := by
  refine zz_enterz (cc := cX16_isQuery) (lv := [(0, .ref x1), (1, .int x2)]) hE 2 (by decide) rfl (Nat.le_of_ble_eq_true rfl) rfl ?_
  intro p e s m args below meth c X hr hin
  refine zz_iload_n X 1 dX16_isQuery_0 rfl rfl ?_
  refine zz_if_lt X 22 dX16_isQuery_1 (by decide) (fun c1_1 => ?_) (fun c1_1 => ?_)
  · skip
    refine zz_iconst X 0 dX16_isQuery_22 rfl ?_
    exact zz_zret X hr (by decide) (()) [0, 1] (by decide) rfl rfl (Nat.le_of_ble_eq_true rfl) (Nat.le_of_ble_eq_true rfl) (rfl) dX16_isQuery_23
  · skip
    refine zz_iload_n X 1 dX16_isQuery_4 rfl rfl ?_
    refine zz_iconst X 4 dX16_isQuery_5 rfl ?_
    refine zz_icmp_ge X 22 dX16_isQuery_6 (by decide) (fun c6_2 => ?_) (fun c6_2 => ?_)
    · skip
      refine zz_iconst X 0 dX16_isQuery_22 rfl ?_
      exact zz_zret X hr (by decide) (()) [0, 1] (by decide) rfl rfl (Nat.le_of_ble_eq_true rfl) (Nat.le_of_ble_eq_true rfl) (rfl) dX16_isQuery_23
    · skip
      refine zz_aload_n X 0 dX16_isQuery_9 rfl rfl ?_
      refine zz_get X 0 213 rfl rfl (by decide) (fun w h => List.mem_cons_of_mem _ (zf_X16 w h)) rfl (List.mem_cons_of_mem _ zm_618) hf1_213 dX16_isQuery_10 ?_
      refine zz_iload_n X 1 dX16_isQuery_13 rfl rfl ?_
      refine zz_zald X 1 3 rfl rfl (zq_in (N := 4) (zq_nlt c1_1) (zq_nge c6_2) (by decide)) (0) rfl dX16_isQuery_14 ?_
      refine zz_if_eq X 22 dX16_isQuery_15 (by decide) (fun _ => ?_) (fun h => absurd (by decide) h)
      refine zz_iconst X 0 dX16_isQuery_22 rfl ?_
      exact zz_zret X hr (by decide) (()) [0, 1] (by decide) rfl rfl (Nat.le_of_ble_eq_true rfl) (Nat.le_of_ble_eq_true rfl) (rfl) dX16_isQuery_23

set_option maxHeartbeats 4000000 in
set_option maxRecDepth 100000 in
/-- renew -/
theorem kX16_renew_1 {E : zEn} (hE : zOk E) (l : Launch) (D : va_G) (cA : Nat → ClassId) (K : Nat → Nat) (V : Nat → Nat) (x1 : Nat) (x2 : Int32) (f1 : List Value) (x3 : Nat) (hss : zSS E K V) (hf1_n : f1.length = 243) (hf1_213 : f1[213]? = some (.ref x3)) : zMi E l yX16_renew zwX16_renew ({ frames := 1, cells := 0, slots := 0, locals := 21 }) D vwCl (zT cA) [.ref x1, .int x2] [(x1, .inr (16, f1)), (x3, .inl (cA 3, 4, .inl (fun _ => 0)))] (S := Unit) (fun (r : Int32) (u : Unit) => (r = (-1))) (fun (u : Unit) => []) := by
  refine zz_enteri (cc := cX16_renew) (lv := [(0, .ref x1), (1, .int x2)]) hE 2 (by decide) rfl (Nat.le_of_ble_eq_true rfl) rfl ?_
  intro p e s m args below meth c X hr hin
  refine zz_aload_n X 0 dX16_renew_0 rfl rfl ?_
  refine zz_iconst X 0 dX16_renew_1 rfl ?_
  refine zz_put X 0 227 rfl rfl (by decide) (fun w h => List.mem_cons_of_mem _ (zf_X16 w h)) rfl (List.mem_cons_of_mem _ zm_655) tyX16 tyX16_ok nmX16 rfl (ty := .int) rfl rfl rfl (zq_lt hf1_n (by decide) (by simp only [List.length_set])) dX16_renew_2 [(x1, .inr (16, (f1.set 227 (.int 0)))), (x3, .inl (cA 3, 4, .inl (fun _ => 0)))] rfl ?_
  refine zz_aload_n X 0 dX16_renew_5 rfl rfl ?_
  refine zz_iload_n X 1 dX16_renew_6 rfl rfl ?_
  refine zz_callVi X (rest := []) (As := [.int x2]) (kX16_isQuery_1 hE l D cA K V x1 x2 (f1.set 227 (.int 0)) x3 hss (zq_len hf1_n (by simp only [List.length_set])) (zq_oth (by decide) (hf1_213))) 1 (zgV zm_1108 zm_1109 zm_1110 zm_451 zm_1107) rfl (by decide +kernel) [0, 1] [] [] rfl rfl (by decide) rfl (by decide) (by decide) ⟨Nat.le_of_ble_eq_true rfl, Nat.le_of_ble_eq_true rfl⟩ 0 rfl rfl rfl rfl rfl (Nat.le_of_ble_eq_true rfl) dX16_renew_7 (Nat.le_of_ble_eq_true rfl) (Nat.le_of_ble_eq_true rfl) (fun r1 _ hw2 => ?_)
  obtain rfl := hw2
  refine zz_show (ws' := [(x1, .inr (16, (f1.set 227 (.int 0)))), (x3, .inl (cA 3, 4, .inl (fun _ => 0)))]) rfl ?_
  refine zz_if_ne X 15 dX16_renew_10 (by decide) (fun h => absurd (by decide) h) (fun _ => ?_)
  refine zz_iconst X (-1) dX16_renew_13 rfl ?_
  exact zz_iret X hr (()) [] (by decide) rfl rfl (Nat.le_of_ble_eq_true rfl) (Nat.le_of_ble_eq_true rfl) (rfl) dX16_renew_14

set_option maxHeartbeats 4000000 in
set_option maxRecDepth 100000 in
/-- release -/
theorem kX16_release_1 {E : zEn} (hE : zOk E) (l : Launch) (D : va_G) (cA : Nat → ClassId) (K : Nat → Nat) (V : Nat → Nat) (x1 : Nat) (x2 : Int32) (f1 : List Value) (x3 : Nat) (hss : zSS E K V) (hf1_n : f1.length = 243) (hf1_213 : f1[213]? = some (.ref x3)) : zMi E l yX16_release zwX16_release ({ frames := 1, cells := 0, slots := 0, locals := 21 }) D vwCl (zT cA) [.ref x1, .int x2] [(x1, .inr (16, f1)), (x3, .inl (cA 3, 4, .inl (fun _ => 0)))] (S := Unit) (fun (r : Int32) (u : Unit) => (r = 0)) (fun (u : Unit) => []) := by
  refine zz_enterz (cc := cX16_release) (lv := [(0, .ref x1), (1, .int x2)]) hE 2 (by decide) rfl (Nat.le_of_ble_eq_true rfl) rfl ?_
  intro p e s m args below meth c X hr hin
  refine zz_aload_n X 0 dX16_release_0 rfl rfl ?_
  refine zz_iconst X 0 dX16_release_1 rfl ?_
  refine zz_put X 0 227 rfl rfl (by decide) (fun w h => List.mem_cons_of_mem _ (zf_X16 w h)) rfl (List.mem_cons_of_mem _ zm_655) tyX16 tyX16_ok nmX16 rfl (ty := .int) rfl rfl rfl (zq_lt hf1_n (by decide) (by simp only [List.length_set])) dX16_release_2 [(x1, .inr (16, (f1.set 227 (.int 0)))), (x3, .inl (cA 3, 4, .inl (fun _ => 0)))] rfl ?_
  refine zz_aload_n X 0 dX16_release_5 rfl rfl ?_
  refine zz_iload_n X 1 dX16_release_6 rfl rfl ?_
  refine zz_callVi X (rest := []) (As := [.int x2]) (kX16_isQuery_1 hE l D cA K V x1 x2 (f1.set 227 (.int 0)) x3 hss (zq_len hf1_n (by simp only [List.length_set])) (zq_oth (by decide) (hf1_213))) 1 (zgV zm_1108 zm_1109 zm_1110 zm_451 zm_1107) rfl (by decide +kernel) [0, 1] [] [] rfl rfl (by decide) rfl (by decide) (by decide) ⟨Nat.le_of_ble_eq_true rfl, Nat.le_of_ble_eq_true rfl⟩ 0 rfl rfl rfl rfl rfl (Nat.le_of_ble_eq_true rfl) dX16_release_7 (Nat.le_of_ble_eq_true rfl) (Nat.le_of_ble_eq_true rfl) (fun r1 _ hw2 => ?_)
  obtain rfl := hw2
  refine zz_show (ws' := [(x1, .inr (16, (f1.set 227 (.int 0)))), (x3, .inl (cA 3, 4, .inl (fun _ => 0)))]) rfl ?_
  refine zz_if_ne X 15 dX16_release_10 (by decide) (fun h => absurd (by decide) h) (fun _ => ?_)
  refine zz_iconst X 0 dX16_release_13 rfl ?_
  exact zz_zret X hr (by decide) (()) [] (by decide) rfl rfl (Nat.le_of_ble_eq_true rfl) (Nat.le_of_ble_eq_true rfl) (rfl) dX16_release_14

set_option maxHeartbeats 4000000 in
set_option maxRecDepth 100000 in
/-- run -/
theorem kX16_run_1 {E : zEn} (hE : zOk E) (l : Launch) (D : va_G) (cA : Nat → ClassId) (K : Nat → Nat) (V : Nat → Nat) (x1 : Nat) (x2 : Int32) (f1 : List Value) (x3 : Nat) (hss : zSS E K V) (hf1_n : f1.length = 243) (hf1_213 : f1[213]? = some (.ref x3)) : zMi E l yX16_run zwX16_run ({ frames := 1, cells := 0, slots := 0, locals := 21 }) D vwCl (zT cA) [.ref x1, .int x2, .int 0] [(x1, .inr (16, f1)), (x3, .inl (cA 3, 4, .inl (fun _ => 0)))] (S := Unit) (fun (r : Int32) (u : Unit) => (r = (-1))) (fun (u : Unit) => []) := by
  refine zz_enteriW (cc := cX16_run) (lv := [(0, .ref x1), (1, .int x2), (2, .int 0)]) hE 6 (by decide) rfl (Nat.le_of_ble_eq_true rfl) rfl ?_
  intro p e s m args below meth c X hr hin
  refine zz_aload_n X 0 dX16_run_0 rfl rfl ?_
  refine zz_iconst X 0 dX16_run_1 rfl ?_
  refine zz_put X 0 227 rfl rfl (by decide) (fun w h => List.mem_cons_of_mem _ (zf_X16 w h)) rfl (List.mem_cons_of_mem _ zm_655) tyX16 tyX16_ok nmX16 rfl (ty := .int) rfl rfl rfl (zq_lt hf1_n (by decide) (by simp only [List.length_set])) dX16_run_2 [(x1, .inr (16, (f1.set 227 (.int 0)))), (x3, .inl (cA 3, 4, .inl (fun _ => 0)))] rfl ?_
  refine zz_aload_n X 0 dX16_run_5 rfl rfl ?_
  refine zz_iload_n X 1 dX16_run_6 rfl rfl ?_
  refine zz_callVi X (rest := []) (As := [.int x2]) (kX16_isQuery_1 hE l D cA K V x1 x2 (f1.set 227 (.int 0)) x3 hss (zq_len hf1_n (by simp only [List.length_set])) (zq_oth (by decide) (hf1_213))) 1 (zgV zm_1108 zm_1109 zm_1110 zm_451 zm_1107) rfl (by decide +kernel) [0, 1] [] [] rfl rfl (by decide) rfl (by decide) (by decide) ⟨Nat.le_of_ble_eq_true rfl, Nat.le_of_ble_eq_true rfl⟩ 0 rfl rfl rfl rfl rfl (Nat.le_of_ble_eq_true rfl) dX16_run_7 (Nat.le_of_ble_eq_true rfl) (Nat.le_of_ble_eq_true rfl) (fun r1 _ hw2 => ?_)
  obtain rfl := hw2
  refine zz_show (ws' := [(x1, .inr (16, (f1.set 227 (.int 0)))), (x3, .inl (cA 3, 4, .inl (fun _ => 0)))]) rfl ?_
  refine zz_if_ne X 15 dX16_run_10 (by decide) (fun h => absurd (by decide) h) (fun _ => ?_)
  refine zz_iconst X (-1) dX16_run_13 rfl ?_
  exact zz_iret X hr (()) [] (by decide) rfl rfl (Nat.le_of_ble_eq_true rfl) (Nat.le_of_ble_eq_true rfl) (rfl) dX16_run_14

set_option maxHeartbeats 4000000 in
set_option maxRecDepth 100000 in
/-- run -/
theorem kX16_run_2 {E : zEn} (hE : zOk E) (l : Launch) (D : va_G) (cA : Nat → ClassId) (K : Nat → Nat) (V : Nat → Nat) (x1 : Nat) (x2 : Int32) (f1 : List Value) (x3 : Nat) (hss : zSS E K V) (hf1_n : f1.length = 243) (hf1_213 : f1[213]? = some (.ref x3)) : zMi E l yX16_run zwX16_run ({ frames := 1, cells := 0, slots := 0, locals := 21 }) D vwCl (zT cA) [.ref x1, .int x2, .int 1] [(x1, .inr (16, f1)), (x3, .inl (cA 3, 4, .inl (fun _ => 0)))] (S := Unit) (fun (r : Int32) (u : Unit) => (r = (-1))) (fun (u : Unit) => []) := by
  refine zz_enteriW (cc := cX16_run) (lv := [(0, .ref x1), (1, .int x2), (2, .int 1)]) hE 6 (by decide) rfl (Nat.le_of_ble_eq_true rfl) rfl ?_
  intro p e s m args below meth c X hr hin
  refine zz_aload_n X 0 dX16_run_0 rfl rfl ?_
  refine zz_iconst X 0 dX16_run_1 rfl ?_
  refine zz_put X 0 227 rfl rfl (by decide) (fun w h => List.mem_cons_of_mem _ (zf_X16 w h)) rfl (List.mem_cons_of_mem _ zm_655) tyX16 tyX16_ok nmX16 rfl (ty := .int) rfl rfl rfl (zq_lt hf1_n (by decide) (by simp only [List.length_set])) dX16_run_2 [(x1, .inr (16, (f1.set 227 (.int 0)))), (x3, .inl (cA 3, 4, .inl (fun _ => 0)))] rfl ?_
  refine zz_aload_n X 0 dX16_run_5 rfl rfl ?_
  refine zz_iload_n X 1 dX16_run_6 rfl rfl ?_
  refine zz_callVi X (rest := []) (As := [.int x2]) (kX16_isQuery_1 hE l D cA K V x1 x2 (f1.set 227 (.int 0)) x3 hss (zq_len hf1_n (by simp only [List.length_set])) (zq_oth (by decide) (hf1_213))) 1 (zgV zm_1108 zm_1109 zm_1110 zm_451 zm_1107) rfl (by decide +kernel) [0, 1] [] [] rfl rfl (by decide) rfl (by decide) (by decide) ⟨Nat.le_of_ble_eq_true rfl, Nat.le_of_ble_eq_true rfl⟩ 0 rfl rfl rfl rfl rfl (Nat.le_of_ble_eq_true rfl) dX16_run_7 (Nat.le_of_ble_eq_true rfl) (Nat.le_of_ble_eq_true rfl) (fun r1 _ hw2 => ?_)
  obtain rfl := hw2
  refine zz_show (ws' := [(x1, .inr (16, (f1.set 227 (.int 0)))), (x3, .inl (cA 3, 4, .inl (fun _ => 0)))]) rfl ?_
  refine zz_if_ne X 15 dX16_run_10 (by decide) (fun h => absurd (by decide) h) (fun _ => ?_)
  refine zz_iconst X (-1) dX16_run_13 rfl ?_
  exact zz_iret X hr (()) [] (by decide) rfl rfl (Nat.le_of_ble_eq_true rfl) (Nat.le_of_ble_eq_true rfl) (rfl) dX16_run_14

set_option maxHeartbeats 4000000 in
set_option maxRecDepth 100000 in
/-- about -/
theorem kX16_about_1 {E : zEn} (hE : zOk E) (l : Launch) (D : va_G) (cA : Nat → ClassId) (K : Nat → Nat) (V : Nat → Nat) (x1 : Nat) (x2 : Int32) (f1 : List Value) (hss : zSS E K V) (hf1_n : f1.length = 243) (hf1_242 : f1[242]? = some (.int 0)) : zMi E l yX16_about zwX16_about ({ frames := 0, cells := 0, slots := 0, locals := 0 }) D vwCl (zT cA) [.ref x1, .int x2] [(x1, .inr (16, f1))] (S := Unit) (fun (r : Int32) (u : Unit) => (r = (-1))) (fun (u : Unit) => []) := by
  refine zz_enteri (cc := cX16_about) (lv := [(0, .ref x1), (1, .int x2)]) hE 2 (by decide) rfl (Nat.le_of_ble_eq_true rfl) rfl ?_
  intro p e s m args below meth c X hr hin
  refine zz_aload_n X 0 dX16_about_0 rfl rfl ?_
  refine zz_iconst X 0 dX16_about_1 rfl ?_
  refine zz_put X 0 227 rfl rfl (by decide) (fun w h => List.mem_cons_of_mem _ (zf_X16 w h)) rfl (List.mem_cons_of_mem _ zm_655) tyX16 tyX16_ok nmX16 rfl (ty := .int) rfl rfl rfl (zq_lt hf1_n (by decide) (by simp only [List.length_set])) dX16_about_2 [(x1, .inr (16, (f1.set 227 (.int 0))))] rfl ?_
  refine zz_aload_n X 0 dX16_about_5 rfl rfl ?_
  refine zz_get X 0 242 rfl rfl (by decide) (fun w h => List.mem_cons_of_mem _ (zf_X16 w h)) rfl (List.mem_cons_of_mem _ zm_1140) (zq_oth (by decide) (hf1_242)) dX16_about_6 ?_
  refine zz_if_ne X 14 dX16_about_9 (by decide) (fun h => absurd (by decide) h) (fun _ => ?_)
  refine zz_iconst X (-1) dX16_about_12 rfl ?_
  exact zz_iret X hr (()) [] (by decide) rfl rfl (Nat.le_of_ble_eq_true rfl) (Nat.le_of_ble_eq_true rfl) (rfl) dX16_about_13

set_option maxHeartbeats 4000000 in
set_option maxRecDepth 100000 in
/-- covered -/
theorem kX16_covered_1 {E : zEn} (hE : zOk E) (l : Launch) (D : va_G) (cA : Nat → ClassId) (K : Nat → Nat) (V : Nat → Nat) (x1 : Nat) (x2 : Int32) (f1 : List Value) (hss : zSS E K V) (hf1_n : f1.length = 243) (hf1_242 : f1[242]? = some (.int 0)) : zMi E l yX16_covered zwX16_covered ({ frames := 0, cells := 0, slots := 0, locals := 0 }) D vwCl (zT cA) [.ref x1, .int x2] [(x1, .inr (16, f1))] (S := Unit) (fun (r : Int32) (u : Unit) => (r = (-1))) (fun (u : Unit) => []) := by
  refine zz_enteri (cc := cX16_covered) (lv := [(0, .ref x1), (1, .int x2)]) hE 2 (by decide) rfl (Nat.le_of_ble_eq_true rfl) rfl ?_
  intro p e s m args below meth c X hr hin
  refine zz_aload_n X 0 dX16_covered_0 rfl rfl ?_
  refine zz_iconst X 0 dX16_covered_1 rfl ?_
  refine zz_put X 0 227 rfl rfl (by decide) (fun w h => List.mem_cons_of_mem _ (zf_X16 w h)) rfl (List.mem_cons_of_mem _ zm_655) tyX16 tyX16_ok nmX16 rfl (ty := .int) rfl rfl rfl (zq_lt hf1_n (by decide) (by simp only [List.length_set])) dX16_covered_2 [(x1, .inr (16, (f1.set 227 (.int 0))))] rfl ?_
  refine zz_aload_n X 0 dX16_covered_5 rfl rfl ?_
  refine zz_get X 0 242 rfl rfl (by decide) (fun w h => List.mem_cons_of_mem _ (zf_X16 w h)) rfl (List.mem_cons_of_mem _ zm_1140) (zq_oth (by decide) (hf1_242)) dX16_covered_6 ?_
  refine zz_if_eq X 33 dX16_covered_9 (by decide) (fun _ => ?_) (fun h => absurd (by decide) h)
  refine zz_iconst X (-1) dX16_covered_33 rfl ?_
  exact zz_iret X hr (()) [] (by decide) rfl rfl (Nat.le_of_ble_eq_true rfl) (Nat.le_of_ble_eq_true rfl) (rfl) dX16_covered_34

set_option maxHeartbeats 4000000 in
set_option maxRecDepth 100000 in
/-- result -/
theorem kX16_result_1 {E : zEn} (hE : zOk E) (l : Launch) (D : va_G) (cA : Nat → ClassId) (K : Nat → Nat) (V : Nat → Nat) (x1 : Nat) (x2 : Int32) (x3 : Int32) (f1 : List Value) (hss : zSS E K V) (hf1_n : f1.length = 243) (hf1_242 : f1[242]? = some (.int 0)) : zMi E l yX16_result zwX16_result ({ frames := 0, cells := 0, slots := 0, locals := 0 }) D vwCl (zT cA) [.ref x1, .int x2, .int x3] [(x1, .inr (16, f1))] (S := Unit) (fun (r : Int32) (u : Unit) => (r = (-1))) (fun (u : Unit) => []) := by
  refine zz_enteri (cc := cX16_result) (lv := [(0, .ref x1), (1, .int x2), (2, .int x3)]) hE 3 (by decide) rfl (Nat.le_of_ble_eq_true rfl) rfl ?_
  intro p e s m args below meth c X hr hin
  refine zz_aload_n X 0 dX16_result_0 rfl rfl ?_
  refine zz_iconst X 0 dX16_result_1 rfl ?_
  refine zz_put X 0 227 rfl rfl (by decide) (fun w h => List.mem_cons_of_mem _ (zf_X16 w h)) rfl (List.mem_cons_of_mem _ zm_655) tyX16 tyX16_ok nmX16 rfl (ty := .int) rfl rfl rfl (zq_lt hf1_n (by decide) (by simp only [List.length_set])) dX16_result_2 [(x1, .inr (16, (f1.set 227 (.int 0))))] rfl ?_
  refine zz_aload_n X 0 dX16_result_5 rfl rfl ?_
  refine zz_get X 0 242 rfl rfl (by decide) (fun w h => List.mem_cons_of_mem _ (zf_X16 w h)) rfl (List.mem_cons_of_mem _ zm_1140) (zq_oth (by decide) (hf1_242)) dX16_result_6 ?_
  refine zz_if_eq X 33 dX16_result_9 (by decide) (fun _ => ?_) (fun h => absurd (by decide) h)
  refine zz_iconst X (-1) dX16_result_33 rfl ?_
  exact zz_iret X hr (()) [] (by decide) rfl rfl (Nat.le_of_ble_eq_true rfl) (Nat.le_of_ble_eq_true rfl) (rfl) dX16_result_34

set_option maxHeartbeats 4000000 in
set_option maxRecDepth 100000 in
/-- document -/
theorem kX16_document_1 {E : zEn} (hE : zOk E) (l : Launch) (D : va_G) (cA : Nat → ClassId) (K : Nat → Nat) (V : Nat → Nat) (x1 : Nat) (x2 : Int32) (f1 : List Value) (hss : zSS E K V) (hf1_n : f1.length = 243) (hf1_242 : f1[242]? = some (.int 0)) : zMi E l yX16_document zwX16_document ({ frames := 0, cells := 0, slots := 0, locals := 0 }) D vwCl (zT cA) [.ref x1, .int x2] [(x1, .inr (16, f1))] (S := Unit) (fun (r : Int32) (u : Unit) => (r = (-1))) (fun (u : Unit) => []) := by
  refine zz_enteri (cc := cX16_document) (lv := [(0, .ref x1), (1, .int x2)]) hE 2 (by decide) rfl (Nat.le_of_ble_eq_true rfl) rfl ?_
  intro p e s m args below meth c X hr hin
  refine zz_aload_n X 0 dX16_document_0 rfl rfl ?_
  refine zz_iconst X 0 dX16_document_1 rfl ?_
  refine zz_put X 0 227 rfl rfl (by decide) (fun w h => List.mem_cons_of_mem _ (zf_X16 w h)) rfl (List.mem_cons_of_mem _ zm_655) tyX16 tyX16_ok nmX16 rfl (ty := .int) rfl rfl rfl (zq_lt hf1_n (by decide) (by simp only [List.length_set])) dX16_document_2 [(x1, .inr (16, (f1.set 227 (.int 0))))] rfl ?_
  refine zz_aload_n X 0 dX16_document_5 rfl rfl ?_
  refine zz_get X 0 242 rfl rfl (by decide) (fun w h => List.mem_cons_of_mem _ (zf_X16 w h)) rfl (List.mem_cons_of_mem _ zm_1140) (zq_oth (by decide) (hf1_242)) dX16_document_6 ?_
  refine zz_if_eq X 51 dX16_document_9 (by decide) (fun _ => ?_) (fun h => absurd (by decide) h)
  refine zz_iconst X (-1) dX16_document_51 rfl ?_
  exact zz_iret X hr (()) [] (by decide) rfl rfl (Nat.le_of_ble_eq_true rfl) (Nat.le_of_ble_eq_true rfl) (rfl) dX16_document_52

set_option maxHeartbeats 4000000 in
set_option maxRecDepth 100000 in
/-- output -/
theorem kX16_output_1 {E : zEn} (hE : zOk E) (l : Launch) (D : va_G) (cA : Nat → ClassId) (K : Nat → Nat) (V : Nat → Nat) (x1 : Nat) (x2 : Int32) (f1 : List Value) (hss : zSS E K V) (hf1_n : f1.length = 243) (hf1_15 : f1[15]? = some (.int 0)) : zMi E l yX16_output zwX16_output ({ frames := 0, cells := 0, slots := 0, locals := 0 }) D vwCl (zT cA) [.ref x1, .int x2] [(x1, .inr (16, f1))] (S := Unit) (fun (r : Int32) (u : Unit) => (r = (-1))) (fun (u : Unit) => []) := by
  refine zz_enteri (cc := cX16_output) (lv := [(0, .ref x1), (1, .int x2)]) hE 2 (by decide) rfl (Nat.le_of_ble_eq_true rfl) rfl ?_
  intro p e s m args below meth c X hr hin
  refine zz_aload_n X 0 dX16_output_0 rfl rfl ?_
  refine zz_iconst X 0 dX16_output_1 rfl ?_
  refine zz_put X 0 227 rfl rfl (by decide) (fun w h => List.mem_cons_of_mem _ (zf_X16 w h)) rfl (List.mem_cons_of_mem _ zm_655) tyX16 tyX16_ok nmX16 rfl (ty := .int) rfl rfl rfl (zq_lt hf1_n (by decide) (by simp only [List.length_set])) dX16_output_2 [(x1, .inr (16, (f1.set 227 (.int 0))))] rfl ?_
  refine zz_iload_n X 1 dX16_output_5 rfl rfl ?_
  refine zz_if_lt X 30 dX16_output_6 (by decide) (fun c6_1 => ?_) (fun c6_1 => ?_)
  · skip
    refine zz_iconst X (-1) dX16_output_30 rfl ?_
    exact zz_iret X hr (()) [] (by decide) rfl rfl (Nat.le_of_ble_eq_true rfl) (Nat.le_of_ble_eq_true rfl) (rfl) dX16_output_31
  · skip
    refine zz_iload_n X 1 dX16_output_9 rfl rfl ?_
    refine zz_aload_n X 0 dX16_output_10 rfl rfl ?_
    refine zz_get X 0 15 rfl rfl (by decide) (fun w h => List.mem_cons_of_mem _ (zf_X16 w h)) rfl (List.mem_cons_of_mem _ zm_1177) (zq_oth (by decide) (hf1_15)) dX16_output_11 ?_
    refine zz_icmp_ge X 30 dX16_output_14 (by decide) (fun _ => ?_) (fun h => absurd (zq_nlt c6_1) h)
    refine zz_iconst X (-1) dX16_output_30 rfl ?_
    exact zz_iret X hr (()) [] (by decide) rfl rfl (Nat.le_of_ble_eq_true rfl) (Nat.le_of_ble_eq_true rfl) (rfl) dX16_output_31

set_option maxHeartbeats 4000000 in
set_option maxRecDepth 100000 in
/-- rule -/
theorem kX16_rule_1 {E : zEn} (hE : zOk E) (l : Launch) (D : va_G) (cA : Nat → ClassId) (K : Nat → Nat) (V : Nat → Nat) (x1 : Nat) (x2 : Int32) (x3 : Int32) (f1 : List Value) (x4 : Nat) (x5 : Nat) (x6 : Nat) (x7 : Nat) (x8 : Nat) (x9 : Nat) (x10 : Nat) (hss : zSS E K V) (hf1_n : f1.length = 243) (hf1_215 : f1[215]? = some (.int (-1))) (hf1_211 : f1[211]? = some (.ref x4)) (hf1_19 : f1[19]? = some (.ref x5)) (hf1_0 : f1[0]? = some (.ref x6)) (hf1_16 : f1[16]? = some (.ref x7)) (hf1_17 : f1[17]? = some (.ref x8)) (hf1_18 : f1[18]? = some (.ref x9)) (hf1_210 : f1[210]? = some (.ref x10)) (hf1_84 : f1[84]? = some (.int 0)) (hf1_85 : f1[85]? = some (.int 0)) : zMi E l yX16_rule zwX16_rule ({ frames := 7, cells := 0, slots := 0, locals := 152 }) D vwCl (zT cA) [.ref x1, .int x2, .int x3] [(x1, .inr (16, f1)), (x4, .inl (cA 1, 6, .inl (upd (upd (fun _ => 0) 0 1) 1 1))), (x5, .inl (cA 1, 4096, .inl (fun _ => 0))), (x6, .inl (cA 0, 17000, .inl (fun _ => 0))), (x8, .inl (cA 1, 13001, .inl (fun _ => 0))), (x7, .inl (cA 0, 40000, .inl (fun _ => 0))), (x9, .inl (cA 1, 13000, .inl (fun _ => 0))), (x10, .inl (cA 1, 6, .inl (fun _ => 0)))] (S := Nat → Int32) (fun (r : Int32) (u : Nat → Int32) => (r = 0) ∧ (∀ j : Nat, j < 4096 → u j = 0)) (fun (u : Nat → Int32) => [(x1, .inr (16, (((((((((((((((((((((((((((((((((((f1.set 227 (.int 0)).set 37 (.int 0)).set 42 (.int 0)).set 48 (.int 0)).set 20 (.int 0)).set 56 (.int 0)).set 63 (.int 0)).set 72 (.int 0)).set 20 (.int 1)).set 52 (.int 0)).set 20 (.int 2)).set 53 (.int 1)).set 20 (.int 3)).set 54 (.int 2)).set 20 (.int 4)).set 55 (.int 3)).set 83 (.int 0)).set 108 (.int 0)).set 78 (.int 0)).set 216 (.int 0)).set 217 (.int 0)).set 218 (.int 0)).set 215 (.int 1)).set 219 (.int 0)).set 220 (.int 0)).set 221 (.int 0)).set 222 (.int 0)).set 37 (.int 0)).set 42 (.int 0)).set 48 (.int 0)).set 108 (.int 0)).set 83 (.int 0)).set 84 (.int 0)).set 85 (.int 0)).set 227 (.int 1)))), (x4, .inl (cA 1, 6, .inl (upd (upd (fun _ => 0) 0 1) 1 1))), (x5, .inl (cA 1, 4096, .inl (upd (upd (upd (upd u 95 1) 3170 2) 1994 3) 4010 4))), (x6, .inl (cA 0, 17000, .inl ((upd (upd (upd (upd (upd (upd (upd (upd (upd (upd (upd (upd (upd (fun _ => 0) 0 95) 0 115) 1 101) 2 116) 0 105) 1 110) 2 112) 3 117) 4 116) 0 100) 1 97) 2 116) 3 97)))), (x8, .inl (cA 1, 13001, .inl (upd (upd (upd (upd (fun _ => 0) 1 1) 2 4) 3 9) 4 13))), (x7, .inl (cA 0, 40000, .inl (upd (upd (upd (upd (upd (upd (upd (upd (upd (upd (upd (upd (upd (fun _ => 0) 0 95) 1 115) 2 101) 3 116) 4 105) 5 110) 6 112) 7 117) 8 116) 9 100) 10 97) 11 116) 12 97))), (x9, .inl (cA 1, 13000, .inl (upd (upd (upd (upd (fun _ => 0) 0 0) 1 0) 2 0) 3 0))), (x10, .inl (cA 1, 6, .inl (fun _ => 0)))]) := by
  refine zz_enteri (cc := cX16_rule) (lv := [(0, .ref x1), (1, .int x2), (2, .int x3)]) hE 5 (by decide) rfl (Nat.le_of_ble_eq_true rfl) rfl ?_
  intro p e s m args below meth c X hr hin
  refine zz_aload_n X 0 dX16_rule_0 rfl rfl ?_
  refine zz_iconst X 0 dX16_rule_1 rfl ?_
  refine zz_put X 0 227 rfl rfl (by decide) (fun w h => List.mem_cons_of_mem _ (zf_X16 w h)) rfl (List.mem_cons_of_mem _ zm_655) tyX16 tyX16_ok nmX16 rfl (ty := .int) rfl rfl rfl (zq_lt hf1_n (by decide) (by simp only [List.length_set])) dX16_rule_2 [(x1, .inr (16, (f1.set 227 (.int 0)))), (x4, .inl (cA 1, 6, .inl (upd (upd (fun _ => 0) 0 1) 1 1))), (x5, .inl (cA 1, 4096, .inl (fun _ => 0))), (x6, .inl (cA 0, 17000, .inl (fun _ => 0))), (x8, .inl (cA 1, 13001, .inl (fun _ => 0))), (x7, .inl (cA 0, 40000, .inl (fun _ => 0))), (x9, .inl (cA 1, 13000, .inl (fun _ => 0))), (x10, .inl (cA 1, 6, .inl (fun _ => 0)))] rfl ?_
  refine zz_aload_n X 0 dX16_rule_5 rfl rfl ?_
  refine zz_iconst X 1 dX16_rule_6 rfl ?_
  refine zz_callVv X (rest := []) (As := [.int 1]) (kX16_loadBundle_2 hE l D cA K V x1 (f1.set 227 (.int 0)) x4 x5 x6 x7 x8 x9 x10 hss (zq_len hf1_n (by simp only [List.length_set])) (zq_oth (by decide) (hf1_215)) (zq_oth (by decide) (hf1_211)) (zq_oth (by decide) (hf1_19)) (zq_oth (by decide) (hf1_0)) (zq_oth (by decide) (hf1_16)) (zq_oth (by decide) (hf1_17)) (zq_oth (by decide) (hf1_18)) (zq_oth (by decide) (hf1_210)) (zq_oth (by decide) (hf1_84)) (zq_oth (by decide) (hf1_85))) 1 (zgV zm_895 zm_896 zm_897 zm_451 zm_894) rfl (by decide +kernel) [0, 1, 2, 3, 4, 5, 6, 7] [] [] rfl rfl (by decide) rfl (by decide) (by decide) ⟨Nat.le_of_ble_eq_true rfl, Nat.le_of_ble_eq_true rfl⟩ 0 rfl rfl rfl rfl rfl (Nat.le_of_ble_eq_true rfl) dX16_rule_7 (Nat.le_of_ble_eq_true rfl) (Nat.le_of_ble_eq_true rfl) (fun uhw2 hw2 => ?_)
  obtain ⟨g1, rfl⟩ : ∃ z, z = uhw2 := ⟨_, rfl⟩
  have hq3 := hw2
  refine zz_show (ws' := [(x1, .inr (16, ((((((((((((((((((((((((((((((((((f1.set 227 (.int 0)).set 37 (.int 0)).set 42 (.int 0)).set 48 (.int 0)).set 20 (.int 0)).set 56 (.int 0)).set 63 (.int 0)).set 72 (.int 0)).set 20 (.int 1)).set 52 (.int 0)).set 20 (.int 2)).set 53 (.int 1)).set 20 (.int 3)).set 54 (.int 2)).set 20 (.int 4)).set 55 (.int 3)).set 83 (.int 0)).set 108 (.int 0)).set 78 (.int 0)).set 216 (.int 0)).set 217 (.int 0)).set 218 (.int 0)).set 215 (.int 1)).set 219 (.int 0)).set 220 (.int 0)).set 221 (.int 0)).set 222 (.int 0)).set 37 (.int 0)).set 42 (.int 0)).set 48 (.int 0)).set 108 (.int 0)).set 83 (.int 0)).set 84 (.int 0)).set 85 (.int 0)))), (x4, .inl (cA 1, 6, .inl (upd (upd (fun _ => 0) 0 1) 1 1))), (x5, .inl (cA 1, 4096, .inl (upd (upd (upd (upd g1 95 1) 3170 2) 1994 3) 4010 4))), (x6, .inl (cA 0, 17000, .inl ((upd (upd (upd (upd (upd (upd (upd (upd (upd (upd (upd (upd (upd (fun _ => 0) 0 95) 0 115) 1 101) 2 116) 0 105) 1 110) 2 112) 3 117) 4 116) 0 100) 1 97) 2 116) 3 97)))), (x8, .inl (cA 1, 13001, .inl (upd (upd (upd (upd (fun _ => 0) 1 1) 2 4) 3 9) 4 13))), (x7, .inl (cA 0, 40000, .inl (upd (upd (upd (upd (upd (upd (upd (upd (upd (upd (upd (upd (upd (fun _ => 0) 0 95) 1 115) 2 101) 3 116) 4 105) 5 110) 6 112) 7 117) 8 116) 9 100) 10 97) 11 116) 12 97))), (x9, .inl (cA 1, 13000, .inl (upd (upd (upd (upd (fun _ => 0) 0 0) 1 0) 2 0) 3 0))), (x10, .inl (cA 1, 6, .inl (fun _ => 0)))]) rfl ?_
  refine zz_iload_n X 1 dX16_rule_10 rfl rfl ?_
  refine zz_if_lt X 22 dX16_rule_11 (by decide) (fun c11_4 => ?_) (fun c11_4 => ?_)
  · skip
    refine zz_aload_n X 0 dX16_rule_22 rfl rfl ?_
    refine zz_iconst X 1 dX16_rule_23 rfl ?_
    refine zz_put X 0 227 rfl rfl (by decide) (fun w h => List.mem_cons_of_mem _ (zf_X16 w h)) rfl (List.mem_cons_of_mem _ zm_655) tyX16 tyX16_ok nmX16 rfl (ty := .int) rfl rfl rfl (zq_lt hf1_n (by decide) (by simp only [List.length_set])) dX16_rule_24 [(x1, .inr (16, (((((((((((((((((((((((((((((((((((f1.set 227 (.int 0)).set 37 (.int 0)).set 42 (.int 0)).set 48 (.int 0)).set 20 (.int 0)).set 56 (.int 0)).set 63 (.int 0)).set 72 (.int 0)).set 20 (.int 1)).set 52 (.int 0)).set 20 (.int 2)).set 53 (.int 1)).set 20 (.int 3)).set 54 (.int 2)).set 20 (.int 4)).set 55 (.int 3)).set 83 (.int 0)).set 108 (.int 0)).set 78 (.int 0)).set 216 (.int 0)).set 217 (.int 0)).set 218 (.int 0)).set 215 (.int 1)).set 219 (.int 0)).set 220 (.int 0)).set 221 (.int 0)).set 222 (.int 0)).set 37 (.int 0)).set 42 (.int 0)).set 48 (.int 0)).set 108 (.int 0)).set 83 (.int 0)).set 84 (.int 0)).set 85 (.int 0)).set 227 (.int 1)))), (x4, .inl (cA 1, 6, .inl (upd (upd (fun _ => 0) 0 1) 1 1))), (x5, .inl (cA 1, 4096, .inl (upd (upd (upd (upd g1 95 1) 3170 2) 1994 3) 4010 4))), (x6, .inl (cA 0, 17000, .inl ((upd (upd (upd (upd (upd (upd (upd (upd (upd (upd (upd (upd (upd (fun _ => 0) 0 95) 0 115) 1 101) 2 116) 0 105) 1 110) 2 112) 3 117) 4 116) 0 100) 1 97) 2 116) 3 97)))), (x8, .inl (cA 1, 13001, .inl (upd (upd (upd (upd (fun _ => 0) 1 1) 2 4) 3 9) 4 13))), (x7, .inl (cA 0, 40000, .inl (upd (upd (upd (upd (upd (upd (upd (upd (upd (upd (upd (upd (upd (fun _ => 0) 0 95) 1 115) 2 101) 3 116) 4 105) 5 110) 6 112) 7 117) 8 116) 9 100) 10 97) 11 116) 12 97))), (x9, .inl (cA 1, 13000, .inl (upd (upd (upd (upd (fun _ => 0) 0 0) 1 0) 2 0) 3 0))), (x10, .inl (cA 1, 6, .inl (fun _ => 0)))] rfl ?_
    refine zz_iconst X 0 dX16_rule_27 rfl ?_
    exact zz_iret X hr (g1) [0, 1, 2, 3, 4, 5, 6, 7] (by decide) rfl rfl (Nat.le_of_ble_eq_true rfl) (Nat.le_of_ble_eq_true rfl) (⟨rfl, hq3⟩) dX16_rule_28
  · skip
    refine zz_iload_n X 1 dX16_rule_14 rfl rfl ?_
    refine zz_aload_n X 0 dX16_rule_15 rfl rfl ?_
    refine zz_get X 0 78 rfl rfl (by decide) (fun w h => List.mem_cons_of_mem _ (zf_X16 w h)) rfl (List.mem_cons_of_mem _ zm_856) (zq_oth (by decide) (zq_oth (by decide) (zq_oth (by decide) (zq_oth (by decide) (zq_oth (by decide) (zq_oth (by decide) (zq_oth (by decide) (zq_oth (by decide) (zq_oth (by decide) (zq_oth (by decide) (zq_oth (by decide) (zq_oth (by decide) (zq_oth (by decide) (zq_oth (by decide) (zq_oth (by decide) ((zq_same (zq_lt hf1_n (by decide) (by simp only [List.length_set]))))))))))))))))))) dX16_rule_16 ?_
    refine zz_icmp_lt X 29 dX16_rule_19 (by decide) (fun h => absurd h c11_4) (fun _ => ?_)
    refine zz_aload_n X 0 dX16_rule_22 rfl rfl ?_
    refine zz_iconst X 1 dX16_rule_23 rfl ?_
    refine zz_put X 0 227 rfl rfl (by decide) (fun w h => List.mem_cons_of_mem _ (zf_X16 w h)) rfl (List.mem_cons_of_mem _ zm_655) tyX16 tyX16_ok nmX16 rfl (ty := .int) rfl rfl rfl (zq_lt hf1_n (by decide) (by simp only [List.length_set])) dX16_rule_24 [(x1, .inr (16, (((((((((((((((((((((((((((((((((((f1.set 227 (.int 0)).set 37 (.int 0)).set 42 (.int 0)).set 48 (.int 0)).set 20 (.int 0)).set 56 (.int 0)).set 63 (.int 0)).set 72 (.int 0)).set 20 (.int 1)).set 52 (.int 0)).set 20 (.int 2)).set 53 (.int 1)).set 20 (.int 3)).set 54 (.int 2)).set 20 (.int 4)).set 55 (.int 3)).set 83 (.int 0)).set 108 (.int 0)).set 78 (.int 0)).set 216 (.int 0)).set 217 (.int 0)).set 218 (.int 0)).set 215 (.int 1)).set 219 (.int 0)).set 220 (.int 0)).set 221 (.int 0)).set 222 (.int 0)).set 37 (.int 0)).set 42 (.int 0)).set 48 (.int 0)).set 108 (.int 0)).set 83 (.int 0)).set 84 (.int 0)).set 85 (.int 0)).set 227 (.int 1)))), (x4, .inl (cA 1, 6, .inl (upd (upd (fun _ => 0) 0 1) 1 1))), (x5, .inl (cA 1, 4096, .inl (upd (upd (upd (upd g1 95 1) 3170 2) 1994 3) 4010 4))), (x6, .inl (cA 0, 17000, .inl ((upd (upd (upd (upd (upd (upd (upd (upd (upd (upd (upd (upd (upd (fun _ => 0) 0 95) 0 115) 1 101) 2 116) 0 105) 1 110) 2 112) 3 117) 4 116) 0 100) 1 97) 2 116) 3 97)))), (x8, .inl (cA 1, 13001, .inl (upd (upd (upd (upd (fun _ => 0) 1 1) 2 4) 3 9) 4 13))), (x7, .inl (cA 0, 40000, .inl (upd (upd (upd (upd (upd (upd (upd (upd (upd (upd (upd (upd (upd (fun _ => 0) 0 95) 1 115) 2 101) 3 116) 4 105) 5 110) 6 112) 7 117) 8 116) 9 100) 10 97) 11 116) 12 97))), (x9, .inl (cA 1, 13000, .inl (upd (upd (upd (upd (fun _ => 0) 0 0) 1 0) 2 0) 3 0))), (x10, .inl (cA 1, 6, .inl (fun _ => 0)))] rfl ?_
    refine zz_iconst X 0 dX16_rule_27 rfl ?_
    exact zz_iret X hr (g1) [0, 1, 2, 3, 4, 5, 6, 7] (by decide) rfl rfl (Nat.le_of_ble_eq_true rfl) (Nat.le_of_ble_eq_true rfl) (⟨rfl, hq3⟩) dX16_rule_28

set_option maxHeartbeats 4000000 in
set_option maxRecDepth 100000 in
/-- thrown -/
theorem kX16_thrown_1 {E : zEn} (hE : zOk E) (l : Launch) (D : va_G) (cA : Nat → ClassId) (K : Nat → Nat) (V : Nat → Nat) (x1 : Nat) (f1 : List Value) (hss : zSS E K V) (hf1_n : f1.length = 243) (hf1_227 : f1[227]? = some (.int 1)) : zMi E l yX16_thrown zwX16_thrown ({ frames := 0, cells := 0, slots := 0, locals := 0 }) D vwCl (zT cA) [.ref x1] [(x1, .inr (16, f1))] (S := Unit) (fun (r : Int32) (u : Unit) => (r = 1)) (fun (u : Unit) => [(x1, .inr (16, f1))]) := by
  refine zz_enteri (cc := cX16_thrown) (lv := [(0, .ref x1)]) hE 1 (by decide) rfl (Nat.le_of_ble_eq_true rfl) rfl ?_
  intro p e s m args below meth c X hr hin
  refine zz_aload_n X 0 dX16_thrown_0 rfl rfl ?_
  refine zz_get X 0 227 rfl rfl (by decide) (fun w h => List.mem_cons_of_mem _ (zf_X16 w h)) rfl (List.mem_cons_of_mem _ zm_655) hf1_227 dX16_thrown_1 ?_
  exact zz_iret X hr (()) [0] (by decide) rfl rfl (Nat.le_of_ble_eq_true rfl) (Nat.le_of_ble_eq_true rfl) (rfl) dX16_thrown_4

set_option maxHeartbeats 4000000 in
set_option maxRecDepth 100000 in
/-- order -/
theorem kX16_order_1 {E : zEn} (hE : zOk E) (l : Launch) (D : va_G) (cA : Nat → ClassId) (K : Nat → Nat) (V : Nat → Nat) (x1 : Nat) (x2 : Int32) (x3 : Int32) (f1 : List Value) (x4 : Nat) (hss : zSS E K V) (hf1_n : f1.length = 243) (hf1_213 : f1[213]? = some (.ref x4)) : zMi E l yX16_order zwX16_order ({ frames := 1, cells := 0, slots := 0, locals := 21 }) D vwCl (zT cA) [.ref x1, .int x2, .int x3] [(x1, .inr (16, f1)), (x4, .inl (cA 3, 4, .inl (fun _ => 0)))] (S := Unit) (fun (r : Int32) (u : Unit) => (r = (-1))) (fun (u : Unit) => []) := by
  refine zz_enteri (cc := cX16_order) (lv := [(0, .ref x1), (1, .int x2), (2, .int x3)]) hE 5 (by decide) rfl (Nat.le_of_ble_eq_true rfl) rfl ?_
  intro p e s m args below meth c X hr hin
  refine zz_aload_n X 0 dX16_order_0 rfl rfl ?_
  refine zz_iconst X 0 dX16_order_1 rfl ?_
  refine zz_put X 0 227 rfl rfl (by decide) (fun w h => List.mem_cons_of_mem _ (zf_X16 w h)) rfl (List.mem_cons_of_mem _ zm_655) tyX16 tyX16_ok nmX16 rfl (ty := .int) rfl rfl rfl (zq_lt hf1_n (by decide) (by simp only [List.length_set])) dX16_order_2 [(x1, .inr (16, (f1.set 227 (.int 0)))), (x4, .inl (cA 3, 4, .inl (fun _ => 0)))] rfl ?_
  refine zz_aload_n X 0 dX16_order_5 rfl rfl ?_
  refine zz_iload_n X 1 dX16_order_6 rfl rfl ?_
  refine zz_callVi X (rest := []) (As := [.int x2]) (kX16_isQuery_1 hE l D cA K V x1 x2 (f1.set 227 (.int 0)) x4 hss (zq_len hf1_n (by simp only [List.length_set])) (zq_oth (by decide) (hf1_213))) 1 (zgV zm_1108 zm_1109 zm_1110 zm_451 zm_1107) rfl (by decide +kernel) [0, 1] [] [] rfl rfl (by decide) rfl (by decide) (by decide) ⟨Nat.le_of_ble_eq_true rfl, Nat.le_of_ble_eq_true rfl⟩ 0 rfl rfl rfl rfl rfl (Nat.le_of_ble_eq_true rfl) dX16_order_7 (Nat.le_of_ble_eq_true rfl) (Nat.le_of_ble_eq_true rfl) (fun r1 _ hw2 => ?_)
  obtain rfl := hw2
  refine zz_show (ws' := [(x1, .inr (16, (f1.set 227 (.int 0)))), (x4, .inl (cA 3, 4, .inl (fun _ => 0)))]) rfl ?_
  refine zz_if_ne X 15 dX16_order_10 (by decide) (fun h => absurd (by decide) h) (fun _ => ?_)
  refine zz_iconst X (-1) dX16_order_13 rfl ?_
  exact zz_iret X hr (()) [] (by decide) rfl rfl (Nat.le_of_ble_eq_true rfl) (Nat.le_of_ble_eq_true rfl) (rfl) dX16_order_14

set_option maxHeartbeats 4000000 in
set_option maxRecDepth 100000 in
/-- kind -/
theorem kX15_kind_1 {E : zEn} (hE : zOk E) (l : Launch) (D : va_G) (cA : Nat → ClassId) (K : Nat → Nat) (V : Nat → Nat) (x1 : Nat) (f1 : List Value) (x2 : Nat) (f2 : Nat → Int64) (hss : zSS E K V) (hf1_n : f1.length = 8) (hf1_0 : f1[0]? = some (.ref x2)) (hf2_3 : f2 3 = 576461302059237382) : zMi E l yX15_kind zwX15_kind ({ frames := 0, cells := 0, slots := 0, locals := 0 }) D vwCl (zT cA) [.ref x1, .int 3] [(x1, .inr (15, f1)), (x2, .inl (cA 2, 4100, .inr (.inl f2)))] (S := Unit) (fun (r : Int32) (u : Unit) => (r = 6)) (fun (u : Unit) => [(x1, .inr (15, f1)), (x2, .inl (cA 2, 4100, .inr (.inl f2)))]) := by
  refine zz_enteri (cc := cX15_kind) (lv := [(0, .ref x1), (1, .int 3)]) hE 2 (by decide) rfl (Nat.le_of_ble_eq_true rfl) rfl ?_
  intro p e s m args below meth c X hr hin
  refine zz_aload_n X 0 dX15_kind_0 rfl rfl ?_
  refine zz_get X 0 0 rfl rfl (by decide) (fun w h => List.mem_cons_of_mem _ (zf_X15 w h)) rfl (List.mem_cons_of_mem _ zm_533) hf1_0 dX15_kind_1 ?_
  refine zz_iload_n X 1 dX15_kind_4 rfl rfl ?_
  refine zz_lald X 1 2 rfl rfl (vp_in_nI (n := 3) (by decide) (by decide)) (576461302059237382) hf2_3 dX15_kind_5 ?_
  refine zz_ldc2 X (List.mem_cons_of_mem _ zm_1217) dX15_kind_6 ?_
  refine zz_land X (6) dX15_kind_9 (by decide) ?_
  refine zz_l2i X (6) dX15_kind_10 (by decide) ?_
  exact zz_iret X hr (()) [0, 1] (by decide) rfl rfl (Nat.le_of_ble_eq_true rfl) (Nat.le_of_ble_eq_true rfl) (rfl) dX15_kind_11

set_option maxHeartbeats 4000000 in
set_option maxRecDepth 100000 in
/-- weight -/
theorem kX15_weight_1 {E : zEn} (hE : zOk E) (l : Launch) (D : va_G) (cA : Nat → ClassId) (K : Nat → Nat) (V : Nat → Nat) (x1 : Nat) (f1 : List Value) (x2 : Nat) (f2 : Nat → Int64) (hss : zSS E K V) (hf1_n : f1.length = 8) (hf1_0 : f1[0]? = some (.ref x2)) (hf2_3 : f2 3 = 576461302059237382) : zMi E l yX15_weight zwX15_weight ({ frames := 1, cells := 0, slots := 0, locals := 21 }) D vwCl (zT cA) [.ref x1, .int 3] [(x1, .inr (15, f1)), (x2, .inl (cA 2, 4100, .inr (.inl f2)))] (S := Unit) (fun (r : Int32) (u : Unit) => (r = 1)) (fun (u : Unit) => [(x1, .inr (15, f1)), (x2, .inl (cA 2, 4100, .inr (.inl f2)))]) := by
  refine zz_enteri (cc := cX15_weight) (lv := [(0, .ref x1), (1, .int 3)]) hE 2 (by decide) rfl (Nat.le_of_ble_eq_true rfl) rfl ?_
  intro p e s m args below meth c X hr hin
  refine zz_aload_n X 0 dX15_weight_0 rfl rfl ?_
  refine zz_iload_n X 1 dX15_weight_1 rfl rfl ?_
  refine zz_callVi X (rest := []) (As := [.int 3]) (kX15_kind_1 hE l D cA K V x1 f1 x2 f2 hss (zq_len hf1_n (by simp only [List.length_set])) hf1_0 hf2_3) 1 (zgV zm_1219 zm_1220 zm_1221 zm_527 zm_1218) rfl (by decide +kernel) [0, 1] [] [] rfl rfl (by decide) rfl (by decide) (by decide) ⟨Nat.le_of_ble_eq_true rfl, Nat.le_of_ble_eq_true rfl⟩ 0 rfl rfl rfl rfl rfl (Nat.le_of_ble_eq_true rfl) dX15_weight_2 (Nat.le_of_ble_eq_true rfl) (Nat.le_of_ble_eq_true rfl) (fun r1 _ hw2 => ?_)
  obtain rfl := hw2
  refine zz_show (ws' := [(x1, .inr (15, f1)), (x2, .inl (cA 2, 4100, .inr (.inl f2)))]) rfl ?_
  refine zz_iconst X 3 dX15_weight_5 rfl ?_
  refine zz_icmp_ne X 13 dX15_weight_6 (by decide) (fun _ => ?_) (fun h => absurd h (by decide))
  refine zz_aload_n X 0 dX15_weight_13 rfl rfl ?_
  refine zz_get X 0 0 rfl rfl (by decide) (fun w h => List.mem_cons_of_mem _ (zf_X15 w h)) rfl (List.mem_cons_of_mem _ zm_533) hf1_0 dX15_weight_14 ?_
  refine zz_iload_n X 1 dX15_weight_17 rfl rfl ?_
  refine zz_lald X 1 2 rfl rfl (vp_in_nI (n := 3) (by decide) (by decide)) (576461302059237382) hf2_3 dX15_weight_18 ?_
  refine zz_bipush X 39 dX15_weight_19 rfl ?_
  refine zz_lshr X (1048577) dX15_weight_21 (by decide) ?_
  refine zz_ldc2 X (List.mem_cons_of_mem _ zm_1222) dX15_weight_22 ?_
  refine zz_land X (1) dX15_weight_25 (by decide) ?_
  refine zz_l2i X (1) dX15_weight_26 (by decide) ?_
  exact zz_iret X hr (()) [0, 1] (by decide) rfl rfl (Nat.le_of_ble_eq_true rfl) (Nat.le_of_ble_eq_true rfl) (rfl) dX15_weight_27

set_option maxHeartbeats 4000000 in
set_option maxRecDepth 100000 in
/-- count -/
theorem kX16_count_1 {E : zEn} (hE : zOk E) (l : Launch) (D : va_G) (cA : Nat → ClassId) (K : Nat → Nat) (V : Nat → Nat) (x1 : Nat) (x2 : Int32) (f1 : List Value) (x3 : Nat) (x4 : Nat) (x5 : Nat) (x6 : Nat) (x7 : Nat) (x8 : Nat) (x9 : Nat) (x10 : Nat) (x11 : Nat) (f2 : List Value) (x12 : Nat) (f3 : Nat → Int64) (hss : zSS E K V) (hf1_n : f1.length = 243) (hf1_210 : f1[210]? = some (.ref x3)) (hf1_215 : f1[215]? = some (.int (-1))) (hf1_211 : f1[211]? = some (.ref x4)) (hf1_19 : f1[19]? = some (.ref x5)) (hf1_0 : f1[0]? = some (.ref x6)) (hf1_16 : f1[16]? = some (.ref x7)) (hf1_17 : f1[17]? = some (.ref x8)) (hf1_18 : f1[18]? = some (.ref x9)) (hf1_84 : f1[84]? = some (.int 0)) (hf1_85 : f1[85]? = some (.int 0)) (hf1_213 : f1[213]? = some (.ref x10)) (hf1_230 : f1[230]? = some (.ref x11)) (hf1_235 : f1[235]? = some (.int 3)) (hf1_236 : f1[236]? = some (.int (-1))) (hf1_229 : f1[229]? = some (.int 0)) (hf1_15 : f1[15]? = some (.int 0)) (hf2_n : f2.length = 8) (hf2_0 : f2[0]? = some (.ref x12)) (hf3_3 : f3 3 = 576461302059237382) : zMi E l yX16_count zwX16_count ({ frames := 7, cells := 0, slots := 0, locals := 152 }) D vwCl (zT cA) [.ref x1, .int x2] [(x1, .inr (16, f1)), (x3, .inl (cA 1, 6, .inl (fun _ => 0))), (x4, .inl (cA 1, 6, .inl (upd (upd (fun _ => 0) 0 1) 1 1))), (x5, .inl (cA 1, 4096, .inl (fun _ => 0))), (x6, .inl (cA 0, 17000, .inl (fun _ => 0))), (x8, .inl (cA 1, 13001, .inl (fun _ => 0))), (x7, .inl (cA 0, 40000, .inl (fun _ => 0))), (x9, .inl (cA 1, 13000, .inl (fun _ => 0))), (x10, .inl (cA 3, 4, .inl (fun _ => 0))), (x11, .inr (15, f2)), (x12, .inl (cA 2, 4100, .inr (.inl f3)))] (S := Unit) (fun (r : Int32) (u : Unit) => (r = (zCount x2))) (fun (u : Unit) => []) := by
  refine zz_enteri (cc := cX16_count) (lv := [(0, .ref x1), (1, .int x2)]) hE 4 (by decide) rfl (Nat.le_of_ble_eq_true rfl) rfl ?_
  intro p e s m args below meth c X hr hin
  refine zz_aload_n X 0 dX16_count_0 rfl rfl ?_
  refine zz_iconst X 0 dX16_count_1 rfl ?_
  refine zz_put X 0 227 rfl rfl (by decide) (fun w h => List.mem_cons_of_mem _ (zf_X16 w h)) rfl (List.mem_cons_of_mem _ zm_655) tyX16 tyX16_ok nmX16 rfl (ty := .int) rfl rfl rfl (zq_lt hf1_n (by decide) (by simp only [List.length_set])) dX16_count_2 [(x1, .inr (16, (f1.set 227 (.int 0)))), (x3, .inl (cA 1, 6, .inl (fun _ => 0))), (x4, .inl (cA 1, 6, .inl (upd (upd (fun _ => 0) 0 1) 1 1))), (x5, .inl (cA 1, 4096, .inl (fun _ => 0))), (x6, .inl (cA 0, 17000, .inl (fun _ => 0))), (x8, .inl (cA 1, 13001, .inl (fun _ => 0))), (x7, .inl (cA 0, 40000, .inl (fun _ => 0))), (x9, .inl (cA 1, 13000, .inl (fun _ => 0))), (x10, .inl (cA 3, 4, .inl (fun _ => 0))), (x11, .inr (15, f2)), (x12, .inl (cA 2, 4100, .inr (.inl f3)))] rfl ?_
  refine zz_iload_n X 1 dX16_count_5 rfl rfl ?_
  by_cases e6_0 : x2 = 0
  · skip
    subst e6_0
    refine zz_tabIn X (off := 42) 48 dX16_count_6 (by decide) (by decide) (by decide) (by decide) ?_
    refine zz_aload_n X 0 dX16_count_48 rfl rfl ?_
    refine zz_get X 0 210 rfl rfl (by decide) (fun w h => List.mem_cons_of_mem _ (zf_X16 w h)) rfl (List.mem_cons_of_mem _ zm_615) (zq_oth (by decide) (hf1_210)) dX16_count_49 ?_
    refine zz_iconst X 0 dX16_count_52 rfl ?_
    refine zz_iald X 1 1 rfl rfl (vp_in_nI (n := 0) (by decide) (by decide)) (0) rfl dX16_count_53 ?_
    exact zz_iret X hr (()) [] (by decide) rfl rfl (Nat.le_of_ble_eq_true rfl) (Nat.le_of_ble_eq_true rfl) ((by decide)) dX16_count_54
  by_cases e6_1 : x2 = 1
  · skip
    subst e6_1
    refine zz_tabIn X (off := 49) 55 dX16_count_6 (by decide) (by decide) (by decide) (by decide) ?_
    refine zz_aload_n X 0 dX16_count_55 rfl rfl ?_
    refine zz_iconst X 1 dX16_count_56 rfl ?_
    refine zz_callVv X (rest := []) (As := [.int 1]) (kX16_loadBundle_2 hE l D cA K V x1 (f1.set 227 (.int 0)) x4 x5 x6 x7 x8 x9 x3 hss (zq_len hf1_n (by simp only [List.length_set])) (zq_oth (by decide) (hf1_215)) (zq_oth (by decide) (hf1_211)) (zq_oth (by decide) (hf1_19)) (zq_oth (by decide) (hf1_0)) (zq_oth (by decide) (hf1_16)) (zq_oth (by decide) (hf1_17)) (zq_oth (by decide) (hf1_18)) (zq_oth (by decide) (hf1_210)) (zq_oth (by decide) (hf1_84)) (zq_oth (by decide) (hf1_85))) 1 (zgV zm_895 zm_896 zm_897 zm_451 zm_894) rfl (by decide +kernel) [0, 2, 3, 4, 5, 6, 7, 1] [8, 9, 10] [(x10, .inl (cA 3, 4, .inl (fun _ => 0))), (x11, .inr (15, f2)), (x12, .inl (cA 2, 4100, .inr (.inl f3)))] rfl rfl (by decide) rfl (by decide) (by decide) ⟨Nat.le_of_ble_eq_true rfl, Nat.le_of_ble_eq_true rfl⟩ 0 rfl rfl rfl rfl rfl (Nat.le_of_ble_eq_true rfl) dX16_count_57 (Nat.le_of_ble_eq_true rfl) (Nat.le_of_ble_eq_true rfl) (fun uhw2 hw2 => ?_)
    obtain ⟨g1, rfl⟩ : ∃ z, z = uhw2 := ⟨_, rfl⟩
    have hq3 := hw2
    refine zz_show (ws' := [(x10, .inl (cA 3, 4, .inl (fun _ => 0))), (x11, .inr (15, f2)), (x12, .inl (cA 2, 4100, .inr (.inl f3))), (x1, .inr (16, ((((((((((((((((((((((((((((((((((f1.set 227 (.int 0)).set 37 (.int 0)).set 42 (.int 0)).set 48 (.int 0)).set 20 (.int 0)).set 56 (.int 0)).set 63 (.int 0)).set 72 (.int 0)).set 20 (.int 1)).set 52 (.int 0)).set 20 (.int 2)).set 53 (.int 1)).set 20 (.int 3)).set 54 (.int 2)).set 20 (.int 4)).set 55 (.int 3)).set 83 (.int 0)).set 108 (.int 0)).set 78 (.int 0)).set 216 (.int 0)).set 217 (.int 0)).set 218 (.int 0)).set 215 (.int 1)).set 219 (.int 0)).set 220 (.int 0)).set 221 (.int 0)).set 222 (.int 0)).set 37 (.int 0)).set 42 (.int 0)).set 48 (.int 0)).set 108 (.int 0)).set 83 (.int 0)).set 84 (.int 0)).set 85 (.int 0)))), (x4, .inl (cA 1, 6, .inl (upd (upd (fun _ => 0) 0 1) 1 1))), (x5, .inl (cA 1, 4096, .inl (upd (upd (upd (upd g1 95 1) 3170 2) 1994 3) 4010 4))), (x6, .inl (cA 0, 17000, .inl ((upd (upd (upd (upd (upd (upd (upd (upd (upd (upd (upd (upd (upd (fun _ => 0) 0 95) 0 115) 1 101) 2 116) 0 105) 1 110) 2 112) 3 117) 4 116) 0 100) 1 97) 2 116) 3 97)))), (x8, .inl (cA 1, 13001, .inl (upd (upd (upd (upd (fun _ => 0) 1 1) 2 4) 3 9) 4 13))), (x7, .inl (cA 0, 40000, .inl (upd (upd (upd (upd (upd (upd (upd (upd (upd (upd (upd (upd (upd (fun _ => 0) 0 95) 1 115) 2 101) 3 116) 4 105) 5 110) 6 112) 7 117) 8 116) 9 100) 10 97) 11 116) 12 97))), (x9, .inl (cA 1, 13000, .inl (upd (upd (upd (upd (fun _ => 0) 0 0) 1 0) 2 0) 3 0))), (x3, .inl (cA 1, 6, .inl (fun _ => 0)))]) rfl ?_
    refine zz_aload_n X 0 dX16_count_60 rfl rfl ?_
    refine zz_get X 3 78 rfl rfl (by decide) (fun w h => List.mem_cons_of_mem _ (zf_X16 w h)) rfl (List.mem_cons_of_mem _ zm_856) (zq_oth (by decide) (zq_oth (by decide) (zq_oth (by decide) (zq_oth (by decide) (zq_oth (by decide) (zq_oth (by decide) (zq_oth (by decide) (zq_oth (by decide) (zq_oth (by decide) (zq_oth (by decide) (zq_oth (by decide) (zq_oth (by decide) (zq_oth (by decide) (zq_oth (by decide) (zq_oth (by decide) ((zq_same (zq_lt hf1_n (by decide) (by simp only [List.length_set]))))))))))))))))))) dX16_count_61 ?_
    exact zz_iret X hr (()) [] (by decide) rfl rfl (Nat.le_of_ble_eq_true rfl) (Nat.le_of_ble_eq_true rfl) ((by decide)) dX16_count_64
  by_cases e6_2 : x2 = 2
  · skip
    subst e6_2
    refine zz_tabIn X (off := 59) 65 dX16_count_6 (by decide) (by decide) (by decide) (by decide) ?_
    refine zz_iconst X 0 dX16_count_65 rfl ?_
    refine zz_istore_n X [(2, .int 0), (0, .ref x1), (1, .int 2)] dX16_count_66 rfl (by decide) rfl ?_
    refine zz_iconst X 0 dX16_count_67 rfl ?_
    refine zz_istore_n X [(3, .int 0), (2, .int 0), (0, .ref x1), (1, .int 2)] dX16_count_68 rfl (by decide) rfl ?_
    refine zz_iload_n X 0 dX16_count_69 rfl rfl ?_
    refine zz_iconst X 4 dX16_count_70 rfl ?_
    refine zz_icmp_ge X 97 dX16_count_71 (by decide) (fun h => absurd h (by decide)) (fun _ => ?_)
    refine zz_iload_n X 1 dX16_count_74 rfl rfl ?_
    refine zz_aload_n X 2 dX16_count_75 rfl rfl ?_
    refine zz_get X 0 213 rfl rfl (by decide) (fun w h => List.mem_cons_of_mem _ (zf_X16 w h)) rfl (List.mem_cons_of_mem _ zm_618) (zq_oth (by decide) (hf1_213)) dX16_count_76 ?_
    refine zz_iload_n X 0 dX16_count_79 rfl rfl ?_
    refine zz_zald X 8 3 rfl rfl (vp_in_nI (n := 0) (by decide) (by decide)) (0) rfl dX16_count_80 ?_
    refine zz_if_eq X 88 dX16_count_81 (by decide) (fun _ => ?_) (fun h => absurd (by decide) h)
    refine zz_iconst X 0 dX16_count_88 rfl ?_
    refine zz_iadd X (0) dX16_count_89 (by decide) ?_
    refine zz_istore_n X [(2, .int 0), (3, .int 0), (0, .ref x1), (1, .int 2)] dX16_count_90 rfl (by decide) rfl ?_
    refine zz_iinc X 1 (1) [(3, .int 1), (2, .int 0), (0, .ref x1), (1, .int 2)] dX16_count_91 rfl (by decide) (by decide) rfl ?_
    refine zz_goto X 69 dX16_count_94 (by decide) ?_
    refine zz_iload_n X 0 dX16_count_69 rfl rfl ?_
    refine zz_iconst X 4 dX16_count_70 rfl ?_
    refine zz_icmp_ge X 97 dX16_count_71 (by decide) (fun h => absurd h (by decide)) (fun _ => ?_)
    refine zz_iload_n X 1 dX16_count_74 rfl rfl ?_
    refine zz_aload_n X 2 dX16_count_75 rfl rfl ?_
    refine zz_get X 0 213 rfl rfl (by decide) (fun w h => List.mem_cons_of_mem _ (zf_X16 w h)) rfl (List.mem_cons_of_mem _ zm_618) (zq_oth (by decide) (hf1_213)) dX16_count_76 ?_
    refine zz_iload_n X 0 dX16_count_79 rfl rfl ?_
    refine zz_zald X 8 3 rfl rfl (vp_in_nI (n := 1) (by decide) (by decide)) (0) rfl dX16_count_80 ?_
    refine zz_if_eq X 88 dX16_count_81 (by decide) (fun _ => ?_) (fun h => absurd (by decide) h)
    refine zz_iconst X 0 dX16_count_88 rfl ?_
    refine zz_iadd X (0) dX16_count_89 (by decide) ?_
    refine zz_istore_n X [(2, .int 0), (3, .int 1), (0, .ref x1), (1, .int 2)] dX16_count_90 rfl (by decide) rfl ?_
    refine zz_iinc X 1 (2) [(3, .int 2), (2, .int 0), (0, .ref x1), (1, .int 2)] dX16_count_91 rfl (by decide) (by decide) rfl ?_
    refine zz_goto X 69 dX16_count_94 (by decide) ?_
    refine zz_iload_n X 0 dX16_count_69 rfl rfl ?_
    refine zz_iconst X 4 dX16_count_70 rfl ?_
    refine zz_icmp_ge X 97 dX16_count_71 (by decide) (fun h => absurd h (by decide)) (fun _ => ?_)
    refine zz_iload_n X 1 dX16_count_74 rfl rfl ?_
    refine zz_aload_n X 2 dX16_count_75 rfl rfl ?_
    refine zz_get X 0 213 rfl rfl (by decide) (fun w h => List.mem_cons_of_mem _ (zf_X16 w h)) rfl (List.mem_cons_of_mem _ zm_618) (zq_oth (by decide) (hf1_213)) dX16_count_76 ?_
    refine zz_iload_n X 0 dX16_count_79 rfl rfl ?_
    refine zz_zald X 8 3 rfl rfl (vp_in_nI (n := 2) (by decide) (by decide)) (0) rfl dX16_count_80 ?_
    refine zz_if_eq X 88 dX16_count_81 (by decide) (fun _ => ?_) (fun h => absurd (by decide) h)
    refine zz_iconst X 0 dX16_count_88 rfl ?_
    refine zz_iadd X (0) dX16_count_89 (by decide) ?_
    refine zz_istore_n X [(2, .int 0), (3, .int 2), (0, .ref x1), (1, .int 2)] dX16_count_90 rfl (by decide) rfl ?_
    refine zz_iinc X 1 (3) [(3, .int 3), (2, .int 0), (0, .ref x1), (1, .int 2)] dX16_count_91 rfl (by decide) (by decide) rfl ?_
    refine zz_goto X 69 dX16_count_94 (by decide) ?_
    refine zz_iload_n X 0 dX16_count_69 rfl rfl ?_
    refine zz_iconst X 4 dX16_count_70 rfl ?_
    refine zz_icmp_ge X 97 dX16_count_71 (by decide) (fun h => absurd h (by decide)) (fun _ => ?_)
    refine zz_iload_n X 1 dX16_count_74 rfl rfl ?_
    refine zz_aload_n X 2 dX16_count_75 rfl rfl ?_
    refine zz_get X 0 213 rfl rfl (by decide) (fun w h => List.mem_cons_of_mem _ (zf_X16 w h)) rfl (List.mem_cons_of_mem _ zm_618) (zq_oth (by decide) (hf1_213)) dX16_count_76 ?_
    refine zz_iload_n X 0 dX16_count_79 rfl rfl ?_
    refine zz_zald X 8 3 rfl rfl (vp_in_nI (n := 3) (by decide) (by decide)) (0) rfl dX16_count_80 ?_
    refine zz_if_eq X 88 dX16_count_81 (by decide) (fun _ => ?_) (fun h => absurd (by decide) h)
    refine zz_iconst X 0 dX16_count_88 rfl ?_
    refine zz_iadd X (0) dX16_count_89 (by decide) ?_
    refine zz_istore_n X [(2, .int 0), (3, .int 3), (0, .ref x1), (1, .int 2)] dX16_count_90 rfl (by decide) rfl ?_
    refine zz_iinc X 1 (4) [(3, .int 4), (2, .int 0), (0, .ref x1), (1, .int 2)] dX16_count_91 rfl (by decide) (by decide) rfl ?_
    refine zz_goto X 69 dX16_count_94 (by decide) ?_
    refine zz_iload_n X 0 dX16_count_69 rfl rfl ?_
    refine zz_iconst X 4 dX16_count_70 rfl ?_
    refine zz_icmp_ge X 97 dX16_count_71 (by decide) (fun _ => ?_) (fun h => absurd (by decide) h)
    refine zz_iload_n X 1 dX16_count_97 rfl rfl ?_
    exact zz_iret X hr (()) [] (by decide) rfl rfl (Nat.le_of_ble_eq_true rfl) (Nat.le_of_ble_eq_true rfl) ((by decide)) dX16_count_98
  by_cases e6_3 : x2 = 3
  · skip
    subst e6_3
    refine zz_tabIn X (off := 93) 99 dX16_count_6 (by decide) (by decide) (by decide) (by decide) ?_
    refine zz_aload_n X 0 dX16_count_99 rfl rfl ?_
    refine zz_get X 0 230 rfl rfl (by decide) (fun w h => List.mem_cons_of_mem _ (zf_X16 w h)) rfl (List.mem_cons_of_mem _ zm_624) (zq_oth (by decide) (hf1_230)) dX16_count_100 ?_
    refine zz_aload_n X 0 dX16_count_103 rfl rfl ?_
    refine zz_get X 0 235 rfl rfl (by decide) (fun w h => List.mem_cons_of_mem _ (zf_X16 w h)) rfl (List.mem_cons_of_mem _ zm_643) (zq_oth (by decide) (hf1_235)) dX16_count_104 ?_
    refine zz_callVi X (rest := []) (As := [.int 3]) (kX15_weight_1 hE l D cA K V x11 f2 x12 f3 hss (zq_len hf2_n (by simp only [List.length_set])) hf2_0 hf3_3) 1 (zgV zm_1224 zm_1225 zm_1226 zm_527 zm_1223) rfl (by decide +kernel) [9, 10] [0, 1, 2, 3, 4, 5, 6, 7, 8] [(x1, .inr (16, (f1.set 227 (.int 0)))), (x3, .inl (cA 1, 6, .inl (fun _ => 0))), (x4, .inl (cA 1, 6, .inl (upd (upd (fun _ => 0) 0 1) 1 1))), (x5, .inl (cA 1, 4096, .inl (fun _ => 0))), (x6, .inl (cA 0, 17000, .inl (fun _ => 0))), (x8, .inl (cA 1, 13001, .inl (fun _ => 0))), (x7, .inl (cA 0, 40000, .inl (fun _ => 0))), (x9, .inl (cA 1, 13000, .inl (fun _ => 0))), (x10, .inl (cA 3, 4, .inl (fun _ => 0)))] rfl rfl (by decide) rfl (by decide) (by decide) ⟨Nat.le_of_ble_eq_true rfl, Nat.le_of_ble_eq_true rfl⟩ 0 rfl rfl rfl rfl rfl (Nat.le_of_ble_eq_true rfl) dX16_count_107 (Nat.le_of_ble_eq_true rfl) (Nat.le_of_ble_eq_true rfl) (fun r4 _ hw5 => ?_)
    obtain rfl := hw5
    refine zz_show (ws' := [(x1, .inr (16, (f1.set 227 (.int 0)))), (x3, .inl (cA 1, 6, .inl (fun _ => 0))), (x4, .inl (cA 1, 6, .inl (upd (upd (fun _ => 0) 0 1) 1 1))), (x5, .inl (cA 1, 4096, .inl (fun _ => 0))), (x6, .inl (cA 0, 17000, .inl (fun _ => 0))), (x8, .inl (cA 1, 13001, .inl (fun _ => 0))), (x7, .inl (cA 0, 40000, .inl (fun _ => 0))), (x9, .inl (cA 1, 13000, .inl (fun _ => 0))), (x10, .inl (cA 3, 4, .inl (fun _ => 0))), (x11, .inr (15, f2)), (x12, .inl (cA 2, 4100, .inr (.inl f3)))]) rfl ?_
    exact zz_iret X hr (()) [] (by decide) rfl rfl (Nat.le_of_ble_eq_true rfl) (Nat.le_of_ble_eq_true rfl) ((by decide)) dX16_count_110
  by_cases e6_4 : x2 = 4
  · skip
    subst e6_4
    refine zz_tabIn X (off := 105) 111 dX16_count_6 (by decide) (by decide) (by decide) (by decide) ?_
    refine zz_aload_n X 0 dX16_count_111 rfl rfl ?_
    refine zz_get X 0 236 rfl rfl (by decide) (fun w h => List.mem_cons_of_mem _ (zf_X16 w h)) rfl (List.mem_cons_of_mem _ zm_630) (zq_oth (by decide) (hf1_236)) dX16_count_112 ?_
    refine zz_iconst X (-1) dX16_count_115 rfl ?_
    refine zz_icmp_ne X 123 dX16_count_116 (by decide) (fun h => absurd (by decide) h) (fun _ => ?_)
    refine zz_iconst X 0 dX16_count_119 rfl ?_
    refine zz_goto X 134 dX16_count_120 (by decide) ?_
    exact zz_iret X hr (()) [] (by decide) rfl rfl (Nat.le_of_ble_eq_true rfl) (Nat.le_of_ble_eq_true rfl) ((by decide)) dX16_count_134
  by_cases e6_5 : x2 = 5
  · skip
    subst e6_5
    refine zz_tabIn X (off := 129) 135 dX16_count_6 (by decide) (by decide) (by decide) (by decide) ?_
    refine zz_aload_n X 0 dX16_count_135 rfl rfl ?_
    refine zz_get X 0 229 rfl rfl (by decide) (fun w h => List.mem_cons_of_mem _ (zf_X16 w h)) rfl (List.mem_cons_of_mem _ zm_656) (zq_oth (by decide) (hf1_229)) dX16_count_136 ?_
    exact zz_iret X hr (()) [] (by decide) rfl rfl (Nat.le_of_ble_eq_true rfl) (Nat.le_of_ble_eq_true rfl) ((by decide)) dX16_count_139
  by_cases e6_6 : x2 = 6
  · skip
    subst e6_6
    refine zz_tabIn X (off := 134) 140 dX16_count_6 (by decide) (by decide) (by decide) (by decide) ?_
    refine zz_aload_n X 0 dX16_count_140 rfl rfl ?_
    refine zz_get X 0 15 rfl rfl (by decide) (fun w h => List.mem_cons_of_mem _ (zf_X16 w h)) rfl (List.mem_cons_of_mem _ zm_1177) (zq_oth (by decide) (hf1_15)) dX16_count_141 ?_
    exact zz_iret X hr (()) [] (by decide) rfl rfl (Nat.le_of_ble_eq_true rfl) (Nat.le_of_ble_eq_true rfl) ((by decide)) dX16_count_144
  refine zz_tabOut X 145 dX16_count_6 (zq_out7 e6_0 e6_1 e6_2 e6_3 e6_4 e6_5 e6_6) (by decide) ?_
  refine zz_iconst X (-1) dX16_count_145 rfl ?_
  exact zz_iret X hr (()) [] (by decide) rfl rfl (Nat.le_of_ble_eq_true rfl) (Nat.le_of_ble_eq_true rfl) ((zCount_out e6_0 e6_1 e6_2 e6_3 e6_4 e6_5 e6_6).symm) dX16_count_146
