section ZG
variable {p : Program} {l : Launch} {e : Env} {R : Room} {s : State} {m : MethodId} {args : Array Value} {below : List Frame} {meth : Method} {c : Code} {Q : State → Prop}
variable {E : zEn} {cc : ByteArray} {nL : Nat} {Ts : List Cond} {own : String} {D : va_G} {cl : List vw_C} {tys : List (ClassId × FieldType)} {A : Nat → Prop} {H0 : Heap}
variable {ws : va_W} {lv : List (Nat × Value)} {cells slots pc : Nat} {st : List Value}
theorem zz_aald {a n : Nat} {cA : ClassId} {C : String} {f : Nat → Option Nat} {i : Int32} (X : zX E p s m args meth c cc nL Ts own D cl tys A H0) (q0 t0 : Nat) (ha : ws[q0]? = some (a, .inl (cA, n, .inr (.inr (.inr (.inr f)))))) (ht : tys[t0]? = some (cA, .object C)) (hin : vp_in i n) (v : Value) (hv : va_rf (f i.toNatClampNeg) = v) (hdg : decode cc pc = .ok (.aaload, 1)) (kk : zG p l e R s m args below meth c Q nL D cl A H0 ws lv cells slots (pc + 1) (v :: st)) : zG p l e R s m args below meth c Q nL D cl A H0 ws lv cells slots pc (.int i :: .ref a :: st) :=
  fun H locs ls hP hD hS hl => va_aldq X.1 X.2.1 X.2.2.2.2.2.1 hP q0 t0 ha ht hin hdg (hv ▸ (kk H locs ls hP hD hS hl))
theorem zz_aast {a n v ci : Nat} {r : vw_C} {vs : List Value} {cA : ClassId} {f : Nat → Option Nat} {i : Int32} (X : zX E p s m args meth c cc nL Ts own D cl tys A H0) (q0 t0 qk : Nat) (ha : ws[q0]? = some (a, .inl (cA, n, .inr (.inr (.inr (.inr f)))))) (hv : ws[qk]? = some (v, .inr (ci, vs))) (hc : cl[ci]? = some r) (ht : tys[t0]? = some (cA, .object r.1)) (hin : vp_in i n) (i' : Nat) (hi' : i.toNatClampNeg = i') (hdg : decode cc pc = .ok (.aastore, 1)) (ws' : va_W) (hws : ws.set q0 (a, .inl (cA, n, .inr (.inr (.inr (.inr (va_up f i' (some v))))))) = ws') (kk : zG p l e R s m args below meth c Q nL D cl A H0 ws' lv cells slots (pc + 1) st) : zG p l e R s m args below meth c Q nL D cl A H0 ws lv cells slots pc (.ref v :: .int i :: .ref a :: st) :=
  fun H locs ls hP hD hS hl => va_astq X.1 X.2.1 X.2.2.2.2.2.1 hP hD hS q0 t0 qk ci ha ht hv hc hin hdg (fun H locs hP hD hS => by rw [hi', hws] at hP hD; exact kk H locs ls hP hD hS hl)
theorem zz_aastN {a n : Nat} {C : String} {cA : ClassId} {f : Nat → Option Nat} {i : Int32} (X : zX E p s m args meth c cc nL Ts own D cl tys A H0) (q0 t0 : Nat) (ha : ws[q0]? = some (a, .inl (cA, n, .inr (.inr (.inr (.inr f)))))) (ht : tys[t0]? = some (cA, .object C)) (hin : vp_in i n) (i' : Nat) (hi' : i.toNatClampNeg = i') (hdg : decode cc pc = .ok (.aastore, 1)) (ws' : va_W) (hws : ws.set q0 (a, .inl (cA, n, .inr (.inr (.inr (.inr (va_up f i' none)))))) = ws') (kk : zG p l e R s m args below meth c Q nL D cl A H0 ws' lv cells slots (pc + 1) st) : zG p l e R s m args below meth c Q nL D cl A H0 ws lv cells slots pc (.null :: .int i :: .ref a :: st) :=
  fun H locs ls hP hD hS hl => va_astqN X.1 X.2.1 X.2.2.2.2.2.1 hP hD hS q0 t0 ha ht hin hdg (fun H locs hP hD hS => by rw [hi', hws] at hP hD; exact kk H locs ls hP hD hS hl)
theorem zz_lald {a n : Nat} {cA : ClassId} {f : Nat → Int64} {i : Int32} (X : zX E p s m args meth c cc nL Ts own D cl tys A H0) (q0 t0 : Nat) (ha : ws[q0]? = some (a, .inl (cA, n, .inr (.inl f)))) (ht : tys[t0]? = some (cA, .long)) (hin : vp_in i n) (x : Int64) (hx : f i.toNatClampNeg = x) (hdg : decode cc pc = .ok (.laload, 1)) (kk : zG p l e R s m args below meth c Q nL D cl A H0 ws lv cells slots (pc + 1) (.long x :: st)) : zG p l e R s m args below meth c Q nL D cl A H0 ws lv cells slots pc (.int i :: .ref a :: st) :=
  fun H locs ls hP hD hS hl => va_lald X.1 X.2.1 X.2.2.2.2.2.1 hP q0 t0 ha ht hin hdg (hx ▸ (kk H locs ls hP hD hS hl))
theorem zz_last {a n : Nat} {cA : ClassId} {f : Nat → Int64} {i : Int32} {x : Int64} (X : zX E p s m args meth c cc nL Ts own D cl tys A H0) (q0 t0 : Nat) (ha : ws[q0]? = some (a, .inl (cA, n, .inr (.inl f)))) (ht : tys[t0]? = some (cA, .long)) (hin : vp_in i n) (i' : Nat) (hi' : i.toNatClampNeg = i') (hdg : decode cc pc = .ok (.lastore, 1)) (ws' : va_W) (hws : ws.set q0 (a, .inl (cA, n, .inr (.inl (vp_updL f i' x)))) = ws') (kk : zG p l e R s m args below meth c Q nL D cl A H0 ws' lv cells slots (pc + 1) st) : zG p l e R s m args below meth c Q nL D cl A H0 ws lv cells slots pc (.long x :: .int i :: .ref a :: st) :=
  fun H locs ls hP hD hS hl => va_last X.1 X.2.1 X.2.2.2.2.2.1 hP hD hS q0 t0 ha ht hin hdg (fun H locs hP hD hS => by rw [hi', hws] at hP hD; exact kk H locs ls hP hD hS hl)
theorem zz_bast {a n : Nat} {cA : ClassId} {f : Nat → Int32} {i x : Int32} (X : zX E p s m args meth c cc nL Ts own D cl tys A H0) (q0 t0 : Nat) (ha : ws[q0]? = some (a, .inl (cA, n, .inl f))) (ht : tys[t0]? = some (cA, .byte)) (hin : vp_in i n) (i' : Nat) (hi' : i.toNatClampNeg = i') (x' : Int32) (hx' : vp_nar .byte x = x') (hdg : decode cc pc = .ok (.bastore, 1)) (ws' : va_W) (hws : ws.set q0 (a, .inl (cA, n, .inl (upd f i' x'))) = ws') (kk : zG p l e R s m args below meth c Q nL D cl A H0 ws' lv cells slots (pc + 1) st) : zG p l e R s m args below meth c Q nL D cl A H0 ws lv cells slots pc (.int x :: .int i :: .ref a :: st) :=
  fun H locs ls hP hD hS hl => va_bast X.1 X.2.1 X.2.2.2.2.2.1 hP hD hS q0 t0 ha ht hin hdg (fun H locs hP hD hS => by rw [hi', hx', hws] at hP hD; exact kk H locs ls hP hD hS hl)
theorem zz_zast {a n : Nat} {cA : ClassId} {f : Nat → Int32} {i x : Int32} (X : zX E p s m args meth c cc nL Ts own D cl tys A H0) (q0 t0 : Nat) (ha : ws[q0]? = some (a, .inl (cA, n, .inl f))) (ht : tys[t0]? = some (cA, .boolean)) (hin : vp_in i n) (i' : Nat) (hi' : i.toNatClampNeg = i') (x' : Int32) (hx' : vp_nar .boolean x = x') (hdg : decode cc pc = .ok (.bastore, 1)) (ws' : va_W) (hws : ws.set q0 (a, .inl (cA, n, .inl (upd f i' x'))) = ws') (kk : zG p l e R s m args below meth c Q nL D cl A H0 ws' lv cells slots (pc + 1) st) : zG p l e R s m args below meth c Q nL D cl A H0 ws lv cells slots pc (.int x :: .int i :: .ref a :: st) :=
  fun H locs ls hP hD hS hl => va_zast X.1 X.2.1 X.2.2.2.2.2.1 hP hD hS q0 t0 ha ht hin hdg (fun H locs hP hD hS => by rw [hi', hx', hws] at hP hD; exact kk H locs ls hP hD hS hl)
theorem zz_zald {a n : Nat} {cA : ClassId} {f : Nat → Int32} {i : Int32} (X : zX E p s m args meth c cc nL Ts own D cl tys A H0) (q0 t0 : Nat) (ha : ws[q0]? = some (a, .inl (cA, n, .inl f))) (ht : tys[t0]? = some (cA, .boolean)) (hin : vp_in i n) (x : Int32) (hx : f i.toNatClampNeg = x) (hdg : decode cc pc = .ok (.baload, 1)) (kk : zG p l e R s m args below meth c Q nL D cl A H0 ws lv cells slots (pc + 1) (.int x :: st)) : zG p l e R s m args below meth c Q nL D cl A H0 ws lv cells slots pc (.int i :: .ref a :: st) :=
  fun H locs ls hP hD hS hl => va_zald X.1 X.2.1 X.2.2.2.2.2.1 hP q0 t0 ha ht hin hdg (hx ▸ (kk H locs ls hP hD hS hl))
theorem zz_lcmp {x y : Int64} (X : zX E p s m args meth c cc nL Ts own D cl tys A H0) (z : Int32) (hdg : decode cc pc = .ok (.lcmp, 1)) (hz : lg_cmp x y = z) (kk : zG p l e R s m args below meth c Q nL D cl A H0 ws lv cells slots (pc + 1) (.int z :: st)) : zG p l e R s m args below meth c Q nL D cl A H0 ws lv cells slots pc (.long y :: .long x :: st) :=
  fun H locs ls hP hD hS hl => W.lcmp X.1 X.2.1 hdg (hz ▸ (kk H locs ls hP hD hS hl))
theorem zz_ineg {x : Int32} (X : zX E p s m args meth c cc nL Ts own D cl tys A H0) (z : Int32) (hdg : decode cc pc = .ok (.ineg, 1)) (hz : -x = z) (kk : zG p l e R s m args below meth c Q nL D cl A H0 ws lv cells slots (pc + 1) (.int z :: st)) : zG p l e R s m args below meth c Q nL D cl A H0 ws lv cells slots pc (.int x :: st) :=
  fun H locs ls hP hD hS hl => lv_ineg X.1 X.2.1 hdg (hz ▸ (kk H locs ls hP hD hS hl))
theorem zz_lneg {x : Int64} (X : zX E p s m args meth c cc nL Ts own D cl tys A H0) (z : Int64) (hdg : decode cc pc = .ok (.lneg, 1)) (hz : -x = z) (kk : zG p l e R s m args below meth c Q nL D cl A H0 ws lv cells slots (pc + 1) (.long z :: st)) : zG p l e R s m args below meth c Q nL D cl A H0 ws lv cells slots pc (.long x :: st) :=
  fun H locs ls hP hD hS hl => lv_lneg X.1 X.2.1 hdg (hz ▸ (kk H locs ls hP hD hS hl))
theorem zz_ldiv {x y : Int64} (X : zX E p s m args meth c cc nL Ts own D cl tys A H0) (z : Int64) (hdg : decode cc pc = .ok (.ldiv, 1)) (hne : ¬ y = 0) (hz : x / y = z) (kk : zG p l e R s m args below meth c Q nL D cl A H0 ws lv cells slots (pc + 1) (.long z :: st)) : zG p l e R s m args below meth c Q nL D cl A H0 ws lv cells slots pc (.long y :: .long x :: st) :=
  fun H locs ls hP hD hS hl => lv_ldiv X.1 X.2.1 hdg hne (hz ▸ (kk H locs ls hP hD hS hl))
theorem zz_lrem {x y : Int64} (X : zX E p s m args meth c cc nL Ts own D cl tys A H0) (z : Int64) (hdg : decode cc pc = .ok (.lrem, 1)) (hne : ¬ y = 0) (hz : x - x / y * y = z) (kk : zG p l e R s m args below meth c Q nL D cl A H0 ws lv cells slots (pc + 1) (.long z :: st)) : zG p l e R s m args below meth c Q nL D cl A H0 ws lv cells slots pc (.long y :: .long x :: st) :=
  fun H locs ls hP hD hS hl => lv_lrem X.1 X.2.1 hdg hne (hz ▸ (kk H locs ls hP hD hS hl))
theorem zz_ldcw {index : Nat} {v : Int32} (X : zX E p s m args meth c cc nL Ts own D cl tys A H0) (hc : Jvm.Cond.constant own index v ∈ Ts) (hdg : decode cc pc = .ok (.ldc_w index, 3)) (kk : zG p l e R s m args below meth c Q nL D cl A H0 ws lv cells slots (pc + 3) (.int v :: st)) : zG p l e R s m args below meth c Q nL D cl A H0 ws lv cells slots pc st :=
  fun H locs ls hP hD hS hl => lv_ldcw X.1 X.2.1 X.2.2.2.1 (X.2.2.2.2.1 _ hc) hdg (kk H locs ls hP hD hS hl)
theorem zz_newaJ (X : zX E p s m args meth c cc nL Ts own D cl tys A H0) (t0 : Nat) {cA : ClassId} (ht : tys[t0]? = some (cA, .long)) {n : Int32} (N' : Nat) (harr : Cond.arrayClass .long ∈ Ts) (hn : ¬ n < 0) (hN : n.toNatClampNeg = N') (hbytes : N' * 8 ≤ 536870912) (hcells : cells + 1 ≤ R.cells) (hslots : slots + N' ≤ R.slots) (hdg : decode cc pc = .ok (.newarray .long, 2))
    (kk : ∀ q : Nat, zG p l e R s m args below meth c Q nL D cl A H0 (ws ++ [(q, .inl (cA, N', .inr (.inl (fun _ => 0))))]) lv (cells + 1) (slots + N') (pc + 2) (.ref q :: st)) : zG p l e R s m args below meth c Q nL D cl A H0 ws lv cells slots pc (.int n :: st) := by
  intro H locs ls hP hD hS hl
  refine va_newa (atype := .long) (a0 := (N', .inr (.inl (fun _ => 0)))) X.1 X.2.1 (X.2.2.2.2.1 _ harr) rfl X.2.2.2.2.2.1 hP hD hS X.2.2.2.2.2.2.1 (fun _ => rfl) hn hN hbytes hcells hslots hdg (fun q cB H1 hK1 hP hD hS => ?_)
  have h1 := (X.2.2.2.2.2.1.2 t0 _ ht).2
  have h2 := (hK1.2 tys.length (cB, .long) (by simp [newarray.typeOf])).2
  have h3 : some cA = some cB := Eq.trans (Eq.symm h1) h2
  cases h3
  exact kk q H1 locs ls hP hD hS hl
theorem zz_newaB (X : zX E p s m args meth c cc nL Ts own D cl tys A H0) (t0 : Nat) {cA : ClassId} (ht : tys[t0]? = some (cA, .byte)) {n : Int32} (N' : Nat) (harr : Cond.arrayClass .byte ∈ Ts) (hn : ¬ n < 0) (hN : n.toNatClampNeg = N') (hbytes : N' * 1 ≤ 536870912) (hcells : cells + 1 ≤ R.cells) (hslots : slots + N' ≤ R.slots) (hdg : decode cc pc = .ok (.newarray .byte, 2))
    (kk : ∀ q : Nat, zG p l e R s m args below meth c Q nL D cl A H0 (ws ++ [(q, .inl (cA, N', .inl (fun _ => 0)))]) lv (cells + 1) (slots + N') (pc + 2) (.ref q :: st)) : zG p l e R s m args below meth c Q nL D cl A H0 ws lv cells slots pc (.int n :: st) := by
  intro H locs ls hP hD hS hl
  refine va_newa (atype := .byte) (a0 := (N', .inl (fun _ => 0))) X.1 X.2.1 (X.2.2.2.2.1 _ harr) rfl X.2.2.2.2.2.1 hP hD hS X.2.2.2.2.2.2.1 (fun _ => rfl) hn hN hbytes hcells hslots hdg (fun q cB H1 hK1 hP hD hS => ?_)
  have h1 := (X.2.2.2.2.2.1.2 t0 _ ht).2
  have h2 := (hK1.2 tys.length (cB, .byte) (by simp [newarray.typeOf])).2
  have h3 : some cA = some cB := Eq.trans (Eq.symm h1) h2
  cases h3
  exact kk q H1 locs ls hP hD hS hl
theorem zz_newaZ (X : zX E p s m args meth c cc nL Ts own D cl tys A H0) (t0 : Nat) {cA : ClassId} (ht : tys[t0]? = some (cA, .boolean)) {n : Int32} (N' : Nat) (harr : Cond.arrayClass .boolean ∈ Ts) (hn : ¬ n < 0) (hN : n.toNatClampNeg = N') (hbytes : N' * 1 ≤ 536870912) (hcells : cells + 1 ≤ R.cells) (hslots : slots + N' ≤ R.slots) (hdg : decode cc pc = .ok (.newarray .boolean, 2))
    (kk : ∀ q : Nat, zG p l e R s m args below meth c Q nL D cl A H0 (ws ++ [(q, .inl (cA, N', .inl (fun _ => 0)))]) lv (cells + 1) (slots + N') (pc + 2) (.ref q :: st)) : zG p l e R s m args below meth c Q nL D cl A H0 ws lv cells slots pc (.int n :: st) := by
  intro H locs ls hP hD hS hl
  refine va_newa (atype := .boolean) (a0 := (N', .inl (fun _ => 0))) X.1 X.2.1 (X.2.2.2.2.1 _ harr) rfl X.2.2.2.2.2.1 hP hD hS X.2.2.2.2.2.2.1 (fun _ => rfl) hn hN hbytes hcells hslots hdg (fun q cB H1 hK1 hP hD hS => ?_)
  have h1 := (X.2.2.2.2.2.1.2 t0 _ ht).2
  have h2 := (hK1.2 tys.length (cB, .boolean) (by simp [newarray.typeOf])).2
  have h3 : some cA = some cB := Eq.trans (Eq.symm h1) h2
  cases h3
  exact kk q H1 locs ls hP hD hS hl
theorem zz_tabIn {dflt lo hi : Int} {offs : Array Int} {len : Nat} {x : Int32} {off : Int} (X : zX E p s m args meth c cc nL Ts own D cl tys A H0) (tgt : Nat) (hdg : decode cc pc = .ok (.tableswitch dflt lo hi offs, len)) (h1 : ¬ x.toInt < lo) (h2 : ¬ hi < x.toInt) (ho : offs[(x.toInt - lo).toNat]? = some off) (ht : (pc : Int) + off = (tgt : Int)) (kk : zG p l e R s m args below meth c Q nL D cl A H0 ws lv cells slots tgt st) : zG p l e R s m args below meth c Q nL D cl A H0 ws lv cells slots pc (.int x :: st) :=
  fun H locs ls hP hD hS hl => lv_tableIn X.1 X.2.1 hdg h1 h2 ho ht (kk H locs ls hP hD hS hl)
theorem zz_tabOut {dflt lo hi : Int} {offs : Array Int} {len : Nat} {x : Int32} (X : zX E p s m args meth c cc nL Ts own D cl tys A H0) (tgt : Nat) (hdg : decode cc pc = .ok (.tableswitch dflt lo hi offs, len)) (h : x.toInt < lo ∨ hi < x.toInt) (ht : (pc : Int) + dflt = (tgt : Int)) (kk : zG p l e R s m args below meth c Q nL D cl A H0 ws lv cells slots tgt st) : zG p l e R s m args below meth c Q nL D cl A H0 ws lv cells slots pc (.int x :: st) :=
  fun H locs ls hP hD hS hl => lv_tableOut X.1 X.2.1 hdg h ht (kk H locs ls hP hD hS hl)
theorem zz_astore_nN {n : Fin 4} {i : Nat} (X : zX E p s m args meth c cc nL Ts own D cl tys A H0) (lv' : List (Nat × Value)) (hdg : decode cc pc = .ok (.astore_n n, 1)) (hi : (n : Nat) = i) (hn : i < nL) (h : (i, Value.null) :: lv.filter (fun q => !(q.1 == i) && !(q.1 + 1 == i && q.2.category == 2)) = lv') (kk : zG p l e R s m args below meth c Q nL D cl A H0 ws lv' cells slots (pc + 1) st) : zG p l e R s m args below meth c Q nL D cl A H0 ws lv cells slots pc (.null :: st) :=
  fun H locs ls hP hD hS hl => lv_astore_nN X.1 X.2.1 hdg hi hl hn h (fun ls hl => kk H locs ls hP hD hS hl)
theorem zz_astoreN {i : Nat} (X : zX E p s m args meth c cc nL Ts own D cl tys A H0) (lv' : List (Nat × Value)) (hdg : decode cc pc = .ok (.astore i, 2)) (hn : i < nL) (h : (i, Value.null) :: lv.filter (fun q => !(q.1 == i) && !(q.1 + 1 == i && q.2.category == 2)) = lv') (kk : zG p l e R s m args below meth c Q nL D cl A H0 ws lv' cells slots (pc + 2) st) : zG p l e R s m args below meth c Q nL D cl A H0 ws lv cells slots pc (.null :: st) :=
  fun H locs ls hP hD hS hl => lv_astoreN X.1 X.2.1 hdg hl hn h (fun ls hl => kk H locs ls hP hD hS hl)
theorem zz_ti {t N : Nat} {f : Nat → Value} {i : Int32} (X : zX E p s m args meth c cc nL Ts own D cl tys A H0) (hZ : ∀ (A : Nat → Prop) (U : State) (H : Heap), E A U H → va_T .int t N f A U H) (hin : vp_in i N) (v : Value) (hv : f i.toNatClampNeg = v) (hdg : decode cc pc = .ok (.iaload, 1)) (kk : zG p l e R s m args below meth c Q nL D cl A H0 ws lv cells slots (pc + 1) (v :: st)) : zG p l e R s m args below meth c Q nL D cl A H0 ws lv cells slots pc (.int i :: .ref t :: st) := by
  intro H locs ls hP hD hS hl
  have hEE := X.2.2.2.2.2.2.2.2.2.2
  obtain rfl := X.2.2.2.2.2.2.2.2.1
  exact va_ti X.1 X.2.1 (hZ _ _ _ hEE) hS hin hv hdg (kk H locs ls hP hD hS hl)
theorem zz_ldcwS {idx q : Nat} {tx : String} (X : zX E p s m args meth c cc nL Ts own D cl tys A H0) (hZ : ∀ (A : Nat → Prop) (U : State) (H : Heap), E A U H → vk_R own idx tx q U) (hdg : decode cc pc = .ok (.ldc_w idx, 3)) (kk : zG p l e R s m args below meth c Q nL D cl A H0 ws lv cells slots (pc + 3) (.ref q :: st)) : zG p l e R s m args below meth c Q nL D cl A H0 ws lv cells slots pc st := by
  intro H locs ls hP hD hS hl
  have hEE := X.2.2.2.2.2.2.2.2.2.2
  obtain rfl := X.2.2.2.2.2.2.2.2.1
  have hZ := hZ _ _ _ hEE
  have k := kk H locs ls hP hD hS hl
  intro T hT Y
  obtain ⟨t, a1, b1⟩ := k T hT Y
  exact ⟨t, Y.ldcStringW X.1 X.2.2.2.1 (text := tx) (a := q) hZ.1 hZ.2 (g := F0 m pc ls st) rfl (by rw [X.2.1]; exact hdg) t a1, b1⟩
end ZG
theorem zq_nlt {x y : Int32} (h : ¬ x < y) : y ≤ x := Int32.not_lt.mp h
theorem zq_nge {x y : Int32} (h : ¬ y ≤ x) : x < y := Int32.not_le.mp h
theorem zq_ngt {x y : Int32} (h : ¬ y < x) : x ≤ y := Int32.not_lt.mp h
theorem zq_nle {x y : Int32} (h : ¬ x ≤ y) : y < x := Int32.not_le.mp h
theorem zq_notlt {x y : Int32} (h : y ≤ x) : ¬ x < y := Int32.not_lt.mpr h
theorem zq_notge {x y : Int32} (h : x < y) : ¬ y ≤ x := Int32.not_le.mpr h
theorem zq_notgt {x y : Int32} (h : x ≤ y) : ¬ y < x := Int32.not_lt.mpr h
theorem zq_notle {x y : Int32} (h : y < x) : ¬ x ≤ y := Int32.not_le.mpr h
theorem zq_ltne {x : Int32} (h : x < 0) : ¬ x = 0 := fun e => absurd (e ▸ h) (by decide)
theorem zq_gtne {x : Int32} (h : 0 < x) : ¬ x = 0 := fun e => absurd (e ▸ h) (by decide)
theorem zq_gt2ne {x : Int32} (h : 2 < x) : ¬ x = 0 := fun e => absurd (e ▸ h) (by decide)
theorem zq_eq0 {x : Int32} (h : 0 ≤ x) (q : x ≤ 0) : x = 0 := Int32.le_antisymm q h
theorem zq_in {i N : Int32} {n : Nat} (h0 : 0 ≤ i) (h1 : i < N) (hN : N.toNatClampNeg ≤ n) : vp_in i n := by
  have a0 : 0 ≤ i.toInt := Int32.le_iff_toInt_le.mp h0
  have a1 : i.toInt < N.toInt := Int32.lt_iff_toInt_lt.mp h1
  have e : i.toNatClampNeg = i.toInt.toNat := rfl
  have e2 : N.toNatClampNeg = N.toInt.toNat := rfl
  rintro (q | q)
  · have := Int32.lt_iff_toInt_lt.mp q
    have z : (0 : Int32).toInt = 0 := rfl
    omega
  · omega
theorem zq_no2 {w : Int32} (h0 : 0 ≤ w) (h1 : w ≤ 2) (e0 : ¬ w = 0) (e1 : ¬ w = 1) (e2 : ¬ w = 2) : False := by
  have a0 : 0 ≤ w.toInt := Int32.le_iff_toInt_le.mp h0
  have a1 : w.toInt ≤ 2 := Int32.le_iff_toInt_le.mp h1
  have b0 : ¬ w.toInt = 0 := fun h => e0 (Int32.toInt_inj.mp h)
  have b1 : ¬ w.toInt = 1 := fun h => e1 (Int32.toInt_inj.mp h)
  have b2 : ¬ w.toInt = 2 := fun h => e2 (Int32.toInt_inj.mp h)
  omega
theorem zq_out7 {w : Int32} (e0 : ¬ w = 0) (e1 : ¬ w = 1) (e2 : ¬ w = 2) (e3 : ¬ w = 3) (e4 : ¬ w = 4) (e5 : ¬ w = 5) (e6 : ¬ w = 6) : w.toInt < 0 ∨ 6 < w.toInt := by
  have b0 : ¬ w.toInt = 0 := fun h => e0 (Int32.toInt_inj.mp h)
  have b1 : ¬ w.toInt = 1 := fun h => e1 (Int32.toInt_inj.mp h)
  have b2 : ¬ w.toInt = 2 := fun h => e2 (Int32.toInt_inj.mp h)
  have b3 : ¬ w.toInt = 3 := fun h => e3 (Int32.toInt_inj.mp h)
  have b4 : ¬ w.toInt = 4 := fun h => e4 (Int32.toInt_inj.mp h)
  have b5 : ¬ w.toInt = 5 := fun h => e5 (Int32.toInt_inj.mp h)
  have b6 : ¬ w.toInt = 6 := fun h => e6 (Int32.toInt_inj.mp h)
  omega
/-- count on a new object -/
def zCount (w : Int32) : Int32 := if w = 0 then 0 else if w = 1 then 0 else if w = 2 then 0 else if w = 3 then 1 else if w = 4 then 0 else if w = 5 then 0 else if w = 6 then 0 else -1
theorem zCount_out {w : Int32} (e0 : ¬ w = 0) (e1 : ¬ w = 1) (e2 : ¬ w = 2) (e3 : ¬ w = 3) (e4 : ¬ w = 4) (e5 : ¬ w = 5) (e6 : ¬ w = 6) : zCount w = -1 := by
  unfold zCount
  rw [if_neg e0, if_neg e1, if_neg e2, if_neg e3, if_neg e4, if_neg e5, if_neg e6]
theorem zq_upd0 {g : Nat → Int32} {k : Nat} (h : ∀ j : Nat, j < k → g j = 0) : ∀ j : Nat, j < k + 1 → upd g k 0 j = 0 := fun j hj => by
  by_cases e : j = k
  · subst e; exact pk_us
  · rw [pk_un e]; exact h j (by omega)
theorem zq_same {fs : List Value} {k : Nat} {v : Value} (h : k < fs.length) : (fs.set k v)[k]? = some v := by simp [h]
theorem zq_oth {fs : List Value} {j k : Nat} {v : Value} {r : Option Value} (h : j ≠ k) (q : fs[k]? = r) : (fs.set j v)[k]? = r := by rw [List.getElem?_set_ne h]; exact q
theorem zq_lt {fs gs : List Value} {n k : Nat} (h : gs.length = n) (hk : k < n) (q : fs.length = gs.length) : k < fs.length := by omega
theorem zq_len {fs gs : List Value} {n : Nat} (h : gs.length = n) (q : fs.length = gs.length) : fs.length = n := by omega
