/-- a contract: from the world cs the method throws an exception of class N, and leaves the world -/
abbrev zxX (N : String) (D : va_G) (cl : List vw_C) (tys : List (ClassId × FieldType)) (cs : va_W) (A : Nat → Prop) : String → State → State → Prop := vx_X (S := Unit) (fun _ => True) (fun C _ t => C = N ∧ zB D cl tys A cs t) A
abbrev zxQ (A : Nat → Prop) : Array Value → State → Outcome → State → Prop := va_Qi (fun (_ : Int32) (_ : Unit) => False) (fun _ _ => True) A
def zMx (E : zEn) (l : Launch) (y : MethodName) (wc : List Cond) (rm : Room) (D : va_G) (cl : List vw_C) (tys : List (ClassId × FieldType)) (av : List Value) (cs : va_W) (N : String) : Prop := ∀ sz : Nat, vx_Met l y wc rm (va_Pc av (zI E D cl tys sz cs)) (zxQ (va_A cs sz)) (zxX N D cl tys cs (va_A cs sz)) rm.cells rm.slots (va_A cs sz)
section ZG
variable {p : Program} {l : Launch} {e : Env} {R : Room} {s : State} {m : MethodId} {args : Array Value} {below : List Frame} {meth : Method} {c : Code} {Q : State → Prop}
variable {E : zEn} {cc : ByteArray} {nL : Nat} {Ts : List Cond} {own : String} {D : va_G} {cl : List vw_C} {tys : List (ClassId × FieldType)} {A : Nat → Prop} {H0 : Heap}
variable {ws : va_W} {lv : List (Nat × Value)} {cells slots pc : Nat} {st : List Value}
variable {y : MethodName} {wc wc' : List Cond} {rm : Room} {av : List Value} {cs : va_W} {S : Type} {cs' : S → va_W}
theorem zx_enter {N : String} {rt : FieldType} (hE : zOk E) (maxL : Nat) (hy : plainName y.cls = true) (hw : wc = Cond.code y cc maxL (some rt) :: wc') (hn : (lg_sl av).length ≤ maxL) (hlv : lv_args 0 av = lv)
    (body : ∀ (p : Program) (e : Env) (s : State) (m : MethodId) (args : Array Value) (below : List Frame) (meth : Method) (c : Code), zX E p s m args meth c cc maxL wc y.cls D cl tys (va_A cs s.heap.size) s.heap → (∀ x ∈ c.exceptionTable.toList, False) →
      zG p l e rm s m args below meth c (vx_MQ below (zxQ (va_A cs s.heap.size)) (zxX N D cl tys cs (va_A cs s.heap.size)) args s rm.cells rm.slots (va_A cs s.heap.size)) maxL D cl (va_A cs s.heap.size) s.heap cs lv 0 0 0 []) : zMx E l y wc rm D cl tys av cs N := by
  intro sz
  refine vx_ofW (cc := cc) (maxL := maxL) (ret := some rt) hy hw ?_
  intro p e s m args below meth c s₁ B hml ht hv
  obtain ⟨rfl, hsz, hP, hK, hD0, hEE⟩ := hv
  subst hsz
  have hD := hD0.self (sz := s.heap.size)
  have hl := lv_entry av hn
  rw [lg_entry_eq]
  rw [hlv] at hl
  exact body p e s m _ below meth c ⟨B.exec, B.bytes, hml, findClass_of_methodNamed B.named, atoms_spec (ws := wc) B.pre, hK, fun q h => Or.inr h, B.notSynchronized, rfl, hE, hEE⟩ ht s.heap [] _ hP hD va_S.rf hl
theorem zx_throw {cls text YC : String} {r : List String} {rx : ByteArray} {ik is ic ix sa mc ms : Nat} (X : zX E p s m args meth c cc nL Ts own D cl tys A H0) (hl : l.stackTraces = false) (x0 : decode rx 0 = .ok (.aload_n 0, 1)) (x1 : decode rx 1 = .ok (.aload_n 1, 1)) (x2 : decode rx 2 = .ok (.invokespecial ix, 3)) (x5 : decode rx 5 = .ok (.return_, 1)) (hcls : Bundle.fit cls = true) (hY : Bundle.fit YC = true) (hnames : ∀ n ∈ r, Bundle.fit n = true) (hk : Cond.classLink own ik cls ∈ Ts) (hini : Cond.initialized cls ∈ Ts) (hstr : ∀ (A : Nat → Prop) (U : State) (H : Heap), E A U H → vk_R own is text sa U)
    (hat : ∀ (A : Nat → Prop) (H : Heap), E A s H → ∀ w ∈ zOwS own ic cls YC ix rx r, w.before args s = true) (hgood : ∀ w ∈ Cond.classLink own ik cls :: Cond.initialized cls :: zOwS own ic cls YC ix rx r, vx_ot w = true)
    (hU : ∀ (A : Nat → Prop) (U : State) (H : Heap), E A U H → vx_Zq Bundle.tN "UNASSIGNED_STACK" Bundle.steD A U H) (hN : ∀ (A : Nat → Prop) (U : State) (H : Heap), E A U H → vx_Zq Bundle.tN "SUPPRESSED_SENTINEL" Bundle.listD A U H)
    (d0 : decode cc pc = .ok (.new ik, 3)) (d3 : decode cc (pc + 3) = .ok (.dup, 1)) (d4 : decode cc (pc + 4) = .ok (.ldc_w is, 3)) (d7 : decode cc (pc + 7) = .ok (.invokespecial ic, 3)) (d10 : decode cc (pc + 10) = .ok (.athrow, 1)) (hout : ∀ x ∈ c.exceptionTable.toList, False)
    (hRframes : r.length + 4 < R.frames) (hRlocals : (st.map fun v => v.category).sum + (13 * (r.length + 2) + 43) ≤ R.locals) (hRcells : cells + 1 ≤ R.cells) (hRslots : slots + 6 ≤ R.slots) (hc : cells + 1 ≤ mc) (hs : slots + 6 ≤ ms) :
    zG p l e R s m args below meth c (vx_MQ below (zxQ A) (zxX cls D cl tys ws A) args s mc ms A) nL D cl A H0 ws lv cells slots pc st := by
  intro H locs ls hP hD hS hl9
  have hEE := X.2.2.2.2.2.2.2.2.2.2
  have hlocks := X.2.2.2.2.2.2.2.1
  have hA := X.2.2.2.2.2.2.1
  obtain rfl := X.2.2.2.2.2.2.2.2.1
  refine zThrowSW (YC := YC) (r := r) (rx := rx) X.1 X.2.1 hl x0 x1 x2 x5 X.2.2.2.1 hcls hY hnames (X.2.2.2.2.1 _ hk) (X.2.2.2.2.1 _ hini) (hstr _ _ _ hEE) (hat _ _ hEE) hgood (hU _ _ _ hEE) (hN _ _ _ hEE) hS (hl9.1.trans X.2.2.1.symm) d0 d3 d4 d7 d10 (fun x hx => (hout x hx).elim) hRframes hRlocals hRcells hRslots hlocks (fun t hvm hz hk => ?_) (fun z hz => hS.2.2 z hz) hc hs
  refine ⟨(), trivial, ⟨rfl, ?_, va_K.moved hvm X.2.2.2.2.2.1, hD⟩, ?_⟩
  · exact hP.kept (fun k x hx => hk x.1 ((hP k x hx).lt))
  · exact ⟨Nat.le_trans hS.1 hz, fun q hq hn => (hk q (Nat.lt_of_lt_of_le hq hS.1)).trans (hS.2.1 q hq hn)⟩
theorem zz_enteriT {hh : List (Nat × Nat × Nat × Nat)} {post : Int32 → S → Prop} (hE : zOk E) (maxL : Nat) (hy : plainName y.cls = true) (hw : wc = Cond.codeWith y cc maxL (some .int) hh :: wc') (hn : (lg_sl av).length ≤ maxL) (hlv : lv_args 0 av = lv)
    (body : ∀ (p : Program) (e : Env) (s : State) (m : MethodId) (args : Array Value) (below : List Frame) (meth : Method) (c : Code), zX E p s m args meth c cc maxL wc y.cls D cl tys (va_A cs s.heap.size) s.heap → meth.sig.returnType = some .int → meth.name = y.name → c.exceptionTable.toList = tableOf hh →
      zG p l e rm s m args below meth c (MQ below (va_Qi post (fun u t => zB D cl tys (va_A cs s.heap.size) (cs' u) t) (va_A cs s.heap.size)) args s rm.cells rm.slots (va_A cs s.heap.size)) maxL D cl (va_A cs s.heap.size) s.heap cs lv 0 0 0 []) : zMi E l y wc rm D cl tys av cs post cs' := by
  intro sz
  refine zMet_ofWH (cc := cc) (hh := hh) (maxL := maxL) (ret := some .int) hy hw ?_
  intro p e s m args below meth c s₁ B hml hv
  obtain ⟨rfl, hsz, hP, hK, hD0, hEE⟩ := hv
  subst hsz
  have hD := hD0.self (sz := s.heap.size)
  have hl := lv_entry av hn
  rw [lg_entry_eq]
  rw [hlv] at hl
  exact body p e s m _ below meth c ⟨B.exec, B.bytes, hml, findClass_of_methodNamed B.named, atoms_spec (ws := wc) B.pre, hK, fun q h => Or.inr h, B.notSynchronized, rfl, hE, hEE⟩ B.returns (name_of_methodNamed B.named B.method).1 (vx_table (x := y) B (atoms_spec (ws := wc) B.pre _ (by rw [hw]; exact List.mem_cons_self))) s.heap [] _ hP hD va_S.rf hl
theorem zx_callV {EN : String} {As rest : List Value} (X : zX E p s m args meth c cc nL Ts own D cl tys A H0) (hM : zMx E l y wc rm D cl tys av cs EN) {C : String} {bytes : ByteArray} {maxL idx : Nat} {ret : Option FieldType} (n : Nat) (hG : GoodIn Ts (wsV own idx C y wc)) (hw : wc = Cond.code y bytes maxL ret :: wc') (hd : y.cls = C ∧ y.cls ≠ "java/lang/invoke/MethodHandle" ∧ y.cls ≠ "java/lang/invoke/VarHandle" ∧ (parseMethodDescriptor y.desc).map (fun d => d.parameters.length) = some n) (isC isR : List Nat) (wr : va_W) (hC9 : isC.map (fun i => ws[i]?) = cs.map some) (hC1 : isC.filterMap (fun i => ws[i]?) = cs) (hCn : va_nd isC = true) (hR : isR.map (fun i => ws[i]?) = wr.map some) (hn : va_nd isR = true) (hdis : ∀ i ∈ isR, i ∉ isC) (hroom : rm.frames + 1 ≤ R.frames ∧ 8 + (maxL + 11) + rm.locals ≤ R.locals) (q0 : Nat) {b ci : Nat} {T : u_T} {N : Nat} {fs : List Value} (he : cs[q0]? = some (b, .inr (ci, fs))) (hcl : cl[ci]? = some (C, T, N)) (hav : av = .ref b :: As) (hA : As.length = n) (hst : st = As.reverse ++ .ref b :: rest) (hrest : (rest.map fun v => v.category).sum ≤ 8) (hdg : decode cc pc = .ok (.invokevirtual idx, 3)) (hcells : cells + rm.cells ≤ R.cells) (hslots : slots + rm.slots ≤ R.slots)
    (x : ExceptionTableEntry) (htab : c.exceptionTable.toList = [x]) (hx : covers x pc = true) (h0 : x.catchType ≠ 0) (hlink : Cond.classLink own x.catchType EN ∈ Ts) (hcast : ∀ (A : Nat → Prop) (U : State) (H : Heap), E A U H → va_Nw (.castable EN EN) U)
    (kk : ∀ q : Nat, zG p l e R s m args below meth c Q nL D cl A H0 (wr ++ cs) lv (cells + rm.cells) (slots + rm.slots) x.handlerPc ([.ref q])) : zG p l e R s m args below meth c Q nL D cl A H0 ws lv cells slots pc st := by
  intro H locs ls hP hD hS hl
  have hK := X.2.2.2.2.2.1
  have hPc := hP.sub (ws' := cs) isC hC1
  have hDc := hD.sub (ws' := cs) isC hCn hC9
  have hFc := va_free (wc := cs) hD hS X.2.2.2.2.2.2.1 isC hC9
  have hEc : ∀ U : State, s.WarmedH U.vm → E (va_A cs H.size) U H := fun U hW => X.2.2.2.2.2.2.2.2.2.1.1 _ s U H hW (X.2.2.2.2.2.2.2.2.2.1.2.2.2 A _ s H hFc (zz_env X hS))
  subst hav
  have hEE := X.2.2.2.2.2.2.2.2.2.2
  refine vx_calli (vx_runV (As := As) (rest := rest) ⟨X.1, X.2.1, X.2.2.1, X.2.2.2.1, X.2.2.2.2.1⟩ (hM H.size) (cwV n X.2.2.2.2.1 hG hw rfl rfl hd hroom) ⟨fun a U g mk q => by obtain ⟨q0, q1, qP, qK, qD, qE⟩ := q; exact ⟨q0, q1, qP, va_K.moved (u := U) (U := U.calling g mk a) (Vm.Alike.refl U.vm) qK, qD, X.2.2.2.2.2.2.2.2.2.1.2.1 _ U (U.calling g mk a) _ rfl qE⟩, va_recv hK hPc hcl he, fun U hU hW => ⟨rfl, by rw [hU], by rw [hU]; exact hPc, va_K.moved hW.alike hK, hDc.weaken (fun _ _ _ _ => trivial), by rw [hU]; exact hEc U hW⟩⟩ rfl hA hl.1 hst (lv_room hrest) hdg ⟨hcells, hslots⟩) hS (fun q _ h => hFc q h) hFc (fun q _ h => hFc q h) (fun C ce q9 u t H1 locs1 ht hvm hp hB hz1 hk1 hS hcell hv hcl => ?_) (fun r u t H1 locs1 ht hvm hp => absurd hp (fun h => h))
  obtain ⟨hC, hP1, hK1, hD1⟩ := hB
  subst hC
  rw [ht] at hP1
  obtain ⟨hP, hD⟩ := va_join (wr := wr) (w1 := cs) hP hD isC isR hC9 hR hn hdis hk1 hFc hP1 hD1
  exact vx_catch X.2.2.2.1 [] x [] htab (fun z hz => nomatch hz) hx h0 (X.2.2.2.2.1 _ hlink) (va_Nw.use rfl (hcast _ _ _ hEE)) hcell hv hcl (kk q9 H1 locs1 ls hP hD hS hl)
end ZG
theorem zq_nne {x y : Int32} (h : ¬ x ≠ y) : x = y := Classical.not_not.mp h
