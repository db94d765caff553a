/-- contracts: from the world cs the method returns, its answer and the world behind it (of some u) are as post says -/
def zMi (E : zEn) (l : Launch) (y : MethodName) (wc : List Cond) (rm : Room) (D : va_G) (cl : List vw_C) (tys : List (ClassId × FieldType)) (av : List Value) (cs : va_W) {S : Type} (post : Int32 → S → Prop) (cs' : S → va_W) : Prop := ∀ sz : Nat, Met l y wc rm (va_Pc av (zI E D cl tys sz cs)) (va_Qi post (fun u t => zB D cl tys (va_A cs sz) (cs' u) t) (va_A cs sz)) rm.cells rm.slots (va_A cs sz)
def zMl (E : zEn) (l : Launch) (y : MethodName) (wc : List Cond) (rm : Room) (D : va_G) (cl : List vw_C) (tys : List (ClassId × FieldType)) (av : List Value) (cs : va_W) {S : Type} (post : Int64 → S → Prop) (cs' : S → va_W) : Prop := ∀ sz : Nat, Met l y wc rm (va_Pc av (zI E D cl tys sz cs)) (va_Ql post (fun u t => zB D cl tys (va_A cs sz) (cs' u) t) (va_A cs sz)) rm.cells rm.slots (va_A cs sz)
def zMv (E : zEn) (l : Launch) (y : MethodName) (wc : List Cond) (rm : Room) (D : va_G) (cl : List vw_C) (tys : List (ClassId × FieldType)) (av : List Value) (cs : va_W) {S : Type} (post : S → Prop) (cs' : S → va_W) : Prop := ∀ sz : Nat, Met l y wc rm (va_Pc av (zI E D cl tys sz cs)) (va_Qv post (fun u t => zB D cl tys (va_A cs sz) (cs' u) t) (va_A cs sz)) rm.cells rm.slots (va_A cs sz)
def zMq (E : zEn) (l : Launch) (y : MethodName) (wc : List Cond) (rm : Room) (D : va_G) (cl : List vw_C) (tys : List (ClassId × FieldType)) (av : List Value) (cs : va_W) {S : Type} (post : Option Nat → S → Prop) (cs' : S → va_W) : Prop := ∀ sz : Nat, Met l y wc rm (va_Pc av (zI E D cl tys sz cs)) (va_Qq post (fun u t => zB D cl tys (va_A cs sz) (cs' u) t) (va_A cs sz)) rm.cells rm.slots (va_A cs sz)
section ZG
variable {p : Program} {l : Launch} {e : Env} {R : Room} {s : State} {m : MethodId} {args : Array Value} {below : List Frame} {meth : Method} {c : Code} {Q : State → Prop}
variable {E : zEn} {cc : ByteArray} {nL : Nat} {Ts : List Cond} {own : String} {D : va_G} {cl : List vw_C} {tys : List (ClassId × FieldType)} {A : Nat → Prop} {H0 : Heap}
variable {ws : va_W} {lv : List (Nat × Value)} {cells slots pc : Nat} {st : List Value}
variable {y : MethodName} {wc wc' : List Cond} {rm : Room} {av : List Value} {cs : va_W} {S : Type} {cs' : S → va_W}
theorem zz_enteri {post : Int32 → S → Prop} (hE : zOk E) (maxL : Nat) (hy : plainName y.cls = true) (hw : wc = Cond.code y cc maxL (some .int) :: wc') (hn : (lg_sl av).length ≤ maxL) (hlv : lv_args 0 av = lv)
    (body : ∀ (p : Program) (e : Env) (s : State) (m : MethodId) (args : Array Value) (below : List Frame) (meth : Method) (c : Code), zX E p s m args meth c cc maxL wc y.cls D cl tys (va_A cs s.heap.size) s.heap → meth.sig.returnType = some .int → meth.name = y.name →
      zG p l e rm s m args below meth c (MQ below (va_Qi post (fun u t => zB D cl tys (va_A cs s.heap.size) (cs' u) t) (va_A cs s.heap.size)) args s rm.cells rm.slots (va_A cs s.heap.size)) maxL D cl (va_A cs s.heap.size) s.heap cs lv 0 0 0 []) : zMi E l y wc rm D cl tys av cs post cs' := by
  intro sz
  refine Met.ofW (cc := cc) (maxL := maxL) (ret := some .int) hy hw ?_
  intro p e s m args below meth c s₁ B hml hv
  obtain ⟨rfl, hsz, hP, hK, hD0, hEE⟩ := hv
  subst hsz
  have hD := hD0.self (sz := s.heap.size)
  have hl := lv_entry av hn
  rw [lg_entry_eq]
  rw [hlv] at hl
  exact body p e s m _ below meth c ⟨B.exec, B.bytes, hml, findClass_of_methodNamed B.named, atoms_spec (ws := wc) B.pre, hK, fun q h => Or.inr h, B.notSynchronized, rfl, hE, hEE⟩ B.returns (name_of_methodNamed B.named B.method).1 s.heap [] _ hP hD va_S.rf hl
theorem zz_enterz {post : Int32 → S → Prop} {rt : FieldType} (hE : zOk E) (maxL : Nat) (hy : plainName y.cls = true) (hw : wc = Cond.code y cc maxL (some rt) :: wc') (hn : (lg_sl av).length ≤ maxL) (hlv : lv_args 0 av = lv)
    (body : ∀ (p : Program) (e : Env) (s : State) (m : MethodId) (args : Array Value) (below : List Frame) (meth : Method) (c : Code), zX E p s m args meth c cc maxL wc y.cls D cl tys (va_A cs s.heap.size) s.heap → meth.sig.returnType = some rt → meth.name = y.name →
      zG p l e rm s m args below meth c (MQ below (va_Qi post (fun u t => zB D cl tys (va_A cs s.heap.size) (cs' u) t) (va_A cs s.heap.size)) args s rm.cells rm.slots (va_A cs s.heap.size)) maxL D cl (va_A cs s.heap.size) s.heap cs lv 0 0 0 []) : zMi E l y wc rm D cl tys av cs post cs' := by
  intro sz
  refine Met.ofW (cc := cc) (maxL := maxL) (ret := some rt) hy hw ?_
  intro p e s m args below meth c s₁ B hml hv
  obtain ⟨rfl, hsz, hP, hK, hD0, hEE⟩ := hv
  subst hsz
  have hD := hD0.self (sz := s.heap.size)
  have hl := lv_entry av hn
  rw [lg_entry_eq]
  rw [hlv] at hl
  exact body p e s m _ below meth c ⟨B.exec, B.bytes, hml, findClass_of_methodNamed B.named, atoms_spec (ws := wc) B.pre, hK, fun q h => Or.inr h, B.notSynchronized, rfl, hE, hEE⟩ B.returns (name_of_methodNamed B.named B.method).1 s.heap [] _ hP hD va_S.rf hl
theorem zz_enterl {post : Int64 → S → Prop} (hE : zOk E) (maxL : Nat) (hy : plainName y.cls = true) (hw : wc = Cond.code y cc maxL (some .long) :: wc') (hn : (lg_sl av).length ≤ maxL) (hlv : lv_args 0 av = lv)
    (body : ∀ (p : Program) (e : Env) (s : State) (m : MethodId) (args : Array Value) (below : List Frame) (meth : Method) (c : Code), zX E p s m args meth c cc maxL wc y.cls D cl tys (va_A cs s.heap.size) s.heap → meth.sig.returnType = some .long → meth.name = y.name →
      zG p l e rm s m args below meth c (MQ below (va_Ql post (fun u t => zB D cl tys (va_A cs s.heap.size) (cs' u) t) (va_A cs s.heap.size)) args s rm.cells rm.slots (va_A cs s.heap.size)) maxL D cl (va_A cs s.heap.size) s.heap cs lv 0 0 0 []) : zMl E l y wc rm D cl tys av cs post cs' := by
  intro sz
  refine Met.ofW (cc := cc) (maxL := maxL) (ret := some .long) hy hw ?_
  intro p e s m args below meth c s₁ B hml hv
  obtain ⟨rfl, hsz, hP, hK, hD0, hEE⟩ := hv
  subst hsz
  have hD := hD0.self (sz := s.heap.size)
  have hl := lv_entry av hn
  rw [lg_entry_eq]
  rw [hlv] at hl
  exact body p e s m _ below meth c ⟨B.exec, B.bytes, hml, findClass_of_methodNamed B.named, atoms_spec (ws := wc) B.pre, hK, fun q h => Or.inr h, B.notSynchronized, rfl, hE, hEE⟩ B.returns (name_of_methodNamed B.named B.method).1 s.heap [] _ hP hD va_S.rf hl
theorem zz_enterv {post : S → Prop} (hE : zOk E) (maxL : Nat) (hy : plainName y.cls = true) (hw : wc = Cond.code y cc maxL (none) :: wc') (hn : (lg_sl av).length ≤ maxL) (hlv : lv_args 0 av = lv)
    (body : ∀ (p : Program) (e : Env) (s : State) (m : MethodId) (args : Array Value) (below : List Frame) (meth : Method) (c : Code), zX E p s m args meth c cc maxL wc y.cls D cl tys (va_A cs s.heap.size) s.heap → meth.sig.returnType = none → meth.name = y.name →
      zG p l e rm s m args below meth c (MQ below (va_Qv post (fun u t => zB D cl tys (va_A cs s.heap.size) (cs' u) t) (va_A cs s.heap.size)) args s rm.cells rm.slots (va_A cs s.heap.size)) maxL D cl (va_A cs s.heap.size) s.heap cs lv 0 0 0 []) : zMv E l y wc rm D cl tys av cs post cs' := by
  intro sz
  refine Met.ofW (cc := cc) (maxL := maxL) (ret := none) hy hw ?_
  intro p e s m args below meth c s₁ B hml hv
  obtain ⟨rfl, hsz, hP, hK, hD0, hEE⟩ := hv
  subst hsz
  have hD := hD0.self (sz := s.heap.size)
  have hl := lv_entry av hn
  rw [lg_entry_eq]
  rw [hlv] at hl
  exact body p e s m _ below meth c ⟨B.exec, B.bytes, hml, findClass_of_methodNamed B.named, atoms_spec (ws := wc) B.pre, hK, fun q h => Or.inr h, B.notSynchronized, rfl, hE, hEE⟩ B.returns (name_of_methodNamed B.named B.method).1 s.heap [] _ hP hD va_S.rf hl
theorem zz_enterq {post : Option Nat → S → Prop} {rt : FieldType} (hE : zOk E) (maxL : Nat) (hy : plainName y.cls = true) (hw : wc = Cond.code y cc maxL (some rt) :: wc') (hn : (lg_sl av).length ≤ maxL) (hlv : lv_args 0 av = lv)
    (body : ∀ (p : Program) (e : Env) (s : State) (m : MethodId) (args : Array Value) (below : List Frame) (meth : Method) (c : Code), zX E p s m args meth c cc maxL wc y.cls D cl tys (va_A cs s.heap.size) s.heap → meth.sig.returnType = some rt → meth.name = y.name →
      zG p l e rm s m args below meth c (MQ below (va_Qq post (fun u t => zB D cl tys (va_A cs s.heap.size) (cs' u) t) (va_A cs s.heap.size)) args s rm.cells rm.slots (va_A cs s.heap.size)) maxL D cl (va_A cs s.heap.size) s.heap cs lv 0 0 0 []) : zMq E l y wc rm D cl tys av cs post cs' := by
  intro sz
  refine Met.ofW (cc := cc) (maxL := maxL) (ret := some rt) hy hw ?_
  intro p e s m args below meth c s₁ B hml hv
  obtain ⟨rfl, hsz, hP, hK, hD0, hEE⟩ := hv
  subst hsz
  have hD := hD0.self (sz := s.heap.size)
  have hl := lv_entry av hn
  rw [lg_entry_eq]
  rw [hlv] at hl
  exact body p e s m _ below meth c ⟨B.exec, B.bytes, hml, findClass_of_methodNamed B.named, atoms_spec (ws := wc) B.pre, hK, fun q h => Or.inr h, B.notSynchronized, rfl, hE, hEE⟩ B.returns (name_of_methodNamed B.named B.method).1 s.heap [] _ hP hD va_S.rf hl
variable {mc ms : Nat}
theorem zz_iret {post : Int32 → S → Prop} {v : Int32} (X : zX E p s m args meth c cc nL Ts own D cl tys A H0) (hr : meth.sig.returnType = some .int) (u : S) (is : List Nat) (hn : va_nd is = true) (h1 : is.filterMap (fun i => ws[i]?) = cs' u) (h2 : is.map (fun i => ws[i]?) = (cs' u).map some) (hc : cells ≤ mc) (hs : slots ≤ ms) (hp : post v u) (hdg : decode cc pc = .ok (.ireturn, 1)) : zG p l e R s m args below meth c (MQ below (va_Qi post (fun u t => zB D cl tys A (cs' u) t) A) args s mc ms A) nL D cl A H0 ws lv cells slots pc ([.int v]) := by
  intro H locs ls hP hD hS hl
  have hlocks := X.2.2.2.2.2.2.2.1
  obtain rfl := X.2.2.2.2.2.2.2.2.1
  refine W.widen hc hs ?_
  exact W.iret X.1 X.2.1 hr (fun t ht hW => ⟨⟨v, u, rfl, hp, ⟨by rw [ht]; exact hP.sub is h1, va_K.moved hW.alike X.2.2.2.2.2.1, hD.sub is hn h2⟩⟩, hS.F ht⟩) hS.2.2 hdg
theorem zz_lret {post : Int64 → S → Prop} {v : Int64} (X : zX E p s m args meth c cc nL Ts own D cl tys A H0) (hr : meth.sig.returnType = some .long) (u : S) (is : List Nat) (hn : va_nd is = true) (h1 : is.filterMap (fun i => ws[i]?) = cs' u) (h2 : is.map (fun i => ws[i]?) = (cs' u).map some) (hc : cells ≤ mc) (hs : slots ≤ ms) (hp : post v u) (hdg : decode cc pc = .ok (.lreturn, 1)) : zG p l e R s m args below meth c (MQ below (va_Ql post (fun u t => zB D cl tys A (cs' u) t) A) args s mc ms A) nL D cl A H0 ws lv cells slots pc ([.long v]) := by
  intro H locs ls hP hD hS hl
  have hlocks := X.2.2.2.2.2.2.2.1
  obtain rfl := X.2.2.2.2.2.2.2.2.1
  refine W.widen hc hs ?_
  exact W.lret X.1 X.2.1 hr (fun t ht hW => ⟨⟨v, u, rfl, hp, ⟨by rw [ht]; exact hP.sub is h1, va_K.moved hW.alike X.2.2.2.2.2.1, hD.sub is hn h2⟩⟩, hS.F ht⟩) hS.2.2 hdg
theorem zz_zret {post : Int32 → S → Prop} {v : Int32} {rt : FieldType} (X : zX E p s m args meth c cc nL Ts own D cl tys A H0) (hr : meth.sig.returnType = some rt) (hz : narrow rt (.int v) = .int v) (u : S) (is : List Nat) (hn : va_nd is = true) (h1 : is.filterMap (fun i => ws[i]?) = cs' u) (h2 : is.map (fun i => ws[i]?) = (cs' u).map some) (hc : cells ≤ mc) (hs : slots ≤ ms) (hp : post v u) (hdg : decode cc pc = .ok (.ireturn, 1)) : zG p l e R s m args below meth c (MQ below (va_Qi post (fun u t => zB D cl tys A (cs' u) t) A) args s mc ms A) nL D cl A H0 ws lv cells slots pc ([.int v]) := by
  intro H locs ls hP hD hS hl
  have hlocks := X.2.2.2.2.2.2.2.1
  obtain rfl := X.2.2.2.2.2.2.2.2.1
  refine W.widen hc hs ?_
  exact W.zret X.1 X.2.1 hr hz (fun t ht hW => ⟨⟨v, u, rfl, hp, ⟨by rw [ht]; exact hP.sub is h1, va_K.moved hW.alike X.2.2.2.2.2.1, hD.sub is hn h2⟩⟩, hS.F ht⟩) hS.2.2 hdg
theorem zz_vret {post : S → Prop} (X : zX E p s m args meth c cc nL Ts own D cl tys A H0) (hr : meth.sig.returnType = none) (u : S) (is : List Nat) (hn : va_nd is = true) (h1 : is.filterMap (fun i => ws[i]?) = cs' u) (h2 : is.map (fun i => ws[i]?) = (cs' u).map some) (hc : cells ≤ mc) (hs : slots ≤ ms) (hp : post u) (hdg : decode cc pc = .ok (.return_, 1)) : zG p l e R s m args below meth c (MQ below (va_Qv post (fun u t => zB D cl tys A (cs' u) t) A) args s mc ms A) nL D cl A H0 ws lv cells slots pc [] := by
  intro H locs ls hP hD hS hl
  have hlocks := X.2.2.2.2.2.2.2.1
  obtain rfl := X.2.2.2.2.2.2.2.2.1
  refine W.widen hc hs ?_
  exact W.vret X.1 X.2.1 hr (fun t ht hW => ⟨⟨u, rfl, hp, ⟨by rw [ht]; exact hP.sub is h1, va_K.moved hW.alike X.2.2.2.2.2.1, hD.sub is hn h2⟩⟩, hS.F ht⟩) hS.2.2 hdg
theorem zz_aret {post : Option Nat → S → Prop} {r : Option Nat} {rt : FieldType} (X : zX E p s m args meth c cc nL Ts own D cl tys A H0) (hr : meth.sig.returnType = some rt) (hrt : (∃ n, rt = .object n) ∨ ∃ t, rt = .array t) (u : S) (is : List Nat) (hn : va_nd is = true) (h1 : is.filterMap (fun i => ws[i]?) = cs' u) (h2 : is.map (fun i => ws[i]?) = (cs' u).map some) (hc : cells ≤ mc) (hs : slots ≤ ms) (hp : post r u) (hdg : decode cc pc = .ok (.areturn, 1)) : zG p l e R s m args below meth c (MQ below (va_Qq post (fun u t => zB D cl tys A (cs' u) t) A) args s mc ms A) nL D cl A H0 ws lv cells slots pc ([va_rf r]) := by
  intro H locs ls hP hD hS hl
  have hlocks := X.2.2.2.2.2.2.2.1
  obtain rfl := X.2.2.2.2.2.2.2.2.1
  refine W.widen hc hs ?_
  exact W.aret X.1 X.2.1 hr hrt (by cases r with | none => exact Or.inl rfl | some a => exact Or.inr ⟨a, rfl⟩) (fun t ht hW => ⟨⟨r, u, rfl, hp, ⟨by rw [ht]; exact hP.sub is h1, va_K.moved hW.alike X.2.2.2.2.2.1, hD.sub is hn h2⟩⟩, hS.F ht⟩) hS.2.2 hdg
theorem zz_callVi {post : Int32 → S → Prop} {As rest : List Value} (X : zX E p s m args meth c cc nL Ts own D cl tys A H0) (hM : zMi E l y wc rm D cl tys av cs post cs') {C : String} {bytes : ByteArray} {maxL idx : Nat} {ret : Option FieldType} (n : Nat) (hG : GoodIn Ts (wsV own idx C y wc)) (hw : wc = Cond.code y bytes maxL ret :: wc') (hd : y.cls = C ∧ y.cls ≠ "java/lang/invoke/MethodHandle" ∧ y.cls ≠ "java/lang/invoke/VarHandle" ∧ (parseMethodDescriptor y.desc).map (fun d => d.parameters.length) = some n) (isC isR : List Nat) (wr : va_W) (hC : isC.map (fun i => ws[i]?) = cs.map some) (hC1 : isC.filterMap (fun i => ws[i]?) = cs) (hCn : va_nd isC = true) (hR : isR.map (fun i => ws[i]?) = wr.map some) (hn : va_nd isR = true) (hdis : ∀ i ∈ isR, i ∉ isC) (hroom : rm.frames + 1 ≤ R.frames ∧ 8 + (maxL + 11) + rm.locals ≤ R.locals) (q0 : Nat) {b ci : Nat} {T : u_T} {N : Nat} {fs : List Value} (he : cs[q0]? = some (b, .inr (ci, fs))) (hcl : cl[ci]? = some (C, T, N)) (hav : av = .ref b :: As) (hA : As.length = n) (hst : st = As.reverse ++ .ref b :: rest) (hrest : (rest.map fun v => v.category).sum ≤ 8) (hdg : decode cc pc = .ok (.invokevirtual idx, 3)) (hcells : cells + rm.cells ≤ R.cells) (hslots : slots + rm.slots ≤ R.slots)
    (kk : ∀ (r : Int32) (u : S), post r u → zG p l e R s m args below meth c Q nL D cl A H0 (wr ++ cs' u) lv (cells + rm.cells) (slots + rm.slots) (pc + 3) (.int r :: rest)) : zG p l e R s m args below meth c Q nL D cl A H0 ws lv cells slots pc st := by
  intro H locs ls hP hD hS hl
  have hK := X.2.2.2.2.2.1
  have hPc := hP.sub (ws' := cs) isC hC1
  have hDc := hD.sub (ws' := cs) isC hCn hC
  have hFc := va_free (wc := cs) hD hS X.2.2.2.2.2.2.1 isC hC
  have hEc : ∀ U : State, s.WarmedH U.vm → E (va_A cs H.size) U H := fun U hW => X.2.2.2.2.2.2.2.2.2.1.1 _ s U H hW (X.2.2.2.2.2.2.2.2.2.1.2.2.2 A _ s H hFc (zz_env X hS))
  subst hav
  refine va_calli (va_runV (As := As) (rest := rest) ⟨X.1, X.2.1, X.2.2.1, X.2.2.2.1, X.2.2.2.2.1⟩ (hM H.size) (cwV n X.2.2.2.2.1 hG hw rfl rfl hd hroom) ⟨fun a U g mk q => by obtain ⟨q0, q1, qP, qK, qD, qE⟩ := q; exact ⟨q0, q1, qP, va_K.moved (u := U) (U := U.calling g mk a) (Vm.Alike.refl U.vm) qK, qD, X.2.2.2.2.2.2.2.2.2.1.2.1 _ U (U.calling g mk a) _ rfl qE⟩, va_recv hK hPc hcl he, fun U hU hW => ⟨rfl, by rw [hU], by rw [hU]; exact hPc, va_K.moved hW.alike hK, hDc.weaken (fun _ _ _ _ => trivial), by rw [hU]; exact hEc U hW⟩⟩ rfl hA hl.1 hst (lv_room hrest) hdg ⟨hcells, hslots⟩) hS (fun q _ h => hFc q h) hFc (fun r u t H1 locs ht hvm hw hB hz1 hk1 hS => ?_)
  obtain ⟨hP1, hK1, hD1⟩ := hB
  rw [ht] at hP1
  obtain ⟨hP, hD⟩ := va_join (wr := wr) (w1 := cs' u) hP hD isC isR hC hR hn hdis hk1 hFc hP1 hD1
  exact kk r u hw H1 locs ls hP hD hS hl
theorem zz_callVl {post : Int64 → S → Prop} {As rest : List Value} (X : zX E p s m args meth c cc nL Ts own D cl tys A H0) (hM : zMl E l y wc rm D cl tys av cs post cs') {C : String} {bytes : ByteArray} {maxL idx : Nat} {ret : Option FieldType} (n : Nat) (hG : GoodIn Ts (wsV own idx C y wc)) (hw : wc = Cond.code y bytes maxL ret :: wc') (hd : y.cls = C ∧ y.cls ≠ "java/lang/invoke/MethodHandle" ∧ y.cls ≠ "java/lang/invoke/VarHandle" ∧ (parseMethodDescriptor y.desc).map (fun d => d.parameters.length) = some n) (isC isR : List Nat) (wr : va_W) (hC : isC.map (fun i => ws[i]?) = cs.map some) (hC1 : isC.filterMap (fun i => ws[i]?) = cs) (hCn : va_nd isC = true) (hR : isR.map (fun i => ws[i]?) = wr.map some) (hn : va_nd isR = true) (hdis : ∀ i ∈ isR, i ∉ isC) (hroom : rm.frames + 1 ≤ R.frames ∧ 8 + (maxL + 11) + rm.locals ≤ R.locals) (q0 : Nat) {b ci : Nat} {T : u_T} {N : Nat} {fs : List Value} (he : cs[q0]? = some (b, .inr (ci, fs))) (hcl : cl[ci]? = some (C, T, N)) (hav : av = .ref b :: As) (hA : As.length = n) (hst : st = As.reverse ++ .ref b :: rest) (hrest : (rest.map fun v => v.category).sum ≤ 8) (hdg : decode cc pc = .ok (.invokevirtual idx, 3)) (hcells : cells + rm.cells ≤ R.cells) (hslots : slots + rm.slots ≤ R.slots)
    (kk : ∀ (r : Int64) (u : S), post r u → zG p l e R s m args below meth c Q nL D cl A H0 (wr ++ cs' u) lv (cells + rm.cells) (slots + rm.slots) (pc + 3) (.long r :: rest)) : zG p l e R s m args below meth c Q nL D cl A H0 ws lv cells slots pc st := by
  intro H locs ls hP hD hS hl
  have hK := X.2.2.2.2.2.1
  have hPc := hP.sub (ws' := cs) isC hC1
  have hDc := hD.sub (ws' := cs) isC hCn hC
  have hFc := va_free (wc := cs) hD hS X.2.2.2.2.2.2.1 isC hC
  have hEc : ∀ U : State, s.WarmedH U.vm → E (va_A cs H.size) U H := fun U hW => X.2.2.2.2.2.2.2.2.2.1.1 _ s U H hW (X.2.2.2.2.2.2.2.2.2.1.2.2.2 A _ s H hFc (zz_env X hS))
  subst hav
  refine va_calll (va_runV (As := As) (rest := rest) ⟨X.1, X.2.1, X.2.2.1, X.2.2.2.1, X.2.2.2.2.1⟩ (hM H.size) (cwV n X.2.2.2.2.1 hG hw rfl rfl hd hroom) ⟨fun a U g mk q => by obtain ⟨q0, q1, qP, qK, qD, qE⟩ := q; exact ⟨q0, q1, qP, va_K.moved (u := U) (U := U.calling g mk a) (Vm.Alike.refl U.vm) qK, qD, X.2.2.2.2.2.2.2.2.2.1.2.1 _ U (U.calling g mk a) _ rfl qE⟩, va_recv hK hPc hcl he, fun U hU hW => ⟨rfl, by rw [hU], by rw [hU]; exact hPc, va_K.moved hW.alike hK, hDc.weaken (fun _ _ _ _ => trivial), by rw [hU]; exact hEc U hW⟩⟩ rfl hA hl.1 hst (lv_room hrest) hdg ⟨hcells, hslots⟩) hS (fun q _ h => hFc q h) hFc (fun r u t H1 locs ht hvm hw hB hz1 hk1 hS => ?_)
  obtain ⟨hP1, hK1, hD1⟩ := hB
  rw [ht] at hP1
  obtain ⟨hP, hD⟩ := va_join (wr := wr) (w1 := cs' u) hP hD isC isR hC hR hn hdis hk1 hFc hP1 hD1
  exact kk r u hw H1 locs ls hP hD hS hl
theorem zz_callVv {post : S → Prop} {As rest : List Value} (X : zX E p s m args meth c cc nL Ts own D cl tys A H0) (hM : zMv E l y wc rm D cl tys av cs post cs') {C : String} {bytes : ByteArray} {maxL idx : Nat} {ret : Option FieldType} (n : Nat) (hG : GoodIn Ts (wsV own idx C y wc)) (hw : wc = Cond.code y bytes maxL ret :: wc') (hd : y.cls = C ∧ y.cls ≠ "java/lang/invoke/MethodHandle" ∧ y.cls ≠ "java/lang/invoke/VarHandle" ∧ (parseMethodDescriptor y.desc).map (fun d => d.parameters.length) = some n) (isC isR : List Nat) (wr : va_W) (hC : isC.map (fun i => ws[i]?) = cs.map some) (hC1 : isC.filterMap (fun i => ws[i]?) = cs) (hCn : va_nd isC = true) (hR : isR.map (fun i => ws[i]?) = wr.map some) (hn : va_nd isR = true) (hdis : ∀ i ∈ isR, i ∉ isC) (hroom : rm.frames + 1 ≤ R.frames ∧ 8 + (maxL + 11) + rm.locals ≤ R.locals) (q0 : Nat) {b ci : Nat} {T : u_T} {N : Nat} {fs : List Value} (he : cs[q0]? = some (b, .inr (ci, fs))) (hcl : cl[ci]? = some (C, T, N)) (hav : av = .ref b :: As) (hA : As.length = n) (hst : st = As.reverse ++ .ref b :: rest) (hrest : (rest.map fun v => v.category).sum ≤ 8) (hdg : decode cc pc = .ok (.invokevirtual idx, 3)) (hcells : cells + rm.cells ≤ R.cells) (hslots : slots + rm.slots ≤ R.slots)
    (kk : ∀ (u : S), post u → zG p l e R s m args below meth c Q nL D cl A H0 (wr ++ cs' u) lv (cells + rm.cells) (slots + rm.slots) (pc + 3) rest) : zG p l e R s m args below meth c Q nL D cl A H0 ws lv cells slots pc st := by
  intro H locs ls hP hD hS hl
  have hK := X.2.2.2.2.2.1
  have hPc := hP.sub (ws' := cs) isC hC1
  have hDc := hD.sub (ws' := cs) isC hCn hC
  have hFc := va_free (wc := cs) hD hS X.2.2.2.2.2.2.1 isC hC
  have hEc : ∀ U : State, s.WarmedH U.vm → E (va_A cs H.size) U H := fun U hW => X.2.2.2.2.2.2.2.2.2.1.1 _ s U H hW (X.2.2.2.2.2.2.2.2.2.1.2.2.2 A _ s H hFc (zz_env X hS))
  subst hav
  refine va_callv (va_runV (As := As) (rest := rest) ⟨X.1, X.2.1, X.2.2.1, X.2.2.2.1, X.2.2.2.2.1⟩ (hM H.size) (cwV n X.2.2.2.2.1 hG hw rfl rfl hd hroom) ⟨fun a U g mk q => by obtain ⟨q0, q1, qP, qK, qD, qE⟩ := q; exact ⟨q0, q1, qP, va_K.moved (u := U) (U := U.calling g mk a) (Vm.Alike.refl U.vm) qK, qD, X.2.2.2.2.2.2.2.2.2.1.2.1 _ U (U.calling g mk a) _ rfl qE⟩, va_recv hK hPc hcl he, fun U hU hW => ⟨rfl, by rw [hU], by rw [hU]; exact hPc, va_K.moved hW.alike hK, hDc.weaken (fun _ _ _ _ => trivial), by rw [hU]; exact hEc U hW⟩⟩ rfl hA hl.1 hst (lv_room hrest) hdg ⟨hcells, hslots⟩) hS (fun q _ h => hFc q h) hFc (fun u t H1 locs ht hvm hw hB hz1 hk1 hS => ?_)
  obtain ⟨hP1, hK1, hD1⟩ := hB
  rw [ht] at hP1
  obtain ⟨hP, hD⟩ := va_join (wr := wr) (w1 := cs' u) hP hD isC isR hC hR hn hdis hk1 hFc hP1 hD1
  exact kk u hw H1 locs ls hP hD hS hl
theorem zz_callVq {post : Option Nat → S → Prop} {As rest : List Value} (X : zX E p s m args meth c cc nL Ts own D cl tys A H0) (hM : zMq E l y wc rm D cl tys av cs post cs') {C : String} {bytes : ByteArray} {maxL idx : Nat} {ret : Option FieldType} (n : Nat) (hG : GoodIn Ts (wsV own idx C y wc)) (hw : wc = Cond.code y bytes maxL ret :: wc') (hd : y.cls = C ∧ y.cls ≠ "java/lang/invoke/MethodHandle" ∧ y.cls ≠ "java/lang/invoke/VarHandle" ∧ (parseMethodDescriptor y.desc).map (fun d => d.parameters.length) = some n) (isC isR : List Nat) (wr : va_W) (hC : isC.map (fun i => ws[i]?) = cs.map some) (hC1 : isC.filterMap (fun i => ws[i]?) = cs) (hCn : va_nd isC = true) (hR : isR.map (fun i => ws[i]?) = wr.map some) (hn : va_nd isR = true) (hdis : ∀ i ∈ isR, i ∉ isC) (hroom : rm.frames + 1 ≤ R.frames ∧ 8 + (maxL + 11) + rm.locals ≤ R.locals) (q0 : Nat) {b ci : Nat} {T : u_T} {N : Nat} {fs : List Value} (he : cs[q0]? = some (b, .inr (ci, fs))) (hcl : cl[ci]? = some (C, T, N)) (hav : av = .ref b :: As) (hA : As.length = n) (hst : st = As.reverse ++ .ref b :: rest) (hrest : (rest.map fun v => v.category).sum ≤ 8) (hdg : decode cc pc = .ok (.invokevirtual idx, 3)) (hcells : cells + rm.cells ≤ R.cells) (hslots : slots + rm.slots ≤ R.slots)
    (kk : ∀ (r : Option Nat) (u : S), post r u → zG p l e R s m args below meth c Q nL D cl A H0 (wr ++ cs' u) lv (cells + rm.cells) (slots + rm.slots) (pc + 3) (va_rf r :: rest)) : zG p l e R s m args below meth c Q nL D cl A H0 ws lv cells slots pc st := by
  intro H locs ls hP hD hS hl
  have hK := X.2.2.2.2.2.1
  have hPc := hP.sub (ws' := cs) isC hC1
  have hDc := hD.sub (ws' := cs) isC hCn hC
  have hFc := va_free (wc := cs) hD hS X.2.2.2.2.2.2.1 isC hC
  have hEc : ∀ U : State, s.WarmedH U.vm → E (va_A cs H.size) U H := fun U hW => X.2.2.2.2.2.2.2.2.2.1.1 _ s U H hW (X.2.2.2.2.2.2.2.2.2.1.2.2.2 A _ s H hFc (zz_env X hS))
  subst hav
  refine va_callq (va_runV (As := As) (rest := rest) ⟨X.1, X.2.1, X.2.2.1, X.2.2.2.1, X.2.2.2.2.1⟩ (hM H.size) (cwV n X.2.2.2.2.1 hG hw rfl rfl hd hroom) ⟨fun a U g mk q => by obtain ⟨q0, q1, qP, qK, qD, qE⟩ := q; exact ⟨q0, q1, qP, va_K.moved (u := U) (U := U.calling g mk a) (Vm.Alike.refl U.vm) qK, qD, X.2.2.2.2.2.2.2.2.2.1.2.1 _ U (U.calling g mk a) _ rfl qE⟩, va_recv hK hPc hcl he, fun U hU hW => ⟨rfl, by rw [hU], by rw [hU]; exact hPc, va_K.moved hW.alike hK, hDc.weaken (fun _ _ _ _ => trivial), by rw [hU]; exact hEc U hW⟩⟩ rfl hA hl.1 hst (lv_room hrest) hdg ⟨hcells, hslots⟩) hS (fun q _ h => hFc q h) hFc (fun r u t H1 locs ht hvm hw hB hz1 hk1 hS => ?_)
  obtain ⟨hP1, hK1, hD1⟩ := hB
  rw [ht] at hP1
  obtain ⟨hP, hD⟩ := va_join (wr := wr) (w1 := cs' u) hP hD isC isR hC hR hn hdis hk1 hFc hP1 hD1
  exact kk r u hw H1 locs ls hP hD hS hl
theorem zz_callSi {post : Int32 → S → Prop} {As rest : List Value} (X : zX E p s m args meth c cc nL Ts own D cl tys A H0) (hM : zMi E l y wc rm D cl tys av cs post cs') {bytes : ByteArray} {maxL idx : Nat} {ret : Option FieldType} (n : Nat) (hG : GoodIn Ts (va_wsS own idx y wc)) (hw : wc = Cond.code y bytes maxL ret :: wc') (hd : y.cls ≠ "java/lang/invoke/MethodHandle" ∧ y.cls ≠ "java/lang/invoke/VarHandle" ∧ (parseMethodDescriptor y.desc).map (fun d => d.parameters.length) = some n) (isC isR : List Nat) (wr : va_W) (hC : isC.map (fun i => ws[i]?) = cs.map some) (hC1 : isC.filterMap (fun i => ws[i]?) = cs) (hCn : va_nd isC = true) (hR : isR.map (fun i => ws[i]?) = wr.map some) (hn : va_nd isR = true) (hdis : ∀ i ∈ isR, i ∉ isC) (hroom : rm.frames + 1 ≤ R.frames ∧ 8 + (maxL + 11) + rm.locals ≤ R.locals) (hav : As = av) (hA : As.length = n) (hst : st = As.reverse ++ rest) (hrest : (rest.map fun v => v.category).sum ≤ 8) (hdg : decode cc pc = .ok (.invokestatic idx, 3)) (hcells : cells + rm.cells ≤ R.cells) (hslots : slots + rm.slots ≤ R.slots)
    (kk : ∀ (r : Int32) (u : S), post r u → zG p l e R s m args below meth c Q nL D cl A H0 (wr ++ cs' u) lv (cells + rm.cells) (slots + rm.slots) (pc + 3) (.int r :: rest)) : zG p l e R s m args below meth c Q nL D cl A H0 ws lv cells slots pc st := by
  intro H locs ls hP hD hS hl
  have hK := X.2.2.2.2.2.1
  have hPc := hP.sub (ws' := cs) isC hC1
  have hDc := hD.sub (ws' := cs) isC hCn hC
  have hFc := va_free (wc := cs) hD hS X.2.2.2.2.2.2.1 isC hC
  have hEc : ∀ U : State, s.WarmedH U.vm → E (va_A cs H.size) U H := fun U hW => X.2.2.2.2.2.2.2.2.2.1.1 _ s U H hW (X.2.2.2.2.2.2.2.2.2.1.2.2.2 A _ s H hFc (zz_env X hS))
  subst hav
  refine va_calli (va_runS (As := As) (rest := rest) ⟨X.1, X.2.1, X.2.2.1, X.2.2.2.1, X.2.2.2.2.1⟩ (hM H.size) (va_cwS n X.2.2.2.2.1 hG hw rfl rfl hd hroom) ⟨fun a U g mk q => by obtain ⟨q0, q1, qP, qK, qD, qE⟩ := q; exact ⟨q0, q1, qP, va_K.moved (u := U) (U := U.calling g mk a) (Vm.Alike.refl U.vm) qK, qD, X.2.2.2.2.2.2.2.2.2.1.2.1 _ U (U.calling g mk a) _ rfl qE⟩, fun U hU hW => ⟨rfl, by rw [hU], by rw [hU]; exact hPc, va_K.moved hW.alike hK, hDc.weaken (fun _ _ _ _ => trivial), by rw [hU]; exact hEc U hW⟩⟩ rfl hA hl.1 hst (lv_room hrest) hdg ⟨hcells, hslots⟩) hS (fun q _ h => hFc q h) hFc (fun r u t H1 locs ht hvm hw hB hz1 hk1 hS => ?_)
  obtain ⟨hP1, hK1, hD1⟩ := hB
  rw [ht] at hP1
  obtain ⟨hP, hD⟩ := va_join (wr := wr) (w1 := cs' u) hP hD isC isR hC hR hn hdis hk1 hFc hP1 hD1
  exact kk r u hw H1 locs ls hP hD hS hl
theorem zz_callSl {post : Int64 → S → Prop} {As rest : List Value} (X : zX E p s m args meth c cc nL Ts own D cl tys A H0) (hM : zMl E l y wc rm D cl tys av cs post cs') {bytes : ByteArray} {maxL idx : Nat} {ret : Option FieldType} (n : Nat) (hG : GoodIn Ts (va_wsS own idx y wc)) (hw : wc = Cond.code y bytes maxL ret :: wc') (hd : y.cls ≠ "java/lang/invoke/MethodHandle" ∧ y.cls ≠ "java/lang/invoke/VarHandle" ∧ (parseMethodDescriptor y.desc).map (fun d => d.parameters.length) = some n) (isC isR : List Nat) (wr : va_W) (hC : isC.map (fun i => ws[i]?) = cs.map some) (hC1 : isC.filterMap (fun i => ws[i]?) = cs) (hCn : va_nd isC = true) (hR : isR.map (fun i => ws[i]?) = wr.map some) (hn : va_nd isR = true) (hdis : ∀ i ∈ isR, i ∉ isC) (hroom : rm.frames + 1 ≤ R.frames ∧ 8 + (maxL + 11) + rm.locals ≤ R.locals) (hav : As = av) (hA : As.length = n) (hst : st = As.reverse ++ rest) (hrest : (rest.map fun v => v.category).sum ≤ 8) (hdg : decode cc pc = .ok (.invokestatic idx, 3)) (hcells : cells + rm.cells ≤ R.cells) (hslots : slots + rm.slots ≤ R.slots)
    (kk : ∀ (r : Int64) (u : S), post r u → zG p l e R s m args below meth c Q nL D cl A H0 (wr ++ cs' u) lv (cells + rm.cells) (slots + rm.slots) (pc + 3) (.long r :: rest)) : zG p l e R s m args below meth c Q nL D cl A H0 ws lv cells slots pc st := by
  intro H locs ls hP hD hS hl
  have hK := X.2.2.2.2.2.1
  have hPc := hP.sub (ws' := cs) isC hC1
  have hDc := hD.sub (ws' := cs) isC hCn hC
  have hFc := va_free (wc := cs) hD hS X.2.2.2.2.2.2.1 isC hC
  have hEc : ∀ U : State, s.WarmedH U.vm → E (va_A cs H.size) U H := fun U hW => X.2.2.2.2.2.2.2.2.2.1.1 _ s U H hW (X.2.2.2.2.2.2.2.2.2.1.2.2.2 A _ s H hFc (zz_env X hS))
  subst hav
  refine va_calll (va_runS (As := As) (rest := rest) ⟨X.1, X.2.1, X.2.2.1, X.2.2.2.1, X.2.2.2.2.1⟩ (hM H.size) (va_cwS n X.2.2.2.2.1 hG hw rfl rfl hd hroom) ⟨fun a U g mk q => by obtain ⟨q0, q1, qP, qK, qD, qE⟩ := q; exact ⟨q0, q1, qP, va_K.moved (u := U) (U := U.calling g mk a) (Vm.Alike.refl U.vm) qK, qD, X.2.2.2.2.2.2.2.2.2.1.2.1 _ U (U.calling g mk a) _ rfl qE⟩, fun U hU hW => ⟨rfl, by rw [hU], by rw [hU]; exact hPc, va_K.moved hW.alike hK, hDc.weaken (fun _ _ _ _ => trivial), by rw [hU]; exact hEc U hW⟩⟩ rfl hA hl.1 hst (lv_room hrest) hdg ⟨hcells, hslots⟩) hS (fun q _ h => hFc q h) hFc (fun r u t H1 locs ht hvm hw hB hz1 hk1 hS => ?_)
  obtain ⟨hP1, hK1, hD1⟩ := hB
  rw [ht] at hP1
  obtain ⟨hP, hD⟩ := va_join (wr := wr) (w1 := cs' u) hP hD isC isR hC hR hn hdis hk1 hFc hP1 hD1
  exact kk r u hw H1 locs ls hP hD hS hl
theorem zz_callSv {post : S → Prop} {As rest : List Value} (X : zX E p s m args meth c cc nL Ts own D cl tys A H0) (hM : zMv E l y wc rm D cl tys av cs post cs') {bytes : ByteArray} {maxL idx : Nat} {ret : Option FieldType} (n : Nat) (hG : GoodIn Ts (va_wsS own idx y wc)) (hw : wc = Cond.code y bytes maxL ret :: wc') (hd : y.cls ≠ "java/lang/invoke/MethodHandle" ∧ y.cls ≠ "java/lang/invoke/VarHandle" ∧ (parseMethodDescriptor y.desc).map (fun d => d.parameters.length) = some n) (isC isR : List Nat) (wr : va_W) (hC : isC.map (fun i => ws[i]?) = cs.map some) (hC1 : isC.filterMap (fun i => ws[i]?) = cs) (hCn : va_nd isC = true) (hR : isR.map (fun i => ws[i]?) = wr.map some) (hn : va_nd isR = true) (hdis : ∀ i ∈ isR, i ∉ isC) (hroom : rm.frames + 1 ≤ R.frames ∧ 8 + (maxL + 11) + rm.locals ≤ R.locals) (hav : As = av) (hA : As.length = n) (hst : st = As.reverse ++ rest) (hrest : (rest.map fun v => v.category).sum ≤ 8) (hdg : decode cc pc = .ok (.invokestatic idx, 3)) (hcells : cells + rm.cells ≤ R.cells) (hslots : slots + rm.slots ≤ R.slots)
    (kk : ∀ (u : S), post u → zG p l e R s m args below meth c Q nL D cl A H0 (wr ++ cs' u) lv (cells + rm.cells) (slots + rm.slots) (pc + 3) rest) : zG p l e R s m args below meth c Q nL D cl A H0 ws lv cells slots pc st := by
  intro H locs ls hP hD hS hl
  have hK := X.2.2.2.2.2.1
  have hPc := hP.sub (ws' := cs) isC hC1
  have hDc := hD.sub (ws' := cs) isC hCn hC
  have hFc := va_free (wc := cs) hD hS X.2.2.2.2.2.2.1 isC hC
  have hEc : ∀ U : State, s.WarmedH U.vm → E (va_A cs H.size) U H := fun U hW => X.2.2.2.2.2.2.2.2.2.1.1 _ s U H hW (X.2.2.2.2.2.2.2.2.2.1.2.2.2 A _ s H hFc (zz_env X hS))
  subst hav
  refine va_callv (va_runS (As := As) (rest := rest) ⟨X.1, X.2.1, X.2.2.1, X.2.2.2.1, X.2.2.2.2.1⟩ (hM H.size) (va_cwS n X.2.2.2.2.1 hG hw rfl rfl hd hroom) ⟨fun a U g mk q => by obtain ⟨q0, q1, qP, qK, qD, qE⟩ := q; exact ⟨q0, q1, qP, va_K.moved (u := U) (U := U.calling g mk a) (Vm.Alike.refl U.vm) qK, qD, X.2.2.2.2.2.2.2.2.2.1.2.1 _ U (U.calling g mk a) _ rfl qE⟩, fun U hU hW => ⟨rfl, by rw [hU], by rw [hU]; exact hPc, va_K.moved hW.alike hK, hDc.weaken (fun _ _ _ _ => trivial), by rw [hU]; exact hEc U hW⟩⟩ rfl hA hl.1 hst (lv_room hrest) hdg ⟨hcells, hslots⟩) hS (fun q _ h => hFc q h) hFc (fun u t H1 locs ht hvm hw hB hz1 hk1 hS => ?_)
  obtain ⟨hP1, hK1, hD1⟩ := hB
  rw [ht] at hP1
  obtain ⟨hP, hD⟩ := va_join (wr := wr) (w1 := cs' u) hP hD isC isR hC hR hn hdis hk1 hFc hP1 hD1
  exact kk u hw H1 locs ls hP hD hS hl
theorem zz_callSq {post : Option Nat → S → Prop} {As rest : List Value} (X : zX E p s m args meth c cc nL Ts own D cl tys A H0) (hM : zMq E l y wc rm D cl tys av cs post cs') {bytes : ByteArray} {maxL idx : Nat} {ret : Option FieldType} (n : Nat) (hG : GoodIn Ts (va_wsS own idx y wc)) (hw : wc = Cond.code y bytes maxL ret :: wc') (hd : y.cls ≠ "java/lang/invoke/MethodHandle" ∧ y.cls ≠ "java/lang/invoke/VarHandle" ∧ (parseMethodDescriptor y.desc).map (fun d => d.parameters.length) = some n) (isC isR : List Nat) (wr : va_W) (hC : isC.map (fun i => ws[i]?) = cs.map some) (hC1 : isC.filterMap (fun i => ws[i]?) = cs) (hCn : va_nd isC = true) (hR : isR.map (fun i => ws[i]?) = wr.map some) (hn : va_nd isR = true) (hdis : ∀ i ∈ isR, i ∉ isC) (hroom : rm.frames + 1 ≤ R.frames ∧ 8 + (maxL + 11) + rm.locals ≤ R.locals) (hav : As = av) (hA : As.length = n) (hst : st = As.reverse ++ rest) (hrest : (rest.map fun v => v.category).sum ≤ 8) (hdg : decode cc pc = .ok (.invokestatic idx, 3)) (hcells : cells + rm.cells ≤ R.cells) (hslots : slots + rm.slots ≤ R.slots)
    (kk : ∀ (r : Option Nat) (u : S), post r u → zG p l e R s m args below meth c Q nL D cl A H0 (wr ++ cs' u) lv (cells + rm.cells) (slots + rm.slots) (pc + 3) (va_rf r :: rest)) : zG p l e R s m args below meth c Q nL D cl A H0 ws lv cells slots pc st := by
  intro H locs ls hP hD hS hl
  have hK := X.2.2.2.2.2.1
  have hPc := hP.sub (ws' := cs) isC hC1
  have hDc := hD.sub (ws' := cs) isC hCn hC
  have hFc := va_free (wc := cs) hD hS X.2.2.2.2.2.2.1 isC hC
  have hEc : ∀ U : State, s.WarmedH U.vm → E (va_A cs H.size) U H := fun U hW => X.2.2.2.2.2.2.2.2.2.1.1 _ s U H hW (X.2.2.2.2.2.2.2.2.2.1.2.2.2 A _ s H hFc (zz_env X hS))
  subst hav
  refine va_callq (va_runS (As := As) (rest := rest) ⟨X.1, X.2.1, X.2.2.1, X.2.2.2.1, X.2.2.2.2.1⟩ (hM H.size) (va_cwS n X.2.2.2.2.1 hG hw rfl rfl hd hroom) ⟨fun a U g mk q => by obtain ⟨q0, q1, qP, qK, qD, qE⟩ := q; exact ⟨q0, q1, qP, va_K.moved (u := U) (U := U.calling g mk a) (Vm.Alike.refl U.vm) qK, qD, X.2.2.2.2.2.2.2.2.2.1.2.1 _ U (U.calling g mk a) _ rfl qE⟩, fun U hU hW => ⟨rfl, by rw [hU], by rw [hU]; exact hPc, va_K.moved hW.alike hK, hDc.weaken (fun _ _ _ _ => trivial), by rw [hU]; exact hEc U hW⟩⟩ rfl hA hl.1 hst (lv_room hrest) hdg ⟨hcells, hslots⟩) hS (fun q _ h => hFc q h) hFc (fun r u t H1 locs ht hvm hw hB hz1 hk1 hS => ?_)
  obtain ⟨hP1, hK1, hD1⟩ := hB
  rw [ht] at hP1
  obtain ⟨hP, hD⟩ := va_join (wr := wr) (w1 := cs' u) hP hD isC isR hC hR hn hdis hk1 hFc hP1 hD1
  exact kk r u hw H1 locs ls hP hD hS hl
theorem zz_callIv {post : S → Prop} {As rest : List Value} (X : zX E p s m args meth c cc nL Ts own D cl tys A H0) (hM : zMv E l y wc rm D cl tys av cs post cs') {bytes : ByteArray} {maxL idx : Nat} (n : Nat) (hG : GoodIn Ts wc) (hini : Cond.initialized y.cls ∈ Ts) (hlk : Cond.methodLink own idx y ∈ Ts) (hins : Cond.instanceMethod y ∈ Ts) (hy1 : y.name = "<init>") (hw : wc = Cond.code y bytes maxL none :: wc') (hd : y.cls ≠ "java/lang/invoke/MethodHandle" ∧ y.cls ≠ "java/lang/invoke/VarHandle" ∧ (parseMethodDescriptor y.desc).map (fun d => d.parameters.length) = some n) (isC isR : List Nat) (wr : va_W) (hC : isC.map (fun i => ws[i]?) = cs.map some) (hC1 : isC.filterMap (fun i => ws[i]?) = cs) (hCn : va_nd isC = true) (hR : isR.map (fun i => ws[i]?) = wr.map some) (hn : va_nd isR = true) (hdis : ∀ i ∈ isR, i ∉ isC) (hroom : rm.frames + 1 ≤ R.frames ∧ 8 + (maxL + 11) + rm.locals ≤ R.locals) {b : Nat} (hav : av = .ref b :: As) (hA : As.length = n) (hst : st = As.reverse ++ .ref b :: rest) (hrest : (rest.map fun v => v.category).sum ≤ 8) (hdg : decode cc pc = .ok (.invokespecial idx, 3)) (hcells : cells + rm.cells ≤ R.cells) (hslots : slots + rm.slots ≤ R.slots)
    (kk : ∀ (u : S), post u → zG p l e R s m args below meth c Q nL D cl A H0 (wr ++ cs' u) lv (cells + rm.cells) (slots + rm.slots) (pc + 3) rest) : zG p l e R s m args below meth c Q nL D cl A H0 ws lv cells slots pc st := by
  intro H locs ls hP hD hS hl
  have hK := X.2.2.2.2.2.1
  have hPc := hP.sub (ws' := cs) isC hC1
  have hDc := hD.sub (ws' := cs) isC hCn hC
  have hFc := va_free (wc := cs) hD hS X.2.2.2.2.2.2.1 isC hC
  have hEc : ∀ U : State, s.WarmedH U.vm → E (va_A cs H.size) U H := fun U hW => X.2.2.2.2.2.2.2.2.2.1.1 _ s U H hW (X.2.2.2.2.2.2.2.2.2.1.2.2.2 A _ s H hFc (zz_env X hS))
  subst hav
  refine va_callv (va_runI (As := As) (rest := rest) ⟨X.1, X.2.1, X.2.2.1, X.2.2.2.1, X.2.2.2.2.1⟩ (hM H.size) (cwI n X.2.2.2.2.1 hG hw rfl rfl (X.2.2.2.2.1 _ hini) (X.2.2.2.2.1 _ hlk) (X.2.2.2.2.1 _ hins) hy1 hd hroom) ⟨fun a U g mk q => by obtain ⟨q0, q1, qP, qK, qD, qE⟩ := q; exact ⟨q0, q1, qP, va_K.moved (u := U) (U := U.calling g mk a) (Vm.Alike.refl U.vm) qK, qD, X.2.2.2.2.2.2.2.2.2.1.2.1 _ U (U.calling g mk a) _ rfl qE⟩, fun U hU hW => ⟨rfl, by rw [hU], by rw [hU]; exact hPc, va_K.moved hW.alike hK, hDc.weaken (fun _ _ _ _ => trivial), by rw [hU]; exact hEc U hW⟩⟩ rfl hA hl.1 hst (lv_room hrest) hdg ⟨hcells, hslots⟩) hS (fun q _ h => hFc q h) hFc (fun u t H1 locs ht hvm hw hB hz1 hk1 hS => ?_)
  obtain ⟨hP1, hK1, hD1⟩ := hB
  rw [ht] at hP1
  obtain ⟨hP, hD⟩ := va_join (wr := wr) (w1 := cs' u) hP hD isC isR hC hR hn hdis hk1 hFc hP1 hD1
  exact kk u hw H1 locs ls hP hD hS hl
theorem zz_callTi {post : Int32 → S → Prop} {As rest : List Value} (X : zX E p s m args meth c cc nL Ts own D cl tys A H0) (hM : zMi E l y wc rm D cl tys av cs post cs') {C : String} {bytes : ByteArray} {maxL idx : Nat} {ret : Option FieldType} (n : Nat) (hG : GoodIn Ts (wsV own idx C y wc)) (hw : wc = Cond.code y bytes maxL ret :: wc') (hd : y.cls = C ∧ y.cls ≠ "java/lang/invoke/MethodHandle" ∧ y.cls ≠ "java/lang/invoke/VarHandle" ∧ (parseMethodDescriptor y.desc).map (fun d => d.parameters.length) = some n) (isC isR : List Nat) (wr : va_W) (hC : isC.map (fun i => ws[i]?) = cs.map some) (hC1 : isC.filterMap (fun i => ws[i]?) = cs) (hCn : va_nd isC = true) (hR : isR.map (fun i => ws[i]?) = wr.map some) (hn : va_nd isR = true) (hdis : ∀ i ∈ isR, i ∉ isC) (hroom : rm.frames + 1 ≤ R.frames ∧ 8 + (maxL + 11) + rm.locals ≤ R.locals) {b : Nat} (hrec : ∀ (H : Heap) (locs : List Loc), va_S A H0 H locs → ∃ cell : Cell, H[b]? = some cell ∧ cell.vm.isStatics = false ∧ s.vm.findClass C = some cell.cls) (hav : av = .ref b :: As) (hA : As.length = n) (hst : st = As.reverse ++ .ref b :: rest) (hrest : (rest.map fun v => v.category).sum ≤ 8) (hdg : decode cc pc = .ok (.invokevirtual idx, 3)) (hcells : cells + rm.cells ≤ R.cells) (hslots : slots + rm.slots ≤ R.slots)
    (kk : ∀ (r : Int32) (u : S), post r u → zG p l e R s m args below meth c Q nL D cl A H0 (wr ++ cs' u) lv (cells + rm.cells) (slots + rm.slots) (pc + 3) (.int r :: rest)) : zG p l e R s m args below meth c Q nL D cl A H0 ws lv cells slots pc st := by
  intro H locs ls hP hD hS hl
  have hK := X.2.2.2.2.2.1
  have hPc := hP.sub (ws' := cs) isC hC1
  have hDc := hD.sub (ws' := cs) isC hCn hC
  have hFc := va_free (wc := cs) hD hS X.2.2.2.2.2.2.1 isC hC
  have hEc : ∀ U : State, s.WarmedH U.vm → E (va_A cs H.size) U H := fun U hW => X.2.2.2.2.2.2.2.2.2.1.1 _ s U H hW (X.2.2.2.2.2.2.2.2.2.1.2.2.2 A _ s H hFc (zz_env X hS))
  subst hav
  refine va_calli (va_runV (As := As) (rest := rest) ⟨X.1, X.2.1, X.2.2.1, X.2.2.2.1, X.2.2.2.2.1⟩ (hM H.size) (cwV n X.2.2.2.2.1 hG hw rfl rfl hd hroom) ⟨fun a U g mk q => by obtain ⟨q0, q1, qP, qK, qD, qE⟩ := q; exact ⟨q0, q1, qP, va_K.moved (u := U) (U := U.calling g mk a) (Vm.Alike.refl U.vm) qK, qD, X.2.2.2.2.2.2.2.2.2.1.2.1 _ U (U.calling g mk a) _ rfl qE⟩, hrec H locs hS, fun U hU hW => ⟨rfl, by rw [hU], by rw [hU]; exact hPc, va_K.moved hW.alike hK, hDc.weaken (fun _ _ _ _ => trivial), by rw [hU]; exact hEc U hW⟩⟩ rfl hA hl.1 hst (lv_room hrest) hdg ⟨hcells, hslots⟩) hS (fun q _ h => hFc q h) hFc (fun r u t H1 locs ht hvm hw hB hz1 hk1 hS => ?_)
  obtain ⟨hP1, hK1, hD1⟩ := hB
  rw [ht] at hP1
  obtain ⟨hP, hD⟩ := va_join (wr := wr) (w1 := cs' u) hP hD isC isR hC hR hn hdis hk1 hFc hP1 hD1
  exact kk r u hw H1 locs ls hP hD hS hl
theorem zz_callTl {post : Int64 → S → Prop} {As rest : List Value} (X : zX E p s m args meth c cc nL Ts own D cl tys A H0) (hM : zMl E l y wc rm D cl tys av cs post cs') {C : String} {bytes : ByteArray} {maxL idx : Nat} {ret : Option FieldType} (n : Nat) (hG : GoodIn Ts (wsV own idx C y wc)) (hw : wc = Cond.code y bytes maxL ret :: wc') (hd : y.cls = C ∧ y.cls ≠ "java/lang/invoke/MethodHandle" ∧ y.cls ≠ "java/lang/invoke/VarHandle" ∧ (parseMethodDescriptor y.desc).map (fun d => d.parameters.length) = some n) (isC isR : List Nat) (wr : va_W) (hC : isC.map (fun i => ws[i]?) = cs.map some) (hC1 : isC.filterMap (fun i => ws[i]?) = cs) (hCn : va_nd isC = true) (hR : isR.map (fun i => ws[i]?) = wr.map some) (hn : va_nd isR = true) (hdis : ∀ i ∈ isR, i ∉ isC) (hroom : rm.frames + 1 ≤ R.frames ∧ 8 + (maxL + 11) + rm.locals ≤ R.locals) {b : Nat} (hrec : ∀ (H : Heap) (locs : List Loc), va_S A H0 H locs → ∃ cell : Cell, H[b]? = some cell ∧ cell.vm.isStatics = false ∧ s.vm.findClass C = some cell.cls) (hav : av = .ref b :: As) (hA : As.length = n) (hst : st = As.reverse ++ .ref b :: rest) (hrest : (rest.map fun v => v.category).sum ≤ 8) (hdg : decode cc pc = .ok (.invokevirtual idx, 3)) (hcells : cells + rm.cells ≤ R.cells) (hslots : slots + rm.slots ≤ R.slots)
    (kk : ∀ (r : Int64) (u : S), post r u → zG p l e R s m args below meth c Q nL D cl A H0 (wr ++ cs' u) lv (cells + rm.cells) (slots + rm.slots) (pc + 3) (.long r :: rest)) : zG p l e R s m args below meth c Q nL D cl A H0 ws lv cells slots pc st := by
  intro H locs ls hP hD hS hl
  have hK := X.2.2.2.2.2.1
  have hPc := hP.sub (ws' := cs) isC hC1
  have hDc := hD.sub (ws' := cs) isC hCn hC
  have hFc := va_free (wc := cs) hD hS X.2.2.2.2.2.2.1 isC hC
  have hEc : ∀ U : State, s.WarmedH U.vm → E (va_A cs H.size) U H := fun U hW => X.2.2.2.2.2.2.2.2.2.1.1 _ s U H hW (X.2.2.2.2.2.2.2.2.2.1.2.2.2 A _ s H hFc (zz_env X hS))
  subst hav
  refine va_calll (va_runV (As := As) (rest := rest) ⟨X.1, X.2.1, X.2.2.1, X.2.2.2.1, X.2.2.2.2.1⟩ (hM H.size) (cwV n X.2.2.2.2.1 hG hw rfl rfl hd hroom) ⟨fun a U g mk q => by obtain ⟨q0, q1, qP, qK, qD, qE⟩ := q; exact ⟨q0, q1, qP, va_K.moved (u := U) (U := U.calling g mk a) (Vm.Alike.refl U.vm) qK, qD, X.2.2.2.2.2.2.2.2.2.1.2.1 _ U (U.calling g mk a) _ rfl qE⟩, hrec H locs hS, fun U hU hW => ⟨rfl, by rw [hU], by rw [hU]; exact hPc, va_K.moved hW.alike hK, hDc.weaken (fun _ _ _ _ => trivial), by rw [hU]; exact hEc U hW⟩⟩ rfl hA hl.1 hst (lv_room hrest) hdg ⟨hcells, hslots⟩) hS (fun q _ h => hFc q h) hFc (fun r u t H1 locs ht hvm hw hB hz1 hk1 hS => ?_)
  obtain ⟨hP1, hK1, hD1⟩ := hB
  rw [ht] at hP1
  obtain ⟨hP, hD⟩ := va_join (wr := wr) (w1 := cs' u) hP hD isC isR hC hR hn hdis hk1 hFc hP1 hD1
  exact kk r u hw H1 locs ls hP hD hS hl
theorem zz_callTv {post : S → Prop} {As rest : List Value} (X : zX E p s m args meth c cc nL Ts own D cl tys A H0) (hM : zMv E l y wc rm D cl tys av cs post cs') {C : String} {bytes : ByteArray} {maxL idx : Nat} {ret : Option FieldType} (n : Nat) (hG : GoodIn Ts (wsV own idx C y wc)) (hw : wc = Cond.code y bytes maxL ret :: wc') (hd : y.cls = C ∧ y.cls ≠ "java/lang/invoke/MethodHandle" ∧ y.cls ≠ "java/lang/invoke/VarHandle" ∧ (parseMethodDescriptor y.desc).map (fun d => d.parameters.length) = some n) (isC isR : List Nat) (wr : va_W) (hC : isC.map (fun i => ws[i]?) = cs.map some) (hC1 : isC.filterMap (fun i => ws[i]?) = cs) (hCn : va_nd isC = true) (hR : isR.map (fun i => ws[i]?) = wr.map some) (hn : va_nd isR = true) (hdis : ∀ i ∈ isR, i ∉ isC) (hroom : rm.frames + 1 ≤ R.frames ∧ 8 + (maxL + 11) + rm.locals ≤ R.locals) {b : Nat} (hrec : ∀ (H : Heap) (locs : List Loc), va_S A H0 H locs → ∃ cell : Cell, H[b]? = some cell ∧ cell.vm.isStatics = false ∧ s.vm.findClass C = some cell.cls) (hav : av = .ref b :: As) (hA : As.length = n) (hst : st = As.reverse ++ .ref b :: rest) (hrest : (rest.map fun v => v.category).sum ≤ 8) (hdg : decode cc pc = .ok (.invokevirtual idx, 3)) (hcells : cells + rm.cells ≤ R.cells) (hslots : slots + rm.slots ≤ R.slots)
    (kk : ∀ (u : S), post u → zG p l e R s m args below meth c Q nL D cl A H0 (wr ++ cs' u) lv (cells + rm.cells) (slots + rm.slots) (pc + 3) rest) : zG p l e R s m args below meth c Q nL D cl A H0 ws lv cells slots pc st := by
  intro H locs ls hP hD hS hl
  have hK := X.2.2.2.2.2.1
  have hPc := hP.sub (ws' := cs) isC hC1
  have hDc := hD.sub (ws' := cs) isC hCn hC
  have hFc := va_free (wc := cs) hD hS X.2.2.2.2.2.2.1 isC hC
  have hEc : ∀ U : State, s.WarmedH U.vm → E (va_A cs H.size) U H := fun U hW => X.2.2.2.2.2.2.2.2.2.1.1 _ s U H hW (X.2.2.2.2.2.2.2.2.2.1.2.2.2 A _ s H hFc (zz_env X hS))
  subst hav
  refine va_callv (va_runV (As := As) (rest := rest) ⟨X.1, X.2.1, X.2.2.1, X.2.2.2.1, X.2.2.2.2.1⟩ (hM H.size) (cwV n X.2.2.2.2.1 hG hw rfl rfl hd hroom) ⟨fun a U g mk q => by obtain ⟨q0, q1, qP, qK, qD, qE⟩ := q; exact ⟨q0, q1, qP, va_K.moved (u := U) (U := U.calling g mk a) (Vm.Alike.refl U.vm) qK, qD, X.2.2.2.2.2.2.2.2.2.1.2.1 _ U (U.calling g mk a) _ rfl qE⟩, hrec H locs hS, fun U hU hW => ⟨rfl, by rw [hU], by rw [hU]; exact hPc, va_K.moved hW.alike hK, hDc.weaken (fun _ _ _ _ => trivial), by rw [hU]; exact hEc U hW⟩⟩ rfl hA hl.1 hst (lv_room hrest) hdg ⟨hcells, hslots⟩) hS (fun q _ h => hFc q h) hFc (fun u t H1 locs ht hvm hw hB hz1 hk1 hS => ?_)
  obtain ⟨hP1, hK1, hD1⟩ := hB
  rw [ht] at hP1
  obtain ⟨hP, hD⟩ := va_join (wr := wr) (w1 := cs' u) hP hD isC isR hC hR hn hdis hk1 hFc hP1 hD1
  exact kk u hw H1 locs ls hP hD hS hl
theorem zz_callTq {post : Option Nat → S → Prop} {As rest : List Value} (X : zX E p s m args meth c cc nL Ts own D cl tys A H0) (hM : zMq E l y wc rm D cl tys av cs post cs') {C : String} {bytes : ByteArray} {maxL idx : Nat} {ret : Option FieldType} (n : Nat) (hG : GoodIn Ts (wsV own idx C y wc)) (hw : wc = Cond.code y bytes maxL ret :: wc') (hd : y.cls = C ∧ y.cls ≠ "java/lang/invoke/MethodHandle" ∧ y.cls ≠ "java/lang/invoke/VarHandle" ∧ (parseMethodDescriptor y.desc).map (fun d => d.parameters.length) = some n) (isC isR : List Nat) (wr : va_W) (hC : isC.map (fun i => ws[i]?) = cs.map some) (hC1 : isC.filterMap (fun i => ws[i]?) = cs) (hCn : va_nd isC = true) (hR : isR.map (fun i => ws[i]?) = wr.map some) (hn : va_nd isR = true) (hdis : ∀ i ∈ isR, i ∉ isC) (hroom : rm.frames + 1 ≤ R.frames ∧ 8 + (maxL + 11) + rm.locals ≤ R.locals) {b : Nat} (hrec : ∀ (H : Heap) (locs : List Loc), va_S A H0 H locs → ∃ cell : Cell, H[b]? = some cell ∧ cell.vm.isStatics = false ∧ s.vm.findClass C = some cell.cls) (hav : av = .ref b :: As) (hA : As.length = n) (hst : st = As.reverse ++ .ref b :: rest) (hrest : (rest.map fun v => v.category).sum ≤ 8) (hdg : decode cc pc = .ok (.invokevirtual idx, 3)) (hcells : cells + rm.cells ≤ R.cells) (hslots : slots + rm.slots ≤ R.slots)
    (kk : ∀ (r : Option Nat) (u : S), post r u → zG p l e R s m args below meth c Q nL D cl A H0 (wr ++ cs' u) lv (cells + rm.cells) (slots + rm.slots) (pc + 3) (va_rf r :: rest)) : zG p l e R s m args below meth c Q nL D cl A H0 ws lv cells slots pc st := by
  intro H locs ls hP hD hS hl
  have hK := X.2.2.2.2.2.1
  have hPc := hP.sub (ws' := cs) isC hC1
  have hDc := hD.sub (ws' := cs) isC hCn hC
  have hFc := va_free (wc := cs) hD hS X.2.2.2.2.2.2.1 isC hC
  have hEc : ∀ U : State, s.WarmedH U.vm → E (va_A cs H.size) U H := fun U hW => X.2.2.2.2.2.2.2.2.2.1.1 _ s U H hW (X.2.2.2.2.2.2.2.2.2.1.2.2.2 A _ s H hFc (zz_env X hS))
  subst hav
  refine va_callq (va_runV (As := As) (rest := rest) ⟨X.1, X.2.1, X.2.2.1, X.2.2.2.1, X.2.2.2.2.1⟩ (hM H.size) (cwV n X.2.2.2.2.1 hG hw rfl rfl hd hroom) ⟨fun a U g mk q => by obtain ⟨q0, q1, qP, qK, qD, qE⟩ := q; exact ⟨q0, q1, qP, va_K.moved (u := U) (U := U.calling g mk a) (Vm.Alike.refl U.vm) qK, qD, X.2.2.2.2.2.2.2.2.2.1.2.1 _ U (U.calling g mk a) _ rfl qE⟩, hrec H locs hS, fun U hU hW => ⟨rfl, by rw [hU], by rw [hU]; exact hPc, va_K.moved hW.alike hK, hDc.weaken (fun _ _ _ _ => trivial), by rw [hU]; exact hEc U hW⟩⟩ rfl hA hl.1 hst (lv_room hrest) hdg ⟨hcells, hslots⟩) hS (fun q _ h => hFc q h) hFc (fun r u t H1 locs ht hvm hw hB hz1 hk1 hS => ?_)
  obtain ⟨hP1, hK1, hD1⟩ := hB
  rw [ht] at hP1
  obtain ⟨hP, hD⟩ := va_join (wr := wr) (w1 := cs' u) hP hD isC isR hC hR hn hdis hk1 hFc hP1 hD1
  exact kk r u hw H1 locs ls hP hD hS hl
theorem zz_new {C : String} {T : u_T} {N ci index : Nat} {fs : List Value} (X : zX E p s m args meth c cc nL Ts own D cl tys A H0) (ty : Nat → FieldType) (hty : ∀ k, k < N → parseFieldDescriptor (T k).2.2.1 = some (ty k)) (hin : ∀ w ∈ u_ws C T N, w ∈ Ts) (hcl : Cond.classLink own index C ∈ Ts) (hinst : Cond.instantiable C N ∈ Ts) (hini : Cond.initialized C ∈ Ts) (hc : cl[ci]? = some (C, T, N)) (hfs : ∀ j, j < N → defaultValue (ty j) = vp_V fs j) (hcells : cells + 1 ≤ R.cells) (hslots : slots + N ≤ R.slots) (hdg : decode cc pc = .ok (.new index, 3))
    (kk : ∀ q : Nat, zG p l e R s m args below meth c Q nL D cl A H0 (ws ++ [(q, .inr (ci, fs))]) lv (cells + 1) (slots + N) (pc + 3) (.ref q :: st)) : zG p l e R s m args below meth c Q nL D cl A H0 ws lv cells slots pc st :=
  fun H locs ls hP hD hS hl => va_new X.1 X.2.1 X.2.2.2.2.1 hin ty hty X.2.2.2.1 (X.2.2.2.2.1 _ hcl) (X.2.2.2.2.1 _ hinst) (X.2.2.2.2.1 _ hini) X.2.2.2.2.2.1 hP hD hS X.2.2.2.2.2.2.1 hc hfs hcells hslots hdg (fun q H1 hP hD hS => kk q H1 locs ls hP hD hS hl)
theorem zz_objInit {idx a : Nat} {rest : List Value} (X : zX E p s m args meth c cc nL Ts own D cl tys A H0) (h1 : Cond.methodLink own idx objectInit ∈ Ts) (h2 : Cond.instanceMethod objectInit ∈ Ts) (h3 : Cond.code objectInit ⟨#[0xb1]⟩ 1 none ∈ Ts) (hdg : decode cc pc = .ok (.invokespecial idx, 3)) (hfr : 1 ≤ R.frames) (hloc : (rest.map fun v => v.category).sum + 12 ≤ R.locals) (kk : zG p l e R s m args below meth c Q nL D cl A H0 ws lv cells slots (pc + 3) rest) : zG p l e R s m args below meth c Q nL D cl A H0 ws lv cells slots pc (.ref a :: rest) :=
  fun H locs ls hP hD hS hl => W.objInit X.1 X.2.1 X.2.2.2.1 (X.2.2.2.2.1 _ h1) (X.2.2.2.2.1 _ h2) (X.2.2.2.2.1 _ h3) rfl (by rw [X.2.2.1]; exact hl.1) rfl hdg hfr (by simpa [JFrame.monitorRoom, F0] using hloc) (kk H locs ls hP hD hS hl)
/-- the constants that are texts, and the statics that String asks -/
def zSt (E : zEn) (N : Nat) (len : List Nat) (byt : List (List Int32)) (K V : Nat → Nat) : Prop := (∀ (A : Nat → Prop) (U : State) (H : Heap), E A U H → vk_S N len byt K V A U H) ∧ (∀ (A : Nat → Prop) (U : State) (H : Heap), E A U H → va_Z "java/lang/String" "COMPACT_STRINGS" "Z" (.int 1) A U H) ∧ (∀ (A : Nat → Prop) (U : State) (H : Heap), E A U H → va_Zq "jdk/internal/util/Preconditions" "SIOOBE_FORMATTER" "Ljava/util/function/BiFunction;" A U H) ∧ (∀ i : Nat, i < N → len.getD i 0 < 2 ^ 20)
theorem zSt_len {E : zEn} {N : Nat} {len : List Nat} {byt : List (List Int32)} {K V : Nat → Nat} {i : Nat} (hs : zSt E N len byt K V) (hi : i < N) : len.getD i 0 < 2 ^ 31 := Nat.lt_trans (hs.2.2.2 i hi) (by decide)
theorem zz_recvS (X : zX E p s m args meth c cc nL Ts own D cl tys A H0) {N : Nat} {len : List Nat} {byt : List (List Int32)} {K V : Nat → Nat} {i : Nat} (hs : zSt E N len byt K V) (hi : i < N) : ∀ (H : Heap) (locs : List Loc), va_S A H0 H locs → ∃ cell : Cell, H[K i]? = some cell ∧ cell.vm.isStatics = false ∧ s.vm.findClass "java/lang/String" = some cell.cls := by
  intro H locs hS
  have hEE := X.2.2.2.2.2.2.2.2.2.2
  obtain rfl := X.2.2.2.2.2.2.2.2.1
  exact vk_recv (hs.1 _ _ _ hEE) hi hS
theorem zz_cloneI {idx a n : Nat} {cA : ClassId} {f : Nat → Int32} (X : zX E p s m args meth c cc nL Ts own D cl tys A H0) (q0 t0 : Nat) (ha : ws[q0]? = some (a, .inl (cA, n, .inl f))) (ht : tys[t0]? = some (cA, .int)) (h1 : Cond.methodLink own idx ⟨"[I", "clone", "()Ljava/lang/Object;"⟩ ∈ Ts) (h2 : Cond.sameMethod "[I" "java/lang/Object" "clone" "()Ljava/lang/Object;" ∈ Ts) (h3 : Cond.native ⟨"java/lang/Object", "clone", "()Ljava/lang/Object;"⟩ ∈ Ts) (h4 : Cond.instanceMethod ⟨"java/lang/Object", "clone", "()Ljava/lang/Object;"⟩ ∈ Ts) (h5 : Cond.selects "[I" ⟨"[I", "clone", "()Ljava/lang/Object;"⟩ ⟨"java/lang/Object", "clone", "()Ljava/lang/Object;"⟩ ∈ Ts) (hcl : ∀ (A : Nat → Prop) (U : State) (H : Heap), E A U H → va_Nw (.castable "[I" "java/lang/Cloneable") U) (hf : 1 ≤ R.frames) (hlo : (st.map fun v => v.category).sum + 14 ≤ R.locals) (hcells : cells + 1 ≤ R.cells) (hslots : slots + n ≤ R.slots) (hdg : decode cc pc = .ok (.invokevirtual idx, 3))
    (kk : ∀ q : Nat, zG p l e R s m args below meth c Q nL D cl A H0 (ws ++ [(q, .inl (cA, n, .inl f))]) lv (cells + 1) (slots + n) (pc + 3) (.ref q :: st)) : zG p l e R s m args below meth c Q nL D cl A H0 ws lv cells slots pc (.ref a :: st) := by
  intro H locs ls hP hD hS hl
  have hnm : s.vm.findClass "[I" = some cA := (X.2.2.2.2.2.1.2 t0 _ ht).2
  have hfit : ∀ (i : Nat) (v : Value), (vp_cell cA (n, .inl f)).slots[i]? = some v → fits .int v = true := by
    intro i v hv
    rw [vp_cell_i] at hv
    have hi : i < n := by
      have := (Array.getElem?_eq_some_iff.mp hv).1
      rw [arrV_size] at this
      exact this
    rw [arrV_read _ _ hi] at hv
    cases hv
    rfl
  exact va_clone X.1 X.2.1 (X.2.2.1.trans hl.1.symm) X.2.2.2.1 (X.2.2.2.2.1 _ h1) (X.2.2.2.2.1 _ h2) (X.2.2.2.2.1 _ h3) (X.2.2.2.2.1 _ h4) (X.2.2.2.2.1 _ h5) (hcl _ _ _ X.2.2.2.2.2.2.2.2.2.2) X.2.2.2.2.2.1 hP hD hS X.2.2.2.2.2.2.1 q0 t0 ha ht hnm hfit hf hlo hcells hslots hdg (fun q H1 _ hP hD hS => kk q H1 locs ls hP hD hS hl)
theorem zz_castI {idx a : Nat} {cA : ClassId} {x : vp_A} (X : zX E p s m args meth c cc nL Ts own D cl tys A H0) (q0 t0 : Nat) (ha : ws[q0]? = some (a, .inl (cA, x))) (ht : tys[t0]? = some (cA, .int)) (h1 : Cond.classLink own idx "[I" ∈ Ts) (hdg : decode cc pc = .ok (.checkcast idx, 3)) (kk : zG p l e R s m args below meth c Q nL D cl A H0 ws lv cells slots (pc + 3) (.ref a :: st)) : zG p l e R s m args below meth c Q nL D cl A H0 ws lv cells slots pc (.ref a :: st) :=
  fun H locs ls hP hD hS hl => va_castA X.1 X.2.1 X.2.2.2.1 (X.2.2.2.2.1 _ h1) hP q0 ha ((X.2.2.2.2.2.1.2 t0 _ ht).2 : s.vm.findClass "[I" = some cA) hdg (kk H locs ls hP hD hS hl)
theorem zz_gets {C n d : String} {idx : Nat} {v : Value} (X : zX E p s m args meth c cc nL Ts own D cl tys A H0) (hZ : ∀ (A : Nat → Prop) (U : State) (H : Heap), E A U H → va_Z C n d v A U H) (hlink : Cond.fieldLink own idx C n d ∈ Ts) (hdg : decode cc pc = .ok (.getstatic idx, 3)) (kk : zG p l e R s m args below meth c Q nL D cl A H0 ws lv cells slots (pc + 3) (v :: st)) : zG p l e R s m args below meth c Q nL D cl A H0 ws lv cells slots pc st := by
  intro H locs ls hP hD hS hl
  have hEE := X.2.2.2.2.2.2.2.2.2.2
  obtain rfl := X.2.2.2.2.2.2.2.2.1
  exact va_gets X.1 X.2.1 (hZ _ _ _ hEE) hS X.2.2.2.1 (X.2.2.2.2.1 _ hlink) (fun _ h => h) hdg (kk H locs ls hP hD hS hl)
theorem zz_getsq {C n d : String} {idx : Nat} (X : zX E p s m args meth c cc nL Ts own D cl tys A H0) (hZ : ∀ (A : Nat → Prop) (U : State) (H : Heap), E A U H → va_Zq C n d A U H) (hlink : Cond.fieldLink own idx C n d ∈ Ts) (hdg : decode cc pc = .ok (.getstatic idx, 3)) (kn : zG p l e R s m args below meth c Q nL D cl A H0 ws lv cells slots (pc + 3) (.null :: st)) (kr : ∀ t : Nat, zG p l e R s m args below meth c Q nL D cl A H0 ws lv cells slots (pc + 3) (.ref t :: st)) : zG p l e R s m args below meth c Q nL D cl A H0 ws lv cells slots pc st := by
  intro H locs ls hP hD hS hl
  have hEE := X.2.2.2.2.2.2.2.2.2.2
  obtain rfl := X.2.2.2.2.2.2.2.2.1
  rcases hZ _ _ _ hEE with h | ⟨t, h⟩
  · exact va_gets X.1 X.2.1 h hS X.2.2.2.1 (X.2.2.2.2.1 _ hlink) (fun _ h => h) hdg (kn H locs ls hP hD hS hl)
  · exact va_gets X.1 X.2.1 h hS X.2.2.2.1 (X.2.2.2.2.1 _ hlink) (fun _ h => h) hdg (kr t H locs ls hP hD hS hl)
theorem zz_sfld {o n d : String} {idx q : Nat} {v : Value} (X : zX E p s m args meth c cc nL Ts own D cl tys A H0) (hZ : ∀ (A : Nat → Prop) (U : State) (H : Heap), E A U H → va_OF o n d v q A U H) (hlink : Cond.fieldLink own idx o n d ∈ Ts) (hdg : decode cc pc = .ok (.getfield idx, 3)) (kk : zG p l e R s m args below meth c Q nL D cl A H0 ws lv cells slots (pc + 3) (v :: st)) : zG p l e R s m args below meth c Q nL D cl A H0 ws lv cells slots pc (.ref q :: st) := by
  intro H locs ls hP hD hS hl
  have hEE := X.2.2.2.2.2.2.2.2.2.2
  obtain rfl := X.2.2.2.2.2.2.2.2.1
  exact vk_getf X.1 X.2.1 (hZ _ _ _ hEE) hS X.2.2.2.1 (X.2.2.2.2.1 _ hlink) (fun _ h => h) hdg (kk H locs ls hP hD hS hl)
theorem zz_tlen {ty : FieldType} {t N : Nat} {f : Nat → Value} (X : zX E p s m args meth c cc nL Ts own D cl tys A H0) (hZ : ∀ (A : Nat → Prop) (U : State) (H : Heap), E A U H → va_T ty t N f A U H) (v : Int32) (hv : Int32.ofNat N = v) (hdg : decode cc pc = .ok (.arraylength, 1)) (kk : zG p l e R s m args below meth c Q nL D cl A H0 ws lv cells slots (pc + 1) (.int v :: st)) : zG p l e R s m args below meth c Q nL D cl A H0 ws lv cells slots pc (.ref t :: st) := by
  intro H locs ls hP hD hS hl
  have hEE := X.2.2.2.2.2.2.2.2.2.2
  obtain rfl := X.2.2.2.2.2.2.2.2.1
  exact va_tlen X.1 X.2.1 (hZ _ _ _ hEE) hS hv hdg (kk H locs ls hP hD hS hl)
theorem zz_tb {t N : Nat} {f : Nat → Value} {i : Int32} (X : zX E p s m args meth c cc nL Ts own D cl tys A H0) (hZ : ∀ (A : Nat → Prop) (U : State) (H : Heap), E A U H → va_T .byte t N f A U H) (hin : vp_in i N) (v : Value) (hv : f i.toNatClampNeg = v) (hdg : decode cc pc = .ok (.baload, 1)) (kk : zG p l e R s m args below meth c Q nL D cl A H0 ws lv cells slots (pc + 1) (v :: st)) : zG p l e R s m args below meth c Q nL D cl A H0 ws lv cells slots pc (.int i :: .ref t :: st) := by
  intro H locs ls hP hD hS hl
  have hEE := X.2.2.2.2.2.2.2.2.2.2
  obtain rfl := X.2.2.2.2.2.2.2.2.1
  exact va_tb X.1 X.2.1 (hZ _ _ _ hEE) hS hin hv hdg (kk H locs ls hP hD hS hl)
theorem zz_ldcS {idx q : Nat} {tx : String} (X : zX E p s m args meth c cc nL Ts own D cl tys A H0) (hZ : ∀ (A : Nat → Prop) (U : State) (H : Heap), E A U H → vk_R own idx tx q U) (hdg : decode cc pc = .ok (.ldc idx, 2)) (kk : zG p l e R s m args below meth c Q nL D cl A H0 ws lv cells slots (pc + 2) (.ref q :: st)) : zG p l e R s m args below meth c Q nL D cl A H0 ws lv cells slots pc st := by
  intro H locs ls hP hD hS hl
  have hEE := X.2.2.2.2.2.2.2.2.2.2
  obtain rfl := X.2.2.2.2.2.2.2.2.1
  exact va_ldcS X.1 X.2.1 X.2.2.2.1 (hZ _ _ _ hEE) hdg (kk H locs ls hP hD hS hl)
theorem zz_mmax {idx : Nat} {x y : Int32} {rest : List Value} (X : zX E p s m args meth c cc nL Ts own D cl tys A H0) (z : Int32) (h1 : Cond.methodLink own idx Lib.Math.max.name ∈ Ts) (h2 : Cond.static Lib.Math.max.name ∈ Ts) (h3 : Cond.initialized "java/lang/Math" ∈ Ts) (h4 : Cond.code Lib.Math.max.name Lib.Math.max.code 2 (some .int) ∈ Ts) (hf : 1 ≤ R.frames) (hlo : (rest.map fun v => v.category).sum + 13 ≤ R.locals) (hc : cells ≤ R.cells) (hs : slots ≤ R.slots) (hdg : decode cc pc = .ok (.invokestatic idx, 3)) (hz : (if x < y then y else x) = z) (kk : zG p l e R s m args below meth c Q nL D cl A H0 ws lv cells slots (pc + 3) (.int z :: rest)) : zG p l e R s m args below meth c Q nL D cl A H0 ws lv cells slots pc (.int y :: .int x :: rest) :=
  fun H locs ls hP hD hS hl => va_mmax X.1 X.2.1 (X.2.2.1.trans hl.1.symm) X.2.2.2.1 (X.2.2.2.2.1 _ h1) (X.2.2.2.2.1 _ h2) (X.2.2.2.2.1 _ h3) (X.2.2.2.2.1 _ h4) hf hlo hc hs hdg (hz ▸ kk H locs ls hP hD hS hl)
theorem zz_mmin {idx : Nat} {x y : Int32} {rest : List Value} (X : zX E p s m args meth c cc nL Ts own D cl tys A H0) (z : Int32) (h1 : Cond.methodLink own idx Lib.Math.min.name ∈ Ts) (h2 : Cond.static Lib.Math.min.name ∈ Ts) (h3 : Cond.initialized "java/lang/Math" ∈ Ts) (h4 : Cond.code Lib.Math.min.name Lib.Math.min.code 2 (some .int) ∈ Ts) (hf : 1 ≤ R.frames) (hlo : (rest.map fun v => v.category).sum + 13 ≤ R.locals) (hc : cells ≤ R.cells) (hs : slots ≤ R.slots) (hdg : decode cc pc = .ok (.invokestatic idx, 3)) (hz : (if y < x then y else x) = z) (kk : zG p l e R s m args below meth c Q nL D cl A H0 ws lv cells slots (pc + 3) (.int z :: rest)) : zG p l e R s m args below meth c Q nL D cl A H0 ws lv cells slots pc (.int y :: .int x :: rest) :=
  fun H locs ls hP hD hS hl => va_mmin X.1 X.2.1 (X.2.2.1.trans hl.1.symm) X.2.2.2.1 (X.2.2.2.2.1 _ h1) (X.2.2.2.2.1 _ h2) (X.2.2.2.2.1 _ h3) (X.2.2.2.2.1 _ h4) hf hlo hc hs hdg (hz ▸ kk H locs ls hP hD hS hl)
theorem zz_copyi {idx a a0 n0 n1 : Nat} {c0 c1 : ClassId} {f g : Nat → Int32} {ty : FieldType} {sp dp n : Int32} {rest : List Value} (X : zX E p s m args meth c cc nL Ts own D cl tys A H0) (q0 q1 t0 t1 : Nat) (h1 : Cond.methodLink own idx arraycopyName ∈ Ts) (h2 : Cond.native arraycopyName ∈ Ts) (h3 : Cond.static arraycopyName ∈ Ts) (h4 : Cond.initialized "java/lang/System" ∈ Ts) (ha0 : ws[q0]? = some (a0, .inl (c0, n0, .inl f))) (ha1 : ws[q1]? = some (a, .inl (c1, n1, .inl g))) (ht0 : tys[t0]? = some (c0, ty)) (ht1 : tys[t1]? = some (c1, ty)) (hprim : refKind ty = false) (g1 : ¬ sp < 0) (g2 : ¬ dp < 0) (g3 : ¬ n < 0) (sp' dp' n' : Nat) (e1 : sp.toNatClampNeg = sp') (e2 : dp.toNatClampNeg = dp') (e3 : n.toNatClampNeg = n') (g4 : sp' + n' ≤ n0) (g5 : dp' + n' ≤ n1) (hfit : ∀ x : Int32, fits ty (.int x) = true) (hf : 1 ≤ R.frames) (hlo : (rest.map fun v => v.category).sum + (nativeFrameWords "java/lang/System" "arraycopy" 5 + 11) ≤ R.locals) (hdg : decode cc pc = .ok (.invokestatic idx, 3)) (ws' : va_W) (hws : ws.set q1 (a, .inl (c1, n1, .inl (va_cpy f g sp' dp' n'))) = ws') (kk : zG p l e R s m args below meth c Q nL D cl A H0 ws' lv cells slots (pc + 3) rest) : zG p l e R s m args below meth c Q nL D cl A H0 ws lv cells slots pc (.int n :: .int dp :: .ref a :: .int sp :: .ref a0 :: rest) := by
  subst e1 e2 e3
  exact fun H locs ls hP hD hS hl => va_copyi X.1 X.2.1 (X.2.2.1.trans hl.1.symm) X.2.2.2.1 (X.2.2.2.2.1 _ h1) (X.2.2.2.2.1 _ h2) (X.2.2.2.2.1 _ h3) (X.2.2.2.2.1 _ h4) X.2.2.2.2.2.1 hP hD hS q0 q1 t0 t1 ha0 ha1 ht0 ht1 hprim g1 g2 g3 g4 g5 (fun i _ => hfit _) hf hlo hdg (fun H locs hP hD hS => by rw [hws] at hP hD; exact kk H locs ls hP hD hS hl)
theorem zz_at {ws' : va_W} {lv' : List (Nat × Value)} {st' : List Value} (h1 : ws = ws') (h2 : lv = lv') (h3 : st = st') (kk : zG p l e R s m args below meth c Q nL D cl A H0 ws' lv' cells slots pc st') : zG p l e R s m args below meth c Q nL D cl A H0 ws lv cells slots pc st := by subst h1 h2 h3; exact kk
theorem zz_ind {α : Type} (μ : α → Nat) (I : α → Prop) (wf : α → va_W) (lf : α → List (Nat × Value)) (sf : α → List Value) (a0 : α) (h0 : I a0) (h1 : ws = wf a0) (h2 : lv = lf a0) (h3 : st = sf a0)
    (body : ∀ a : α, I a → (∀ b : α, I b → μ b < μ a → zG p l e R s m args below meth c Q nL D cl A H0 (wf b) (lf b) cells slots pc (sf b)) → zG p l e R s m args below meth c Q nL D cl A H0 (wf a) (lf a) cells slots pc (sf a)) : zG p l e R s m args below meth c Q nL D cl A H0 ws lv cells slots pc st := by
  subst h1 h2 h3
  have key : ∀ (n : Nat) (a : α), μ a < n → I a → zG p l e R s m args below meth c Q nL D cl A H0 (wf a) (lf a) cells slots pc (sf a) := by
    intro n
    induction n with
    | zero => intro a h; exact absurd h (Nat.not_lt_zero _)
    | succ n ih => intro a h hI; exact body a hI (fun b hb hlt => ih b (by omega) hb)
  exact key (μ a0 + 1) a0 (Nat.lt_succ_self _) h0
theorem zz_ishr {x y : Int32} (X : zX E p s m args meth c cc nL Ts own D cl tys A H0) (z : Int32) (hdg : decode cc pc = .ok (.ishr, 1)) (hz : x >>> (y &&& 31) = z) (kk : zG p l e R s m args below meth c Q nL D cl A H0 ws lv cells slots (pc + 1) (.int z :: st)) : zG p l e R s m args below meth c Q nL D cl A H0 ws lv cells slots pc (.int y :: .int x :: st) :=
  fun H locs ls hP hD hS hl => lv_ishr X.1 X.2.1 hdg (hz ▸ kk H locs ls hP hD hS hl)
theorem zz_ishl {x y : Int32} (X : zX E p s m args meth c cc nL Ts own D cl tys A H0) (z : Int32) (hdg : decode cc pc = .ok (.ishl, 1)) (hz : x <<< (y &&& 31) = z) (kk : zG p l e R s m args below meth c Q nL D cl A H0 ws lv cells slots (pc + 1) (.int z :: st)) : zG p l e R s m args below meth c Q nL D cl A H0 ws lv cells slots pc (.int y :: .int x :: st) :=
  fun H locs ls hP hD hS hl => lv_ishl X.1 X.2.1 hdg (hz ▸ kk H locs ls hP hD hS hl)
theorem zz_iushr {x y : Int32} (X : zX E p s m args meth c cc nL Ts own D cl tys A H0) (z : Int32) (hdg : decode cc pc = .ok (.iushr, 1)) (hz : (x.toUInt32 >>> (y.toUInt32 &&& Int32.toUInt32 31)).toInt32 = z) (kk : zG p l e R s m args below meth c Q nL D cl A H0 ws lv cells slots (pc + 1) (.int z :: st)) : zG p l e R s m args below meth c Q nL D cl A H0 ws lv cells slots pc (.int y :: .int x :: st) :=
  fun H locs ls hP hD hS hl => lv_iushr X.1 X.2.1 hdg hz (kk H locs ls hP hD hS hl)
theorem zz_i2b {x : Int32} (X : zX E p s m args meth c cc nL Ts own D cl tys A H0) (z : Int32) (hdg : decode cc pc = .ok (.i2b, 1)) (hz : x.toInt8.toInt32 = z) (kk : zG p l e R s m args below meth c Q nL D cl A H0 ws lv cells slots (pc + 1) (.int z :: st)) : zG p l e R s m args below meth c Q nL D cl A H0 ws lv cells slots pc (.int x :: st) :=
  fun H locs ls hP hD hS hl => lv_i2b X.1 X.2.1 hdg hz (kk H locs ls hP hD hS hl)
theorem zz_i2c {x : Int32} (X : zX E p s m args meth c cc nL Ts own D cl tys A H0) (z : Int32) (hdg : decode cc pc = .ok (.i2c, 1)) (hz : (x.toUInt32 % 65536).toInt32 = z) (kk : zG p l e R s m args below meth c Q nL D cl A H0 ws lv cells slots (pc + 1) (.int z :: st)) : zG p l e R s m args below meth c Q nL D cl A H0 ws lv cells slots pc (.int x :: st) :=
  fun H locs ls hP hD hS hl => lv_i2c X.1 X.2.1 hdg hz (kk H locs ls hP hD hS hl)
theorem zz_i2s {x : Int32} (X : zX E p s m args meth c cc nL Ts own D cl tys A H0) (z : Int32) (hdg : decode cc pc = .ok (.i2s, 1)) (hz : x.toInt16.toInt32 = z) (kk : zG p l e R s m args below meth c Q nL D cl A H0 ws lv cells slots (pc + 1) (.int z :: st)) : zG p l e R s m args below meth c Q nL D cl A H0 ws lv cells slots pc (.int x :: st) :=
  fun H locs ls hP hD hS hl => lv_i2s X.1 X.2.1 hdg hz (kk H locs ls hP hD hS hl)
theorem zz_i2l {x : Int32} (X : zX E p s m args meth c cc nL Ts own D cl tys A H0) (z : Int64) (hdg : decode cc pc = .ok (.i2l, 1)) (hz : x.toInt64 = z) (kk : zG p l e R s m args below meth c Q nL D cl A H0 ws lv cells slots (pc + 1) (.long z :: st)) : zG p l e R s m args below meth c Q nL D cl A H0 ws lv cells slots pc (.int x :: st) :=
  fun H locs ls hP hD hS hl => lv_i2l X.1 X.2.1 hdg hz (kk H locs ls hP hD hS hl)
theorem zz_l2i {x : Int64} (X : zX E p s m args meth c cc nL Ts own D cl tys A H0) (z : Int32) (hdg : decode cc pc = .ok (.l2i, 1)) (hz : x.toInt32 = z) (kk : zG p l e R s m args below meth c Q nL D cl A H0 ws lv cells slots (pc + 1) (.int z :: st)) : zG p l e R s m args below meth c Q nL D cl A H0 ws lv cells slots pc (.long x :: st) :=
  fun H locs ls hP hD hS hl => lv_l2i X.1 X.2.1 hdg hz (kk H locs ls hP hD hS hl)
theorem zz_lshl {x : Int64} {y : Int32} (X : zX E p s m args meth c cc nL Ts own D cl tys A H0) (z : Int64) (hdg : decode cc pc = .ok (.lshl, 1)) (hz : x <<< (y.toInt64 &&& 63) = z) (kk : zG p l e R s m args below meth c Q nL D cl A H0 ws lv cells slots (pc + 1) (.long z :: st)) : zG p l e R s m args below meth c Q nL D cl A H0 ws lv cells slots pc (.int y :: .long x :: st) :=
  fun H locs ls hP hD hS hl => lv_lshl X.1 X.2.1 hdg hz (kk H locs ls hP hD hS hl)
theorem zz_lshr {x : Int64} {y : Int32} (X : zX E p s m args meth c cc nL Ts own D cl tys A H0) (z : Int64) (hdg : decode cc pc = .ok (.lshr, 1)) (hz : x >>> (y.toInt64 &&& 63) = z) (kk : zG p l e R s m args below meth c Q nL D cl A H0 ws lv cells slots (pc + 1) (.long z :: st)) : zG p l e R s m args below meth c Q nL D cl A H0 ws lv cells slots pc (.int y :: .long x :: st) :=
  fun H locs ls hP hD hS hl => lv_lshr X.1 X.2.1 hdg hz (kk H locs ls hP hD hS hl)
theorem zz_lushr {x : Int64} {y : Int32} (X : zX E p s m args meth c cc nL Ts own D cl tys A H0) (z : Int64) (hdg : decode cc pc = .ok (.lushr, 1)) (hz : (x.toUInt64 >>> (y.toInt64.toUInt64 &&& Int64.toUInt64 63)).toInt64 = z) (kk : zG p l e R s m args below meth c Q nL D cl A H0 ws lv cells slots (pc + 1) (.long z :: st)) : zG p l e R s m args below meth c Q nL D cl A H0 ws lv cells slots pc (.int y :: .long x :: st) :=
  fun H locs ls hP hD hS hl => lv_lushr X.1 X.2.1 hdg hz (kk H locs ls hP hD hS hl)
end ZG
