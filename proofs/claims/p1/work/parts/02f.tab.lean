section ZG
variable {p : Program} {l : Launch} {e : Env} {R : Room} {s : State} {m : MethodId} {args : Array Value} {below : List Frame} {meth : Method} {c : Code} {Q : State → Prop}
variable {E : zEn} {cc : ByteArray} {nL : Nat} {Ts : List Cond} {own : String} {D : va_G} {cl : List vw_C} {tys : List (ClassId × FieldType)} {A : Nat → Prop} {H0 : Heap}
variable {ws : va_W} {lv : List (Nat × Value)} {cells slots pc : Nat} {st : List Value}
variable {y : MethodName} {wc wc' : List Cond} {rm : Room} {av : List Value} {cs : va_W} {S : Type} {cs' : S → va_W}
theorem zMet_ofWH {l : Launch} {y : MethodName} {ws ws' : List Cond} {rm : Room} {Pc : Array Value → State → Prop} {Qc : Array Value → State → Outcome → State → Prop} {mc ms : Nat} {free : Addr → Prop} {cc : ByteArray} {maxL : Nat} {ret : Option FieldType} {hh : List (Nat × Nat × Nat × Nat)}
    (hy : plainName y.cls = true) (hw : ws = Cond.codeWith y cc maxL ret hh :: ws')
    (body : ∀ p e s m args below meth c s₁, BodyLoose p l y (headSpec ws rm) cc maxL ret e s m args below meth c s₁ → c.maxLocals = maxL → Pc args s →
      W p l e (headSpec ws rm).room s m args below meth c s.heap [] 0 0 (MQ below Qc args s mc ms free) (entryFrame m args maxL)) : Met l y ws rm Pc Qc mc ms free := by
  refine MetFree.of_bodyS (code := cc) (maxLocals := maxL) (ret := ret) hy ?_ ?_
  · intro args s m h hn
    obtain ⟨m9, meth, c, hn9, h1, h2, h3, h4, -, h5, h6, -⟩ := Cond.codeWith_spec (atoms_spec (ws := ws) h _ (by rw [hw]; exact List.mem_cons_self))
    cases hn.symm.trans hn9
    exact ⟨meth, c, h1, h2, h3, h4, h5, h6⟩
  · intro p e s m args below meth c s₁ B hml hP _
    have hh0 : s₁.heap = s.heap := by rw [B.state]; rfl
    obtain ⟨t, a1, o, b1, b2, b3⟩ := body p e s m args below meth c s₁ B hml hP s₁ hh0 (Stand.of_body B)
    exact ⟨t, o, a1, b1, b2, ⟨b3.1, b3.2⟩⟩
theorem zz_enteriW {hh : List (Nat × Nat × Nat × Nat)} {post : Int32 → S → Prop} (hE : zOk E) (maxL : Nat) (hy : plainName y.cls = true) (hw : wc = Cond.codeWith y cc maxL (some .int) hh :: wc') (hn : (lg_sl av).length ≤ maxL) (hlv : lv_args 0 av = lv)
    (body : ∀ (p : Program) (e : Env) (s : State) (m : MethodId) (args : Array Value) (below : List Frame) (meth : Method) (c : Code), zX E p s m args meth c cc maxL wc y.cls D cl tys (va_A cs s.heap.size) s.heap → meth.sig.returnType = some .int → meth.name = y.name →
      zG p l e rm s m args below meth c (MQ below (va_Qi post (fun u t => zB D cl tys (va_A cs s.heap.size) (cs' u) t) (va_A cs s.heap.size)) args s rm.cells rm.slots (va_A cs s.heap.size)) maxL D cl (va_A cs s.heap.size) s.heap cs lv 0 0 0 []) : zMi E l y wc rm D cl tys av cs post cs' := by
  intro sz
  refine zMet_ofWH (cc := cc) (hh := hh) (maxL := maxL) (ret := some .int) hy hw ?_
  intro p e s m args below meth c s₁ B hml hv
  obtain ⟨rfl, hsz, hP, hK, hD0, hEE⟩ := hv
  subst hsz
  have hD := hD0.self (sz := s.heap.size)
  have hl := lv_entry av hn
  rw [lg_entry_eq]
  rw [hlv] at hl
  exact body p e s m _ below meth c ⟨B.exec, B.bytes, hml, findClass_of_methodNamed B.named, atoms_spec (ws := wc) B.pre, hK, fun q h => Or.inr h, B.notSynchronized, rfl, hE, hEE⟩ B.returns (name_of_methodNamed B.named B.method).1 s.heap [] _ hP hD va_S.rf hl
theorem zz_entervW {hh : List (Nat × Nat × Nat × Nat)} {post : S → Prop} (hE : zOk E) (maxL : Nat) (hy : plainName y.cls = true) (hw : wc = Cond.codeWith y cc maxL (none) hh :: wc') (hn : (lg_sl av).length ≤ maxL) (hlv : lv_args 0 av = lv)
    (body : ∀ (p : Program) (e : Env) (s : State) (m : MethodId) (args : Array Value) (below : List Frame) (meth : Method) (c : Code), zX E p s m args meth c cc maxL wc y.cls D cl tys (va_A cs s.heap.size) s.heap → meth.sig.returnType = none → meth.name = y.name →
      zG p l e rm s m args below meth c (MQ below (va_Qv post (fun u t => zB D cl tys (va_A cs s.heap.size) (cs' u) t) (va_A cs s.heap.size)) args s rm.cells rm.slots (va_A cs s.heap.size)) maxL D cl (va_A cs s.heap.size) s.heap cs lv 0 0 0 []) : zMv E l y wc rm D cl tys av cs post cs' := by
  intro sz
  refine zMet_ofWH (cc := cc) (hh := hh) (maxL := maxL) (ret := none) hy hw ?_
  intro p e s m args below meth c s₁ B hml hv
  obtain ⟨rfl, hsz, hP, hK, hD0, hEE⟩ := hv
  subst hsz
  have hD := hD0.self (sz := s.heap.size)
  have hl := lv_entry av hn
  rw [lg_entry_eq]
  rw [hlv] at hl
  exact body p e s m _ below meth c ⟨B.exec, B.bytes, hml, findClass_of_methodNamed B.named, atoms_spec (ws := wc) B.pre, hK, fun q h => Or.inr h, B.notSynchronized, rfl, hE, hEE⟩ B.returns (name_of_methodNamed B.named B.method).1 s.heap [] _ hP hD va_S.rf hl
theorem zz_callViW {hh : List (Nat × Nat × Nat × Nat)} {post : Int32 → S → Prop} {As rest : List Value} (X : zX E p s m args meth c cc nL Ts own D cl tys A H0) (hM : zMi E l y wc rm D cl tys av cs post cs') {C : String} {bytes : ByteArray} {maxL idx : Nat} {ret : Option FieldType} (n : Nat) (hG : GoodIn Ts (wsV own idx C y wc)) (hw : wc = Cond.codeWith y bytes maxL ret hh :: wc') (hd : y.cls = C ∧ y.cls ≠ "java/lang/invoke/MethodHandle" ∧ y.cls ≠ "java/lang/invoke/VarHandle" ∧ (parseMethodDescriptor y.desc).map (fun d => d.parameters.length) = some n) (isC isR : List Nat) (wr : va_W) (hC : isC.map (fun i => ws[i]?) = cs.map some) (hC1 : isC.filterMap (fun i => ws[i]?) = cs) (hCn : va_nd isC = true) (hR : isR.map (fun i => ws[i]?) = wr.map some) (hn : va_nd isR = true) (hdis : ∀ i ∈ isR, i ∉ isC) (hroom : rm.frames + 1 ≤ R.frames ∧ 8 + (maxL + 11) + rm.locals ≤ R.locals) (q0 : Nat) {b ci : Nat} {T : u_T} {N : Nat} {fs : List Value} (he : cs[q0]? = some (b, .inr (ci, fs))) (hcl : cl[ci]? = some (C, T, N)) (hav : av = .ref b :: As) (hA : As.length = n) (hst : st = As.reverse ++ .ref b :: rest) (hrest : (rest.map fun v => v.category).sum ≤ 8) (hdg : decode cc pc = .ok (.invokevirtual idx, 3)) (hcells : cells + rm.cells ≤ R.cells) (hslots : slots + rm.slots ≤ R.slots)
    (kk : ∀ (r : Int32) (u : S), post r u → zG p l e R s m args below meth c Q nL D cl A H0 (wr ++ cs' u) lv (cells + rm.cells) (slots + rm.slots) (pc + 3) (.int r :: rest)) : zG p l e R s m args below meth c Q nL D cl A H0 ws lv cells slots pc st := by
  intro H locs ls hP hD hS hl
  have hK := X.2.2.2.2.2.1
  have hPc := hP.sub (ws' := cs) isC hC1
  have hDc := hD.sub (ws' := cs) isC hCn hC
  have hFc := va_free (wc := cs) hD hS X.2.2.2.2.2.2.1 isC hC
  have hEc : ∀ U : State, s.WarmedH U.vm → E (va_A cs H.size) U H := fun U hW => X.2.2.2.2.2.2.2.2.2.1.1 _ s U H hW (X.2.2.2.2.2.2.2.2.2.1.2.2.2 A _ s H hFc (zz_env X hS))
  subst hav
  refine va_calli (vx_runVW (As := As) (rest := rest) ⟨X.1, X.2.1, X.2.2.1, X.2.2.2.1, X.2.2.2.2.1⟩ (hM H.size) (vx_cwVW n X.2.2.2.2.1 hG hw rfl rfl hd hroom) ⟨fun a U g mk q => by obtain ⟨q0, q1, qP, qK, qD, qE⟩ := q; exact ⟨q0, q1, qP, va_K.moved (u := U) (U := U.calling g mk a) (Vm.Alike.refl U.vm) qK, qD, X.2.2.2.2.2.2.2.2.2.1.2.1 _ U (U.calling g mk a) _ rfl qE⟩, va_recv hK hPc hcl he, fun U hU hW => ⟨rfl, by rw [hU], by rw [hU]; exact hPc, va_K.moved hW.alike hK, hDc.weaken (fun _ _ _ _ => trivial), by rw [hU]; exact hEc U hW⟩⟩ rfl hA hl.1 hst (lv_room hrest) hdg ⟨hcells, hslots⟩) hS (fun q _ h => hFc q h) hFc (fun r u t H1 locs ht hvm hw hB hz1 hk1 hS => ?_)
  obtain ⟨hP1, hK1, hD1⟩ := hB
  rw [ht] at hP1
  obtain ⟨hP, hD⟩ := va_join (wr := wr) (w1 := cs' u) hP hD isC isR hC hR hn hdis hk1 hFc hP1 hD1
  exact kk r u hw H1 locs ls hP hD hS hl
theorem zz_callVvW {hh : List (Nat × Nat × Nat × Nat)} {post : S → Prop} {As rest : List Value} (X : zX E p s m args meth c cc nL Ts own D cl tys A H0) (hM : zMv E l y wc rm D cl tys av cs post cs') {C : String} {bytes : ByteArray} {maxL idx : Nat} {ret : Option FieldType} (n : Nat) (hG : GoodIn Ts (wsV own idx C y wc)) (hw : wc = Cond.codeWith y bytes maxL ret hh :: wc') (hd : y.cls = C ∧ y.cls ≠ "java/lang/invoke/MethodHandle" ∧ y.cls ≠ "java/lang/invoke/VarHandle" ∧ (parseMethodDescriptor y.desc).map (fun d => d.parameters.length) = some n) (isC isR : List Nat) (wr : va_W) (hC : isC.map (fun i => ws[i]?) = cs.map some) (hC1 : isC.filterMap (fun i => ws[i]?) = cs) (hCn : va_nd isC = true) (hR : isR.map (fun i => ws[i]?) = wr.map some) (hn : va_nd isR = true) (hdis : ∀ i ∈ isR, i ∉ isC) (hroom : rm.frames + 1 ≤ R.frames ∧ 8 + (maxL + 11) + rm.locals ≤ R.locals) (q0 : Nat) {b ci : Nat} {T : u_T} {N : Nat} {fs : List Value} (he : cs[q0]? = some (b, .inr (ci, fs))) (hcl : cl[ci]? = some (C, T, N)) (hav : av = .ref b :: As) (hA : As.length = n) (hst : st = As.reverse ++ .ref b :: rest) (hrest : (rest.map fun v => v.category).sum ≤ 8) (hdg : decode cc pc = .ok (.invokevirtual idx, 3)) (hcells : cells + rm.cells ≤ R.cells) (hslots : slots + rm.slots ≤ R.slots)
    (kk : ∀ (u : S), post u → zG p l e R s m args below meth c Q nL D cl A H0 (wr ++ cs' u) lv (cells + rm.cells) (slots + rm.slots) (pc + 3) rest) : zG p l e R s m args below meth c Q nL D cl A H0 ws lv cells slots pc st := by
  intro H locs ls hP hD hS hl
  have hK := X.2.2.2.2.2.1
  have hPc := hP.sub (ws' := cs) isC hC1
  have hDc := hD.sub (ws' := cs) isC hCn hC
  have hFc := va_free (wc := cs) hD hS X.2.2.2.2.2.2.1 isC hC
  have hEc : ∀ U : State, s.WarmedH U.vm → E (va_A cs H.size) U H := fun U hW => X.2.2.2.2.2.2.2.2.2.1.1 _ s U H hW (X.2.2.2.2.2.2.2.2.2.1.2.2.2 A _ s H hFc (zz_env X hS))
  subst hav
  refine va_callv (vx_runVW (As := As) (rest := rest) ⟨X.1, X.2.1, X.2.2.1, X.2.2.2.1, X.2.2.2.2.1⟩ (hM H.size) (vx_cwVW n X.2.2.2.2.1 hG hw rfl rfl hd hroom) ⟨fun a U g mk q => by obtain ⟨q0, q1, qP, qK, qD, qE⟩ := q; exact ⟨q0, q1, qP, va_K.moved (u := U) (U := U.calling g mk a) (Vm.Alike.refl U.vm) qK, qD, X.2.2.2.2.2.2.2.2.2.1.2.1 _ U (U.calling g mk a) _ rfl qE⟩, va_recv hK hPc hcl he, fun U hU hW => ⟨rfl, by rw [hU], by rw [hU]; exact hPc, va_K.moved hW.alike hK, hDc.weaken (fun _ _ _ _ => trivial), by rw [hU]; exact hEc U hW⟩⟩ rfl hA hl.1 hst (lv_room hrest) hdg ⟨hcells, hslots⟩) hS (fun q _ h => hFc q h) hFc (fun u t H1 locs ht hvm hw hB hz1 hk1 hS => ?_)
  obtain ⟨hP1, hK1, hD1⟩ := hB
  rw [ht] at hP1
  obtain ⟨hP, hD⟩ := va_join (wr := wr) (w1 := cs' u) hP hD isC isR hC hR hn hdis hk1 hFc hP1 hD1
  exact kk u hw H1 locs ls hP hD hS hl
end ZG
