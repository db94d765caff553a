section ZG
variable {p : Program} {l : Launch} {e : Env} {R : Room} {s : State} {m : MethodId} {args : Array Value} {below : List Frame} {meth : Method} {c : Code} {Q : State → Prop}
variable {E : zEn} {cc : ByteArray} {nL : Nat} {Ts : List Cond} {own : String} {D : va_G} {cl : List vw_C} {tys : List (ClassId × FieldType)} {A : Nat → Prop} {H0 : Heap}
variable {ws : va_W} {lv : List (Nat × Value)} {cells slots pc : Nat} {st : List Value}
variable {y : MethodName} {wc wc' : List Cond} {rm : Room} {av : List Value} {cs : va_W} {S : Type} {cs' : S → va_W}
theorem zz_callSiW {hh : List (Nat × Nat × Nat × Nat)} {post : Int32 → S → Prop} {As rest : List Value} (X : zX E p s m args meth c cc nL Ts own D cl tys A H0) (hM : zMi E l y wc rm D cl tys av cs post cs') {bytes : ByteArray} {maxL idx : Nat} {ret : Option FieldType} (n : Nat) (hG : GoodIn Ts (va_wsS own idx y wc)) (hw : wc = Cond.codeWith y bytes maxL ret hh :: wc') (hd : y.cls ≠ "java/lang/invoke/MethodHandle" ∧ y.cls ≠ "java/lang/invoke/VarHandle" ∧ (parseMethodDescriptor y.desc).map (fun d => d.parameters.length) = some n) (isC isR : List Nat) (wr : va_W) (hC : isC.map (fun i => ws[i]?) = cs.map some) (hC1 : isC.filterMap (fun i => ws[i]?) = cs) (hCn : va_nd isC = true) (hR : isR.map (fun i => ws[i]?) = wr.map some) (hn : va_nd isR = true) (hdis : ∀ i ∈ isR, i ∉ isC) (hroom : rm.frames + 1 ≤ R.frames ∧ 8 + (maxL + 11) + rm.locals ≤ R.locals) (hav : As = av) (hA : As.length = n) (hst : st = As.reverse ++ rest) (hrest : (rest.map fun v => v.category).sum ≤ 8) (hdg : decode cc pc = .ok (.invokestatic idx, 3)) (hcells : cells + rm.cells ≤ R.cells) (hslots : slots + rm.slots ≤ R.slots)
    (kk : ∀ (r : Int32) (u : S), post r u → zG p l e R s m args below meth c Q nL D cl A H0 (wr ++ cs' u) lv (cells + rm.cells) (slots + rm.slots) (pc + 3) (.int r :: rest)) : zG p l e R s m args below meth c Q nL D cl A H0 ws lv cells slots pc st := by
  intro H locs ls hP hD hS hl
  have hK := X.2.2.2.2.2.1
  have hPc := hP.sub (ws' := cs) isC hC1
  have hDc := hD.sub (ws' := cs) isC hCn hC
  have hFc := va_free (wc := cs) hD hS X.2.2.2.2.2.2.1 isC hC
  have hEc : ∀ U : State, s.WarmedH U.vm → E (va_A cs H.size) U H := fun U hW => X.2.2.2.2.2.2.2.2.2.1.1 _ s U H hW (X.2.2.2.2.2.2.2.2.2.1.2.2.2 A _ s H hFc (zz_env X hS))
  subst hav
  refine va_calli (vx_runSW (As := As) (rest := rest) ⟨X.1, X.2.1, X.2.2.1, X.2.2.2.1, X.2.2.2.2.1⟩ (hM H.size) (vx_cwSW n X.2.2.2.2.1 hG hw rfl rfl hd hroom) ⟨fun a U g mk q => by obtain ⟨q0, q1, qP, qK, qD, qE⟩ := q; exact ⟨q0, q1, qP, va_K.moved (u := U) (U := U.calling g mk a) (Vm.Alike.refl U.vm) qK, qD, X.2.2.2.2.2.2.2.2.2.1.2.1 _ U (U.calling g mk a) _ rfl qE⟩, fun U hU hW => ⟨rfl, by rw [hU], by rw [hU]; exact hPc, va_K.moved hW.alike hK, hDc.weaken (fun _ _ _ _ => trivial), by rw [hU]; exact hEc U hW⟩⟩ rfl hA hl.1 hst (lv_room hrest) hdg ⟨hcells, hslots⟩) hS (fun q _ h => hFc q h) hFc (fun r u t H1 locs ht hvm hw hB hz1 hk1 hS => ?_)
  obtain ⟨hP1, hK1, hD1⟩ := hB
  rw [ht] at hP1
  obtain ⟨hP, hD⟩ := va_join (wr := wr) (w1 := cs' u) hP hD isC isR hC hR hn hdis hk1 hFc hP1 hD1
  exact kk r u hw H1 locs ls hP hD hS hl
end ZG
