/-! the law's helpers: a call that may be refused, and its code -/
def kNcs : List (String × String) := [(eIA, eIO), (eIS, eIO), (eIO, eIA), (eIS, eIA), (eIO, eIS), (eIA, eIS)]
def kN (U : State) : Prop := ∀ t ∈ kNcs, va_Nc t.1 t.2 U
theorem kN.moved {u U : State} (h : u.vm.Alike U.vm) (hN : kN u) : kN U := fun t ht => va_Nc.moved h (hN t ht)
/-- a helper's contract: refused or not, it returns -/
abbrev kMg (l : Launch) (y : MethodName) (ws : List Cond) (rm : Room) (D : va_G) (cl : List vw_C) (tys : List (ClassId × FieldType)) (sz : Nat) (av : List Value) (w w1 : va_W) (r0 : Int32) (mc ms : Nat) : Prop :=
  Met l y ws rm (va_Pc av (fun U => kP D cl tys sz w U ∧ kZ (va_A w sz) U U.heap ∧ kN U)) (kQi D cl tys (va_A w sz) w1 r0) mc ms (va_A w sz)
abbrev kQe (D : va_G) (cl : List vw_C) (tys : List (ClassId × FieldType)) (A : Nat → Prop) (F : va_W → Int32 → Prop) : Array Value → State → Outcome → State → Prop := va_Qi (fun r (w1 : va_W) => F w1 r) (fun w1 t => kB D cl tys A w1 t) A
/-- a contract whose end is told by a predicate of the cells and the answer -/
abbrev kMe (l : Launch) (y : MethodName) (ws : List Cond) (rm : Room) (D : va_G) (cl : List vw_C) (tys : List (ClassId × FieldType)) (sz : Nat) (av : List Value) (w : va_W) (F : va_W → Int32 → Prop) (mc ms : Nat) : Prop :=
  Met l y ws rm (va_Pc av (fun U => kP D cl tys sz w U ∧ kZ (va_A w sz) U U.heap ∧ kN U)) (kQe D cl tys (va_A w sz) F) mc ms (va_A w sz)
theorem kblindh {av : List Value} {D : va_G} {cl : List vw_C} {tys : List (ClassId × FieldType)} {sz : Nat} {w : va_W} {A : Nat → Prop} : FrameBlind (va_Pc av (fun U => kP D cl tys sz w U ∧ kZ A U U.heap ∧ kN U)) := fun a U g mk q => by
  obtain ⟨q0, ⟨q1, qP, qK, qD⟩, ⟨z1, z2, z3⟩, z4⟩ := q
  exact ⟨q0, ⟨q1, qP, va_K.moved (u := U) (U := U.calling g mk a) (Vm.Alike.refl U.vm) qK, qD⟩, ⟨vx_Zq.moved (u := U) (U := U.calling g mk a) (Vm.Alike.refl U.vm) z1, vx_Zq.moved (u := U) (U := U.calling g mk a) (Vm.Alike.refl U.vm) z2, kZw.warm (s := U) (U := U.calling g mk a) (State.WarmedH.refl U) z3⟩, kN.moved (u := U) (U := U.calling g mk a) (Vm.Alike.refl U.vm) z4⟩
theorem kl_ofWH {l : Launch} {y : MethodName} {ws ws' : List Cond} {rm : Room} {Pc : Array Value → State → Prop} {Qc : Array Value → State → Outcome → State → Prop} {mc ms : Nat} {free : Addr → Prop} {cc : ByteArray} {maxL : Nat} {ret : Option FieldType} {hh : List (Nat × Nat × Nat × Nat)}
    (hy : plainName y.cls = true) (hw : ws = Cond.codeWith y cc maxL ret hh :: ws')
    (body : ∀ p e s m args below meth c s₁, BodyLoose p l y (headSpec ws rm) cc maxL ret e s m args below meth c s₁ → c.maxLocals = maxL → Pc args s →
      W p l e (headSpec ws rm).room s m args below meth c s.heap [] 0 0 (MQ below Qc args s mc ms free) (entryFrame m args maxL)) : Met l y ws rm Pc Qc mc ms free := by
  refine MetFree.of_bodyS (code := cc) (maxLocals := maxL) (ret := ret) hy ?_ ?_
  · intro args s m h hn
    obtain ⟨m9, meth, c, hn9, h1, h2, h3, h4, -, h5, h6, -⟩ := Cond.codeWith_spec (atoms_spec (ws := ws) h _ (by rw [hw]; exact List.mem_cons_self))
    cases hn.symm.trans hn9
    exact ⟨meth, c, h1, h2, h3, h4, h5, h6⟩
  · intro p e s m args below meth c s₁ B hml hP _
    have hh0 : s₁.heap = s.heap := by rw [B.state]; rfl
    obtain ⟨t, a1, o, b1, b2, b3⟩ := body p e s m args below meth c s₁ B hml hP s₁ hh0 (Stand.of_body B)
    exact ⟨t, o, a1, b1, b2, ⟨b3.1, b3.2⟩⟩
theorem kr_ofh {l : Launch} {D : va_G} {cl : List vw_C} {tys : List (ClassId × FieldType)} {cc : ByteArray} {y : MethodName} {ws0 ws' : List Cond} {rm : Room} {sz : Nat} {av : List Value} {w w1 : va_W} {r0 : Int32} {maxL mc ms : Nat} {ret : Option FieldType} {hh : List (Nat × Nat × Nat × Nat)} (hy : plainName y.cls = true) (hw : ws0 = Cond.codeWith y cc maxL ret hh :: ws') (hle : (lg_sl av).length ≤ maxL)
    (body : ∀ (p : Program) (e : Env) (s : State) (m : MethodId) (args : Array Value) (below : List Frame) (meth : Method) (c : Code) (A : Nat → Prop) (ls : Array Slot), p.tables.exec = Jvm.exec → c.code = cc → meth.sig.returnType = ret → c.exceptionTable.toList = tableOf hh → (∀ w ∈ ws0, w.before args s = true) → s.vm.findClass y.cls = some m.cls → meth.locks = false → c.maxLocals = maxL → kZ A s s.heap → kN s → va_K D cl tys s → va_P D cl w s.heap → va_D A w → (∀ q : Nat, s.heap.size ≤ q → A q) → lv_has ls maxL (lv_args 0 av) → W p l e (headSpec ws0 rm).room s m args below meth c s.heap [] 0 0 (MQ below (kQi D cl tys A w1 r0) args s mc ms A) (F0 m 0 ls [])) : kMg l y ws0 rm D cl tys sz av w w1 r0 mc ms := by
  refine kl_ofWH (cc := cc) (maxL := maxL) (ret := ret) (hh := hh) hy hw ?_
  intro p e s m args below meth c s₁ B hml hv
  obtain ⟨rfl, ⟨hsz, hP, hK, hD0⟩, hZ, hN⟩ := hv
  subst hsz
  rw [lg_entry_eq]
  have hts := atoms_spec (ws := ws0) B.pre
  exact body p e s m _ below meth c (va_A w s.heap.size) _ B.exec B.bytes B.returns (vx_table (x := y) B (hts _ (by rw [hw]; exact List.mem_cons_self))) hts (findClass_of_methodNamed B.named) B.notSynchronized hml hZ hN hK hP hD0.self (fun q h => Or.inr h) (lv_entry av hle)
theorem kr_ofg {l : Launch} {D : va_G} {cl : List vw_C} {tys : List (ClassId × FieldType)} {cc : ByteArray} {y : MethodName} {ws0 ws' : List Cond} {rm : Room} {sz : Nat} {av : List Value} {w w1 : va_W} {r0 : Int32} {maxL mc ms : Nat} {ret : Option FieldType} (hy : plainName y.cls = true) (hw : ws0 = Cond.code y cc maxL ret :: ws') (hle : (lg_sl av).length ≤ maxL)
    (body : ∀ (p : Program) (e : Env) (s : State) (m : MethodId) (args : Array Value) (below : List Frame) (meth : Method) (c : Code) (A : Nat → Prop) (ls : Array Slot), p.tables.exec = Jvm.exec → c.code = cc → meth.sig.returnType = ret → (∀ w ∈ ws0, w.before args s = true) → s.vm.findClass y.cls = some m.cls → meth.locks = false → c.maxLocals = maxL → kZ A s s.heap → kN s → va_K D cl tys s → va_P D cl w s.heap → va_D A w → (∀ q : Nat, s.heap.size ≤ q → A q) → lv_has ls maxL (lv_args 0 av) → W p l e (headSpec ws0 rm).room s m args below meth c s.heap [] 0 0 (MQ below (kQi D cl tys A w1 r0) args s mc ms A) (F0 m 0 ls [])) : kMg l y ws0 rm D cl tys sz av w w1 r0 mc ms := by
  refine Met.ofW (cc := cc) (maxL := maxL) (ret := ret) hy hw ?_
  intro p e s m args below meth c s₁ B hml hv
  obtain ⟨rfl, ⟨hsz, hP, hK, hD0⟩, hZ, hN⟩ := hv
  subst hsz
  rw [lg_entry_eq]
  have hts := atoms_spec (ws := ws0) B.pre
  exact body p e s m _ below meth c (va_A w s.heap.size) _ B.exec B.bytes B.returns hts (findClass_of_methodNamed B.named) B.notSynchronized hml hZ hN hK hP hD0.self (fun q h => Or.inr h) (lv_entry av hle)
theorem kr_ofe {l : Launch} {D : va_G} {cl : List vw_C} {tys : List (ClassId × FieldType)} {cc : ByteArray} {y : MethodName} {ws0 ws' : List Cond} {rm : Room} {sz : Nat} {av : List Value} {w : va_W} {F : va_W → Int32 → Prop} {maxL mc ms : Nat} {ret : Option FieldType} (hy : plainName y.cls = true) (hw : ws0 = Cond.code y cc maxL ret :: ws') (hle : (lg_sl av).length ≤ maxL)
    (body : ∀ (p : Program) (e : Env) (s : State) (m : MethodId) (args : Array Value) (below : List Frame) (meth : Method) (c : Code) (A : Nat → Prop) (ls : Array Slot), p.tables.exec = Jvm.exec → c.code = cc → meth.sig.returnType = ret → (∀ w ∈ ws0, w.before args s = true) → s.vm.findClass y.cls = some m.cls → meth.locks = false → c.maxLocals = maxL → kZ A s s.heap → kN s → va_K D cl tys s → va_P D cl w s.heap → va_D A w → (∀ q : Nat, s.heap.size ≤ q → A q) → lv_has ls maxL (lv_args 0 av) → W p l e (headSpec ws0 rm).room s m args below meth c s.heap [] 0 0 (MQ below (kQe D cl tys A F) args s mc ms A) (F0 m 0 ls [])) : kMe l y ws0 rm D cl tys sz av w F mc ms := by
  refine Met.ofW (cc := cc) (maxL := maxL) (ret := ret) hy hw ?_
  intro p e s m args below meth c s₁ B hml hv
  obtain ⟨rfl, ⟨hsz, hP, hK, hD0⟩, hZ, hN⟩ := hv
  subst hsz
  rw [lg_entry_eq]
  have hts := atoms_spec (ws := ws0) B.pre
  exact body p e s m _ below meth c (va_A w s.heap.size) _ B.exec B.bytes B.returns hts (findClass_of_methodNamed B.named) B.notSynchronized hml hZ hN hK hP hD0.self (fun q h => Or.inr h) (lv_entry av hle)
section KH
variable {p : Program} {l : Launch} {e : Env} {R : Room} {s : State} {m : MethodId} {args : Array Value} {below : List Frame} {meth : Method} {c : Code} {cc : ByteArray} {H H0 : Heap} {locs : List Loc} {cells slots : Nat} {Q : State → Prop} {pc : Nat} {ls : Array Slot} {rest st0 : List Value} {D : va_G} {cl : List vw_C} {tys : List (ClassId × FieldType)} {ws : va_W} {A : Nat → Prop} {E : String}
/-- a call that is refused, and caught here -/
theorem kl_V {own name : String} {nL : Nat} {Ts : List Cond} {index n : Nat} {y : MethodName} {bytes : ByteArray} {maxL : Nat} {ret : Option FieldType} {wsC : List Cond} {rm : Room} {wc : va_W} {b : Nat} {As : List Value} {fs : List Value} {ci : Nat} {q : vw_C} (S : CallFix p m c cc nL s args Ts own) (hM : kMx l y wsC rm D cl tys H.size (.ref b :: As) wc E) (cw : CallW R s args own q.1 index y bytes maxL ret wsC rm 1 6 n)
    (hZ : kZ A s s.heap) (hK : va_K D cl tys s) (hP : va_P D cl ws H) (hD : va_D A ws) (hS : va_S A s.heap H locs) (hA : ∀ q, s.heap.size ≤ q → A q) (is : List Nat) (hC : is.map (fun i => ws[i]?) = wc.map some) (hnd : va_nd is = true) (q0 : Nat) (he : ws[q0]? = some (b, .inr (ci, fs))) (hc : cl[ci]? = some q)
    (hn : As.length = n) (hsize : ls.size = nL) (hst : st0 = As.reverse ++ .ref b :: rest) (hW : (rest.map fun v => v.category).sum ≤ 8) (hdg : decode cc pc = .ok (.invokevirtual index, 3)) (hf : 1 ≤ R.cells ∧ 6 ≤ R.slots)
    (pre : List ExceptionTableEntry) (x : ExceptionTableEntry) (suf : List ExceptionTableEntry) (hsplit : c.exceptionTable.toList = pre ++ x :: suf)
    (hpass : ∀ z ∈ pre, covers z pc = false ∨ (z.catchType ≠ 0 ∧ ∃ nm : String, (Cond.classLink own z.catchType nm).before args s = true ∧ va_Nc E nm s)) (hcv : covers x pc = true) (h0 : x.catchType ≠ 0)
    (hlink : (Cond.classLink own x.catchType name).before args s = true) (hcast : (Cond.castable E name).before args s = true)
    (kk : ∀ (H1 : Heap) (locs1 : List Loc) (q9 : Addr), va_P D cl ws H1 → va_D A ws → va_S A s.heap H1 locs1 → W p l e R s m args below meth c H1 locs1 1 6 Q (F0 m x.handlerPc ls [.ref q9])) :
    W p l e R s m args below meth c H locs 0 0 Q (F0 m pc ls st0) := by
  have hPc := kcut (A := A) hP is hC
  have hDc := hD.sub is hnd hC
  have hFc := va_free (wc := wc) hD hS hA is hC
  refine vx_callv (vx_runV (As := As) (rest := rest) (b := b) S hM cw ⟨kblindx, va_recv hK hP hc he, fun U hU hW => ⟨rfl, ⟨by rw [hU], by rw [hU]; exact hPc, va_K.moved hW.alike hK, hDc.weaken (fun _ _ _ _ => trivial)⟩, by rw [hU]; have := kZ.at (U := U) hZ hS.2.1 hU hW (A' := va_A wc H.size) hFc; rw [hU] at this; exact this⟩⟩ rfl hn hsize hst (lv_room hW) hdg (by simpa using hf)) hS (fun q _ h => h.elim) hFc (fun q _ h => hFc q h) (fun E' ce q9 u t H1 locs1 ht hvm _ hB hz1 hk1 hS1 hce hcv9 hcl => ?_) (fun u t H1 locs1 ht hvm hr => hr.elim)
  obtain ⟨rfl, hB⟩ := hB
  obtain ⟨h1, h2⟩ := kr_join (l0 := l) hP hD is hC hnd rfl (kset_same is wc ws hC) ht hk1 hB
  obtain ⟨hx, hb, hml, hown, hts⟩ := S
  refine vx_catch hown pre x suf hsplit hpass hcv h0 hlink hcast hce hcv9 hcl ?_
  exact kk H1 locs1 q9 h1 h2 hS1
/-- the law calls a helper -/
theorem kl_S {nL : Nat} {Ts : List Cond} {own : String} {index n : Nat} {y : MethodName} {bytes : ByteArray} {maxL mc ms : Nat} {ret : Option FieldType} {hh : List (Nat × Nat × Nat × Nat)} {wsC : List Cond} {rm : Room} {wc w1 ws2 : va_W} {r0 : Int32} {As : List Value} (S : CallFix p m c cc nL s args Ts own) (hM : kMg l y wsC rm D cl tys H.size As wc w1 r0 mc ms) (cw : vx_CSW R s args own index y bytes maxL ret hh wsC rm mc ms n)
    (hZ : kZ A s s.heap) (hN : kN s) (hK : va_K D cl tys s) (hP : va_P D cl ws H) (hD : va_D A ws) (hS : va_S A s.heap H locs) (hA : ∀ q, s.heap.size ≤ q → A q) (is : List Nat) (hC : is.map (fun i => ws[i]?) = wc.map some) (hnd : va_nd is = true) (ha : w1.map (·.1) = wc.map (·.1)) (hw : kset ws is w1 = ws2)
    (hn : As.length = n) (hsize : ls.size = nL) (hst : st0 = As.reverse ++ rest) (hW : (rest.map fun v => v.category).sum ≤ 8) (hdg : decode cc pc = .ok (.invokestatic index, 3)) (hf : cells + mc ≤ R.cells ∧ slots + ms ≤ R.slots)
    (kk : ∀ (H1 : Heap) (locs1 : List Loc), va_P D cl ws2 H1 → va_D A ws2 → va_S A s.heap H1 locs1 → W p l e R s m args below meth c H1 locs1 (cells + mc) (slots + ms) Q (F0 m (pc + 3) ls (.int r0 :: rest))) : W p l e R s m args below meth c H locs cells slots Q (F0 m pc ls st0) := by
  have hPc := kcut (A := A) hP is hC
  have hDc := hD.sub is hnd hC
  have hFc := va_free (wc := wc) hD hS hA is hC
  refine va_calli (vx_runSW (As := As) (rest := rest) S hM cw ⟨kblindh, fun U hU hW => ⟨rfl, ⟨by rw [hU], by rw [hU]; exact hPc, va_K.moved hW.alike hK, hDc.weaken (fun _ _ _ _ => trivial)⟩, by rw [hU]; have := kZ.at (U := U) hZ hS.2.1 hU hW (A' := va_A wc H.size) hFc; rw [hU] at this; exact this, kN.moved hW.alike hN⟩⟩ rfl hn hsize hst (lv_room hW) hdg hf) hS (fun q _ h => hFc q h) hFc (fun r u t H1 locs1 ht hvm hr hB hz1 hk1 hS1 => ?_)
  subst hr
  obtain ⟨h1, h2⟩ := kr_join (l0 := l) hP hD is hC hnd ha hw ht hk1 hB
  exact kk H1 locs1 h1 h2 hS1

/-- the same, of a method that catches nothing -/
theorem kl_P {nL : Nat} {Ts : List Cond} {own : String} {index n : Nat} {y : MethodName} {bytes : ByteArray} {maxL mc ms : Nat} {ret : Option FieldType} {wsC : List Cond} {rm : Room} {wc w1 ws2 : va_W} {r0 : Int32} {As : List Value} (S : CallFix p m c cc nL s args Ts own) (hM : kMg l y wsC rm D cl tys H.size As wc w1 r0 mc ms) (cw : CallB R s args own index y bytes maxL ret wsC rm mc ms n ∧ (Cond.static y).before args s = true)
    (hZ : kZ A s s.heap) (hN : kN s) (hK : va_K D cl tys s) (hP : va_P D cl ws H) (hD : va_D A ws) (hS : va_S A s.heap H locs) (hA : ∀ q, s.heap.size ≤ q → A q) (is : List Nat) (hC : is.map (fun i => ws[i]?) = wc.map some) (hnd : va_nd is = true) (ha : w1.map (·.1) = wc.map (·.1)) (hw : kset ws is w1 = ws2)
    (hn : As.length = n) (hsize : ls.size = nL) (hst : st0 = As.reverse ++ rest) (hW : (rest.map fun v => v.category).sum ≤ 8) (hdg : decode cc pc = .ok (.invokestatic index, 3)) (hf : cells + mc ≤ R.cells ∧ slots + ms ≤ R.slots)
    (kk : ∀ (H1 : Heap) (locs1 : List Loc), va_P D cl ws2 H1 → va_D A ws2 → va_S A s.heap H1 locs1 → W p l e R s m args below meth c H1 locs1 (cells + mc) (slots + ms) Q (F0 m (pc + 3) ls (.int r0 :: rest))) : W p l e R s m args below meth c H locs cells slots Q (F0 m pc ls st0) := by
  have hPc := kcut (A := A) hP is hC
  have hDc := hD.sub is hnd hC
  have hFc := va_free (wc := wc) hD hS hA is hC
  refine va_calli (va_runS (As := As) (rest := rest) S hM cw ⟨kblindh, fun U hU hW => ⟨rfl, ⟨by rw [hU], by rw [hU]; exact hPc, va_K.moved hW.alike hK, hDc.weaken (fun _ _ _ _ => trivial)⟩, by rw [hU]; have := kZ.at (U := U) hZ hS.2.1 hU hW (A' := va_A wc H.size) hFc; rw [hU] at this; exact this, kN.moved hW.alike hN⟩⟩ rfl hn hsize hst (lv_room hW) hdg hf) hS (fun q _ h => hFc q h) hFc (fun r u t H1 locs1 ht hvm hr hB hz1 hk1 hS1 => ?_)
  subst hr
  obtain ⟨h1, h2⟩ := kr_join (l0 := l) hP hD is hC hnd ha hw ht hk1 hB
  exact kk H1 locs1 h1 h2 hS1

/-- the same, its end told by a predicate -/
theorem kl_E {nL : Nat} {Ts : List Cond} {own : String} {index n : Nat} {y : MethodName} {bytes : ByteArray} {maxL mc ms : Nat} {ret : Option FieldType} {wsC : List Cond} {rm : Room} {wc : va_W} {F : va_W → Int32 → Prop} {As : List Value} (S : CallFix p m c cc nL s args Ts own) (hM : kMe l y wsC rm D cl tys H.size As wc F mc ms) (cw : CallB R s args own index y bytes maxL ret wsC rm mc ms n ∧ (Cond.static y).before args s = true)
    (hZ : kZ A s s.heap) (hN : kN s) (hK : va_K D cl tys s) (hP : va_P D cl ws H) (hD : va_D A ws) (hS : va_S A s.heap H locs) (hA : ∀ q, s.heap.size ≤ q → A q) (is : List Nat) (hC : is.map (fun i => ws[i]?) = wc.map some) (hnd : va_nd is = true) (ha : ∀ w1 r, F w1 r → w1.map (·.1) = wc.map (·.1))
    (hn : As.length = n) (hsize : ls.size = nL) (hst : st0 = As.reverse ++ rest) (hW : (rest.map fun v => v.category).sum ≤ 8) (hdg : decode cc pc = .ok (.invokestatic index, 3)) (hf : cells + mc ≤ R.cells ∧ slots + ms ≤ R.slots)
    (kk : ∀ (w1 : va_W) (r0 : Int32), F w1 r0 → ∀ (H1 : Heap) (locs1 : List Loc), va_P D cl (kset ws is w1) H1 → va_D A (kset ws is w1) → va_S A s.heap H1 locs1 → W p l e R s m args below meth c H1 locs1 (cells + mc) (slots + ms) Q (F0 m (pc + 3) ls (.int r0 :: rest))) : W p l e R s m args below meth c H locs cells slots Q (F0 m pc ls st0) := by
  have hPc := kcut (A := A) hP is hC
  have hDc := hD.sub is hnd hC
  have hFc := va_free (wc := wc) hD hS hA is hC
  refine va_calli (va_runS (As := As) (rest := rest) S hM cw ⟨kblindh, fun U hU hW => ⟨rfl, ⟨by rw [hU], by rw [hU]; exact hPc, va_K.moved hW.alike hK, hDc.weaken (fun _ _ _ _ => trivial)⟩, by rw [hU]; have := kZ.at (U := U) hZ hS.2.1 hU hW (A' := va_A wc H.size) hFc; rw [hU] at this; exact this, kN.moved hW.alike hN⟩⟩ rfl hn hsize hst (lv_room hW) hdg hf) hS (fun q _ h => hFc q h) hFc (fun r u t H1 locs1 ht hvm hr hB hz1 hk1 hS1 => ?_)
  obtain ⟨h1, h2⟩ := kr_join (l0 := l) hP hD is hC hnd (ha u r hr) rfl ht hk1 hB
  exact kk u r hr H1 locs1 h1 h2 hS1

theorem kr_eret {F : va_W → Int32 → Prop} {v : Int32} (hx : p.tables.exec = Jvm.exec) (hb : c.code = cc) (hr : meth.sig.returnType = some .int) (hlocks : meth.locks = false) (hK : va_K D cl tys s) (hP : va_P D cl ws H) (hD : va_D A ws) (hS : va_S A s.heap H locs) (hF : F ws v) (hdg : decode cc pc = .ok (.ireturn, 1)) : W p l e R s m args below meth c H locs cells slots (MQ below (kQe D cl tys A F) args s cells slots A) (F0 m pc ls [.int v]) :=
  W.iret hx hb hr (fun t ht hW => ⟨⟨v, ws, rfl, hF, by rw [ht]; exact hP, va_K.moved hW.alike hK, hD⟩, hS.F ht⟩) hS.2.2 hdg
end KH
