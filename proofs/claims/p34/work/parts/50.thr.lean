/-! what throws: which exception, and that nothing else changed -/
def kTexts : List (Nat × String) := [(229, "there is no such user"), (232, "both are the same user"), (234, "there is no such seat"), (59, "rank or mood is out of range"), (80, "the seat is off"), (236, "what is out of range"), (101, "count is out of range"), (238, "there is no such message"), (147, "version is negative"), (190, "value is out of range"), (195, "the text is full"), (213, "there is no saved state")]
def eIO : String := "java/lang/IndexOutOfBoundsException"
def eIA : String := "java/lang/IllegalArgumentException"
def eIS : String := "java/lang/IllegalStateException"
def kBadD : List MethodName := [Bundle.initS "java/lang/RuntimeException", Bundle.initS "java/lang/Exception", Bundle.initS Bundle.tN]
def kBadC : List String := ["java/lang/IndexOutOfBoundsException", "java/lang/IllegalArgumentException", "java/lang/IllegalStateException"]
def kBad : List Cond := kBadD.map Cond.declares ++ kBadC.map (fun X => Cond.castable X X)
def kZw (U : State) : Prop := (∀ t ∈ kTexts, ∃ sa, vk_R RX6 t.1 t.2 sa U) ∧ (∀ w ∈ kBad, va_Nw w U)
def kZ (A : Nat → Prop) (U : State) (H : Heap) : Prop := vx_Zq Bundle.tN "UNASSIGNED_STACK" Bundle.steD A U H ∧ vx_Zq Bundle.tN "SUPPRESSED_SENTINEL" Bundle.listD A U H ∧ kZw U
theorem kZw.warm {s U : State} (hW : s.WarmedH U.vm) (h : kZw s) : kZw U := by
  refine ⟨fun t ht => ?_, fun w hw => ?_⟩
  · obtain ⟨sa, h1⟩ := h.1 t ht
    exact ⟨sa, vk_R.warm hW h1⟩
  · rcases List.mem_append.mp hw with h9 | h9
    · obtain ⟨x, hx, rfl⟩ := List.mem_map.mp h9
      exact va_Nw.warmD hW (h.2 _ hw)
    · obtain ⟨x, hx, rfl⟩ := List.mem_map.mp h9
      exact va_Nw.warmC hW (h.2 _ hw)
theorem kZ.at {A A' : Nat → Prop} {s U : State} {H : Heap} (h : kZ A s s.heap) (hq : ∀ a : Nat, a < s.heap.size → ¬ A a → H[a]? = s.heap[a]?) (hU : U.heap = H) (hW : s.WarmedH U.vm) (hA : ∀ q, A' q → A q) : kZ A' U U.heap := by
  rw [hU]
  exact ⟨(vx_Zq.moved hW.alike (h.1.kept hq)).narrow hA, (vx_Zq.moved hW.alike (h.2.1.kept hq)).narrow hA, h.2.2.warm hW⟩
abbrev kQ0 : Array Value → State → Outcome → State → Prop := va_Qv (fun (_ : Unit) => False) (fun _ _ => True) (fun _ => False)
abbrev kX0 (D : va_G) (cl : List vw_C) (tys : List (ClassId × FieldType)) (A : Nat → Prop) (w : va_W) (E : String) : String → State → State → Prop := vx_X (fun _ : Unit => True) (fun E' _ t => E' = E ∧ kB D cl tys A w t) A
abbrev kMx (l : Launch) (y : MethodName) (ws : List Cond) (rm : Room) (D : va_G) (cl : List vw_C) (tys : List (ClassId × FieldType)) (sz : Nat) (av : List Value) (w : va_W) (E : String) : Prop :=
  vx_Met l y ws rm (va_Pc av (fun U => kP D cl tys sz w U ∧ kZ (va_A w sz) U U.heap)) kQ0 (kX0 D cl tys (va_A w sz) w E) 1 6 (va_A w sz)
theorem kblindx {av : List Value} {D : va_G} {cl : List vw_C} {tys : List (ClassId × FieldType)} {sz : Nat} {w : va_W} {A : Nat → Prop} : FrameBlind (va_Pc av (fun U => kP D cl tys sz w U ∧ kZ A U U.heap)) := fun a U g mk q => by
  obtain ⟨q0, ⟨q1, qP, qK, qD⟩, z1, z2, z3⟩ := q
  exact ⟨q0, ⟨q1, qP, va_K.moved (u := U) (U := U.calling g mk a) (Vm.Alike.refl U.vm) qK, qD⟩, vx_Zq.moved (u := U) (U := U.calling g mk a) (Vm.Alike.refl U.vm) z1, vx_Zq.moved (u := U) (U := U.calling g mk a) (Vm.Alike.refl U.vm) z2, kZw.warm (s := U) (U := U.calling g mk a) (State.WarmedH.refl U) z3⟩
theorem kset_same : ∀ (is : List Nat) (wc ws : va_W), is.map (fun i => ws[i]?) = wc.map some → kset ws is wc = ws
  | [], wc, ws, _ => kset_nil ws wc
  | i :: is, [], ws, h => by simp at h
  | i :: is, x :: wc, ws, h => by
    have h1 : ws[i]? = some x ∧ is.map (fun i => ws[i]?) = wc.map some := by simpa using h
    have h2 : ws.set i x = ws := by
      obtain ⟨hi, he⟩ := List.getElem?_eq_some_iff.mp h1.1
      subst he
      exact List.set_getElem_self hi
    show kset (ws.set i x) is wc = ws
    rw [h2]
    exact kset_same is wc ws h1.2
section KX
variable {p : Program} {l : Launch} {e : Env} {R : Room} {s : State} {m : MethodId} {args : Array Value} {below : List Frame} {meth : Method} {c : Code} {cc : ByteArray} {H : Heap} {locs : List Loc} {cells slots : Nat} {pc : Nat} {ls : Array Slot} {rest st0 : List Value} {D : va_G} {cl : List vw_C} {tys : List (ClassId × FieldType)} {ws : va_W} {A : Nat → Prop} {E : String}
theorem kx_out {w0 : va_W} {k n : Nat} {q9 : Addr} {ce : Cell} (hno : ∀ x ∈ c.exceptionTable.toList, False) (hlocks : meth.locks = false) (hK : va_K D cl tys s) (hP : va_P D cl w0 H) (hD : va_D A w0) (hS : va_S A s.heap H locs) (hce : H[q9]? = some ce) (hcv : ce.vm = .none) (hcl : s.vm.findClass E = some ce.cls) (hk : k ≤ 1) (hn : n ≤ 6) :
    vx_W p l e R s m args below meth c H locs k n (vx_MQ below kQ0 (kX0 D cl tys A w0 E) args s 1 6 A) (F0 m pc ls rest) q9 :=
  vx_out (fun x hx => (hno x hx).elim) hlocks hce hcv hcl (fun t ht hW => ⟨(), trivial, ⟨rfl, by rw [ht]; exact hP, va_K.moved hW hK, hD⟩, hS.F ht⟩) hS.2.2 hk hn
theorem kx_S {Qz : Array Value → State → Outcome → State → Prop} {nL : Nat} {Ts : List Cond} {own : String} {index n : Nat} {y : MethodName} {bytes : ByteArray} {maxL : Nat} {ret : Option FieldType} {wsC : List Cond} {rm : Room} {wc : va_W} {As : List Value} (S : CallFix p m c cc nL s args Ts own) (hM : kMx l y wsC rm D cl tys H.size As wc E) (cw : CallB R s args own index y bytes maxL ret wsC rm 1 6 n ∧ (Cond.static y).before args s = true)
    (hZ : kZ A s s.heap) (hno : ∀ x ∈ c.exceptionTable.toList, False) (hlocks : meth.locks = false) (hK : va_K D cl tys s) (hP : va_P D cl ws H) (hD : va_D A ws) (hS : va_S A s.heap H locs) (hA : ∀ q, s.heap.size ≤ q → A q) (is : List Nat) (hC : is.map (fun i => ws[i]?) = wc.map some) (hnd : va_nd is = true)
    (hn : As.length = n) (hsize : ls.size = nL) (hst : st0 = As.reverse ++ rest) (hW : (rest.map fun v => v.category).sum ≤ 8) (hdg : decode cc pc = .ok (.invokestatic index, 3)) (hf : 1 ≤ R.cells ∧ 6 ≤ R.slots) :
    W p l e R s m args below meth c H locs 0 0 (vx_MQ below kQ0 (kX0 D cl tys A ws E) args s 1 6 A) (F0 m pc ls st0) := by
  have hPc := kcut (A := A) hP is hC
  have hDc := hD.sub is hnd hC
  have hFc := va_free (wc := wc) hD hS hA is hC
  refine vx_callv (vx_runS (As := As) (rest := rest) S hM cw ⟨kblindx, fun U hU hW => ⟨rfl, ⟨by rw [hU], by rw [hU]; exact hPc, va_K.moved hW.alike hK, hDc.weaken (fun _ _ _ _ => trivial)⟩, by rw [hU]; have := kZ.at (U := U) hZ hS.2.1 hU hW (A' := va_A wc H.size) hFc; rw [hU] at this; exact this⟩⟩ rfl hn hsize hst (lv_room hW) hdg (by simpa using hf)) hS (fun q _ h => h.elim) hFc (fun q _ h => hFc q h) (fun E' ce q9 u t H1 locs1 ht hvm _ hB hz1 hk1 hS1 hce hcv hcl => ?_) (fun u t H1 locs1 ht hvm hr => hr.elim)
  obtain ⟨rfl, hB⟩ := hB
  obtain ⟨h1, h2⟩ := kr_join (l0 := l) hP hD is hC hnd rfl (kset_same is wc ws hC) ht hk1 hB
  exact kx_out hno hlocks hK h1 h2 hS1 hce hcv hcl (by omega) (by omega)
theorem kx_V {nL : Nat} {Ts : List Cond} {own : String} {index n : Nat} {y : MethodName} {bytes : ByteArray} {maxL : Nat} {ret : Option FieldType} {wsC : List Cond} {rm : Room} {wc : va_W} {b : Nat} {As : List Value} {fs : List Value} {ci : Nat} {q : vw_C} (S : CallFix p m c cc nL s args Ts own) (hM : kMx l y wsC rm D cl tys H.size (.ref b :: As) wc E) (cw : CallW R s args own q.1 index y bytes maxL ret wsC rm 1 6 n)
    (hZ : kZ A s s.heap) (hno : ∀ x ∈ c.exceptionTable.toList, False) (hlocks : meth.locks = false) (hK : va_K D cl tys s) (hP : va_P D cl ws H) (hD : va_D A ws) (hS : va_S A s.heap H locs) (hA : ∀ q, s.heap.size ≤ q → A q) (is : List Nat) (hC : is.map (fun i => ws[i]?) = wc.map some) (hnd : va_nd is = true) (q0 : Nat) (he : ws[q0]? = some (b, .inr (ci, fs))) (hc : cl[ci]? = some q)
    (hn : As.length = n) (hsize : ls.size = nL) (hst : st0 = As.reverse ++ .ref b :: rest) (hW : (rest.map fun v => v.category).sum ≤ 8) (hdg : decode cc pc = .ok (.invokevirtual index, 3)) (hf : 1 ≤ R.cells ∧ 6 ≤ R.slots) :
    W p l e R s m args below meth c H locs 0 0 (vx_MQ below kQ0 (kX0 D cl tys A ws E) args s 1 6 A) (F0 m pc ls st0) := by
  have hPc := kcut (A := A) hP is hC
  have hDc := hD.sub is hnd hC
  have hFc := va_free (wc := wc) hD hS hA is hC
  refine vx_callv (vx_runV (As := As) (rest := rest) (b := b) S hM cw ⟨kblindx, va_recv hK hP hc he, fun U hU hW => ⟨rfl, ⟨by rw [hU], by rw [hU]; exact hPc, va_K.moved hW.alike hK, hDc.weaken (fun _ _ _ _ => trivial)⟩, by rw [hU]; have := kZ.at (U := U) hZ hS.2.1 hU hW (A' := va_A wc H.size) hFc; rw [hU] at this; exact this⟩⟩ rfl hn hsize hst (lv_room hW) hdg (by simpa using hf)) hS (fun q _ h => h.elim) hFc (fun q _ h => hFc q h) (fun E' ce q9 u t H1 locs1 ht hvm _ hB hz1 hk1 hS1 hce hcv hcl => ?_) (fun u t H1 locs1 ht hvm hr => hr.elim)
  obtain ⟨rfl, hB⟩ := hB
  obtain ⟨h1, h2⟩ := kr_join (l0 := l) hP hD is hC hnd rfl (kset_same is wc ws hC) ht hk1 hB
  exact kx_out hno hlocks hK h1 h2 hS1 hce hcv hcl (by omega) (by omega)
theorem kx_throw {Ts : List Cond} {ik is ic : Nat} {text : String} {names : List String} (hnm : names = ["java/lang/RuntimeException", "java/lang/Exception"]) (hl : l.stackTraces = false) (hx : p.tables.exec = Jvm.exec) (hb : c.code = cc) (hown : s.vm.findClass RX6 = some m.cls) (hts : ∀ w ∈ Ts, w.before args s = true)
    (hE : E ∈ kBadC) (hk : Cond.classLink RX6 ik E ∈ Ts) (hi : Cond.initialized E ∈ Ts) (hat : ∀ w ∈ (vx_atS RX6 ic E names).filter goodWord, w ∈ Ts) (hbad : ∀ w ∈ (vx_atS RX6 ic E names).filter (fun w => !goodWord w), w ∈ kBad) (hg : ∀ w ∈ Cond.classLink RX6 ik E :: Cond.initialized E :: vx_atS RX6 ic E names, vx_ot w = true) (htx : (is, text) ∈ kTexts)
    (hZ : kZ A s s.heap) (hno : ∀ x ∈ c.exceptionTable.toList, False) (hlocks : meth.locks = false) (hK : va_K D cl tys s) (hP : va_P D cl ws H) (hD : va_D A ws) (hS : va_S A s.heap H locs) (hsize : ls.size = c.maxLocals)
    (d0 : decode cc pc = .ok (.new ik, 3)) (d3 : decode cc (pc + 3) = .ok (.dup, 1)) (d4 : decode cc (pc + 4) = .ok (.ldc is, 2)) (d6 : decode cc (pc + 6) = .ok (.invokespecial ic, 3)) (d9 : decode cc (pc + 9) = .ok (.athrow, 1))
    (hR : 6 ≤ R.frames ∧ 82 ≤ R.locals ∧ 1 ≤ R.cells ∧ 6 ≤ R.slots) :
    W p l e R s m args below meth c H locs 0 0 (vx_MQ below kQ0 (kX0 D cl tys A ws E) args s 1 6 A) (F0 m pc ls []) := by
  obtain ⟨sa, hsa⟩ := hZ.2.2.1 _ htx
  have hfit : Bundle.fit E = true := by
    simp only [kBadC, List.mem_cons, List.not_mem_nil, or_false] at hE
    rcases hE with rfl | rfl | rfl <;> decide +kernel
  subst hnm
  exact vx_throwS (names := ["java/lang/RuntimeException", "java/lang/Exception"]) hx hb hl hown hfit (by decide +kernel) (hts _ hk) (hts _ hi) hsa (vx_hat (fun w hw => hts w (hat w hw)) hbad (fun w hw => va_Nw.use (by
      rcases List.mem_append.mp hw with h9 | h9 <;> (obtain ⟨x, hx, rfl⟩ := List.mem_map.mp h9; rfl)) (hZ.2.2.2 w hw))) hg hZ.1 hZ.2.1 hS hsize d0 d3 d4 d6 d9 (fun x hx => (hno x hx).elim)
    (by simp only [List.length_cons, List.length_nil]; omega) (by simp only [List.length_cons, List.length_nil, List.map_nil, List.sum_nil]; omega) (by omega) (by omega) hlocks
    (fun t hW hz hk => ⟨(), trivial, ⟨rfl, fun k q hq => (hP k q hq).kept (by
      have := hk q.1 ((hP k q hq).lt); exact this), va_K.moved hW hK, hD⟩, ⟨Nat.le_trans hS.1 hz, fun q h1 h2 => by rw [hk q (Nat.lt_of_lt_of_le h1 hS.1)]; exact hS.2.1 q h1 h2⟩⟩) hS.2.2 (by omega) (by omega)
end KX
/-- a throwing contract's head -/
theorem kr_ofx {l : Launch} {D : va_G} {cl : List vw_C} {tys : List (ClassId × FieldType)} {cc : ByteArray} {y : MethodName} {ws0 ws' : List Cond} {rm : Room} {sz : Nat} {av : List Value} {w : va_W} {E : String} {maxL : Nat} {ret : Option FieldType} (hy : plainName y.cls = true) (hw : ws0 = Cond.code y cc maxL ret :: ws') (hle : (lg_sl av).length ≤ maxL)
    (body : ∀ (p : Program) (e : Env) (s : State) (m : MethodId) (args : Array Value) (below : List Frame) (meth : Method) (c : Code) (A : Nat → Prop) (ls : Array Slot), p.tables.exec = Jvm.exec → c.code = cc → (∀ x ∈ c.exceptionTable.toList, False) → (∀ w ∈ ws0, w.before args s = true) → s.vm.findClass y.cls = some m.cls → meth.locks = false → c.maxLocals = maxL → kZ A s s.heap → va_K D cl tys s → va_P D cl w s.heap → va_D A w → (∀ q : Nat, s.heap.size ≤ q → A q) → lv_has ls maxL (lv_args 0 av) → W p l e (headSpec ws0 rm).room s m args below meth c s.heap [] 0 0 (vx_MQ below kQ0 (kX0 D cl tys A w E) args s 1 6 A) (F0 m 0 ls [])) : kMx l y ws0 rm D cl tys sz av w E := by
  refine vx_ofW (cc := cc) (maxL := maxL) (ret := ret) hy hw ?_
  intro p e s m args below meth c s₁ B hml hno hv
  obtain ⟨rfl, ⟨hsz, hP, hK, hD0⟩, hZ⟩ := hv
  subst hsz
  rw [lg_entry_eq]
  exact body p e s m _ below meth c (va_A w s.heap.size) _ B.exec B.bytes hno (atoms_spec (ws := ws0) B.pre) (findClass_of_methodNamed B.named) B.notSynchronized hml hZ hK hP hD0.self (fun q h => Or.inr h) (lv_entry av hle)
