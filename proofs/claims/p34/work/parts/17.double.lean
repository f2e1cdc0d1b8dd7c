/-! answers that are doubles -/
abbrev kQd (D : va_G) (cl : List vw_C) (tys : List (ClassId × FieldType)) (A : Nat → Prop) (w1 : va_W) (r0 : UInt64) : Array Value → State → Outcome → State → Prop := va_Qd (fun r (_ : Unit) => r = r0) (fun _ t => kB D cl tys A w1 t) A
abbrev kMd (l : Launch) (y : MethodName) (ws : List Cond) (rm : Room) (D : va_G) (cl : List vw_C) (tys : List (ClassId × FieldType)) (sz : Nat) (av : List Value) (w w1 : va_W) (r0 : UInt64) : Prop := Met l y ws rm (va_Pc av (kP D cl tys sz w)) (kQd D cl tys (va_A w sz) w1 r0) 0 0 (va_A w sz)
theorem kr_ofd {l : Launch} {D : va_G} {cl : List vw_C} {tys : List (ClassId × FieldType)} {cc : ByteArray} {y : MethodName} {ws0 ws' : List Cond} {rm : Room} {sz : Nat} {av : List Value} {w w1 : va_W} {r0 : UInt64} {maxL : Nat} {ret : Option FieldType} (hy : plainName y.cls = true) (hw : ws0 = Cond.code y cc maxL ret :: ws') (hle : (lg_sl av).length ≤ maxL)
    (body : ∀ (p : Program) (e : Env) (s : State) (m : MethodId) (args : Array Value) (below : List Frame) (meth : Method) (c : Code) (A : Nat → Prop) (ls : Array Slot), p.tables.exec = Jvm.exec → c.code = cc → meth.sig.returnType = ret → (∀ w ∈ ws0, w.before args s = true) → s.vm.findClass y.cls = some m.cls → meth.locks = false → c.maxLocals = maxL → va_K D cl tys s → va_P D cl w s.heap → va_D A w → (∀ q : Nat, s.heap.size ≤ q → A q) → lv_has ls maxL (lv_args 0 av) → W p l e (headSpec ws0 rm).room s m args below meth c s.heap [] 0 0 (MQ below (kQd D cl tys A w1 r0) args s 0 0 A) (F0 m 0 ls [])) : kMd l y ws0 rm D cl tys sz av w w1 r0 := by
  refine Met.ofW (cc := cc) (maxL := maxL) (ret := ret) hy hw ?_
  intro p e s m args below meth c s₁ B hml hv
  obtain ⟨rfl, hsz, hP, hK, hD0⟩ := hv
  subst hsz
  rw [lg_entry_eq]
  exact body p e s m _ below meth c (va_A w s.heap.size) _ B.exec B.bytes B.returns (atoms_spec (ws := ws0) B.pre) (findClass_of_methodNamed B.named) B.notSynchronized hml hK hP hD0.self (fun q h => Or.inr h) (lv_entry av hle)
theorem kr_dret {p : Program} {l : Launch} {e : Env} {R : Room} {s : State} {m : MethodId} {args : Array Value} {below : List Frame} {meth : Method} {c : Code} {cc : ByteArray} {H : Heap} {locs : List Loc} {cells slots : Nat} {pc : Nat} {ls : Array Slot} {D : va_G} {cl : List vw_C} {tys : List (ClassId × FieldType)} {ws : va_W} {A : Nat → Prop} {w1 : va_W} {v r0 : UInt64} (hx : p.tables.exec = Jvm.exec) (hb : c.code = cc) (hr : meth.sig.returnType = some .double) (hlocks : meth.locks = false) (hK : va_K D cl tys s) (hP : va_P D cl ws H) (hD : va_D A ws) (hS : va_S A s.heap H locs) (ev : v = r0) (ew : ws = w1) (hdg : decode cc pc = .ok (.dreturn, 1)) : W p l e R s m args below meth c H locs cells slots (MQ below (kQd D cl tys A w1 r0) args s cells slots A) (F0 m pc ls [.double v]) := by
  subst ev
  subst ew
  exact W.dret hx hb hr (fun t ht hW => ⟨⟨v, (), rfl, rfl, by rw [ht]; exact hP, va_K.moved hW.alike hK, hD⟩, hS.F ht⟩) hS.2.2 hdg
def g_share (n : Nat) : UInt64 := FP.ddiv (FP.i2d (nI n)) 4629137466983448576
theorem share_ok0 : ∀ n, n < 37 → FP.ddiv (FP.i2d (nI n)) 4629137466983448576 &&& 0x7fffffffffffffff ≤ 0x7ff0000000000000 := by decide +kernel
theorem share_ok {n : Nat} (h : n < 37) : vf_n64 (FP.ddiv (FP.i2d (nI n)) 4629137466983448576) := share_ok0 n h
theorem share_cmp : ∀ n, n < 37 → Op.cmpValue (FP.dcmp (g_share n) (g_share n)) .l = 0 := by decide +kernel
/-- the reference's own count of the seen: from each row a flag -/
theorem hv_step {M : kM} {a b s : Nat} : g_hv M a b (s + 1) = (g_hv M a b s || decide (¬ M (132 + 18 * a + 3 * b + s) = -1)) := rfl
