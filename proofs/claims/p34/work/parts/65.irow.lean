/-! constructors: what they make lies behind what was there -/
/-- a constructor's contract: the new object h and its cells w0 become W1 q for some q of P1 -/
abbrev kMc (l : Launch) (y : MethodName) (ws : List Cond) (rm : Room) (D : va_G) (cl : List vw_C) (tys : List (ClassId × FieldType)) (sz : Nat) (h : Nat) (w0 : va_W) (Z : State → Prop) (P1 : (Nat → Nat) → Prop) (W1 : (Nat → Nat) → va_W) (mc ms : Nat) : Prop :=
  Met l y ws rm (va_Pc [.ref h] (fun U => kP D cl tys sz w0 U ∧ Z U)) (va_Qv P1 (fun q t => kB D cl tys (va_A w0 sz) (W1 q) t) (va_A w0 sz)) mc ms (va_A w0 sz)
theorem nd_range : ∀ (n a : Nat), va_nd (List.range' a n) = true
  | 0, _ => rfl
  | n + 1, a => by
    have h : a ∉ List.range' (a + 1) n := fun hm => by
      have := List.mem_range'_1.mp hm
      omega
    show va_nd (a :: List.range' (a + 1) n) = true
    simp [va_nd, h, nd_range n (a + 1)]
theorem kend_get (ws : va_W) (x : Nat × va_E) : [ws.length].map (fun i => (ws ++ [x])[i]?) = [x].map some := by
  simp
theorem kend_all (ws : va_W) (x : Nat × va_E) : (List.range' 0 ws.length).map (fun i => (ws ++ [x])[i]?) = ws.map some := by
  have := kget_mid ws [] [x]
  simpa using this
section KI
variable {p : Program} {l : Launch} {e : Env} {R : Room} {s : State} {m : MethodId} {args : Array Value} {below : List Frame} {meth : Method} {c : Code} {cc : ByteArray} {H H0 : Heap} {locs : List Loc} {cells slots : Nat} {Q : State → Prop} {pc : Nat} {ls : Array Slot} {rest st0 : List Value} {D : va_G} {cl : List vw_C} {tys : List (ClassId × FieldType)} {ws : va_W} {A : Nat → Prop}
theorem kr_newa (hx : p.tables.exec = Jvm.exec) (hb : c.code = cc) {atype : ArrayType} {ty : FieldType} (harr : (Cond.arrayClass (newarray.typeOf atype)).before args s = true) (t0 : Nat) {cA : ClassId} (ht : tys[t0]? = some (cA, ty)) (hty : newarray.typeOf atype = ty) (hR : ∀ k : ClassId, va_RA s k ty → s.vm.findClass ("[" ++ ty.toString) = some k) (hK : va_K D cl tys s) (hP : va_P D cl ws H) (hD : va_D A ws) (hS : va_S A H0 H locs) (hA : ∀ q, H0.size ≤ q → A q)
    {k : Nat} {a0 : vp_A} (ha : ∀ cA : ClassId, vp_cell cA a0 = arrV cA k (fun _ => defaultValue ty)) (hk : k < 2 ^ 31) (hbytes : k * componentBytes ty ≤ 536870912) (hcells : cells + 1 ≤ R.cells) (hslots : slots + k ≤ R.slots) (hdg : decode cc pc = .ok (.newarray atype, 2))
    (kk : ∀ (q : Nat) (H1 : Heap), va_P D cl (ws ++ [(q, .inl (cA, a0))]) H1 → va_D A (ws ++ [(q, .inl (cA, a0))]) → va_S A H0 H1 locs → W p l e R s m args below meth c H1 locs (cells + 1) (slots + k) Q (F0 m (pc + 2) ls (.ref q :: rest))) : W p l e R s m args below meth c H locs cells slots Q (F0 m pc ls (.int (nI k) :: rest)) := by
  refine va_newa hx hb harr hty hK hP hD hS hA ha (nI_pos hk) (nI_clamp hk) hbytes hcells hslots hdg (fun q cA' H1 hK1 hP1 hD1 hS1 => ?_)
  have h1 := hR _ (hK1.2 tys.length (cA', ty) (by simp)).2
  have h2 := hR _ (hK.2 t0 _ ht).2
  have h3 : cA' = cA := Option.some.inj (h1.symm.trans h2)
  subst h3
  exact kk q H1 hP1 hD1 hS1
theorem kr_newq (hx : p.tables.exec = Jvm.exec) (hb : c.code = cc) {own C : String} {index : Nat} (hown : s.vm.findClass own = some m.cls) (hclink : (Cond.classLink own index C).before args s = true) (hover : va_AO C s) (t0 : Nat) {cA : ClassId} (ht : tys[t0]? = some (cA, .object C)) (hK : va_K D cl tys s) (hP : va_P D cl ws H) (hD : va_D A ws) (hS : va_S A H0 H locs) (hA : ∀ q, H0.size ≤ q → A q)
    {k : Nat} (hk : k < 2 ^ 31) (hbytes : k * 4 ≤ 536870912) (hcells : cells + 1 ≤ R.cells) (hslots : slots + k ≤ R.slots) (hdg : decode cc pc = .ok (.anewarray index, 3))
    (kk : ∀ (q : Nat) (H1 : Heap), va_P D cl (ws ++ [(q, .inl (cA, k, .inr (.inr (.inr (.inr (fun _ => none))))))]) H1 → va_D A (ws ++ [(q, .inl (cA, k, .inr (.inr (.inr (.inr (fun _ => none))))))]) → va_S A H0 H1 locs → W p l e R s m args below meth c H1 locs (cells + 1) (slots + k) Q (F0 m (pc + 3) ls (.ref q :: rest))) : W p l e R s m args below meth c H locs cells slots Q (F0 m pc ls (.int (nI k) :: rest)) := by
  refine va_newq hx hb hown hclink hover hK hP hD hS hA (nI_pos hk) (nI_clamp hk) hbytes hcells hslots hdg (fun q cA' H1 hK1 hP1 hD1 hS1 => ?_)
  obtain ⟨-, -, -, -, -, h1⟩ := (hK1.2 tys.length (cA', .object C) (by simp)).2
  obtain ⟨-, -, -, -, -, h2⟩ := (hK.2 t0 _ ht).2
  have h3 : cA' = cA := Option.some.inj (h1.symm.trans h2)
  subst h3
  exact kk q H1 hP1 hD1 hS1
theorem kblindc {av : List Value} {D : va_G} {cl : List vw_C} {tys : List (ClassId × FieldType)} {sz : Nat} {w : va_W} {Z : State → Prop} (hZ : ∀ U U' : State, U.WarmedH U'.vm → Z U → Z U') : FrameBlind (va_Pc av (fun U => kP D cl tys sz w U ∧ Z U)) := fun a U g mk q => by
  obtain ⟨q0, ⟨q1, qP, qK, qD⟩, z⟩ := q
  exact ⟨q0, ⟨q1, qP, va_K.moved (u := U) (U := U.calling g mk a) (Vm.Alike.refl U.vm) qK, qD⟩, hZ U (U.calling g mk a) (State.WarmedH.refl U) z⟩
/-- the constructor of the object made last -/
theorem kr_I {nL : Nat} {Ts : List Cond} {own : String} {index : Nat} {y : MethodName} {bytes : ByteArray} {maxL : Nat} {wsC : List Cond} {rm : Room} {b : Nat} {ev : va_E} {Z : State → Prop} {P1 : (Nat → Nat) → Prop} {W1 : (Nat → Nat) → va_W} {mc ms : Nat} (S : CallFix p m c cc nL s args Ts own) (hM : kMc l y wsC rm D cl tys H.size b [(b, ev)] Z P1 W1 mc ms) (hZ : ∀ U U' : State, U.WarmedH U'.vm → Z U → Z U') (hz : Z s) (cw : CallB R s args own index y bytes maxL none wsC rm mc ms 0 ∧ y.name = "<init>" ∧ (Cond.instanceMethod y).before args s = true)
    (hK : va_K D cl tys s) (hP : va_P D cl (ws ++ [(b, ev)]) H) (hD : va_D A (ws ++ [(b, ev)])) (hS : va_S A H0 H locs) (hA : ∀ q, H0.size ≤ q → A q) (hsize : ls.size = nL) (hst : st0 = .ref b :: rest) (hW : (rest.map fun v => v.category).sum ≤ 8) (hdg : decode cc pc = .ok (.invokespecial index, 3)) (hf : cells + mc ≤ R.cells ∧ slots + ms ≤ R.slots)
    (kk : ∀ (q : Nat → Nat), P1 q → ∀ (H1 : Heap) (locs1 : List Loc), va_P D cl (ws ++ W1 q) H1 → va_D A (ws ++ W1 q) → va_S A H0 H1 locs1 → W p l e R s m args below meth c H1 locs1 (cells + mc) (slots + ms) Q (F0 m (pc + 3) ls rest)) : W p l e R s m args below meth c H locs cells slots Q (F0 m pc ls st0) := by
  have hC := kend_get ws (b, ev)
  have hPc := kcut (A := A) hP _ hC
  have hDc := hD.sub _ (by simp [va_nd]) hC
  have hFc := va_free (wc := [(b, ev)]) hD hS hA _ hC
  refine va_callv (va_runI (As := []) (rest := rest) S hM cw ⟨kblindc hZ, fun U hU hW => ⟨rfl, ⟨by rw [hU], by rw [hU]; exact hPc, va_K.moved hW.alike hK, hDc.weaken (fun _ _ _ _ => trivial)⟩, hZ _ _ hW hz⟩⟩ rfl rfl hsize hst (lv_room hW) hdg hf) hS (fun q _ h => hFc q h) hFc (fun u t H1 locs1 ht hvm hw hB hz1 hk1 hS1 => ?_)
  obtain ⟨hP1, hK1, hD1⟩ := hB
  rw [ht] at hP1
  obtain ⟨h1, h2⟩ := va_join (wr := ws) (w1 := W1 u) hP hD [ws.length] (List.range' 0 ws.length) hC (kend_all ws (b, ev)) (nd_range _ _) (fun i hi hm => by
    have h3 := List.mem_range'_1.mp hi
    have h4 := List.mem_singleton.mp hm
    omega) hk1 hFc hP1 hD1
  exact kk u hw H1 locs1 h1 h2 hS1
/-- the constructor of the object made last, private to a nest mate -/
theorem kr_IN {nL : Nat} {Ts : List Cond} {own host : String} {index : Nat} {y : MethodName} {bytes : ByteArray} {maxL : Nat} {wsC : List Cond} {rm : Room} {b : Nat} {ev : va_E} {Z : State → Prop} {P1 : (Nat → Nat) → Prop} {W1 : (Nat → Nat) → va_W} {mc ms : Nat} (S : CallFix p m c cc nL s args Ts own) (hM : kMc l y wsC rm D cl tys H.size b [(b, ev)] Z P1 W1 mc ms) (hZ : ∀ U U' : State, U.WarmedH U'.vm → Z U → Z U') (hz : Z s) (cw : va_CN R s args own index y host bytes maxL none wsC rm mc ms 0 ∧ y.name = "<init>" ∧ (Cond.instanceMethod y).before args s = true)
    (hK : va_K D cl tys s) (hP : va_P D cl (ws ++ [(b, ev)]) H) (hD : va_D A (ws ++ [(b, ev)])) (hS : va_S A H0 H locs) (hA : ∀ q, H0.size ≤ q → A q) (hsize : ls.size = nL) (hst : st0 = .ref b :: rest) (hW : (rest.map fun v => v.category).sum ≤ 8) (hdg : decode cc pc = .ok (.invokespecial index, 3)) (hf : cells + mc ≤ R.cells ∧ slots + ms ≤ R.slots)
    (kk : ∀ (q : Nat → Nat), P1 q → ∀ (H1 : Heap) (locs1 : List Loc), va_P D cl (ws ++ W1 q) H1 → va_D A (ws ++ W1 q) → va_S A H0 H1 locs1 → W p l e R s m args below meth c H1 locs1 (cells + mc) (slots + ms) Q (F0 m (pc + 3) ls rest)) : W p l e R s m args below meth c H locs cells slots Q (F0 m pc ls st0) := by
  have hC := kend_get ws (b, ev)
  have hPc := kcut (A := A) hP _ hC
  have hDc := hD.sub _ (by simp [va_nd]) hC
  have hFc := va_free (wc := [(b, ev)]) hD hS hA _ hC
  refine va_callv (va_runIN (As := []) (rest := rest) S hM cw ⟨kblindc hZ, fun U hU hW => ⟨rfl, ⟨by rw [hU], by rw [hU]; exact hPc, va_K.moved hW.alike hK, hDc.weaken (fun _ _ _ _ => trivial)⟩, hZ _ _ hW hz⟩⟩ rfl rfl hsize hst (lv_room hW) hdg hf) hS (fun q _ h => hFc q h) hFc (fun u t H1 locs1 ht hvm hw hB hz1 hk1 hS1 => ?_)
  obtain ⟨hP1, hK1, hD1⟩ := hB
  rw [ht] at hP1
  obtain ⟨h1, h2⟩ := va_join (wr := ws) (w1 := W1 u) hP hD [ws.length] (List.range' 0 ws.length) hC (kend_all ws (b, ev)) (nd_range _ _) (fun i hi hm => by
    have h3 := List.mem_range'_1.mp hi
    have h4 := List.mem_singleton.mp hm
    omega) hk1 hFc hP1 hD1
  exact kk u hw H1 locs1 h1 h2 hS1
/-- a constructor's end -/
theorem kr_cret {P1 : (Nat → Nat) → Prop} {W1 : (Nat → Nat) → va_W} {mc ms : Nat} (q : Nat → Nat) (hp : P1 q) (hx : p.tables.exec = Jvm.exec) (hb : c.code = cc) (hr : meth.sig.returnType = none) (hlocks : meth.locks = false) (hK : va_K D cl tys s) (hP : va_P D cl ws H) (hD : va_D A ws) (hS : va_S A s.heap H locs) (ew : ws = W1 q) (hc : cells ≤ mc) (hs : slots ≤ ms) (hdg : decode cc pc = .ok (.return_, 1)) : W p l e R s m args below meth c H locs cells slots (MQ below (va_Qv P1 (fun q t => kB D cl tys A (W1 q) t) A) args s mc ms A) (F0 m pc ls []) := by
  subst ew
  refine W.widen hc hs ?_
  exact W.vret hx hb hr (fun t ht hW => ⟨⟨q, rfl, hp, by rw [ht]; exact hP, va_K.moved hW.alike hK, hD⟩, hS.F ht⟩) hS.2.2 hdg
end KI
/-- a constructor's head -/
theorem kr_ofc {l : Launch} {D : va_G} {cl : List vw_C} {tys : List (ClassId × FieldType)} {cc : ByteArray} {y : MethodName} {ws0 ws' : List Cond} {rm : Room} {sz h : Nat} {w0 : va_W} {Z : State → Prop} {P1 : (Nat → Nat) → Prop} {W1 : (Nat → Nat) → va_W} {mc ms maxL : Nat} (hy : plainName y.cls = true) (hnm : y.name = "<init>") (hw : ws0 = Cond.code y cc maxL none :: ws') (hle : 1 ≤ maxL)
    (body : ∀ (p : Program) (e : Env) (s : State) (m : MethodId) (args : Array Value) (below : List Frame) (meth : Method) (c : Code) (A : Nat → Prop) (ls : Array Slot), p.tables.exec = Jvm.exec → c.code = cc → meth.sig.returnType = none → meth.name = "<init>" → (∀ w ∈ ws0, w.before args s = true) → s.vm.findClass y.cls = some m.cls → meth.locks = false → c.maxLocals = maxL → Z s → va_K D cl tys s → va_P D cl w0 s.heap → va_D A w0 → (∀ q : Nat, s.heap.size ≤ q → A q) → lv_has ls maxL [(0, .ref h)] → W p l e (headSpec ws0 rm).room s m args below meth c s.heap [] 0 0 (MQ below (va_Qv P1 (fun q t => kB D cl tys A (W1 q) t) A) args s mc ms A) (F0 m 0 ls [])) : kMc l y ws0 rm D cl tys sz h w0 Z P1 W1 mc ms := by
  refine Met.ofW (cc := cc) (maxL := maxL) (ret := none) hy hw ?_
  intro p e s m args below meth c s₁ B hml hv
  obtain ⟨rfl, ⟨hsz, hP, hK, hD0⟩, hZ⟩ := hv
  subst hsz
  rw [lg_entry_eq]
  exact body p e s m _ below meth c (va_A w0 s.heap.size) _ B.exec B.bytes B.returns ((name_of_methodNamed B.named B.method).1.trans hnm) (atoms_spec (ws := ws0) B.pre) (findClass_of_methodNamed B.named) B.notSynchronized hml hZ hK hP hD0.self (fun q h => Or.inr h) (lv_entry [.ref h] hle)
/-- a fresh world's memory -/
def g_M0 : kM := fun k => if 132 ≤ k ∧ k < 240 then -1 else 0
theorem m0_out {k : Nat} (h : k < 132 ∨ 240 ≤ k) : g_M0 k = 0 := if_neg (by omega)
theorem m0_vs {r : Nat} (h : r < 3) : vs r g_M0 = fun _ => 0 := by
  funext i
  unfold vs
  split
  · exact m0_out (by omega)
  · rfl
theorem m0_vw {o n : Nat} (h : o + n ≤ 132 ∨ 240 ≤ o) : vw o n g_M0 = fun _ => 0 := by
  funext i
  unfold vw
  split
  · exact m0_out (by omega)
  · rfl
theorem m0_vi : vw 132 108 g_M0 = fun i => if i < 108 then (-1 : Int32) else 0 := by
  funext i
  unfold vw
  split
  · exact if_pos (by omega)
  · rfl
theorem m0_vr : vr g_M0 = fun _ => 0 := by
  funext i
  unfold vr
  split
  · rw [m0_out (by omega)]
    decide
  · rfl
theorem m0_inv : kInv g_M0 := by
  refine ⟨fun i hi => ⟨0, by omega, m0_out (by omega)⟩, fun i hi => ⟨0, by omega, m0_out (by omega)⟩, fun i hi => ⟨false, m0_out (by omega)⟩, ⟨0, by omega, m0_out (by omega)⟩, ⟨0, by omega, m0_out (by omega)⟩, fun i hi => ⟨0, 0, 0, 0, 0, by omega, by omega, by omega, by omega, by omega, Or.inr rfl, Or.inr (Or.inr rfl), m0_out (by omega)⟩, fun i hi => ⟨false, m0_out (by omega)⟩⟩
def kZ5 (U : State) : Prop := va_Nw (.methodLinkNest RX5 11 yX3_init RX6) U ∧ va_Nw (.methodLinkNest RX5 20 yX1_init RX6) U ∧ va_Nw (.methodLinkNest RX5 34 yX0_init RX6) U
theorem kZ5.warm (U U' : State) (hW : U.WarmedH U'.vm) (h : kZ5 U) : kZ5 U' := ⟨va_Nw.warmM hW h.1, va_Nw.warmM hW h.2.1, va_Nw.warmM hW h.2.2⟩
def kZ6 (U : State) : Prop := kZ5 U ∧ va_Nw (.methodLinkNest RX6 11 yX5_init RX6) U ∧ va_Nw (.methodLinkNest RX6 21 yX2_init RX6) U ∧ va_AO RX5 U
theorem kZ6.warm (U U' : State) (hW : U.WarmedH U'.vm) (h : kZ6 U) : kZ6 U' := ⟨kZ5.warm U U' hW h.1, va_Nw.warmM hW h.2.1, va_Nw.warmM hW h.2.2.1, va_AO.moved hW.alike h.2.2.2⟩
abbrev wAr (cI : ClassId) (ad na : Nat) (F : Nat → Int32) : va_W := [(ad, .inl (cI, na, .inl F))]
