/-! the law: its two objects, what is fixed, cell -/
abbrev wO (cI cB cW : ClassId) (u : Nat → Nat) (M N : kM) (S : Nat → kM) (n r : Nat) : va_W := wX cI cB cW (fun i => u i) (fun i => u (100 + i)) (fun i => u (200 + i)) (fun j i => u (300 + 100 * j + i)) (fun i => u (800 + i)) (g_rot (fun j i => u (300 + 100 * j + i)) r) M N S n 0 (fun _ => 0)
section W2
variable {A A' B B' : va_W}
theorem len_wX {cI cB cW : ClassId} {ob nw tr : Nat → Nat} {qs : Nat → Nat → Nat} {sc : Nat → Nat} {G : Nat → Option Nat} {M N : kM} {S : Nat → kM} {n L : Nat} {T : Nat → Int32} : (wX cI cB cW ob nw tr qs sc G M N S n L T).length = 94 := rfl
theorem w2_getA (hA : A.length = 94) : [0, 1, 2, 3, 4, 5, 6, 7, 8, 9, 10, 11, 12, 13, 14, 15, 16, 17, 18, 19, 20, 21, 22, 23, 24, 25, 26, 27, 28, 29, 30, 31, 32, 33, 34, 35, 36, 37, 38, 39, 40, 41, 42, 43, 44, 45, 46, 47, 48, 49, 50, 51, 52, 53, 54, 55, 56, 57, 58, 59, 60, 61, 62, 63, 64, 65, 66, 67, 68, 69, 70, 71, 72, 73, 74, 75, 76, 77, 78, 79, 80, 81, 82, 83, 84, 85, 86, 87, 88, 89, 90, 91, 92, 93].map (fun i => (A ++ B)[i]?) = A.map some := by
  have h := kget_mid A [] B
  rw [List.nil_append] at h
  rw [show ([] : va_W).length = 0 from rfl, hA] at h
  exact h
theorem w2_setA (hA : A.length = 94) (hA' : A'.length = 94) : kset (A ++ B) [0, 1, 2, 3, 4, 5, 6, 7, 8, 9, 10, 11, 12, 13, 14, 15, 16, 17, 18, 19, 20, 21, 22, 23, 24, 25, 26, 27, 28, 29, 30, 31, 32, 33, 34, 35, 36, 37, 38, 39, 40, 41, 42, 43, 44, 45, 46, 47, 48, 49, 50, 51, 52, 53, 54, 55, 56, 57, 58, 59, 60, 61, 62, 63, 64, 65, 66, 67, 68, 69, 70, 71, 72, 73, 74, 75, 76, 77, 78, 79, 80, 81, 82, 83, 84, 85, 86, 87, 88, 89, 90, 91, 92, 93] A' = A' ++ B := by
  have h := kset_mid A A' [] B (by rw [hA, hA'])
  rw [List.nil_append, List.nil_append] at h
  rw [show ([] : va_W).length = 0 from rfl, hA] at h
  exact h
theorem w2_getB (hA : A.length = 94) (hB : B.length = 94) : [94, 95, 96, 97, 98, 99, 100, 101, 102, 103, 104, 105, 106, 107, 108, 109, 110, 111, 112, 113, 114, 115, 116, 117, 118, 119, 120, 121, 122, 123, 124, 125, 126, 127, 128, 129, 130, 131, 132, 133, 134, 135, 136, 137, 138, 139, 140, 141, 142, 143, 144, 145, 146, 147, 148, 149, 150, 151, 152, 153, 154, 155, 156, 157, 158, 159, 160, 161, 162, 163, 164, 165, 166, 167, 168, 169, 170, 171, 172, 173, 174, 175, 176, 177, 178, 179, 180, 181, 182, 183, 184, 185, 186, 187].map (fun i => (A ++ B)[i]?) = B.map some := by
  have h := kget_mid B A []
  rw [List.append_nil] at h
  rw [hA, hB] at h
  exact h
theorem w2_setB (hA : A.length = 94) (hB : B.length = 94) (hB' : B'.length = 94) : kset (A ++ B) [94, 95, 96, 97, 98, 99, 100, 101, 102, 103, 104, 105, 106, 107, 108, 109, 110, 111, 112, 113, 114, 115, 116, 117, 118, 119, 120, 121, 122, 123, 124, 125, 126, 127, 128, 129, 130, 131, 132, 133, 134, 135, 136, 137, 138, 139, 140, 141, 142, 143, 144, 145, 146, 147, 148, 149, 150, 151, 152, 153, 154, 155, 156, 157, 158, 159, 160, 161, 162, 163, 164, 165, 166, 167, 168, 169, 170, 171, 172, 173, 174, 175, 176, 177, 178, 179, 180, 181, 182, 183, 184, 185, 186, 187] B' = A ++ B' := by
  have h := kset_mid B B' A [] (by rw [hB, hB'])
  rw [List.append_nil, List.append_nil] at h
  rw [hA, hB] at h
  exact h
end W2
theorem ndo_1 : va_nd [0, 1, 2, 3, 4, 5, 6, 7, 8, 9, 10, 11, 12, 13, 14, 15, 16, 17, 18, 19, 20, 21, 22, 23, 24, 25, 26, 27, 28, 29, 30, 31, 32, 33, 34, 35, 36, 37, 38, 39, 40, 41, 42, 43, 44, 45, 46, 47, 48, 49, 50, 51, 52, 53, 54, 55, 56, 57, 58, 59, 60, 61, 62, 63, 64, 65, 66, 67, 68, 69, 70, 71, 72, 73, 74, 75, 76, 77, 78, 79, 80, 81, 82, 83, 84, 85, 86, 87, 88, 89, 90, 91, 92, 93] = true := by decide +kernel
theorem ndo_2 : va_nd [94, 95, 96, 97, 98, 99, 100, 101, 102, 103, 104, 105, 106, 107, 108, 109, 110, 111, 112, 113, 114, 115, 116, 117, 118, 119, 120, 121, 122, 123, 124, 125, 126, 127, 128, 129, 130, 131, 132, 133, 134, 135, 136, 137, 138, 139, 140, 141, 142, 143, 144, 145, 146, 147, 148, 149, 150, 151, 152, 153, 154, 155, 156, 157, 158, 159, 160, 161, 162, 163, 164, 165, 166, 167, 168, 169, 170, 171, 172, 173, 174, 175, 176, 177, 178, 179, 180, 181, 182, 183, 184, 185, 186, 187] = true := by decide +kernel
/-- what is fixed in the law -/
def LFix (p : Program) (l : Launch) (s : State) (m : MethodId) (c : Code) (b Ls : Nat) (xs : Nat → Int32) (D : va_G) (cI cB cW cL : ClassId) : Prop :=
  p.tables.exec = Jvm.exec ∧ c.code = code ∧ c.maxLocals = 7 ∧ s.vm.findClass RL = some m.cls ∧ (∀ w ∈ wsL_law, w.before #[Value.ref b] s = true) ∧ va_X b Ls xs s s.heap ∧ b < s.heap.size ∧ l.stackTraces = false ∧ kZ (fun q => s.heap.size ≤ q) s s.heap ∧ kN s ∧ va_K D vwCl (kT cI cB cW cL) s ∧ Ls ≤ 260
def g_cell (xs : Nat → Int32) (Ls k : Nat) : Int32 := if k < Ls then xs k else 1505215457 * (nI k + nI 1549) + nI 1367
theorem c_L_cell (l : Launch) (b Ls : Nat) (xs : Nat → Int32) (k : Nat) (hk : k < 1000) (hL : Ls ≤ 260) : Met l yL_cell wsL_cell ({ frames := 0, cells := 0, slots := 0, locals := 0 }) (va_Pc [.ref b, .int (nI k)] (fun U => va_X b Ls xs U U.heap ∧ b < U.heap.size)) (va_Qi (fun r (_ : Unit) => r = g_cell xs Ls k) (fun _ _ => True) (fun _ => False)) 0 0 (fun _ => False) := by
  refine Met.ofW (cc := cL_cell) (maxL := 2) (ret := (some .int)) (by decide) rfl ?_
  intro p e s m args below meth c s₁ B hml hv
  obtain ⟨rfl, hX, hbl⟩ := hv
  have hx := B.exec
  have hcd := B.bytes
  have hr := B.returns
  have hts := atoms_spec (ws := wsL_cell) B.pre
  have hown : s.vm.findClass RL = some m.cls := findClass_of_methodNamed B.named
  have hlocks := B.notSynchronized
  have hS : va_S (fun _ => False) s.heap s.heap [] := va_S.rf
  have hbA : ¬ (fun _ : Nat => False) b := fun h => h
  have hl := lv_entry ([.ref b, .int (nI k)]) (n := 2) (Nat.le_of_ble_eq_true rfl)
  rw [lg_entry_eq]
  generalize (lg_sl ([.ref b, .int (nI k)]) ++ List.replicate (2 - (lg_sl ([.ref b, .int (nI k)])).length) Slot.unset).toArray = ls at hl ⊢
  have hl : lv_has ls 2 [(0, .ref b), (1, .int (nI k))] := hl
  refine lv_iload_n hx hcd dL_cell_0 rfl (lv_at hl 1 rfl) ?_
  refine lv_aload_n hx hcd dL_cell_1 rfl (lv_at hl 0 rfl) ?_
  refine va_slen hx hcd hX hbl hbA hS dL_cell_2 ?_
  refine kr_cge (a := k) (b := Ls) (tgt := 12) hx hcd (by omega) (by omega) dL_cell_3 (by decide) (fun c_3 => ?_) (fun c_3 => ?_)
  · refine lv_ldc (v := 1505215457) hx hcd hown (hts (.constant RL 7 1505215457) (by decide +kernel)) dL_cell_12 ?_
    refine lv_iload_n hx hcd dL_cell_14 rfl (lv_at hl 1 rfl) ?_
    refine lv_sipush (v := nI 1549) hx hcd dL_cell_15 (by decide) ?_
    refine lv_iadd hx hcd dL_cell_18 ?_
    refine lv_imul hx hcd dL_cell_19 ?_
    refine lv_sipush (v := nI 1367) hx hcd dL_cell_20 (by decide) ?_
    refine lv_iadd hx hcd dL_cell_23 ?_
    exact W.iret hx hcd hr (fun t ht hW => ⟨⟨_, (), rfl, by unfold g_cell; rw [if_neg (by omega)], trivial⟩, hS.F ht⟩) hS.2.2 dL_cell_24
  · refine lv_aload_n hx hcd dL_cell_6 rfl (lv_at hl 0 rfl) ?_
    refine lv_iload_n hx hcd dL_cell_7 rfl (lv_at hl 1 rfl) ?_
    refine va_sld hx hcd hX hbl hbA hS (vp_in_nI c_3 (by omega)) dL_cell_8 ?_
    rw [nI_clamp (show k < 2 ^ 31 by omega)]
    refine lv_goto (tgt := 24) hx hcd dL_cell_9 (by decide) ?_
    exact W.iret hx hcd hr (fun t ht hW => ⟨⟨_, (), rfl, by unfold g_cell; rw [if_pos c_3], trivial⟩, hS.F ht⟩) hS.2.2 dL_cell_24
section KC
variable {p : Program} {l : Launch} {e : Env} {R : Room} {s : State} {m : MethodId} {args : Array Value} {below : List Frame} {meth : Method} {c : Code} {cc : ByteArray} {H H0 : Heap} {locs : List Loc} {cells slots : Nat} {Q : State → Prop} {pc : Nat} {ls : Array Slot} {rest st0 : List Value} {D : va_G} {cl : List vw_C} {ws : va_W} {A : Nat → Prop}
/-- a call of cell: no cell changes -/
theorem kl_C {nL : Nat} {Ts : List Cond} {own : String} {index n : Nat} {y : MethodName} {bytes : ByteArray} {maxL : Nat} {ret : Option FieldType} {wsC : List Cond} {rm : Room} {r0 : Int32} {As : List Value} {b Ls : Nat} {xs : Nat → Int32} (S : CallFix p m c cc nL s args Ts own) (hM : Met l y wsC rm (va_Pc As (fun U => va_X b Ls xs U U.heap ∧ b < U.heap.size)) (va_Qi (fun r (_ : Unit) => r = r0) (fun _ _ => True) (fun _ => False)) 0 0 (fun _ => False)) (cw : CallB R s args own index y bytes maxL ret wsC rm 0 0 n ∧ (Cond.static y).before args s = true)
    (hX : va_X b Ls xs s s.heap) (hbl : b < s.heap.size) (hbA : ¬ A b) (hP : va_P D cl ws H) (hS : va_S A s.heap H locs)
    (hn : As.length = n) (hsize : ls.size = nL) (hst : st0 = As.reverse ++ rest) (hW : (rest.map fun v => v.category).sum ≤ 8) (hdg : decode cc pc = .ok (.invokestatic index, 3)) (hf : cells ≤ R.cells ∧ slots ≤ R.slots)
    (kk : ∀ (H1 : Heap) (locs1 : List Loc), va_P D cl ws H1 → va_S A s.heap H1 locs1 → W p l e R s m args below meth c H1 locs1 cells slots Q (F0 m (pc + 3) ls (.int r0 :: rest))) : W p l e R s m args below meth c H locs cells slots Q (F0 m pc ls st0) := by
  refine va_calli (va_runS (As := As) (rest := rest) S hM cw ⟨fun a U g mk q => ?_, fun U hU hW => ⟨rfl, ?_, ?_⟩⟩ rfl hn hsize hst (lv_room hW) hdg hf) hS (fun q _ h => h.elim) (fun q h => h.elim) (fun r u t H1 locs1 ht hvm hr hB hz hk hS1 => ?_)
  · obtain ⟨q0, q1, q2⟩ := q
    exact ⟨q0, va_X.moved (u := U) (U := U.calling g mk a) (Vm.Alike.refl U.vm) q1, q2⟩
  · rw [hU]
    exact va_X.moved hW.alike (va_X.kept hX (hS.2.1 b hbl hbA))
  · rw [hU]
    exact Nat.lt_of_lt_of_le hbl hS.1
  · subst hr
    exact kk H1 locs1 (fun k q hq => (hP k q hq).kept (hk q.1 (hP k q hq).lt (fun h => h))) hS1
end KC
-- calm: nobody sees what is not so
theorem cm_agr {M : kM} {a b : Nat} (h : cm M) (ha : a < 6) (hb : b < 6) (hab : a ≠ b) : g_agr M a b = true := by
  obtain ⟨c1, c2⟩ := cm_mk h ha hb hab
  obtain ⟨c3, c4⟩ := cm_mk h hb ha (Ne.symm hab)
  unfold g_agr
  rw [c1, c3, c2, c4]
  simp
theorem cm_pairs {M : kM} (h : cm M) : g_pairs M = 15 := by
  have e : ∀ a b, a < 6 → b < 6 → a ≠ b → g_agr M a b = true := fun a b ha hb hab => cm_agr h ha hb hab
  simp only [g_pairs, g_allM, g_rowM, e 1 0 (by omega) (by omega) (by omega), e 2 0 (by omega) (by omega) (by omega), e 2 1 (by omega) (by omega) (by omega), e 3 0 (by omega) (by omega) (by omega), e 3 1 (by omega) (by omega) (by omega), e 3 2 (by omega) (by omega) (by omega), e 4 0 (by omega) (by omega) (by omega), e 4 1 (by omega) (by omega) (by omega), e 4 2 (by omega) (by omega) (by omega), e 4 3 (by omega) (by omega) (by omega), e 5 0 (by omega) (by omega) (by omega), e 5 1 (by omega) (by omega) (by omega), e 5 2 (by omega) (by omega) (by omega), e 5 3 (by omega) (by omega) (by omega), e 5 4 (by omega) (by omega) (by omega), if_true, Nat.reduceAdd]
theorem iw_f {on sees there : Bool} {md : Int32} (hm : ¬ md = -1) : g_iw (if sees = true ∧ there = true ∧ on = true then md else -1) on sees there md = false := by
  unfold g_iw
  cases on <;> cases sees <;> cases there <;> simp [hm]
theorem cm_wr {M : kM} (hI : kInv M) (h : cm M) {a : Nat} (ha : a < 6) : g_wrA M a 6 = 0 := by
  have kR : ∀ b, b < 6 → a ≠ b → ∀ s, s ≤ 3 → g_wrR M a b s = 0 := by
    intro b hb hab s
    induction s with
    | zero => intro _; rfl
    | succ s ih =>
      intro hs
      have hv := cm_view h ha hb hab (show s < 3 by omega)
      have hm : ¬ M (2 + 9 * b + 3 * s) = -1 := by
        rw [i_md hI hb (by omega)]
        have := i_mdlt hI hb (show s < 3 by omega)
        exact nI_m1 (by omega)
      show g_wrR M a b s + (if g_iw (M (132 + 18 * a + 3 * b + s)) (g_on M b s) (g_has M a b 1) (g_there M a) (M (2 + 9 * b + 3 * s)) = true then 1 else 0) = 0
      rw [ih (by omega), hv]
      unfold tg
      rw [iw_f hm]
      rfl
  have key : ∀ n, n ≤ 6 → g_wrA M a n = 0 := by
    intro n
    induction n with
    | zero => intro _; rfl
    | succ n ih =>
      intro hn
      show g_wrA M a n + (if n = a then 0 else g_wrR M a n 3) = 0
      rw [ih (by omega)]
      by_cases q : n = a
      · rw [if_pos q]
      · rw [if_neg q, kR n (by omega) (fun e => q e.symm) 3 (by omega)]
  exact key 6 (by omega)
