/-! one cell of a world's part written: the part of the new memory -/
theorem se_s1 {cI : ClassId} {q : Nat → Nat} {M N : kM} (h : ∀ k, (k % 3 ≠ 0 ∨ 54 ≤ k) → N k = M k) : (wSe cI q M).set 1 (q 2, .inl (cI, 18, .inl (vs 0 N))) = wSe cI q N := by
  have e1 : vs 1 N = vs 1 M := vs_congr fun k _ => h _ (by omega)
  have e2 : vs 2 N = vs 2 M := vs_congr fun k _ => h _ (by omega)
  unfold wSe
  rw [e1, e2]
  rfl
theorem se_s2 {cI : ClassId} {q : Nat → Nat} {M N : kM} (h : ∀ k, (k % 3 ≠ 1 ∨ 54 ≤ k) → N k = M k) : (wSe cI q M).set 2 (q 3, .inl (cI, 18, .inl (vs 1 N))) = wSe cI q N := by
  have e1 : vs 0 N = vs 0 M := vs_congr fun k _ => h _ (by omega)
  have e2 : vs 2 N = vs 2 M := vs_congr fun k _ => h _ (by omega)
  unfold wSe
  rw [e1, e2]
  rfl
theorem se_s3 {cI : ClassId} {q : Nat → Nat} {M N : kM} (h : ∀ k, (k % 3 ≠ 2 ∨ 54 ≤ k) → N k = M k) : (wSe cI q M).set 3 (q 4, .inl (cI, 18, .inl (vs 2 N))) = wSe cI q N := by
  have e1 : vs 0 N = vs 0 M := vs_congr fun k _ => h _ (by omega)
  have e2 : vs 1 N = vs 1 M := vs_congr fun k _ => h _ (by omega)
  unfold wSe
  rw [e1, e2]
  rfl
theorem ro_s1 {cI : ClassId} {q : Nat → Nat} {M N : kM} (h : ∀ k, (k < 54 ∨ 90 ≤ k) → N k = M k) : (wRo cI q M).set 1 (q 6, .inl (cI, 36, .inl (vw 54 36 N))) = wRo cI q N := by
  have e1 : vw 90 36 N = vw 90 36 M := vw_congr fun k _ => h _ (by omega)
  have e2 : vw 126 6 N = vw 126 6 M := vw_congr fun k _ => h _ (by omega)
  unfold wRo
  rw [e1, e2]
  rfl
theorem ro_s2 {cI : ClassId} {q : Nat → Nat} {M N : kM} (h : ∀ k, (k < 90 ∨ 126 ≤ k) → N k = M k) : (wRo cI q M).set 2 (q 7, .inl (cI, 36, .inl (vw 90 36 N))) = wRo cI q N := by
  have e1 : vw 54 36 N = vw 54 36 M := vw_congr fun k _ => h _ (by omega)
  have e2 : vw 126 6 N = vw 126 6 M := vw_congr fun k _ => h _ (by omega)
  unfold wRo
  rw [e1, e2]
  rfl
theorem ro_s3 {cI : ClassId} {q : Nat → Nat} {M N : kM} (h : ∀ k, (k < 126 ∨ 132 ≤ k) → N k = M k) : (wRo cI q M).set 3 (q 8, .inl (cI, 6, .inl (vw 126 6 N))) = wRo cI q N := by
  have e1 : vw 54 36 N = vw 54 36 M := vw_congr fun k _ => h _ (by omega)
  have e2 : vw 90 36 N = vw 90 36 M := vw_congr fun k _ => h _ (by omega)
  unfold wRo
  rw [e1, e2]
  rfl
theorem vi_s1 {cI : ClassId} {q : Nat → Nat} {M N : kM} (_ : ∀ k, (k < 132 ∨ 240 ≤ k) → N k = M k) : (wVi cI q M).set 1 (q 10, .inl (cI, 108, .inl (vw 132 108 N))) = wVi cI q N := rfl
theorem po_s1 {cI : ClassId} {q : Nat → Nat} {M N : kM} (h : ∀ k, (k < 276 ∨ 576 ≤ k) → N k = M k) : (wPo cI q M).set 1 (q 12, .inl (cI, 300, .inl (vr N))) = wPo cI q N := by
  have e1 : vw 578 3 N = vw 578 3 M := vw_congr fun k _ => h _ (by omega)
  have e2 := h 576 (by omega)
  have e3 := h 577 (by omega)
  unfold wPo
  rw [e1, e2, e3]
  rfl
theorem po_s2 {cI : ClassId} {q : Nat → Nat} {M N : kM} (h : ∀ k, (k < 578 ∨ 581 ≤ k) → N k = M k) : (wPo cI q M).set 2 (q 13, .inl (cI, 3, .inl (vw 578 3 N))) = wPo cI q N := by
  have e1 : vr N = vr M := vr_congr fun k _ => h _ (by omega)
  have e2 := h 576 (by omega)
  have e3 := h 577 (by omega)
  unfold wPo
  rw [e1, e2, e3]
  rfl
theorem po_f1 {cI : ClassId} {q : Nat → Nat} {M : kM} {v : Int32} : (wPo cI q M).set 0 (q 11, .inr (0, [.ref (q 12), .int v, .int (M 577), .ref (q 13)])) = wPo cI q (upd M 576 v) := by
  have e1 : vr (upd M 576 v) = vr M := vr_congr fun k _ => upd_ne (by omega)
  have e2 : vw 578 3 (upd M 576 v) = vw 578 3 M := vw_congr fun k _ => upd_ne (by omega)
  have e3 : upd M 576 v 577 = M 577 := upd_ne (by omega)
  have e4 : upd M 576 v 576 = v := upd_eq
  unfold wPo
  rw [e1, e2, e3, e4]
  rfl
theorem po_f2 {cI : ClassId} {q : Nat → Nat} {M : kM} {v : Int32} : (wPo cI q M).set 0 (q 11, .inr (0, [.ref (q 12), .int (M 576), .int v, .ref (q 13)])) = wPo cI q (upd M 577 v) := by
  have e1 : vr (upd M 577 v) = vr M := vr_congr fun k _ => upd_ne (by omega)
  have e2 : vw 578 3 (upd M 577 v) = vw 578 3 M := vw_congr fun k _ => upd_ne (by omega)
  have e3 : upd M 577 v 576 = M 576 := upd_ne (by omega)
  have e4 : upd M 577 v 577 = v := upd_eq
  unfold wPo
  rw [e1, e2, e3, e4]
  rfl
theorem kr_nb {b : Bool} : narrow .boolean (.int (kI b)) = .int (kI b) := by cases b <;> rfl
theorem kr_iinc {p : Program} {l : Launch} {e : Env} {R : Room} {s : State} {m : MethodId} {args : Array Value} {below : List Frame} {meth : Method} {c : Code} {cc : ByteArray} {H : Heap} {locs : List Loc} {cells slots : Nat} {Q : State → Prop} {pc : Nat} {ls : Array Slot} {rest : List Value} (hx : p.tables.exec = Jvm.exec) (hb : c.code = cc) {i nL k a : Nat} {lv lv' : List (Nat × Value)} (hdg : decode cc pc = .ok (.iinc i 1, 3)) (h : lv_has ls nL lv) (hk : lv[k]? = some (i, .int (nI a))) (hn : i < nL) (hl : (i, Value.int (nI (a + 1))) :: lv.filter (fun q => !(q.1 == i) && !(q.1 + 1 == i && q.2.category == 2)) = lv')
    (kk : ∀ ls' : Array Slot, lv_has ls' nL lv' → W p l e R s m args below meth c H locs cells slots Q (F0 m (pc + 3) ls' rest)) : W p l e R s m args below meth c H locs cells slots Q (F0 m pc ls rest) := lv_iinc (v := nI (a + 1)) hx hb hdg h hk (nI_1 a) hn hl kk
theorem wW_adr {cI : ClassId} {q : Nat → Nat} {M N : kM} : (wW cI q N).map (·.1) = (wW cI q M).map (·.1) := rfl
theorem wW_all {cI : ClassId} {q : Nat → Nat} {M N : kM} : kset (wW cI q M) [0, 1, 2, 3, 4, 5, 6, 7, 8, 9, 10, 11, 12, 13, 14] (wW cI q N) = wW cI q N := rfl
theorem wW_allC {cI : ClassId} {q : Nat → Nat} {M : kM} : [0, 1, 2, 3, 4, 5, 6, 7, 8, 9, 10, 11, 12, 13, 14].map (fun i => (wW cI q M)[i]?) = (wW cI q M).map some := rfl
theorem wSe_adr {cI : ClassId} {q : Nat → Nat} {M N : kM} : (wSe cI q N).map (·.1) = (wSe cI q M).map (·.1) := rfl
theorem wSe_all {cI : ClassId} {q : Nat → Nat} {M N : kM} : kset (wSe cI q M) [0, 1, 2, 3] (wSe cI q N) = wSe cI q N := rfl
theorem wSe_allC {cI : ClassId} {q : Nat → Nat} {M : kM} : [0, 1, 2, 3].map (fun i => (wSe cI q M)[i]?) = (wSe cI q M).map some := rfl
theorem wRo_adr {cI : ClassId} {q : Nat → Nat} {M N : kM} : (wRo cI q N).map (·.1) = (wRo cI q M).map (·.1) := rfl
theorem wRo_all {cI : ClassId} {q : Nat → Nat} {M N : kM} : kset (wRo cI q M) [0, 1, 2, 3] (wRo cI q N) = wRo cI q N := rfl
theorem wRo_allC {cI : ClassId} {q : Nat → Nat} {M : kM} : [0, 1, 2, 3].map (fun i => (wRo cI q M)[i]?) = (wRo cI q M).map some := rfl
theorem wVi_adr {cI : ClassId} {q : Nat → Nat} {M N : kM} : (wVi cI q N).map (·.1) = (wVi cI q M).map (·.1) := rfl
theorem wVi_all {cI : ClassId} {q : Nat → Nat} {M N : kM} : kset (wVi cI q M) [0, 1] (wVi cI q N) = wVi cI q N := rfl
theorem wVi_allC {cI : ClassId} {q : Nat → Nat} {M : kM} : [0, 1].map (fun i => (wVi cI q M)[i]?) = (wVi cI q M).map some := rfl
theorem wPo_adr {cI : ClassId} {q : Nat → Nat} {M N : kM} : (wPo cI q N).map (·.1) = (wPo cI q M).map (·.1) := rfl
theorem wPo_all {cI : ClassId} {q : Nat → Nat} {M N : kM} : kset (wPo cI q M) [0, 1, 2] (wPo cI q N) = wPo cI q N := rfl
theorem wPo_allC {cI : ClassId} {q : Nat → Nat} {M : kM} : [0, 1, 2].map (fun i => (wPo cI q M)[i]?) = (wPo cI q M).map some := rfl
theorem wW_SeC {cI : ClassId} {q : Nat → Nat} {M : kM} : [1, 2, 3, 4].map (fun i => (wW cI q M)[i]?) = (wSe cI q M).map some := rfl
theorem wW_Se0 {cI : ClassId} {q : Nat → Nat} {M : kM} : kset (wW cI q M) [1, 2, 3, 4] (wSe cI q M) = wW cI q M := rfl
theorem wW_RoC {cI : ClassId} {q : Nat → Nat} {M : kM} : [5, 6, 7, 8].map (fun i => (wW cI q M)[i]?) = (wRo cI q M).map some := rfl
theorem wW_Ro0 {cI : ClassId} {q : Nat → Nat} {M : kM} : kset (wW cI q M) [5, 6, 7, 8] (wRo cI q M) = wW cI q M := rfl
theorem wW_ViC {cI : ClassId} {q : Nat → Nat} {M : kM} : [9, 10].map (fun i => (wW cI q M)[i]?) = (wVi cI q M).map some := rfl
theorem wW_Vi0 {cI : ClassId} {q : Nat → Nat} {M : kM} : kset (wW cI q M) [9, 10] (wVi cI q M) = wW cI q M := rfl
theorem wW_PoC {cI : ClassId} {q : Nat → Nat} {M : kM} : [11, 12, 13].map (fun i => (wW cI q M)[i]?) = (wPo cI q M).map some := rfl
theorem wW_Po0 {cI : ClassId} {q : Nat → Nat} {M : kM} : kset (wW cI q M) [11, 12, 13] (wPo cI q M) = wW cI q M := rfl
theorem wMo_adr {cI : ClassId} {z : Nat → Nat} {x : Nat → Int32} {hh : Int64} {M N : kM} : (wMo cI z x hh N).map (·.1) = (wMo cI z x hh M).map (·.1) := rfl
theorem wMo_all {cI : ClassId} {z : Nat → Nat} {x : Nat → Int32} {hh : Int64} {M N : kM} : kset (wMo cI z x hh M) [0, 1] (wMo cI z x hh N) = wMo cI z x hh N := rfl
theorem wMo_allC {cI : ClassId} {z : Nat → Nat} {x : Nat → Int32} {hh : Int64} {M : kM} : [0, 1].map (fun i => (wMo cI z x hh M)[i]?) = (wMo cI z x hh M).map some := rfl
theorem mo_s1 {cI : ClassId} {z : Nat → Nat} {x : Nat → Int32} {hh : Int64} {M N : kM} : (wMo cI z x hh M).set 1 (z 1, .inl (cI, 581, .inl N)) = wMo cI z x hh N := rfl
