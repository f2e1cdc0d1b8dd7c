/-! a row copied; two worlds side by side -/
theorem kr_copy {p : Program} {l : Launch} {e : Env} {R : Room} {s : State} {m : MethodId} {args : Array Value} {below : List Frame} {meth : Method} {c : Code} {cc : ByteArray} {H H0 : Heap} {locs : List Loc} {cells slots : Nat} {Q : State → Prop} {pc : Nat} {ls : Array Slot} {rest : List Value} {D : va_G} {cl : List vw_C} {tys : List (ClassId × FieldType)} {ws : va_W} {A : Nat → Prop} (hx : p.tables.exec = Jvm.exec) (hb : c.code = cc) {nL : Nat} (hml : c.maxLocals = nL) (hsz : ls.size = nL) {own : String} {index : Nat} {Ts : List Cond} (hts : ∀ w ∈ Ts, w.before args s = true) (hown : s.vm.findClass own = some m.cls) (hlink : Cond.methodLink own index arraycopyName ∈ Ts) (hnat : Cond.native arraycopyName ∈ Ts) (hstat : Cond.static arraycopyName ∈ Ts) (hini : Cond.initialized "java/lang/System" ∈ Ts)
    (hK : va_K D cl tys s) (hP : va_P D cl ws H) (hD : va_D A ws) (hS : va_S A H0 H locs) (q0 q1 t0 : Nat) {a a0 : Nat} {cA : ClassId} {n0 n1 : Nat} {f g f2 : Nat → Int32} (ha0 : ws[q0]? = some (a0, .inl (cA, n0, .inl f))) (ha1 : ws[q1]? = some (a, .inl (cA, n1, .inl g))) (ht : tys[t0]? = some (cA, .int)) {n : Nat} (h4 : n ≤ n0) (h5 : n ≤ n1) (hn : n < 2 ^ 31) (hf : va_cpy f g 0 0 n = f2) {ws2 : va_W} (hw : ws.set q1 (a, .inl (cA, n1, .inl f2)) = ws2)
    (hframes : 1 ≤ R.frames) (hlocals : (rest.map fun v => v.category).sum + (nativeFrameWords "java/lang/System" "arraycopy" 5 + 11) ≤ R.locals) (hdg : decode cc pc = .ok (.invokestatic index, 3))
    (kk : ∀ (H1 : Heap) (locs1 : List Loc), va_P D cl ws2 H1 → va_D A ws2 → va_S A H0 H1 locs1 → W p l e R s m args below meth c H1 locs1 cells slots Q (F0 m (pc + 3) ls rest)) : W p l e R s m args below meth c H locs cells slots Q (F0 m pc ls (.int (nI n) :: .int (nI 0) :: .ref a :: .int (nI 0) :: .ref a0 :: rest)) := by
  subst hw
  subst hf
  have e0 : (nI 0).toNatClampNeg = 0 := nI_clamp (by omega)
  have en : (nI n).toNatClampNeg = n := nI_clamp hn
  refine va_copyi hx hb (hml.trans hsz.symm) hown (hts _ hlink) (hts _ hnat) (hts _ hstat) (hts _ hini) hK hP hD hS q0 q1 t0 t0 ha0 ha1 ht ht rfl (nI_pos (by omega)) (nI_pos (by omega)) (nI_pos hn) (by rw [e0, en]; omega) (by rw [e0, en]; omega) (fun _ _ => rfl) hframes hlocals hdg (fun H1 locs1 h1 h2 h3 => ?_)
  rw [e0, en] at h1 h2
  exact kk H1 locs1 h1 h2 h3
theorem cpy_vs {r : Nat} {M : kM} {g : Nat → Int32} (hg : ∀ j, 18 ≤ j → g j = 0) : va_cpy (vs r M) g 0 0 18 = vs r M := by
  funext j
  unfold va_cpy vs
  by_cases h : j < 18
  · rw [if_pos (by omega), if_pos (by omega), if_pos h]
    congr 1
    omega
  · rw [if_neg (by omega), if_neg h]
    exact hg j (by omega)
theorem cpy_vw {o n : Nat} {M : kM} {g : Nat → Int32} (hg : ∀ j, n ≤ j → g j = 0) : va_cpy (vw o n M) g 0 0 n = vw o n M := by
  funext j
  unfold va_cpy vw
  by_cases h : j < n
  · rw [if_pos (by omega), if_pos (by omega), if_pos h]
    congr 1
    omega
  · rw [if_neg (by omega), if_neg h]
    exact hg j (by omega)
theorem cpy_vr {M : kM} {g : Nat → Int32} (hg : ∀ j, 300 ≤ j → g j = 0) : va_cpy (vr M) g 0 0 300 = vr M := by
  funext j
  unfold va_cpy vr
  by_cases h : j < 300
  · rw [if_pos (by omega), if_pos (by omega), if_pos h]
    congr 2
    omega
  · rw [if_neg (by omega), if_neg h]
    exact hg j (by omega)
theorem z_vs {r : Nat} {M : kM} : ∀ j, 18 ≤ j → vs r M j = 0 := fun j h => by unfold vs; rw [if_neg (by omega)]
theorem z_vw {o n : Nat} {M : kM} : ∀ j, n ≤ j → vw o n M j = 0 := fun j h => by unfold vw; rw [if_neg (by omega)]
theorem z_vr {M : kM} : ∀ j, 300 ≤ j → vr M j = 0 := fun j h => by unfold vr; rw [if_neg (by omega)]
abbrev w2Se (cI : ClassId) (q p : Nat → Nat) (f g h : Nat → Int32) (M : kM) : va_W := [(q 1, .inr (3, [.ref (q 2), .ref (q 3), .ref (q 4)])), (q 2, .inl (cI, 18, .inl f)), (q 3, .inl (cI, 18, .inl g)), (q 4, .inl (cI, 18, .inl h)), (p 1, .inr (3, [.ref (p 2), .ref (p 3), .ref (p 4)])), (p 2, .inl (cI, 18, .inl (vs 0 M))), (p 3, .inl (cI, 18, .inl (vs 1 M))), (p 4, .inl (cI, 18, .inl (vs 2 M)))]
abbrev w2Ro (cI : ClassId) (q p : Nat → Nat) (f g h : Nat → Int32) (M : kM) : va_W := [(q 5, .inr (1, [.ref (q 6), .ref (q 7), .ref (q 8)])), (q 6, .inl (cI, 36, .inl f)), (q 7, .inl (cI, 36, .inl g)), (q 8, .inl (cI, 6, .inl h)), (p 5, .inr (1, [.ref (p 6), .ref (p 7), .ref (p 8)])), (p 6, .inl (cI, 36, .inl (vw 54 36 M))), (p 7, .inl (cI, 36, .inl (vw 90 36 M))), (p 8, .inl (cI, 6, .inl (vw 126 6 M)))]
abbrev w2Vi (cI : ClassId) (q p : Nat → Nat) (f : Nat → Int32) (M : kM) : va_W := [(q 9, .inr (4, [.ref (q 10)])), (q 10, .inl (cI, 108, .inl f)), (p 9, .inr (4, [.ref (p 10)])), (p 10, .inl (cI, 108, .inl (vw 132 108 M)))]
abbrev w2Po (cI : ClassId) (q p : Nat → Nat) (f g : Nat → Int32) (u v : Int32) (M : kM) : va_W := [(q 11, .inr (0, [.ref (q 12), .int u, .int v, .ref (q 13)])), (q 12, .inl (cI, 300, .inl f)), (q 13, .inl (cI, 3, .inl g)), (p 11, .inr (0, [.ref (p 12), .int (M 576), .int (M 577), .ref (p 13)])), (p 12, .inl (cI, 300, .inl (vr M))), (p 13, .inl (cI, 3, .inl (vw 578 3 M)))]
abbrev w2W (cI : ClassId) (q p : Nat → Nat) (N M : kM) : va_W := [(q 0, .inr (5, [.ref (q 1), .ref (q 5), .ref (q 9), .ref (q 11), .ref (q 14)])),
  (q 1, .inr (3, [.ref (q 2), .ref (q 3), .ref (q 4)])), (q 2, .inl (cI, 18, .inl (vs 0 N))), (q 3, .inl (cI, 18, .inl (vs 1 N))), (q 4, .inl (cI, 18, .inl (vs 2 N))),
  (q 5, .inr (1, [.ref (q 6), .ref (q 7), .ref (q 8)])), (q 6, .inl (cI, 36, .inl (vw 54 36 N))), (q 7, .inl (cI, 36, .inl (vw 90 36 N))), (q 8, .inl (cI, 6, .inl (vw 126 6 N))),
  (q 9, .inr (4, [.ref (q 10)])), (q 10, .inl (cI, 108, .inl (vw 132 108 N))),
  (q 11, .inr (0, [.ref (q 12), .int (N 576), .int (N 577), .ref (q 13)])), (q 12, .inl (cI, 300, .inl (vr N))), (q 13, .inl (cI, 3, .inl (vw 578 3 N))),
  (q 14, .inl (cI, 36, .inl (vw 240 36 N))),
  (p 0, .inr (5, [.ref (p 1), .ref (p 5), .ref (p 9), .ref (p 11), .ref (p 14)])),
  (p 1, .inr (3, [.ref (p 2), .ref (p 3), .ref (p 4)])), (p 2, .inl (cI, 18, .inl (vs 0 M))), (p 3, .inl (cI, 18, .inl (vs 1 M))), (p 4, .inl (cI, 18, .inl (vs 2 M))),
  (p 5, .inr (1, [.ref (p 6), .ref (p 7), .ref (p 8)])), (p 6, .inl (cI, 36, .inl (vw 54 36 M))), (p 7, .inl (cI, 36, .inl (vw 90 36 M))), (p 8, .inl (cI, 6, .inl (vw 126 6 M))),
  (p 9, .inr (4, [.ref (p 10)])), (p 10, .inl (cI, 108, .inl (vw 132 108 M))),
  (p 11, .inr (0, [.ref (p 12), .int (M 576), .int (M 577), .ref (p 13)])), (p 12, .inl (cI, 300, .inl (vr M))), (p 13, .inl (cI, 3, .inl (vw 578 3 M))),
  (p 14, .inl (cI, 36, .inl (vw 240 36 M)))]
/-- one stretch of the memory from M, the rest from N -/
def kmx (M N : kM) (lo hi : Nat) : kM := fun k => if lo ≤ k ∧ k < hi then M k else N k
theorem mx_in {M N : kM} {lo hi k : Nat} (h1 : lo ≤ k) (h2 : k < hi) : kmx M N lo hi k = M k := by unfold kmx; rw [if_pos ⟨h1, h2⟩]
theorem mx_out {M N : kM} {lo hi k : Nat} (h : k < lo ∨ hi ≤ k) : kmx M N lo hi k = N k := by unfold kmx; rw [if_neg (by omega)]
theorem w2_app {cI : ClassId} {q p : Nat → Nat} {N M : kM} : w2W cI q p N M = wW cI q N ++ wW cI p M := rfl
theorem w2W_adr {cI : ClassId} {q p : Nat → Nat} {N M N' M' : kM} : (w2W cI q p N' M').map (·.1) = (w2W cI q p N M).map (·.1) := rfl
theorem w2SeC {cI : ClassId} {q p : Nat → Nat} {N M : kM} : [1, 2, 3, 4, 16, 17, 18, 19].map (fun i => (w2W cI q p N M)[i]?) = (w2Se cI q p (vs 0 N) (vs 1 N) (vs 2 N) M).map some := rfl
theorem w2RoC {cI : ClassId} {q p : Nat → Nat} {N M : kM} : [5, 6, 7, 8, 20, 21, 22, 23].map (fun i => (w2W cI q p N M)[i]?) = (w2Ro cI q p (vw 54 36 N) (vw 90 36 N) (vw 126 6 N) M).map some := rfl
theorem w2ViC {cI : ClassId} {q p : Nat → Nat} {N M : kM} : [9, 10, 24, 25].map (fun i => (w2W cI q p N M)[i]?) = (w2Vi cI q p (vw 132 108 N) M).map some := rfl
theorem w2PoC {cI : ClassId} {q p : Nat → Nat} {N M : kM} : [11, 12, 13, 26, 27, 28].map (fun i => (w2W cI q p N M)[i]?) = (w2Po cI q p (vr N) (vw 578 3 N) (N 576) (N 577) M).map some := rfl
theorem w2Se_adr {cI : ClassId} {q p : Nat → Nat} {f g h f' g' h' : Nat → Int32} {M : kM} : (w2Se cI q p f' g' h' M).map (·.1) = (w2Se cI q p f g h M).map (·.1) := rfl
theorem w2Ro_adr {cI : ClassId} {q p : Nat → Nat} {f g h f' g' h' : Nat → Int32} {M : kM} : (w2Ro cI q p f' g' h' M).map (·.1) = (w2Ro cI q p f g h M).map (·.1) := rfl
theorem w2Vi_adr {cI : ClassId} {q p : Nat → Nat} {f f' : Nat → Int32} {M : kM} : (w2Vi cI q p f' M).map (·.1) = (w2Vi cI q p f M).map (·.1) := rfl
theorem w2Po_adr {cI : ClassId} {q p : Nat → Nat} {f g f' g' : Nat → Int32} {u v u' v' : Int32} {M : kM} : (w2Po cI q p f' g' u' v' M).map (·.1) = (w2Po cI q p f g u v M).map (·.1) := rfl
theorem w2_raw {cI : ClassId} {q p : Nat → Nat} {M N P : kM} (h : wW cI q N = wW cI q P) : w2W cI q p N M = w2W cI q p P M := by rw [w2_app, w2_app, h]
theorem w2Se1 {cI : ClassId} {q p : Nat → Nat} {N M : kM} : kset (w2W cI q p N M) [1, 2, 3, 4, 16, 17, 18, 19] (w2Se cI q p (vs 0 M) (vs 1 M) (vs 2 M) M) = w2W cI q p (kmx M N 0 54) M := by
  have h := wW_se (cI := cI) (q := q) (M := N) (N := kmx M N 0 54) (fun k hk => mx_out (by omega))
  have e0 : vs 0 (kmx M N 0 54) = vs 0 M := vs_congr fun k hk => mx_in (by omega) (by omega)
  have e1 : vs 1 (kmx M N 0 54) = vs 1 M := vs_congr fun k hk => mx_in (by omega) (by omega)
  have e2 : vs 2 (kmx M N 0 54) = vs 2 M := vs_congr fun k hk => mx_in (by omega) (by omega)
  rw [w2_app (N := kmx M N 0 54), ← h]
  unfold wSe
  rw [e0, e1, e2]
  rfl
theorem w2Ro1 {cI : ClassId} {q p : Nat → Nat} {N M : kM} : kset (w2W cI q p N M) [5, 6, 7, 8, 20, 21, 22, 23] (w2Ro cI q p (vw 54 36 M) (vw 90 36 M) (vw 126 6 M) M) = w2W cI q p (kmx M N 54 132) M := by
  have h := wW_ro (cI := cI) (q := q) (M := N) (N := kmx M N 54 132) (fun k hk => mx_out (by omega))
  have e0 : vw 54 36 (kmx M N 54 132) = vw 54 36 M := vw_congr fun k hk => mx_in (by omega) (by omega)
  have e1 : vw 90 36 (kmx M N 54 132) = vw 90 36 M := vw_congr fun k hk => mx_in (by omega) (by omega)
  have e2 : vw 126 6 (kmx M N 54 132) = vw 126 6 M := vw_congr fun k hk => mx_in (by omega) (by omega)
  rw [w2_app (N := kmx M N 54 132), ← h]
  unfold wRo
  rw [e0, e1, e2]
  rfl
theorem w2Vi1 {cI : ClassId} {q p : Nat → Nat} {N M : kM} : kset (w2W cI q p N M) [9, 10, 24, 25] (w2Vi cI q p (vw 132 108 M) M) = w2W cI q p (kmx M N 132 240) M := by
  have h := wW_vi (cI := cI) (q := q) (M := N) (N := kmx M N 132 240) (fun k hk => mx_out (by omega))
  have e0 : vw 132 108 (kmx M N 132 240) = vw 132 108 M := vw_congr fun k hk => mx_in (by omega) (by omega)
  rw [w2_app (N := kmx M N 132 240), ← h]
  unfold wVi
  rw [e0]
  rfl
theorem w2Po1 {cI : ClassId} {q p : Nat → Nat} {N M : kM} : kset (w2W cI q p N M) [11, 12, 13, 26, 27, 28] (w2Po cI q p (vr M) (vw 578 3 M) (M 576) (M 577) M) = w2W cI q p (kmx M N 276 581) M := by
  have h := wW_po (cI := cI) (q := q) (M := N) (N := kmx M N 276 581) (fun k hk => mx_out (by omega))
  have e0 : vr (kmx M N 276 581) = vr M := vr_congr fun k hk => mx_in (by omega) (by omega)
  have e1 : vw 578 3 (kmx M N 276 581) = vw 578 3 M := vw_congr fun k hk => mx_in (by omega) (by omega)
  have e2 : kmx M N 276 581 576 = M 576 := mx_in (by omega) (by omega)
  have e3 : kmx M N 276 581 577 = M 577 := mx_in (by omega) (by omega)
  rw [w2_app (N := kmx M N 276 581), ← h]
  unfold wPo
  rw [e0, e1, e2, e3]
  rfl
theorem w2Bl1 {cI : ClassId} {q p : Nat → Nat} {N M : kM} : (w2W cI q p N M).set 14 (q 14, .inl (cI, 36, .inl (vw 240 36 M))) = w2W cI q p (kmx M N 240 276) M := by
  have h := wW_bl (cI := cI) (q := q) (M := N) (N := kmx M N 240 276) (fun k hk => mx_out (by omega))
  have e0 : vw 240 36 (kmx M N 240 276) = vw 240 36 M := vw_congr fun k hk => mx_in (by omega) (by omega)
  rw [w2_app (N := kmx M N 240 276), ← h, e0]
  rfl
theorem w2_all {cI : ClassId} {q p : Nat → Nat} {N M : kM} : w2W cI q p (kmx M (kmx M (kmx M (kmx M (kmx M N 0 54) 54 132) 132 240) 276 581) 240 276) M = w2W cI q p M M := by
  refine w2_raw (wW_congr fun k hk => ?_)
  unfold kmx
  by_cases h1 : 240 ≤ k ∧ k < 276
  · rw [if_pos h1]
  rw [if_neg h1]
  by_cases h2 : 276 ≤ k ∧ k < 581
  · rw [if_pos h2]
  rw [if_neg h2]
  by_cases h3 : 132 ≤ k ∧ k < 240
  · rw [if_pos h3]
  rw [if_neg h3]
  by_cases h4 : 54 ≤ k ∧ k < 132
  · rw [if_pos h4]
  rw [if_neg h4, if_pos (by omega)]
