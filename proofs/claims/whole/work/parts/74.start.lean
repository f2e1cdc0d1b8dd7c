/-! the law from its entry -/
theorem ws_cls {s : State} {args : Array Value} (hts : ∀ w ∈ lw_tbl, w.before args s = true) : ∃ D : va_G, ∀ (k : Nat) (q : vw_C), vwCl[k]? = some q → u_Kn s q.1 q.2.1 q.2.2 (D.1 k) (D.2 k) := by
  obtain ⟨c0, i0, h0⟩ := u_known (C := RX0) (T := TX0) (N := 4) (n := 4) hts inX0 (hts (.instantiable RX0 4) (by decide +kernel))
  obtain ⟨c1, i1, h1⟩ := u_known (C := RX1) (T := TX1) (N := 3) (n := 3) hts inX1 (hts (.instantiable RX1 3) (by decide +kernel))
  obtain ⟨c2, i2, h2⟩ := u_known (C := RX2) (T := TX2) (N := 2) (n := 2) hts inX2 (hts (.instantiable RX2 2) (by decide +kernel))
  obtain ⟨c3, i3, h3⟩ := u_known (C := RX3) (T := TX3) (N := 3) (n := 3) hts inX3 (hts (.instantiable RX3 3) (by decide +kernel))
  obtain ⟨c4, i4, h4⟩ := u_known (C := RX4) (T := TX4) (N := 1) (n := 1) hts inX4 (hts (.instantiable RX4 1) (by decide +kernel))
  obtain ⟨c5, i5, h5⟩ := u_known (C := RX5) (T := TX5) (N := 5) (n := 5) hts inX5 (hts (.instantiable RX5 5) (by decide +kernel))
  obtain ⟨c6, i6, h6⟩ := u_known (C := RX6) (T := TX6) (N := 5) (n := 5) hts inX6 (hts (.instantiable RX6 5) (by decide +kernel))
  obtain ⟨c7, i7, h7⟩ := u_known (C := RX7) (T := TX7) (N := 10) (n := 10) hts inX7 (hts (.instantiable RX7 10) (by decide +kernel))
  refine ⟨(fun k => if k = 0 then c0 else if k = 1 then c1 else if k = 2 then c2 else if k = 3 then c3 else if k = 4 then c4 else if k = 5 then c5 else if k = 6 then c6 else c7, fun k => if k = 0 then i0 else if k = 1 then i1 else if k = 2 then i2 else if k = 3 then i3 else if k = 4 then i4 else if k = 5 then i5 else if k = 6 then i6 else i7), ?_⟩
  intro k q hq
  match k, hq with
  | 0, hq => cases hq; exact h0
  | 1, hq => cases hq; exact h1
  | 2, hq => cases hq; exact h2
  | 3, hq => cases hq; exact h3
  | 4, hq => cases hq; exact h4
  | 5, hq => cases hq; exact h5
  | 6, hq => cases hq; exact h6
  | 7, hq => cases hq; exact h7
  | k + 8, hq => simp [vwCl] at hq
theorem ws_arr {s : State} {args : Array Value} {ty : FieldType} (h : (Cond.arrayClass ty).before args s = true) (hR : ∀ c : ClassId, s.vm.findClass ("[" ++ ty.toString) = some c → va_RA s c ty) : ∃ cA : ClassId, ArrOfT s cA ty ∧ va_RA s cA ty := by
  obtain ⟨cA, kA, comp, h1, h2, h3⟩ := Cond.arrayClass_spec h
  exact ⟨cA, fun n z => ⟨fun k h => (by cases h), kA, h2, comp, h3⟩, hR cA h1⟩
theorem ws_arrW {s : State} {args : Array Value} {C : String} (h : (Cond.arrayOver (.object C)).before args s = true) : ∃ cA : ClassId, ArrOfT s cA (.object C) ∧ va_RA s cA (.object C) := by
  obtain ⟨comp, cA, kA, h1, h0, h2, h3, h4⟩ := Cond.arrayOver_spec h
  exact ⟨cA, fun n z => ⟨fun k h => (by cases h), kA, h2, comp, h3⟩, kA, comp, h2, h3, h1, h4⟩
theorem ws_K {s : State} {args : Array Value} (hts : ∀ w ∈ lw_tbl, w.before args s = true) : ∃ (D : va_G) (cI cB cW cL : ClassId), va_K D vwCl (kT cI cB cW cL) s := by
  obtain ⟨D, hD⟩ := ws_cls hts
  obtain ⟨cI, hI⟩ := ws_arr (hts (.arrayClass .int) (by decide +kernel)) (fun _ h => h)
  obtain ⟨cB, hB⟩ := ws_arr (hts (.arrayClass .byte) (by decide +kernel)) (fun _ h => h)
  obtain ⟨cL, hL⟩ := ws_arr (hts (.arrayClass .long) (by decide +kernel)) (fun _ h => h)
  obtain ⟨cW, hW⟩ := ws_arrW (hts (.arrayOver (.object RX5)) (by decide +kernel))
  refine ⟨D, cI, cB, cW, cL, hD, fun k q hk => ?_⟩
  match k, hk with
  | 0, hk => cases hk; exact hI
  | 1, hk => cases hk; exact hB
  | 2, hk => cases hk; exact hW
  | 3, hk => cases hk; exact hL
  | k + 4, hk => simp [kT] at hk
theorem kTexts_in : ∀ t ∈ kTexts, Cond.stringRef RX6 t.1 t.2 ∈ lw_tbl := by decide +kernel
theorem kBad_in : ∀ w ∈ kBad, w ∈ lw_tbl := by decide +kernel
theorem kBad_tab : ∀ w ∈ kBad, w.onTables = true := by decide +kernel
theorem ws_Zw {s : State} {args : Array Value} (hts : ∀ w ∈ lw_tbl, w.before args s = true) : kZw s := by
  refine ⟨fun t ht => ?_, fun w hw => va_Nw.of (kBad_tab w hw) (hts w (kBad_in w hw))⟩
  have h := hts _ (kTexts_in t ht)
  obtain ⟨cC, kC, hfc, -⟩ := Cond.instantiable_spec (hts (.instantiable RX6 5) (by decide +kernel))
  obtain ⟨k, cf, i, a, -, -, -, -, -, he⟩ := Cond.stringRef_spec hfc h
  exact ⟨a, vk_R.of h he⟩
theorem ws_Z {s : State} {args : Array Value} (hts : ∀ w ∈ lw_tbl, w.before args s = true) (hgv : (Jvm.Cond.and given_1 narrow_1).before args s = true) : kZ (fun q => s.heap.size ≤ q) s s.heap := by
  have hs := flat_of_before _ hgv
  exact ⟨vx_Zqof (hts (.laysStatic Bundle.tN "UNASSIGNED_STACK" Bundle.steD) (by decide +kernel)) (hts (.initialized Bundle.tN) (by decide +kernel)) (hs _ (by decide +kernel)) (fun a h h2 => absurd h (Nat.not_lt.mpr h2)),
    vx_Zqof (hts (.laysStatic Bundle.tN "SUPPRESSED_SENTINEL" Bundle.listD) (by decide +kernel)) (hts (.initialized Bundle.tN) (by decide +kernel)) (hs _ (by decide +kernel)) (fun a h h2 => absurd h (Nat.not_lt.mpr h2)), ws_Zw hts⟩
theorem kNcs_in : ∀ t ∈ kNcs, Cond.not (.castable t.1 t.2) ∈ flatC (Jvm.Cond.and given_1 narrow_1) := by decide +kernel
theorem ws_N {s : State} {args : Array Value} (hgv : (Jvm.Cond.and given_1 narrow_1).before args s = true) : kN s := fun t ht => va_Nc.of (flat_of_before _ hgv _ (kNcs_in t ht))
theorem ws_Z6 {s : State} {args : Array Value} (hts : ∀ w ∈ lw_tbl, w.before args s = true) : kZ6 s :=
  ⟨⟨va_Nw.of rfl (hts (.methodLinkNest RX5 11 yX3_init RX6) (by decide +kernel)), va_Nw.of rfl (hts (.methodLinkNest RX5 20 yX1_init RX6) (by decide +kernel)), va_Nw.of rfl (hts (.methodLinkNest RX5 34 yX0_init RX6) (by decide +kernel))⟩,
    va_Nw.of rfl (hts (.methodLinkNest RX6 11 yX5_init RX6) (by decide +kernel)), va_Nw.of rfl (hts (.methodLinkNest RX6 21 yX2_init RX6) (by decide +kernel)), va_AO.of (hts (.arrayOver (.object RX5)) (by decide +kernel))⟩
theorem ws_st {l : Launch} (h : l.flags = flags0) : l.stackTraces = false := by
  unfold Launch.stackTraces
  rw [h]
  decide
theorem perm0 (o : Nat × va_E) (X Y : va_W) : (([] ++ X ++ Y) ++ [o]).Perm ((o :: X) ++ Y) := by
  rw [List.nil_append]
  exact List.perm_append_comm (l₁ := X ++ Y) (l₂ := [o])
