/-! the law from its entry -/
theorem ws_cls {s : State} {args : Array Value} (hts : ∀ w ∈ lw_tbl, w.before args s = true) : ∃ D : va_G, ∀ (k : Nat) (q : vw_C), vwCl[k]? = some q → u_Kn s q.1 q.2.1 q.2.2 (D.1 k) (D.2 k) := by
  obtain ⟨c0, i0, h0⟩ := u_known (C := RX0) (T := TX0) (N := 4) (n := 4) hts inX0 (hts (.instantiable RX0 4) (by decide +kernel))
  obtain ⟨c1, i1, h1⟩ := u_known (C := RX1) (T := TX1) (N := 3) (n := 3) hts inX1 (hts (.instantiable RX1 3) (by decide +kernel))
  obtain ⟨c2, i2, h2⟩ := u_known (C := RX2) (T := TX2) (N := 2) (n := 2) hts inX2 (hts (.instantiable RX2 2) (by decide +kernel))
  obtain ⟨c3, i3, h3⟩ := u_known (C := RX3) (T := TX3) (N := 3) (n := 3) hts inX3 (hts (.instantiable RX3 3) (by decide +kernel))
  obtain ⟨c4, i4, h4⟩ := u_known (C := RX4) (T := TX4) (N := 1) (n := 1) hts inX4 (hts (.instantiable RX4 1) (by decide +kernel))
  obtain ⟨c5, i5, h5⟩ := u_known (C := RX5) (T := TX5) (N := 5) (n := 5) hts inX5 (hts (.instantiable RX5 5) (by decide +kernel))
  obtain ⟨c6, i6, h6⟩ := u_known (C := RX6) (T := TX6) (N := 5) (n := 5) hts inX6 (hts (.instantiable RX6 5) (by decide +kernel))
  refine ⟨(fun k => if k = 0 then c0 else if k = 1 then c1 else if k = 2 then c2 else if k = 3 then c3 else if k = 4 then c4 else if k = 5 then c5 else c6, fun k => if k = 0 then i0 else if k = 1 then i1 else if k = 2 then i2 else if k = 3 then i3 else if k = 4 then i4 else if k = 5 then i5 else i6), ?_⟩
  intro k q hq
  match k, hq with
  | 0, hq => cases hq; exact h0
  | 1, hq => cases hq; exact h1
  | 2, hq => cases hq; exact h2
  | 3, hq => cases hq; exact h3
  | 4, hq => cases hq; exact h4
  | 5, hq => cases hq; exact h5
  | 6, hq => cases hq; exact h6
  | k + 7, hq => simp [vwCl] at hq
theorem ws_arr {s : State} {args : Array Value} {ty : FieldType} (h : (Cond.arrayClass ty).before args s = true) (hR : ∀ c : ClassId, s.vm.findClass ("[" ++ ty.toString) = some c → va_RA s c ty) : ∃ cA : ClassId, ArrOfT s cA ty ∧ va_RA s cA ty := by
  obtain ⟨cA, kA, comp, h1, h2, h3⟩ := Cond.arrayClass_spec h
  exact ⟨cA, fun n z => ⟨fun k h => (by cases h), kA, h2, comp, h3⟩, hR cA h1⟩
theorem ws_arrW {s : State} {args : Array Value} {C : String} (h : (Cond.arrayOver (.object C)).before args s = true) : ∃ cA : ClassId, ArrOfT s cA (.object C) ∧ va_RA s cA (.object C) := by
  obtain ⟨comp, cA, kA, h1, h0, h2, h3, h4⟩ := Cond.arrayOver_spec h
  exact ⟨cA, fun n z => ⟨fun k h => (by cases h), kA, h2, comp, h3⟩, kA, comp, h2, h3, h1, h4⟩
theorem ws_K {s : State} {args : Array Value} (hts : ∀ w ∈ lw_tbl, w.before args s = true) : ∃ (D : va_G) (cI cB cW cL : ClassId), va_K D vwCl (kT cI cB cW cL) s := by
  obtain ⟨D, hD⟩ := ws_cls hts
  obtain ⟨cI, hI⟩ := ws_arr (hts (.arrayClass .int) (by decide +kernel)) (fun _ h => h)
  obtain ⟨cB, hB⟩ := ws_arr (hts (.arrayClass .byte) (by decide +kernel)) (fun _ h => h)
  obtain ⟨cW, hW⟩ := ws_arrW (hts (.arrayOver (.object RX5)) (by decide +kernel))
  refine ⟨D, cI, cB, cW, cI, hD, fun k q hk => ?_⟩
  match k, hk with
  | 0, hk => cases hk; exact hI
  | 1, hk => cases hk; exact hB
  | 2, hk => cases hk; exact hW
  | k + 3, hk => simp [kT] at hk
theorem kTexts_in : ∀ t ∈ kTexts, Cond.stringRef RX6 t.1 t.2 ∈ lw_tbl := by decide +kernel
theorem kBad_in : ∀ w ∈ kBad, w ∈ lw_tbl := by decide +kernel
theorem kBad_tab : ∀ w ∈ kBad, w.onTables = true := by decide +kernel
theorem ws_Zw {s : State} {args : Array Value} (hts : ∀ w ∈ lw_tbl, w.before args s = true) : kZw s := by
  refine ⟨fun t ht => ?_, fun w hw => va_Nw.of (kBad_tab w hw) (hts w (kBad_in w hw))⟩
  have h := hts _ (kTexts_in t ht)
  obtain ⟨cC, kC, hfc, -⟩ := Cond.instantiable_spec (hts (.instantiable RX6 5) (by decide +kernel))
  obtain ⟨k, cf, i, a, -, -, -, -, -, he⟩ := Cond.stringRef_spec hfc h
  exact ⟨a, vk_R.of h he⟩
theorem ws_Z {s : State} {args : Array Value} (hts : ∀ w ∈ lw_tbl, w.before args s = true) (hgv : (Jvm.Cond.and given_1 narrow_1).before args s = true) : kZ (fun q => s.heap.size ≤ q) s s.heap := by
  have hs := flat_of_before _ hgv
  exact ⟨vx_Zqof (hts (.laysStatic Bundle.tN "UNASSIGNED_STACK" Bundle.steD) (by decide +kernel)) (hts (.initialized Bundle.tN) (by decide +kernel)) (hs _ (by decide +kernel)) (fun a h h2 => absurd h (Nat.not_lt.mpr h2)),
    vx_Zqof (hts (.laysStatic Bundle.tN "SUPPRESSED_SENTINEL" Bundle.listD) (by decide +kernel)) (hts (.initialized Bundle.tN) (by decide +kernel)) (hs _ (by decide +kernel)) (fun a h h2 => absurd h (Nat.not_lt.mpr h2)), ws_Zw hts⟩
theorem kNcs_in : ∀ t ∈ kNcs, Cond.not (.castable t.1 t.2) ∈ flatC (Jvm.Cond.and given_1 narrow_1) := by decide +kernel
theorem ws_N {s : State} {args : Array Value} (hgv : (Jvm.Cond.and given_1 narrow_1).before args s = true) : kN s := fun t ht => va_Nc.of (flat_of_before _ hgv _ (kNcs_in t ht))
theorem ws_Z6 {s : State} {args : Array Value} (hts : ∀ w ∈ lw_tbl, w.before args s = true) : kZ6 s :=
  ⟨⟨va_Nw.of rfl (hts (.methodLinkNest RX5 11 yX3_init RX6) (by decide +kernel)), va_Nw.of rfl (hts (.methodLinkNest RX5 20 yX1_init RX6) (by decide +kernel)), va_Nw.of rfl (hts (.methodLinkNest RX5 34 yX0_init RX6) (by decide +kernel))⟩,
    va_Nw.of rfl (hts (.methodLinkNest RX6 11 yX5_init RX6) (by decide +kernel)), va_Nw.of rfl (hts (.methodLinkNest RX6 21 yX2_init RX6) (by decide +kernel)), va_AO.of (hts (.arrayOver (.object RX5)) (by decide +kernel))⟩
theorem ws_st {l : Launch} (h : l.flags = flags0) : l.stackTraces = false := by
  unfold Launch.stackTraces
  rw [h]
  decide
set_option maxHeartbeats 4000000 in
set_option maxRecDepth 100000 in
/-- THE LAW, from its entry -/
theorem whole_start {p : Program} {e : Env} {s : State} {m : MethodId} {below : List Frame} {meth : Method} {c : Code} (l : Launch) (hflags : l.flags = flags0) {b L : Nat} {xs : Nat → Int32} (hL : L ≤ 260) (C0 : lw_At p s m meth c b L xs) : W p l e room_1 s m #[Value.ref b] below meth c s.heap [] 0 0 (lw_Z below #[Value.ref b] s) (entryFrame m ([Value.ref b] : List Value).toArray 7) := by
  obtain ⟨hx, hcd, hr, hml, hown, hts, hX, hbl, hlocks, hgv⟩ := id C0
  have hown : s.vm.findClass RL = some m.cls := hown
  have htl : ∀ w ∈ wsL_law, w.before #[Value.ref b] s = true := fun w h => hts w (wsL_law_in w h)
  have hA : ∀ q : Nat, s.heap.size ≤ q → (fun q : Nat => s.heap.size ≤ q) q := fun _ h => h
  have hbA : ¬ (fun q : Nat => s.heap.size ≤ q) b := Nat.not_le.mpr hbl
  obtain ⟨D, cI, cB, cW, cL, hK⟩ := ws_K hts
  have hst := ws_st hflags
  have hZ := ws_Z hts hgv
  have hN := ws_N hgv
  have hZ6 := ws_Z6 hts
  have hS : va_S (fun q : Nat => s.heap.size ≤ q) s.heap s.heap [] := va_S.rf
  have hP : va_P D vwCl [] s.heap := fun k q h => by simp at h
  have hD : va_D (fun q : Nat => s.heap.size ≤ q) [] := ⟨fun i j p q h => by simp at h, fun k q h => by simp at h⟩
  have hl := lv_entry ([.ref b]) (n := 7) (Nat.le_of_ble_eq_true rfl)
  rw [lg_entry_eq]
  generalize (lg_sl ([.ref b]) ++ List.replicate (7 - (lg_sl ([.ref b])).length) Slot.unset).toArray = ls at hl ⊢
  have hl : lv_has ls 7 [(0, .ref b)] := hl
  refine va_new (ci := 6) (fs := [.null, .null, .null, .null, .int 0]) (C := RX6) (T := TX6) (N := 5) hx hcd hts inX6 tyX6 tyX6_ok hown (hts (.classLink RL 10 RX6) (by decide +kernel)) (hts (.instantiable RX6 5) (by decide +kernel)) (hts (.initialized RX6) (by decide +kernel)) hK hP hD hS hA rfl (fun j hj => by rcases (show j = 0 ∨ j = 1 ∨ j = 2 ∨ j = 3 ∨ j = 4 by omega) with rfl | rfl | rfl | rfl | rfl <;> rfl) (Nat.le_of_ble_eq_true rfl) (Nat.le_of_ble_eq_true rfl) dL_law_0 (fun a1 H hP hD hS => ?_)
  refine W.widen (k := 1) (n := 5) (by omega) (by omega) ?_
  refine lv_dup hx hcd dL_law_3 rfl ?_
  refine kr_I (rest := [.ref a1]) ⟨hx, hcd, hml, hown, htl⟩ (c_X6_init l D cI cB cW cL H.size a1) kZ6.warm hZ6 (cwI 0 htl gL_law_X6_init rfl rfl rfl (hts (.initialized RX6) (by decide +kernel)) (hts (.methodLink RL 170 yX6_init) (by decide +kernel)) (hts (.instanceMethod yX6_init) (by decide +kernel)) rfl (by decide +kernel) ⟨Nat.le_of_ble_eq_true rfl, Nat.le_of_ble_eq_true rfl⟩) hK hP hD hS hA hl.1 rfl (Nat.le_of_ble_eq_true rfl) dL_law_4 ⟨Nat.le_of_ble_eq_true rfl, Nat.le_of_ble_eq_true rfl⟩ (fun u e1 H locs hP hD hS => ?_)
  refine W.widen (k := 94) (n := 3681) (by omega) (by omega) ?_
  refine lv_astore_n (lv' := [(1, .ref a1), (0, .ref b)]) hx hcd dL_law_7 rfl hl (by decide) rfl (fun ls hl => ?_)
  refine va_new (ci := 6) (fs := [.null, .null, .null, .null, .int 0]) (C := RX6) (T := TX6) (N := 5) hx hcd hts inX6 tyX6 tyX6_ok hown (hts (.classLink RL 10 RX6) (by decide +kernel)) (hts (.instantiable RX6 5) (by decide +kernel)) (hts (.initialized RX6) (by decide +kernel)) hK hP hD hS hA rfl (fun j hj => by rcases (show j = 0 ∨ j = 1 ∨ j = 2 ∨ j = 3 ∨ j = 4 by omega) with rfl | rfl | rfl | rfl | rfl <;> rfl) (Nat.le_of_ble_eq_true rfl) (Nat.le_of_ble_eq_true rfl) dL_law_8 (fun a2 H hP hD hS => ?_)
  refine W.widen (k := 95) (n := 3686) (by omega) (by omega) ?_
  refine lv_dup hx hcd dL_law_11 rfl ?_
  refine kr_I (rest := [.ref a2]) ⟨hx, hcd, hml, hown, htl⟩ (c_X6_init l D cI cB cW cL H.size a2) kZ6.warm hZ6 (cwI 0 htl gL_law_X6_init rfl rfl rfl (hts (.initialized RX6) (by decide +kernel)) (hts (.methodLink RL 170 yX6_init) (by decide +kernel)) (hts (.instanceMethod yX6_init) (by decide +kernel)) rfl (by decide +kernel) ⟨Nat.le_of_ble_eq_true rfl, Nat.le_of_ble_eq_true rfl⟩) hK hP hD hS hA hl.1 rfl (Nat.le_of_ble_eq_true rfl) dL_law_12 ⟨Nat.le_of_ble_eq_true rfl, Nat.le_of_ble_eq_true rfl⟩ (fun u2 e2 H locs hP hD hS => ?_)
  refine W.widen (k := 188) (n := 7362) (by omega) (by omega) ?_
  refine lv_astore_n (lv' := [(2, .ref a2), (1, .ref a1), (0, .ref b)]) hx hcd dL_law_15 rfl hl (by decide) rfl (fun ls hl => ?_)
  have e1 : u 0 = a1 := e1
  have e2 : u2 0 = a2 := e2
  rw [← e1, ← e2] at hl
  have hP : va_P D vwCl (wO cI cB cW u g_M0 g_M0 (fun _ => g_M0) 0 0 ++ wO cI cB cW u2 g_M0 g_M0 (fun _ => g_M0) 0 0) H := hP
  have hD : va_D (fun q : Nat => s.heap.size ≤ q) (wO cI cB cW u g_M0 g_M0 (fun _ => g_M0) 0 0 ++ wO cI cB cW u2 g_M0 g_M0 (fun _ => g_M0) 0 0) := hD
  have C : LFix p l s m c b L xs D cI cB cW cL := ⟨hx, hcd, hml, hown, htl, hX, hbl, hst, hZ, hN, hK, hL⟩
  have hE : LEnd p l e s m below meth c b (lw_Z below #[Value.ref b] s) := fun H locs ls cells slots hc hs hS => by
    refine kr_top (w := 1) rfl ?_
    refine W.widen (k := 600104) (n := 7301314) hc hs ?_
    refine va_forget (fun q hq => hS.2.2 q hq) ?_
    exact lw_ret (d0 := s.drawn) (Drawn.sameBut.refl s.drawn lw_cs) hx hcd hr hlocks dL_law_343
  exact law_begin C hE (by omega) ⟨m0_ox, m0_cm, by omega, by omega, 0, Nat.le_refl 0, m0_out (by omega)⟩ (by omega) (by omega) H locs ls hP hD hS (lv_sub hl [2, 1, 0] rfl)
