theorem va_P_perm {D : va_G} {cl : List vw_C} {w1 w2 : va_W} {H : Heap} (h : w1.Perm w2) (hP : va_P D cl w1 H) : va_P D cl w2 H := fun k q hq => by
  have hm : q ∈ w1 := h.symm.subset (List.mem_of_getElem? hq)
  obtain ⟨i, hi⟩ := List.getElem?_of_mem hm
  exact hP i q hi
theorem va_D_perm {A : Nat → Prop} {w1 w2 : va_W} (h : w1.Perm w2) (hD : va_D A w1) : va_D A w2 := by
  have hn : w1.Pairwise (fun p q => p.1 ≠ q.1) := by
    rw [List.pairwise_iff_getElem]
    intro i j hi hj hij e
    have := hD.1 i j w1[i] w1[j] (List.getElem?_eq_getElem hi) (List.getElem?_eq_getElem hj) e
    omega
  have hn2 : w2.Pairwise (fun p q => p.1 ≠ q.1) := h.pairwise hn (fun e e2 => e e2.symm)
  rw [List.pairwise_iff_getElem] at hn2
  refine ⟨fun i j p q hp hq e => ?_, fun k q hq => ?_⟩
  · obtain ⟨hi, rfl⟩ := List.getElem?_eq_some_iff.mp hp
    obtain ⟨hj, rfl⟩ := List.getElem?_eq_some_iff.mp hq
    rcases Nat.lt_trichotomy i j with hlt | heq | hgt
    · exact absurd e (hn2 i j hi hj hlt)
    · exact heq
    · exact absurd e.symm (hn2 j i hj hi hgt)
  · have hm : q ∈ w1 := h.symm.subset (List.mem_of_getElem? hq)
    obtain ⟨i, hi⟩ := List.getElem?_of_mem hm
    exact hD.2 i q hi
theorem perm6 (a s : Nat × va_E) (A B C q0 q1 q2 q3 : va_W) : (((((((([a] ++ A) ++ B) ++ C) ++ [s]) ++ q0) ++ q1) ++ q2) ++ q3).Perm ([a, s] ++ (A ++ (B ++ (q0 ++ (q1 ++ (q2 ++ (q3 ++ C))))))) := by
  simp only [List.append_assoc, List.cons_append, List.nil_append]
  refine List.Perm.cons a ?_
  have h1 : (A ++ (B ++ (C ++ s :: (q0 ++ (q1 ++ (q2 ++ q3)))))).Perm (s :: (A ++ (B ++ (C ++ (q0 ++ (q1 ++ (q2 ++ q3))))))) := by
    have := List.perm_middle (a := s) (l₁ := A ++ (B ++ C)) (l₂ := q0 ++ (q1 ++ (q2 ++ q3)))
    simpa only [List.append_assoc] using this
  refine h1.trans (List.Perm.cons s (List.Perm.append_left A (List.Perm.append_left B ?_)))
  have h2 := List.perm_append_comm (l₁ := C) (l₂ := q0 ++ (q1 ++ (q2 ++ q3)))
  simpa only [List.append_assoc] using h2
theorem rot_0 {qs : Nat → Nat → Nat} : va_up (va_up (va_up (va_up (fun _ => none) 0 (some (qs 0 0))) 1 (some (qs 1 0))) 2 (some (qs 2 0))) 3 (some (qs 3 0)) = g_rot qs 0 := by
  funext i
  by_cases hi : i < 4
  · rcases (show i = 0 ∨ i = 1 ∨ i = 2 ∨ i = 3 by omega) with rfl | rfl | rfl | rfl <;> rfl
  · have h0 : i ≠ 0 := by omega
    have h1 : i ≠ 1 := by omega
    have h2 : i ≠ 2 := by omega
    have h3 : i ≠ 3 := by omega
    simp [va_up, g_rot, hi, h0, h1, h2, h3]
set_option maxHeartbeats 4000000 in
set_option maxRecDepth 100000 in
theorem c_X6_init (l : Launch) (D : va_G) (cI cB cW cL : ClassId) (sz h : Nat) : kMc l yX6_init wsX6_init ({ frames := 4, cells := 93, slots := 3676, locals := 90 }) D vwCl (kT cI cB cW cL) sz h [(h, .inr (6, [.null, .null, .null, .null, .int 0]))] (kZ6) (fun q => q 0 = h) (fun q => wX cI cB cW (fun i => q i) (fun i => q (100 + i)) (fun i => q (200 + i)) (fun j i => q (300 + 100 * j + i)) (fun i => q (800 + i)) (g_rot (fun j i => q (300 + 100 * j + i)) 0) g_M0 g_M0 (fun _ => g_M0) 0 0 (fun _ => 0)) 93 3676 := by
  refine kr_ofc (cc := cX6_init) (maxL := 2) (by decide) rfl rfl (Nat.le_of_ble_eq_true rfl) ?_
  intro pp ee ss mm args below meth cc AA ls hx hcd hr hin hts hown hlocks hml hZ hK hP hD hA hl
  have hS : va_S AA ss.heap ss.heap [] := va_S.rf
  have hown : ss.vm.findClass RX6 = some mm.cls := hown
  have uX2 : ∀ w ∈ u_ws RX2 TX2 2, w ∈ wsX6_init := by decide +kernel
  have uX5 : ∀ w ∈ u_ws RX5 TX5 5, w ∈ wsX6_init := by decide +kernel
  have uX6 : ∀ w ∈ u_ws RX6 TX6 5, w ∈ wsX6_init := by decide +kernel
  refine lv_aload_n hx hcd dX6_init_0 rfl (lv_at hl 0 rfl) ?_
  refine W.objInit hx hcd hown (hts (.methodLink RX6 3 objectInit) (by decide +kernel)) (hts (.instanceMethod objectInit) (by decide +kernel)) (hts (.code objectInit ⟨#[0xb1]⟩ 1 none) (by decide +kernel)) rfl (by rw [hml]; exact hl.1) rfl dX6_init_1 (Nat.le_of_ble_eq_true rfl) (Nat.le_of_ble_eq_true rfl) ?_
  refine W.eq (g2 := F0 mm 4 ls []) rfl ?_
  refine lv_aload_n hx hcd dX6_init_4 rfl (lv_at hl 0 rfl) ?_
  refine va_new (ci := 5) (fs := [.null, .null, .null, .null, .null]) (C := RX5) (T := TX5) (N := 5) hx hcd hts uX5 tyX5 tyX5_ok hown (hts (.classLink RX6 9 RX5) (by decide +kernel)) (hts (.instantiable RX5 5) (by decide +kernel)) (hts (.initialized RX5) (by decide +kernel)) hK hP hD hS hA rfl (fun j hj => by rcases (show j = 0 ∨ j = 1 ∨ j = 2 ∨ j = 3 ∨ j = 4 by omega) with rfl | rfl | rfl | rfl | rfl <;> rfl) (Nat.le_of_ble_eq_true rfl) (Nat.le_of_ble_eq_true rfl) dX6_init_5 (fun a1 H hP hD hS => ?_)
  refine W.widen (k := 1) (n := 5) (Nat.le_of_ble_eq_true rfl) (Nat.le_of_ble_eq_true rfl) ?_
  refine lv_dup hx hcd dX6_init_8 rfl ?_
  refine kr_IN (rest := [.ref a1, .ref h]) ⟨hx, hcd, hml, hown, hts⟩ (c_X5_init l D cI cB cW cL H.size a1) kZ5.warm hZ.1 ⟨va_cnB 0 hts ggX6_init_X5_init rfl rfl rfl hZ.2.1 (hts (.initialized RX5) (by decide +kernel)) (by decide +kernel) ⟨Nat.le_of_ble_eq_true rfl, Nat.le_of_ble_eq_true rfl⟩, rfl, hts (.instanceMethod yX5_init) (by decide +kernel)⟩ hK hP hD hS hA hl.1 rfl (Nat.le_of_ble_eq_true rfl) dX6_init_9 ⟨Nat.le_of_ble_eq_true rfl, Nat.le_of_ble_eq_true rfl⟩ (fun q2 e_q2 H9 locs9 hP9 hD9 hS9 => ?_)
  have e_q2 : q2 0 = a1 := e_q2
  subst e_q2
  obtain ⟨H, hH9⟩ : ∃ H, H = H9 := ⟨_, rfl⟩
  obtain ⟨locs, hL9⟩ : ∃ locs, locs = locs9 := ⟨_, rfl⟩
  rw [← hH9] at hP9 hS9
  rw [← hL9] at hS9
  rw [← hH9, ← hL9]
  have hS := hS9
  refine W.widen (k := 15) (n := 595) (Nat.le_of_ble_eq_true rfl) (Nat.le_of_ble_eq_true rfl) ?_
  have hP : va_P D vwCl (([(h, .inr (6, [.null, .null, .null, .null, .int 0]))]) ++ (wW cI q2 g_M0)) H := hP9
  have hD : va_D AA (([(h, .inr (6, [.null, .null, .null, .null, .int 0]))]) ++ (wW cI q2 g_M0)) := hD9
  refine va_putF (ci := 6) (v := .ref (q2 0)) (ty := .object "PresenceGrants$World") (C := RX6) (T := TX6) (N := 5) hx hcd hts uX6 tyX6 tyX6_ok nmX6 hown hK hP hD hS 0 rfl rfl 0 (by decide) (hts (.fieldLink RX6 12 "PresenceGrants" "now" "LPresenceGrants$World;") (by decide +kernel)) (fun _ h9 => h9) rfl hin rfl (by decide +kernel) rfl rfl (Nat.le_of_ble_eq_true rfl) dX6_init_12 (fun H locs hP hD hS => ?_)
  have hP : va_P D vwCl (([(h, .inr (6, [.ref (q2 0), .null, .null, .null, .int 0]))]) ++ (wW cI q2 g_M0)) H := hP
  have hD : va_D AA (([(h, .inr (6, [.ref (q2 0), .null, .null, .null, .int 0]))]) ++ (wW cI q2 g_M0)) := hD
  refine lv_aload_n hx hcd dX6_init_15 rfl (lv_at hl 0 rfl) ?_
  refine va_new (ci := 5) (fs := [.null, .null, .null, .null, .null]) (C := RX5) (T := TX5) (N := 5) hx hcd hts uX5 tyX5 tyX5_ok hown (hts (.classLink RX6 9 RX5) (by decide +kernel)) (hts (.instantiable RX5 5) (by decide +kernel)) (hts (.initialized RX5) (by decide +kernel)) hK hP hD hS hA rfl (fun j hj => by rcases (show j = 0 ∨ j = 1 ∨ j = 2 ∨ j = 3 ∨ j = 4 by omega) with rfl | rfl | rfl | rfl | rfl <;> rfl) (Nat.le_of_ble_eq_true rfl) (Nat.le_of_ble_eq_true rfl) dX6_init_16 (fun a3 H hP hD hS => ?_)
  refine W.widen (k := 16) (n := 600) (Nat.le_of_ble_eq_true rfl) (Nat.le_of_ble_eq_true rfl) ?_
  refine lv_dup hx hcd dX6_init_19 rfl ?_
  refine kr_IN (rest := [.ref a3, .ref h]) ⟨hx, hcd, hml, hown, hts⟩ (c_X5_init l D cI cB cW cL H.size a3) kZ5.warm hZ.1 ⟨va_cnB 0 hts ggX6_init_X5_init rfl rfl rfl hZ.2.1 (hts (.initialized RX5) (by decide +kernel)) (by decide +kernel) ⟨Nat.le_of_ble_eq_true rfl, Nat.le_of_ble_eq_true rfl⟩, rfl, hts (.instanceMethod yX5_init) (by decide +kernel)⟩ hK hP hD hS hA hl.1 rfl (Nat.le_of_ble_eq_true rfl) dX6_init_20 ⟨Nat.le_of_ble_eq_true rfl, Nat.le_of_ble_eq_true rfl⟩ (fun q4 e_q4 H9 locs9 hP9 hD9 hS9 => ?_)
  have e_q4 : q4 0 = a3 := e_q4
  subst e_q4
  obtain ⟨H, hH9⟩ : ∃ H, H = H9 := ⟨_, rfl⟩
  obtain ⟨locs, hL9⟩ : ∃ locs, locs = locs9 := ⟨_, rfl⟩
  rw [← hH9] at hP9 hS9
  rw [← hL9] at hS9
  rw [← hH9, ← hL9]
  have hS := hS9
  refine W.widen (k := 30) (n := 1190) (Nat.le_of_ble_eq_true rfl) (Nat.le_of_ble_eq_true rfl) ?_
  have hP : va_P D vwCl ((([(h, .inr (6, [.ref (q2 0), .null, .null, .null, .int 0]))]) ++ (wW cI q2 g_M0)) ++ (wW cI q4 g_M0)) H := hP9
  have hD : va_D AA ((([(h, .inr (6, [.ref (q2 0), .null, .null, .null, .int 0]))]) ++ (wW cI q2 g_M0)) ++ (wW cI q4 g_M0)) := hD9
  refine va_putF (ci := 6) (v := .ref (q4 0)) (ty := .object "PresenceGrants$World") (C := RX6) (T := TX6) (N := 5) hx hcd hts uX6 tyX6 tyX6_ok nmX6 hown hK hP hD hS 0 rfl rfl 1 (by decide) (hts (.fieldLink RX6 16 "PresenceGrants" "trial" "LPresenceGrants$World;") (by decide +kernel)) (fun _ h9 => h9) rfl hin rfl (by decide +kernel) rfl rfl (Nat.le_of_ble_eq_true rfl) dX6_init_23 (fun H locs hP hD hS => ?_)
  have hP : va_P D vwCl ((([(h, .inr (6, [.ref (q2 0), .ref (q4 0), .null, .null, .int 0]))]) ++ (wW cI q2 g_M0)) ++ (wW cI q4 g_M0)) H := hP
  have hD : va_D AA ((([(h, .inr (6, [.ref (q2 0), .ref (q4 0), .null, .null, .int 0]))]) ++ (wW cI q2 g_M0)) ++ (wW cI q4 g_M0)) := hD
  refine lv_aload_n hx hcd dX6_init_26 rfl (lv_at hl 0 rfl) ?_
  refine va_new (ci := 2) (fs := [.null, .int 0]) (C := RX2) (T := TX2) (N := 2) hx hcd hts uX2 tyX2 tyX2_ok hown (hts (.classLink RX6 19 RX2) (by decide +kernel)) (hts (.instantiable RX2 2) (by decide +kernel)) (hts (.initialized RX2) (by decide +kernel)) hK hP hD hS hA rfl (fun j hj => by rcases (show j = 0 ∨ j = 1 by omega) with rfl | rfl <;> rfl) (Nat.le_of_ble_eq_true rfl) (Nat.le_of_ble_eq_true rfl) dX6_init_27 (fun a5 H hP hD hS => ?_)
  refine W.widen (k := 31) (n := 1192) (Nat.le_of_ble_eq_true rfl) (Nat.le_of_ble_eq_true rfl) ?_
  refine lv_dup hx hcd dX6_init_30 rfl ?_
  refine kr_IN (rest := [.ref a5, .ref h]) ⟨hx, hcd, hml, hown, hts⟩ (c_X2_init l D cI cB cW cL H.size a5) (fun _ _ _ _ => trivial) trivial ⟨va_cnB 0 hts ggX6_init_X2_init rfl rfl rfl hZ.2.2.1 (hts (.initialized RX2) (by decide +kernel)) (by decide +kernel) ⟨Nat.le_of_ble_eq_true rfl, Nat.le_of_ble_eq_true rfl⟩, rfl, hts (.instanceMethod yX2_init) (by decide +kernel)⟩ hK hP hD hS hA hl.1 rfl (Nat.le_of_ble_eq_true rfl) dX6_init_31 ⟨Nat.le_of_ble_eq_true rfl, Nat.le_of_ble_eq_true rfl⟩ (fun q6 e_q6 H9 locs9 hP9 hD9 hS9 => ?_)
  have e_q6 : q6 0 = a5 := e_q6
  subst e_q6
  obtain ⟨H, hH9⟩ : ∃ H, H = H9 := ⟨_, rfl⟩
  obtain ⟨locs, hL9⟩ : ∃ locs, locs = locs9 := ⟨_, rfl⟩
  rw [← hH9] at hP9 hS9
  rw [← hL9] at hS9
  rw [← hH9, ← hL9]
  have hS := hS9
  refine W.widen (k := 32) (n := 1292) (Nat.le_of_ble_eq_true rfl) (Nat.le_of_ble_eq_true rfl) ?_
  have hP : va_P D vwCl (((([(h, .inr (6, [.ref (q2 0), .ref (q4 0), .null, .null, .int 0]))]) ++ (wW cI q2 g_M0)) ++ (wW cI q4 g_M0)) ++ (wSc cB q6 0 (fun _ => 0))) H := hP9
  have hD : va_D AA (((([(h, .inr (6, [.ref (q2 0), .ref (q4 0), .null, .null, .int 0]))]) ++ (wW cI q2 g_M0)) ++ (wW cI q4 g_M0)) ++ (wSc cB q6 0 (fun _ => 0))) := hD9
  refine va_putF (ci := 6) (v := .ref (q6 0)) (ty := .object "PresenceGrants$Script") (C := RX6) (T := TX6) (N := 5) hx hcd hts uX6 tyX6 tyX6_ok nmX6 hown hK hP hD hS 0 rfl rfl 3 (by decide) (hts (.fieldLink RX6 22 "PresenceGrants" "script" "LPresenceGrants$Script;") (by decide +kernel)) (fun _ h9 => h9) rfl hin rfl (by decide +kernel) rfl rfl (Nat.le_of_ble_eq_true rfl) dX6_init_34 (fun H locs hP hD hS => ?_)
  have hP : va_P D vwCl (((([(h, .inr (6, [.ref (q2 0), .ref (q4 0), .null, .ref (q6 0), .int 0]))]) ++ (wW cI q2 g_M0)) ++ (wW cI q4 g_M0)) ++ (wSc cB q6 0 (fun _ => 0))) H := hP
  have hD : va_D AA (((([(h, .inr (6, [.ref (q2 0), .ref (q4 0), .null, .ref (q6 0), .int 0]))]) ++ (wW cI q2 g_M0)) ++ (wW cI q4 g_M0)) ++ (wSc cB q6 0 (fun _ => 0))) := hD
  refine lv_aload_n hx hcd dX6_init_37 rfl (lv_at hl 0 rfl) ?_
  refine lv_iconst (v := nI 4) hx hcd dX6_init_38 (by decide) ?_
  refine kr_newq (C := RX5) (cA := cW) hx hcd hown (hts (.classLink RX6 9 RX5) (by decide +kernel)) hZ.2.2.2 2 rfl hK hP hD hS hA (k := 4) (by decide) (by decide) (Nat.le_of_ble_eq_true rfl) (Nat.le_of_ble_eq_true rfl) dX6_init_39 (fun a7 H hP hD hS => ?_)
  refine W.widen (k := 33) (n := 1296) (Nat.le_of_ble_eq_true rfl) (Nat.le_of_ble_eq_true rfl) ?_
  have hP : va_P D vwCl ((((([(h, .inr (6, [.ref (q2 0), .ref (q4 0), .null, .ref (q6 0), .int 0]))]) ++ (wW cI q2 g_M0)) ++ (wW cI q4 g_M0)) ++ (wSc cB q6 0 (fun _ => 0))) ++ [(a7, .inl (cW, 4, .inr (.inr (.inr (.inr (fun _ => none))))))]) H := hP
  have hD : va_D AA ((((([(h, .inr (6, [.ref (q2 0), .ref (q4 0), .null, .ref (q6 0), .int 0]))]) ++ (wW cI q2 g_M0)) ++ (wW cI q4 g_M0)) ++ (wSc cB q6 0 (fun _ => 0))) ++ [(a7, .inl (cW, 4, .inr (.inr (.inr (.inr (fun _ => none))))))]) := hD
  refine va_putF (ci := 6) (v := .ref a7) (ty := .array (.object "PresenceGrants$World")) (C := RX6) (T := TX6) (N := 5) hx hcd hts uX6 tyX6 tyX6_ok nmX6 hown hK hP hD hS 0 rfl rfl 2 (by decide) (hts (.fieldLink RX6 26 "PresenceGrants" "saved" "[LPresenceGrants$World;") (by decide +kernel)) (fun _ h9 => h9) rfl hin rfl (by decide +kernel) rfl rfl (Nat.le_of_ble_eq_true rfl) dX6_init_42 (fun H locs hP hD hS => ?_)
  have hP : va_P D vwCl ((((([(h, .inr (6, [.ref (q2 0), .ref (q4 0), .ref a7, .ref (q6 0), .int 0]))]) ++ (wW cI q2 g_M0)) ++ (wW cI q4 g_M0)) ++ (wSc cB q6 0 (fun _ => 0))) ++ [(a7, .inl (cW, 4, .inr (.inr (.inr (.inr (fun _ => none))))))]) H := hP
  have hD : va_D AA ((((([(h, .inr (6, [.ref (q2 0), .ref (q4 0), .ref a7, .ref (q6 0), .int 0]))]) ++ (wW cI q2 g_M0)) ++ (wW cI q4 g_M0)) ++ (wSc cB q6 0 (fun _ => 0))) ++ [(a7, .inl (cW, 4, .inr (.inr (.inr (.inr (fun _ => none))))))]) := hD
  refine lv_iconst (v := nI 0) hx hcd dX6_init_45 (by decide) ?_
  refine lv_istore_n (lv' := [(1, .int (nI 0)), (0, .ref h)]) hx hcd dX6_init_46 rfl hl (by decide) rfl (fun ls hl => ?_)
  refine lv_iload_n hx hcd dX6_init_47 rfl (lv_at hl 0 rfl) ?_
  refine lv_iconst (v := nI 4) hx hcd dX6_init_48 (by decide) ?_
  refine kr_cge (tgt := 71) hx hcd (by omega) (by omega) dX6_init_49 (by decide) (fun c_9 => absurd c_9 (by omega)) (fun _ => ?_)
  refine lv_aload_n hx hcd dX6_init_52 rfl (lv_at hl 1 rfl) ?_
  refine kr_get hx hcd hts uX6 hown hK hP 0 rfl rfl 2 (by decide) (by decide +kernel) (v := .ref a7) rfl dX6_init_53 ?_
  refine lv_iload_n hx hcd dX6_init_56 rfl (lv_at hl 0 rfl) ?_
  refine va_new (ci := 5) (fs := [.null, .null, .null, .null, .null]) (C := RX5) (T := TX5) (N := 5) hx hcd hts uX5 tyX5 tyX5_ok hown (hts (.classLink RX6 9 RX5) (by decide +kernel)) (hts (.instantiable RX5 5) (by decide +kernel)) (hts (.initialized RX5) (by decide +kernel)) hK hP hD hS hA rfl (fun j hj => by rcases (show j = 0 ∨ j = 1 ∨ j = 2 ∨ j = 3 ∨ j = 4 by omega) with rfl | rfl | rfl | rfl | rfl <;> rfl) (Nat.le_of_ble_eq_true rfl) (Nat.le_of_ble_eq_true rfl) dX6_init_57 (fun a8 H hP hD hS => ?_)
  refine W.widen (k := 34) (n := 1301) (Nat.le_of_ble_eq_true rfl) (Nat.le_of_ble_eq_true rfl) ?_
  refine lv_dup hx hcd dX6_init_60 rfl ?_
  refine kr_IN (rest := [.ref a8, .int (nI 0), .ref a7]) ⟨hx, hcd, hml, hown, hts⟩ (c_X5_init l D cI cB cW cL H.size a8) kZ5.warm hZ.1 ⟨va_cnB 0 hts ggX6_init_X5_init rfl rfl rfl hZ.2.1 (hts (.initialized RX5) (by decide +kernel)) (by decide +kernel) ⟨Nat.le_of_ble_eq_true rfl, Nat.le_of_ble_eq_true rfl⟩, rfl, hts (.instanceMethod yX5_init) (by decide +kernel)⟩ hK hP hD hS hA hl.1 rfl (Nat.le_of_ble_eq_true rfl) dX6_init_61 ⟨Nat.le_of_ble_eq_true rfl, Nat.le_of_ble_eq_true rfl⟩ (fun q9 e_q9 H9 locs9 hP9 hD9 hS9 => ?_)
  have e_q9 : q9 0 = a8 := e_q9
  subst e_q9
  obtain ⟨H, hH9⟩ : ∃ H, H = H9 := ⟨_, rfl⟩
  obtain ⟨locs, hL9⟩ : ∃ locs, locs = locs9 := ⟨_, rfl⟩
  rw [← hH9] at hP9 hS9
  rw [← hL9] at hS9
  rw [← hH9, ← hL9]
  have hS := hS9
  refine W.widen (k := 48) (n := 1891) (Nat.le_of_ble_eq_true rfl) (Nat.le_of_ble_eq_true rfl) ?_
  have hP : va_P D vwCl (((((([(h, .inr (6, [.ref (q2 0), .ref (q4 0), .ref a7, .ref (q6 0), .int 0]))]) ++ (wW cI q2 g_M0)) ++ (wW cI q4 g_M0)) ++ (wSc cB q6 0 (fun _ => 0))) ++ [(a7, .inl (cW, 4, .inr (.inr (.inr (.inr (fun _ => none))))))]) ++ (wW cI q9 g_M0)) H := hP9
  have hD : va_D AA (((((([(h, .inr (6, [.ref (q2 0), .ref (q4 0), .ref a7, .ref (q6 0), .int 0]))]) ++ (wW cI q2 g_M0)) ++ (wW cI q4 g_M0)) ++ (wSc cB q6 0 (fun _ => 0))) ++ [(a7, .inl (cW, 4, .inr (.inr (.inr (.inr (fun _ => none))))))]) ++ (wW cI q9 g_M0)) := hD9
  refine kr_aast (k := 0) hx hcd hK hP hD hS 33 2 34 5 rfl rfl rfl rfl (by omega) (by decide) (ws2 := ((((([(h, .inr (6, [.ref (q2 0), .ref (q4 0), .ref a7, .ref (q6 0), .int 0]))]) ++ (wW cI q2 g_M0)) ++ (wW cI q4 g_M0)) ++ (wSc cB q6 0 (fun _ => 0))) ++ [(a7, .inl (cW, 4, .inr (.inr (.inr (.inr (va_up (fun _ => none) 0 (some (q9 0))))))))]) ++ (wW cI q9 g_M0)) rfl dX6_init_64 (fun H locs hP hD hS => ?_)
  refine kr_iinc (lv' := [(1, .int (nI 1)), (0, .ref h)]) hx hcd dX6_init_65 hl (k := 0) rfl (by decide) rfl (fun ls hl => ?_)
  refine lv_goto (tgt := 47) hx hcd dX6_init_68 (by decide) ?_
  refine lv_iload_n hx hcd dX6_init_47 rfl (lv_at hl 0 rfl) ?_
  refine lv_iconst (v := nI 4) hx hcd dX6_init_48 (by decide) ?_
  refine kr_cge (tgt := 71) hx hcd (by omega) (by omega) dX6_init_49 (by decide) (fun c_9 => absurd c_9 (by omega)) (fun _ => ?_)
  refine lv_aload_n hx hcd dX6_init_52 rfl (lv_at hl 1 rfl) ?_
  refine kr_get hx hcd hts uX6 hown hK hP 0 rfl rfl 2 (by decide) (by decide +kernel) (v := .ref a7) rfl dX6_init_53 ?_
  refine lv_iload_n hx hcd dX6_init_56 rfl (lv_at hl 0 rfl) ?_
  refine va_new (ci := 5) (fs := [.null, .null, .null, .null, .null]) (C := RX5) (T := TX5) (N := 5) hx hcd hts uX5 tyX5 tyX5_ok hown (hts (.classLink RX6 9 RX5) (by decide +kernel)) (hts (.instantiable RX5 5) (by decide +kernel)) (hts (.initialized RX5) (by decide +kernel)) hK hP hD hS hA rfl (fun j hj => by rcases (show j = 0 ∨ j = 1 ∨ j = 2 ∨ j = 3 ∨ j = 4 by omega) with rfl | rfl | rfl | rfl | rfl <;> rfl) (Nat.le_of_ble_eq_true rfl) (Nat.le_of_ble_eq_true rfl) dX6_init_57 (fun a10 H hP hD hS => ?_)
  refine W.widen (k := 49) (n := 1896) (Nat.le_of_ble_eq_true rfl) (Nat.le_of_ble_eq_true rfl) ?_
  refine lv_dup hx hcd dX6_init_60 rfl ?_
  refine kr_IN (rest := [.ref a10, .int (nI 1), .ref a7]) ⟨hx, hcd, hml, hown, hts⟩ (c_X5_init l D cI cB cW cL H.size a10) kZ5.warm hZ.1 ⟨va_cnB 0 hts ggX6_init_X5_init rfl rfl rfl hZ.2.1 (hts (.initialized RX5) (by decide +kernel)) (by decide +kernel) ⟨Nat.le_of_ble_eq_true rfl, Nat.le_of_ble_eq_true rfl⟩, rfl, hts (.instanceMethod yX5_init) (by decide +kernel)⟩ hK hP hD hS hA hl.1 rfl (Nat.le_of_ble_eq_true rfl) dX6_init_61 ⟨Nat.le_of_ble_eq_true rfl, Nat.le_of_ble_eq_true rfl⟩ (fun q11 e_q11 H9 locs9 hP9 hD9 hS9 => ?_)
  have e_q11 : q11 0 = a10 := e_q11
  subst e_q11
  obtain ⟨H, hH9⟩ : ∃ H, H = H9 := ⟨_, rfl⟩
  obtain ⟨locs, hL9⟩ : ∃ locs, locs = locs9 := ⟨_, rfl⟩
  rw [← hH9] at hP9 hS9
  rw [← hL9] at hS9
  rw [← hH9, ← hL9]
  have hS := hS9
  refine W.widen (k := 63) (n := 2486) (Nat.le_of_ble_eq_true rfl) (Nat.le_of_ble_eq_true rfl) ?_
  have hP : va_P D vwCl ((((((([(h, .inr (6, [.ref (q2 0), .ref (q4 0), .ref a7, .ref (q6 0), .int 0]))]) ++ (wW cI q2 g_M0)) ++ (wW cI q4 g_M0)) ++ (wSc cB q6 0 (fun _ => 0))) ++ [(a7, .inl (cW, 4, .inr (.inr (.inr (.inr (va_up (fun _ => none) 0 (some (q9 0))))))))]) ++ (wW cI q9 g_M0)) ++ (wW cI q11 g_M0)) H := hP9
  have hD : va_D AA ((((((([(h, .inr (6, [.ref (q2 0), .ref (q4 0), .ref a7, .ref (q6 0), .int 0]))]) ++ (wW cI q2 g_M0)) ++ (wW cI q4 g_M0)) ++ (wSc cB q6 0 (fun _ => 0))) ++ [(a7, .inl (cW, 4, .inr (.inr (.inr (.inr (va_up (fun _ => none) 0 (some (q9 0))))))))]) ++ (wW cI q9 g_M0)) ++ (wW cI q11 g_M0)) := hD9
  refine kr_aast (k := 1) hx hcd hK hP hD hS 33 2 49 5 rfl rfl rfl rfl (by omega) (by decide) (ws2 := (((((([(h, .inr (6, [.ref (q2 0), .ref (q4 0), .ref a7, .ref (q6 0), .int 0]))]) ++ (wW cI q2 g_M0)) ++ (wW cI q4 g_M0)) ++ (wSc cB q6 0 (fun _ => 0))) ++ [(a7, .inl (cW, 4, .inr (.inr (.inr (.inr (va_up (va_up (fun _ => none) 0 (some (q9 0))) 1 (some (q11 0))))))))]) ++ (wW cI q9 g_M0)) ++ (wW cI q11 g_M0)) rfl dX6_init_64 (fun H locs hP hD hS => ?_)
  refine kr_iinc (lv' := [(1, .int (nI 2)), (0, .ref h)]) hx hcd dX6_init_65 hl (k := 0) rfl (by decide) rfl (fun ls hl => ?_)
  refine lv_goto (tgt := 47) hx hcd dX6_init_68 (by decide) ?_
  refine lv_iload_n hx hcd dX6_init_47 rfl (lv_at hl 0 rfl) ?_
  refine lv_iconst (v := nI 4) hx hcd dX6_init_48 (by decide) ?_
  refine kr_cge (tgt := 71) hx hcd (by omega) (by omega) dX6_init_49 (by decide) (fun c_9 => absurd c_9 (by omega)) (fun _ => ?_)
  refine lv_aload_n hx hcd dX6_init_52 rfl (lv_at hl 1 rfl) ?_
  refine kr_get hx hcd hts uX6 hown hK hP 0 rfl rfl 2 (by decide) (by decide +kernel) (v := .ref a7) rfl dX6_init_53 ?_
  refine lv_iload_n hx hcd dX6_init_56 rfl (lv_at hl 0 rfl) ?_
  refine va_new (ci := 5) (fs := [.null, .null, .null, .null, .null]) (C := RX5) (T := TX5) (N := 5) hx hcd hts uX5 tyX5 tyX5_ok hown (hts (.classLink RX6 9 RX5) (by decide +kernel)) (hts (.instantiable RX5 5) (by decide +kernel)) (hts (.initialized RX5) (by decide +kernel)) hK hP hD hS hA rfl (fun j hj => by rcases (show j = 0 ∨ j = 1 ∨ j = 2 ∨ j = 3 ∨ j = 4 by omega) with rfl | rfl | rfl | rfl | rfl <;> rfl) (Nat.le_of_ble_eq_true rfl) (Nat.le_of_ble_eq_true rfl) dX6_init_57 (fun a12 H hP hD hS => ?_)
  refine W.widen (k := 64) (n := 2491) (Nat.le_of_ble_eq_true rfl) (Nat.le_of_ble_eq_true rfl) ?_
  refine lv_dup hx hcd dX6_init_60 rfl ?_
  refine kr_IN (rest := [.ref a12, .int (nI 2), .ref a7]) ⟨hx, hcd, hml, hown, hts⟩ (c_X5_init l D cI cB cW cL H.size a12) kZ5.warm hZ.1 ⟨va_cnB 0 hts ggX6_init_X5_init rfl rfl rfl hZ.2.1 (hts (.initialized RX5) (by decide +kernel)) (by decide +kernel) ⟨Nat.le_of_ble_eq_true rfl, Nat.le_of_ble_eq_true rfl⟩, rfl, hts (.instanceMethod yX5_init) (by decide +kernel)⟩ hK hP hD hS hA hl.1 rfl (Nat.le_of_ble_eq_true rfl) dX6_init_61 ⟨Nat.le_of_ble_eq_true rfl, Nat.le_of_ble_eq_true rfl⟩ (fun q13 e_q13 H9 locs9 hP9 hD9 hS9 => ?_)
  have e_q13 : q13 0 = a12 := e_q13
  subst e_q13
  obtain ⟨H, hH9⟩ : ∃ H, H = H9 := ⟨_, rfl⟩
  obtain ⟨locs, hL9⟩ : ∃ locs, locs = locs9 := ⟨_, rfl⟩
  rw [← hH9] at hP9 hS9
  rw [← hL9] at hS9
  rw [← hH9, ← hL9]
  have hS := hS9
  refine W.widen (k := 78) (n := 3081) (Nat.le_of_ble_eq_true rfl) (Nat.le_of_ble_eq_true rfl) ?_
  have hP : va_P D vwCl (((((((([(h, .inr (6, [.ref (q2 0), .ref (q4 0), .ref a7, .ref (q6 0), .int 0]))]) ++ (wW cI q2 g_M0)) ++ (wW cI q4 g_M0)) ++ (wSc cB q6 0 (fun _ => 0))) ++ [(a7, .inl (cW, 4, .inr (.inr (.inr (.inr (va_up (va_up (fun _ => none) 0 (some (q9 0))) 1 (some (q11 0))))))))]) ++ (wW cI q9 g_M0)) ++ (wW cI q11 g_M0)) ++ (wW cI q13 g_M0)) H := hP9
  have hD : va_D AA (((((((([(h, .inr (6, [.ref (q2 0), .ref (q4 0), .ref a7, .ref (q6 0), .int 0]))]) ++ (wW cI q2 g_M0)) ++ (wW cI q4 g_M0)) ++ (wSc cB q6 0 (fun _ => 0))) ++ [(a7, .inl (cW, 4, .inr (.inr (.inr (.inr (va_up (va_up (fun _ => none) 0 (some (q9 0))) 1 (some (q11 0))))))))]) ++ (wW cI q9 g_M0)) ++ (wW cI q11 g_M0)) ++ (wW cI q13 g_M0)) := hD9
  refine kr_aast (k := 2) hx hcd hK hP hD hS 33 2 64 5 rfl rfl rfl rfl (by omega) (by decide) (ws2 := ((((((([(h, .inr (6, [.ref (q2 0), .ref (q4 0), .ref a7, .ref (q6 0), .int 0]))]) ++ (wW cI q2 g_M0)) ++ (wW cI q4 g_M0)) ++ (wSc cB q6 0 (fun _ => 0))) ++ [(a7, .inl (cW, 4, .inr (.inr (.inr (.inr (va_up (va_up (va_up (fun _ => none) 0 (some (q9 0))) 1 (some (q11 0))) 2 (some (q13 0))))))))]) ++ (wW cI q9 g_M0)) ++ (wW cI q11 g_M0)) ++ (wW cI q13 g_M0)) rfl dX6_init_64 (fun H locs hP hD hS => ?_)
  refine kr_iinc (lv' := [(1, .int (nI 3)), (0, .ref h)]) hx hcd dX6_init_65 hl (k := 0) rfl (by decide) rfl (fun ls hl => ?_)
  refine lv_goto (tgt := 47) hx hcd dX6_init_68 (by decide) ?_
  refine lv_iload_n hx hcd dX6_init_47 rfl (lv_at hl 0 rfl) ?_
  refine lv_iconst (v := nI 4) hx hcd dX6_init_48 (by decide) ?_
  refine kr_cge (tgt := 71) hx hcd (by omega) (by omega) dX6_init_49 (by decide) (fun c_9 => absurd c_9 (by omega)) (fun _ => ?_)
  refine lv_aload_n hx hcd dX6_init_52 rfl (lv_at hl 1 rfl) ?_
  refine kr_get hx hcd hts uX6 hown hK hP 0 rfl rfl 2 (by decide) (by decide +kernel) (v := .ref a7) rfl dX6_init_53 ?_
  refine lv_iload_n hx hcd dX6_init_56 rfl (lv_at hl 0 rfl) ?_
  refine va_new (ci := 5) (fs := [.null, .null, .null, .null, .null]) (C := RX5) (T := TX5) (N := 5) hx hcd hts uX5 tyX5 tyX5_ok hown (hts (.classLink RX6 9 RX5) (by decide +kernel)) (hts (.instantiable RX5 5) (by decide +kernel)) (hts (.initialized RX5) (by decide +kernel)) hK hP hD hS hA rfl (fun j hj => by rcases (show j = 0 ∨ j = 1 ∨ j = 2 ∨ j = 3 ∨ j = 4 by omega) with rfl | rfl | rfl | rfl | rfl <;> rfl) (Nat.le_of_ble_eq_true rfl) (Nat.le_of_ble_eq_true rfl) dX6_init_57 (fun a14 H hP hD hS => ?_)
  refine W.widen (k := 79) (n := 3086) (Nat.le_of_ble_eq_true rfl) (Nat.le_of_ble_eq_true rfl) ?_
  refine lv_dup hx hcd dX6_init_60 rfl ?_
  refine kr_IN (rest := [.ref a14, .int (nI 3), .ref a7]) ⟨hx, hcd, hml, hown, hts⟩ (c_X5_init l D cI cB cW cL H.size a14) kZ5.warm hZ.1 ⟨va_cnB 0 hts ggX6_init_X5_init rfl rfl rfl hZ.2.1 (hts (.initialized RX5) (by decide +kernel)) (by decide +kernel) ⟨Nat.le_of_ble_eq_true rfl, Nat.le_of_ble_eq_true rfl⟩, rfl, hts (.instanceMethod yX5_init) (by decide +kernel)⟩ hK hP hD hS hA hl.1 rfl (Nat.le_of_ble_eq_true rfl) dX6_init_61 ⟨Nat.le_of_ble_eq_true rfl, Nat.le_of_ble_eq_true rfl⟩ (fun q15 e_q15 H9 locs9 hP9 hD9 hS9 => ?_)
  have e_q15 : q15 0 = a14 := e_q15
  subst e_q15
  obtain ⟨H, hH9⟩ : ∃ H, H = H9 := ⟨_, rfl⟩
  obtain ⟨locs, hL9⟩ : ∃ locs, locs = locs9 := ⟨_, rfl⟩
  rw [← hH9] at hP9 hS9
  rw [← hL9] at hS9
  rw [← hH9, ← hL9]
  have hS := hS9
  refine W.widen (k := 93) (n := 3676) (Nat.le_of_ble_eq_true rfl) (Nat.le_of_ble_eq_true rfl) ?_
  have hP : va_P D vwCl ((((((((([(h, .inr (6, [.ref (q2 0), .ref (q4 0), .ref a7, .ref (q6 0), .int 0]))]) ++ (wW cI q2 g_M0)) ++ (wW cI q4 g_M0)) ++ (wSc cB q6 0 (fun _ => 0))) ++ [(a7, .inl (cW, 4, .inr (.inr (.inr (.inr (va_up (va_up (va_up (fun _ => none) 0 (some (q9 0))) 1 (some (q11 0))) 2 (some (q13 0))))))))]) ++ (wW cI q9 g_M0)) ++ (wW cI q11 g_M0)) ++ (wW cI q13 g_M0)) ++ (wW cI q15 g_M0)) H := hP9
  have hD : va_D AA ((((((((([(h, .inr (6, [.ref (q2 0), .ref (q4 0), .ref a7, .ref (q6 0), .int 0]))]) ++ (wW cI q2 g_M0)) ++ (wW cI q4 g_M0)) ++ (wSc cB q6 0 (fun _ => 0))) ++ [(a7, .inl (cW, 4, .inr (.inr (.inr (.inr (va_up (va_up (va_up (fun _ => none) 0 (some (q9 0))) 1 (some (q11 0))) 2 (some (q13 0))))))))]) ++ (wW cI q9 g_M0)) ++ (wW cI q11 g_M0)) ++ (wW cI q13 g_M0)) ++ (wW cI q15 g_M0)) := hD9
  refine kr_aast (k := 3) hx hcd hK hP hD hS 33 2 79 5 rfl rfl rfl rfl (by omega) (by decide) (ws2 := (((((((([(h, .inr (6, [.ref (q2 0), .ref (q4 0), .ref a7, .ref (q6 0), .int 0]))]) ++ (wW cI q2 g_M0)) ++ (wW cI q4 g_M0)) ++ (wSc cB q6 0 (fun _ => 0))) ++ [(a7, .inl (cW, 4, .inr (.inr (.inr (.inr (va_up (va_up (va_up (va_up (fun _ => none) 0 (some (q9 0))) 1 (some (q11 0))) 2 (some (q13 0))) 3 (some (q15 0))))))))]) ++ (wW cI q9 g_M0)) ++ (wW cI q11 g_M0)) ++ (wW cI q13 g_M0)) ++ (wW cI q15 g_M0)) rfl dX6_init_64 (fun H locs hP hD hS => ?_)
  refine kr_iinc (lv' := [(1, .int (nI 4)), (0, .ref h)]) hx hcd dX6_init_65 hl (k := 0) rfl (by decide) rfl (fun ls hl => ?_)
  refine lv_goto (tgt := 47) hx hcd dX6_init_68 (by decide) ?_
  refine lv_iload_n hx hcd dX6_init_47 rfl (lv_at hl 0 rfl) ?_
  refine lv_iconst (v := nI 4) hx hcd dX6_init_48 (by decide) ?_
  refine kr_cge (tgt := 71) hx hcd (by omega) (by omega) dX6_init_49 (by decide) (fun _ => ?_) (fun c_9 => absurd c_9 (by omega))
  have eG : (va_up (va_up (va_up (va_up (fun _ => none) 0 (some (q9 0))) 1 (some (q11 0))) 2 (some (q13 0))) 3 (some (q15 0))) = g_rot (fun j i => (fun i => if i = 0 then h else if i = 1 then a7 else if i < 200 then q2 (i - 100) else if i < 300 then q4 (i - 200) else if i < 400 then q9 (i - 300) else if i < 500 then q11 (i - 400) else if i < 600 then q13 (i - 500) else if i < 700 then q15 (i - 600) else q6 (i - 800)) (300 + 100 * j + i)) 0 := rot_0 (qs := (fun j i => (fun i => if i = 0 then h else if i = 1 then a7 else if i < 200 then q2 (i - 100) else if i < 300 then q4 (i - 200) else if i < 400 then q9 (i - 300) else if i < 500 then q11 (i - 400) else if i < 600 then q13 (i - 500) else if i < 700 then q15 (i - 600) else q6 (i - 800)) (300 + 100 * j + i)))
  rw [eG] at hP hD
  have hP : va_P D vwCl ((fun q => wX cI cB cW (fun i => q i) (fun i => q (100 + i)) (fun i => q (200 + i)) (fun j i => q (300 + 100 * j + i)) (fun i => q (800 + i)) (g_rot (fun j i => q (300 + 100 * j + i)) 0) g_M0 g_M0 (fun _ => g_M0) 0 0 (fun _ => 0)) (fun i => if i = 0 then h else if i = 1 then a7 else if i < 200 then q2 (i - 100) else if i < 300 then q4 (i - 200) else if i < 400 then q9 (i - 300) else if i < 500 then q11 (i - 400) else if i < 600 then q13 (i - 500) else if i < 700 then q15 (i - 600) else q6 (i - 800))) H := va_P_perm (perm6 _ _ _ _ _ _ _ _ _) hP
  have hD : va_D AA ((fun q => wX cI cB cW (fun i => q i) (fun i => q (100 + i)) (fun i => q (200 + i)) (fun j i => q (300 + 100 * j + i)) (fun i => q (800 + i)) (g_rot (fun j i => q (300 + 100 * j + i)) 0) g_M0 g_M0 (fun _ => g_M0) 0 0 (fun _ => 0)) (fun i => if i = 0 then h else if i = 1 then a7 else if i < 200 then q2 (i - 100) else if i < 300 then q4 (i - 200) else if i < 400 then q9 (i - 300) else if i < 500 then q11 (i - 400) else if i < 600 then q13 (i - 500) else if i < 700 then q15 (i - 600) else q6 (i - 800))) := va_D_perm (perm6 _ _ _ _ _ _ _ _ _) hD
  exact kr_cret (fun i => if i = 0 then h else if i = 1 then a7 else if i < 200 then q2 (i - 100) else if i < 300 then q4 (i - 200) else if i < 400 then q9 (i - 300) else if i < 500 then q11 (i - 400) else if i < 600 then q13 (i - 500) else if i < 700 then q15 (i - 600) else q6 (i - 800)) rfl hx hcd hr hlocks hK hP hD hS rfl (Nat.le_of_ble_eq_true rfl) (Nat.le_of_ble_eq_true rfl) dX6_init_71
