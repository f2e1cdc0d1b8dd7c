set_option maxHeartbeats 4000000 in
set_option maxRecDepth 100000 in
/-- THE LAW, from its entry -/
theorem whole_start {p : Program} {e : Env} {s : State} {m : MethodId} {below : List Frame} {meth : Method} {c : Code} (l : Launch) (hflags : l.flags = flags0) {b L : Nat} {xs : Nat → Int32} (hL : L ≤ 2560) (C0 : lw_At p s m meth c b L xs) : W p l e room_1 s m #[Value.ref b] below meth c s.heap [] 0 0 (lw_Z below #[Value.ref b] s) (entryFrame m ([Value.ref b] : List Value).toArray 9) := by
  obtain ⟨hx, hcd, hr, hml, hown, hts, hX, hbl, hlocks, hgv⟩ := id C0
  have hown : s.vm.findClass RL = some m.cls := hown
  have htl : ∀ w ∈ wsL_law, w.before #[Value.ref b] s = true := fun w h => hts w (wsL_law_in w h)
  have hA : ∀ q : Nat, s.heap.size ≤ q → (fun q : Nat => s.heap.size ≤ q) q := fun _ h => h
  have hbA : ¬ (fun q : Nat => s.heap.size ≤ q) b := Nat.not_le.mpr hbl
  obtain ⟨D, cI, cB, cW, cL, hK⟩ := ws_K hts
  have hst := ws_st hflags
  have hZ := ws_Z hts hgv
  have hN := ws_N hgv
  have hZ6 := ws_Z6 hts
  have hS : va_S (fun q : Nat => s.heap.size ≤ q) s.heap s.heap [] := va_S.rf
  have hP : va_P D vwCl [] s.heap := fun k q h => by simp at h
  have hD : va_D (fun q : Nat => s.heap.size ≤ q) [] := ⟨fun i j p q h => by simp at h, fun k q h => by simp at h⟩
  have hl := lv_entry ([.ref b]) (n := 9) (Nat.le_of_ble_eq_true rfl)
  rw [lg_entry_eq]
  generalize (lg_sl ([.ref b]) ++ List.replicate (9 - (lg_sl ([.ref b])).length) Slot.unset).toArray = ls at hl ⊢
  have hl : lv_has ls 9 [(0, .ref b)] := hl
  refine va_new (ci := 6) (fs := [.null, .null, .null, .null, .int 0]) (C := RX6) (T := TX6) (N := 5) hx hcd hts inX6 tyX6 tyX6_ok hown (hts (.classLink RL 8 RX6) (by decide +kernel)) (hts (.instantiable RX6 5) (by decide +kernel)) (hts (.initialized RX6) (by decide +kernel)) hK hP hD hS hA rfl (fun j hj => by rcases (show j = 0 ∨ j = 1 ∨ j = 2 ∨ j = 3 ∨ j = 4 by omega) with rfl | rfl | rfl | rfl | rfl <;> rfl) (Nat.le_of_ble_eq_true rfl) (Nat.le_of_ble_eq_true rfl) dL_law_0 (fun a1 H hP hD hS => ?_)
  refine W.widen (k := 1) (n := 5) (by omega) (by omega) ?_
  refine lv_dup hx hcd dL_law_3 rfl ?_
  refine kr_I (rest := [.ref a1]) ⟨hx, hcd, hml, hown, htl⟩ (c_X6_init l D cI cB cW cL H.size a1) kZ6.warm hZ6 (cwI 0 htl gL_law_X6_init rfl rfl rfl (hts (.initialized RX6) (by decide +kernel)) (hts (.methodLink RL 88 yX6_init) (by decide +kernel)) (hts (.instanceMethod yX6_init) (by decide +kernel)) rfl (by decide +kernel) ⟨Nat.le_of_ble_eq_true rfl, Nat.le_of_ble_eq_true rfl⟩) hK hP hD hS hA hl.1 rfl (Nat.le_of_ble_eq_true rfl) dL_law_4 ⟨Nat.le_of_ble_eq_true rfl, Nat.le_of_ble_eq_true rfl⟩ (fun u e1 H locs hP hD hS => ?_)
  refine W.widen (k := 94) (n := 3681) (by omega) (by omega) ?_
  refine lv_astore_n (lv' := [(1, .ref a1), (0, .ref b)]) hx hcd dL_law_7 rfl hl (by decide) rfl (fun ls hl => ?_)
  refine va_new (ci := 7) (fs := [.null, .null, .null, .null, .int 0, .null, .int 0, .int 0, .int 0, .long 0]) (C := RX7) (T := TX7) (N := 10) hx hcd hts inX7 tyX7 tyX7_ok hown (hts (.classLink RL 89 RX7) (by decide +kernel)) (hts (.instantiable RX7 10) (by decide +kernel)) (hts (.initialized RX7) (by decide +kernel)) hK hP hD hS hA rfl (fun j hj => by rcases (show j = 0 ∨ j = 1 ∨ j = 2 ∨ j = 3 ∨ j = 4 ∨ j = 5 ∨ j = 6 ∨ j = 7 ∨ j = 8 ∨ j = 9 by omega) with rfl | rfl | rfl | rfl | rfl | rfl | rfl | rfl | rfl | rfl <;> rfl) (Nat.le_of_ble_eq_true rfl) (Nat.le_of_ble_eq_true rfl) dL_law_8 (fun a2 H hP hD hS => ?_)
  refine W.widen (k := 95) (n := 3691) (by omega) (by omega) ?_
  refine lv_dup hx hcd dL_law_11 rfl ?_
  refine kr_I (rest := [.ref a2]) ⟨hx, hcd, hml, hown, htl⟩ (c_X7_init l D cI cB cW cL H.size a2) (fun _ _ _ _ => trivial) trivial (cwI 0 htl gL_law_X7_init rfl rfl rfl (hts (.initialized RX7) (by decide +kernel)) (hts (.methodLink RL 91 yX7_init) (by decide +kernel)) (hts (.instanceMethod yX7_init) (by decide +kernel)) rfl (by decide +kernel) ⟨Nat.le_of_ble_eq_true rfl, Nat.le_of_ble_eq_true rfl⟩) hK hP hD hS hA hl.1 rfl (Nat.le_of_ble_eq_true rfl) dL_law_12 ⟨Nat.le_of_ble_eq_true rfl, Nat.le_of_ble_eq_true rfl⟩ (fun z e2 H locs hP hD hS => ?_)
  refine W.widen (k := 100) (n := 7858) (by omega) (by omega) ?_
  refine lv_astore_n (lv' := [(2, .ref a2), (1, .ref a1), (0, .ref b)]) hx hcd dL_law_15 rfl hl (by decide) rfl (fun ls hl => ?_)
  refine lv_iconst (v := nI 1) hx hcd dL_law_16 (by decide) ?_
  refine kr_newa (atype := .long) (ty := .long) (cA := cL) hx hcd (hts (.arrayClass .long) (by decide +kernel)) 3 rfl rfl (fun _ h9 => h9) hK hP hD hS hA (k := 1) (a0 := (1, .inr (.inl (fun _ => 0)))) (fun _ => rfl) (by decide) (by decide) (Nat.le_of_ble_eq_true rfl) (Nat.le_of_ble_eq_true rfl) dL_law_17 (fun o H hP hD hS => ?_)
  refine W.widen (k := 101) (n := 7859) (by omega) (by omega) ?_
  refine lv_astore_n (lv' := [(3, .ref o), (2, .ref a2), (1, .ref a1), (0, .ref b)]) hx hcd dL_law_19 rfl hl (by decide) rfl (fun ls hl => ?_)
  refine lv_iconst (v := nI 0) hx hcd dL_law_20 (by decide) ?_
  refine lv_istore (lv' := [(4, .int (nI 0)), (3, .ref o), (2, .ref a2), (1, .ref a1), (0, .ref b)]) hx hcd dL_law_21 hl (by decide) rfl (fun ls hl => ?_)
  have e1 : u 0 = a1 := e1
  have e2 : z 0 = a2 := e2
  rw [← e1, ← e2] at hl
  have hP : va_P D vwCl (wLaw cI cB cW cL o (fun _ => 0) (fun i => u i) (fun i => u (100 + i)) (fun i => u (200 + i)) (fun j i => u (300 + 100 * j + i)) (fun i => u (800 + i)) (g_rot (fun j i => u (300 + 100 * j + i)) 0) g_M0 g_M0 (fun _ => g_M0) 0 0 (fun _ => 0) z (fun _ => 0) 0 g_M0 (fun _ => 0) (fun _ => 0) (fun _ => 0) (fun _ => 0)) H := va_P_perm (perm0 _ _ _) hP
  have hD : va_D (fun q : Nat => s.heap.size ≤ q) (wLaw cI cB cW cL o (fun _ => 0) (fun i => u i) (fun i => u (100 + i)) (fun i => u (200 + i)) (fun j i => u (300 + 100 * j + i)) (fun i => u (800 + i)) (g_rot (fun j i => u (300 + 100 * j + i)) 0) g_M0 g_M0 (fun _ => g_M0) 0 0 (fun _ => 0) z (fun _ => 0) 0 g_M0 (fun _ => 0) (fun _ => 0) (fun _ => 0) (fun _ => 0)) := va_D_perm (perm0 _ _ _) hD
  have C : LFix p l s m c b L xs D cI cB cW cL := ⟨hx, hcd, hml, hown, htl, hX, hbl, hst, hZ, hN, hK, hL⟩
  have hV : LInv g_M0 (fun _ => g_M0) 0 0 0 (fun _ => 0) (fun _ => 0) (fun _ => 0) := ⟨m0_inv, by omega, by omega, by omega, fun i hi => ⟨0, by omega, rfl⟩, rfl, rfl, fun j hj => absurd hj (by omega)⟩
  refine law_loop C (fun H locs ls cells slots hc hs hS hl => ?_) (L + 1) 0 (Nat.zero_le L) (by omega) _ _ _ _ _ _ _ _ _ _ _ _ _ hV (by omega) (by omega) hP hD hS (lv_sub hl [4, 3, 2, 1, 0] rfl)
  refine lv_iconst (v := 1) hx hcd dL_law_1818 (by decide) ?_
  refine W.widen (k := 601024) (n := 7293034) hc hs ?_
  refine va_forget (fun q hq => hS.2.2 q hq) ?_
  exact lw_ret (d0 := s.drawn) (Drawn.sameBut.refl s.drawn lw_cs) hx hcd hr hlocks dL_law_1819
