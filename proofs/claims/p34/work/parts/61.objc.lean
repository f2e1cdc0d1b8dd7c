set_option maxHeartbeats 4000000 in
set_option maxRecDepth 100000 in
theorem c_X6_undo__j0 (l : Launch) (D : va_G) (cI cB cW cL : ClassId) (ob nw tr : Nat → Nat) (qs : Nat → Nat → Nat) (sc : Nat → Nat) (G : Nat → Option Nat) (N : kM) (S : Nat → kM) (n L : Nat) (T : Nat → Int32) (sz : Nat) (M : kM) (r k : Nat) (hk : k < 4) (hj : (k + r) % 4 = 0) : kMi l yX6_undo wsX6_undo ({ frames := 3, cells := 0, slots := 0, locals := 122 }) D vwCl (kT cI cB cW cL) sz [.ref (ob 0)] (wX cI cB cW ob nw tr qs sc (g_rot qs r) M N S (k + 1) L T) (wX cI cB cW ob nw tr qs sc (g_rot qs r) (S 0) N S k L T) (nI k) := by
  refine kr_ofi (cc := cX6_undo) (maxL := 1) (ret := (some .int)) (by decide) rfl (Nat.le_of_ble_eq_true rfl) ?_
  intro pp ee ss mm args below meth cc AA ls hx hcd hr hts hown hlocks hml hK hP hD hA hl
  have hS : va_S AA ss.heap ss.heap [] := va_S.rf
  have hown : ss.vm.findClass RX6 = some mm.cls := hown
  have hl : lv_has ls 1 [(0, .ref (ob 0))] := hl
  have uX6 : ∀ w ∈ u_ws RX6 TX6 5, w ∈ wsX6_undo := by decide +kernel
  refine lv_aload_n hx hcd dX6_undo_0 rfl (lv_at hl 0 rfl) ?_
  refine kr_get hx hcd hts uX6 hown hK hP 0 rfl rfl 4 (by decide) (by decide +kernel) (v := .int (nI (k + 1))) rfl dX6_undo_1 ?_
  refine lv_iconst (v := nI 1) hx hcd dX6_undo_4 (by decide) ?_
  refine kr_cge (tgt := 18) hx hcd (by omega) (by omega) dX6_undo_5 (by decide) (fun (c_5 : 1 ≤ k + 1) => ?_) (fun (c_5 : k + 1 < 1) => absurd c_5 (by omega))
  refine lv_aload_n hx hcd dX6_undo_18 rfl (lv_at hl 0 rfl) ?_
  refine lv_dup hx hcd dX6_undo_19 rfl ?_
  refine kr_get hx hcd hts uX6 hown hK hP 0 rfl rfl 4 (by decide) (by decide +kernel) (v := .int (nI (k + 1))) rfl dX6_undo_20 ?_
  refine lv_iconst (v := nI 1) hx hcd dX6_undo_23 (by decide) ?_
  refine kr_sub hx hcd (by omega) dX6_undo_24 ?_
  refine kr_top (w := nI k) (congrArg nI (by omega)) ?_
  refine kr_put hx hcd hts uX6 tyX6 tyX6_ok nmX6 hown hK hP hD hS 0 rfl rfl 4 (by decide) (by decide +kernel) rfl rfl rfl (ws2 := wX cI cB cW ob nw tr qs sc (g_rot qs r) M N S k L T) rfl dX6_undo_25 (fun H locs hP hD hS => ?_)
  refine lv_aload_n hx hcd dX6_undo_28 rfl (lv_at hl 0 rfl) ?_
  refine kr_get hx hcd hts uX6 hown hK hP 0 rfl rfl 0 (by decide) (by decide +kernel) (v := .ref (nw 0)) rfl dX6_undo_29 ?_
  refine lv_aload_n hx hcd dX6_undo_32 rfl (lv_at hl 0 rfl) ?_
  refine kr_get hx hcd hts uX6 hown hK hP 0 rfl rfl 2 (by decide) (by decide +kernel) (v := .ref (ob 1)) rfl dX6_undo_33 ?_
  refine lv_aload_n hx hcd dX6_undo_36 rfl (lv_at hl 0 rfl) ?_
  refine kr_get hx hcd hts uX6 hown hK hP 0 rfl rfl 4 (by decide) (by decide +kernel) (v := .int (nI k)) rfl dX6_undo_37 ?_
  refine kr_aald hx hcd hK hP 1 2 rfl rfl (v := qs 0 0) (by omega) (by decide) (rot_at hk hj) dX6_undo_40 ?_
  refine kr_Vv (As := [.ref (qs 0 0)]) (rest := []) (ws2 := wX cI cB cW ob nw tr qs sc (g_rot qs r) (S 0) N S k L T) (q := (RX5, TX5, 5)) ⟨hx, hcd, hml, hown, hts⟩ (c_X5_copyFrom l D cI cB cW cL nw (qs 0) M _ (S 0) ) (cwV 1 hts gX6_undo_X5_copyFrom rfl rfl rfl (by decide +kernel) ⟨Nat.le_of_ble_eq_true rfl, Nat.le_of_ble_eq_true rfl⟩) hK hP hD hS hA [2, 3, 4, 5, 6, 7, 8, 9, 10, 11, 12, 13, 14, 15, 16, 32, 33, 34, 35, 36, 37, 38, 39, 40, 41, 42, 43, 44, 45, 46] wX_cp_nw_q0C (by decide) w2W_adr wX_cp_nw_q0 2 rfl rfl rfl hl.1 rfl (Nat.le_of_ble_eq_true rfl) dX6_undo_41 ⟨Nat.zero_le _, Nat.zero_le _⟩ (fun H locs hP hD hS => ?_)
  refine lv_aload_n hx hcd dX6_undo_44 rfl (lv_at hl 0 rfl) ?_
  refine kr_get hx hcd hts uX6 hown hK hP 0 rfl rfl 4 (by decide) (by decide +kernel) (v := .int (nI k)) rfl dX6_undo_45 ?_
  exact kr_iret hx hcd hr hlocks hK hP hD hS rfl rfl dX6_undo_48

set_option maxHeartbeats 4000000 in
set_option maxRecDepth 100000 in
theorem c_X6_undo__j1 (l : Launch) (D : va_G) (cI cB cW cL : ClassId) (ob nw tr : Nat → Nat) (qs : Nat → Nat → Nat) (sc : Nat → Nat) (G : Nat → Option Nat) (N : kM) (S : Nat → kM) (n L : Nat) (T : Nat → Int32) (sz : Nat) (M : kM) (r k : Nat) (hk : k < 4) (hj : (k + r) % 4 = 1) : kMi l yX6_undo wsX6_undo ({ frames := 3, cells := 0, slots := 0, locals := 122 }) D vwCl (kT cI cB cW cL) sz [.ref (ob 0)] (wX cI cB cW ob nw tr qs sc (g_rot qs r) M N S (k + 1) L T) (wX cI cB cW ob nw tr qs sc (g_rot qs r) (S 1) N S k L T) (nI k) := by
  refine kr_ofi (cc := cX6_undo) (maxL := 1) (ret := (some .int)) (by decide) rfl (Nat.le_of_ble_eq_true rfl) ?_
  intro pp ee ss mm args below meth cc AA ls hx hcd hr hts hown hlocks hml hK hP hD hA hl
  have hS : va_S AA ss.heap ss.heap [] := va_S.rf
  have hown : ss.vm.findClass RX6 = some mm.cls := hown
  have hl : lv_has ls 1 [(0, .ref (ob 0))] := hl
  have uX6 : ∀ w ∈ u_ws RX6 TX6 5, w ∈ wsX6_undo := by decide +kernel
  refine lv_aload_n hx hcd dX6_undo_0 rfl (lv_at hl 0 rfl) ?_
  refine kr_get hx hcd hts uX6 hown hK hP 0 rfl rfl 4 (by decide) (by decide +kernel) (v := .int (nI (k + 1))) rfl dX6_undo_1 ?_
  refine lv_iconst (v := nI 1) hx hcd dX6_undo_4 (by decide) ?_
  refine kr_cge (tgt := 18) hx hcd (by omega) (by omega) dX6_undo_5 (by decide) (fun (c_5 : 1 ≤ k + 1) => ?_) (fun (c_5 : k + 1 < 1) => absurd c_5 (by omega))
  refine lv_aload_n hx hcd dX6_undo_18 rfl (lv_at hl 0 rfl) ?_
  refine lv_dup hx hcd dX6_undo_19 rfl ?_
  refine kr_get hx hcd hts uX6 hown hK hP 0 rfl rfl 4 (by decide) (by decide +kernel) (v := .int (nI (k + 1))) rfl dX6_undo_20 ?_
  refine lv_iconst (v := nI 1) hx hcd dX6_undo_23 (by decide) ?_
  refine kr_sub hx hcd (by omega) dX6_undo_24 ?_
  refine kr_top (w := nI k) (congrArg nI (by omega)) ?_
  refine kr_put hx hcd hts uX6 tyX6 tyX6_ok nmX6 hown hK hP hD hS 0 rfl rfl 4 (by decide) (by decide +kernel) rfl rfl rfl (ws2 := wX cI cB cW ob nw tr qs sc (g_rot qs r) M N S k L T) rfl dX6_undo_25 (fun H locs hP hD hS => ?_)
  refine lv_aload_n hx hcd dX6_undo_28 rfl (lv_at hl 0 rfl) ?_
  refine kr_get hx hcd hts uX6 hown hK hP 0 rfl rfl 0 (by decide) (by decide +kernel) (v := .ref (nw 0)) rfl dX6_undo_29 ?_
  refine lv_aload_n hx hcd dX6_undo_32 rfl (lv_at hl 0 rfl) ?_
  refine kr_get hx hcd hts uX6 hown hK hP 0 rfl rfl 2 (by decide) (by decide +kernel) (v := .ref (ob 1)) rfl dX6_undo_33 ?_
  refine lv_aload_n hx hcd dX6_undo_36 rfl (lv_at hl 0 rfl) ?_
  refine kr_get hx hcd hts uX6 hown hK hP 0 rfl rfl 4 (by decide) (by decide +kernel) (v := .int (nI k)) rfl dX6_undo_37 ?_
  refine kr_aald hx hcd hK hP 1 2 rfl rfl (v := qs 1 0) (by omega) (by decide) (rot_at hk hj) dX6_undo_40 ?_
  refine kr_Vv (As := [.ref (qs 1 0)]) (rest := []) (ws2 := wX cI cB cW ob nw tr qs sc (g_rot qs r) (S 1) N S k L T) (q := (RX5, TX5, 5)) ⟨hx, hcd, hml, hown, hts⟩ (c_X5_copyFrom l D cI cB cW cL nw (qs 1) M _ (S 1) ) (cwV 1 hts gX6_undo_X5_copyFrom rfl rfl rfl (by decide +kernel) ⟨Nat.le_of_ble_eq_true rfl, Nat.le_of_ble_eq_true rfl⟩) hK hP hD hS hA [2, 3, 4, 5, 6, 7, 8, 9, 10, 11, 12, 13, 14, 15, 16, 47, 48, 49, 50, 51, 52, 53, 54, 55, 56, 57, 58, 59, 60, 61] wX_cp_nw_q1C (by decide) w2W_adr wX_cp_nw_q1 2 rfl rfl rfl hl.1 rfl (Nat.le_of_ble_eq_true rfl) dX6_undo_41 ⟨Nat.zero_le _, Nat.zero_le _⟩ (fun H locs hP hD hS => ?_)
  refine lv_aload_n hx hcd dX6_undo_44 rfl (lv_at hl 0 rfl) ?_
  refine kr_get hx hcd hts uX6 hown hK hP 0 rfl rfl 4 (by decide) (by decide +kernel) (v := .int (nI k)) rfl dX6_undo_45 ?_
  exact kr_iret hx hcd hr hlocks hK hP hD hS rfl rfl dX6_undo_48

set_option maxHeartbeats 4000000 in
set_option maxRecDepth 100000 in
theorem c_X6_undo__j2 (l : Launch) (D : va_G) (cI cB cW cL : ClassId) (ob nw tr : Nat → Nat) (qs : Nat → Nat → Nat) (sc : Nat → Nat) (G : Nat → Option Nat) (N : kM) (S : Nat → kM) (n L : Nat) (T : Nat → Int32) (sz : Nat) (M : kM) (r k : Nat) (hk : k < 4) (hj : (k + r) % 4 = 2) : kMi l yX6_undo wsX6_undo ({ frames := 3, cells := 0, slots := 0, locals := 122 }) D vwCl (kT cI cB cW cL) sz [.ref (ob 0)] (wX cI cB cW ob nw tr qs sc (g_rot qs r) M N S (k + 1) L T) (wX cI cB cW ob nw tr qs sc (g_rot qs r) (S 2) N S k L T) (nI k) := by
  refine kr_ofi (cc := cX6_undo) (maxL := 1) (ret := (some .int)) (by decide) rfl (Nat.le_of_ble_eq_true rfl) ?_
  intro pp ee ss mm args below meth cc AA ls hx hcd hr hts hown hlocks hml hK hP hD hA hl
  have hS : va_S AA ss.heap ss.heap [] := va_S.rf
  have hown : ss.vm.findClass RX6 = some mm.cls := hown
  have hl : lv_has ls 1 [(0, .ref (ob 0))] := hl
  have uX6 : ∀ w ∈ u_ws RX6 TX6 5, w ∈ wsX6_undo := by decide +kernel
  refine lv_aload_n hx hcd dX6_undo_0 rfl (lv_at hl 0 rfl) ?_
  refine kr_get hx hcd hts uX6 hown hK hP 0 rfl rfl 4 (by decide) (by decide +kernel) (v := .int (nI (k + 1))) rfl dX6_undo_1 ?_
  refine lv_iconst (v := nI 1) hx hcd dX6_undo_4 (by decide) ?_
  refine kr_cge (tgt := 18) hx hcd (by omega) (by omega) dX6_undo_5 (by decide) (fun (c_5 : 1 ≤ k + 1) => ?_) (fun (c_5 : k + 1 < 1) => absurd c_5 (by omega))
  refine lv_aload_n hx hcd dX6_undo_18 rfl (lv_at hl 0 rfl) ?_
  refine lv_dup hx hcd dX6_undo_19 rfl ?_
  refine kr_get hx hcd hts uX6 hown hK hP 0 rfl rfl 4 (by decide) (by decide +kernel) (v := .int (nI (k + 1))) rfl dX6_undo_20 ?_
  refine lv_iconst (v := nI 1) hx hcd dX6_undo_23 (by decide) ?_
  refine kr_sub hx hcd (by omega) dX6_undo_24 ?_
  refine kr_top (w := nI k) (congrArg nI (by omega)) ?_
  refine kr_put hx hcd hts uX6 tyX6 tyX6_ok nmX6 hown hK hP hD hS 0 rfl rfl 4 (by decide) (by decide +kernel) rfl rfl rfl (ws2 := wX cI cB cW ob nw tr qs sc (g_rot qs r) M N S k L T) rfl dX6_undo_25 (fun H locs hP hD hS => ?_)
  refine lv_aload_n hx hcd dX6_undo_28 rfl (lv_at hl 0 rfl) ?_
  refine kr_get hx hcd hts uX6 hown hK hP 0 rfl rfl 0 (by decide) (by decide +kernel) (v := .ref (nw 0)) rfl dX6_undo_29 ?_
  refine lv_aload_n hx hcd dX6_undo_32 rfl (lv_at hl 0 rfl) ?_
  refine kr_get hx hcd hts uX6 hown hK hP 0 rfl rfl 2 (by decide) (by decide +kernel) (v := .ref (ob 1)) rfl dX6_undo_33 ?_
  refine lv_aload_n hx hcd dX6_undo_36 rfl (lv_at hl 0 rfl) ?_
  refine kr_get hx hcd hts uX6 hown hK hP 0 rfl rfl 4 (by decide) (by decide +kernel) (v := .int (nI k)) rfl dX6_undo_37 ?_
  refine kr_aald hx hcd hK hP 1 2 rfl rfl (v := qs 2 0) (by omega) (by decide) (rot_at hk hj) dX6_undo_40 ?_
  refine kr_Vv (As := [.ref (qs 2 0)]) (rest := []) (ws2 := wX cI cB cW ob nw tr qs sc (g_rot qs r) (S 2) N S k L T) (q := (RX5, TX5, 5)) ⟨hx, hcd, hml, hown, hts⟩ (c_X5_copyFrom l D cI cB cW cL nw (qs 2) M _ (S 2) ) (cwV 1 hts gX6_undo_X5_copyFrom rfl rfl rfl (by decide +kernel) ⟨Nat.le_of_ble_eq_true rfl, Nat.le_of_ble_eq_true rfl⟩) hK hP hD hS hA [2, 3, 4, 5, 6, 7, 8, 9, 10, 11, 12, 13, 14, 15, 16, 62, 63, 64, 65, 66, 67, 68, 69, 70, 71, 72, 73, 74, 75, 76] wX_cp_nw_q2C (by decide) w2W_adr wX_cp_nw_q2 2 rfl rfl rfl hl.1 rfl (Nat.le_of_ble_eq_true rfl) dX6_undo_41 ⟨Nat.zero_le _, Nat.zero_le _⟩ (fun H locs hP hD hS => ?_)
  refine lv_aload_n hx hcd dX6_undo_44 rfl (lv_at hl 0 rfl) ?_
  refine kr_get hx hcd hts uX6 hown hK hP 0 rfl rfl 4 (by decide) (by decide +kernel) (v := .int (nI k)) rfl dX6_undo_45 ?_
  exact kr_iret hx hcd hr hlocks hK hP hD hS rfl rfl dX6_undo_48

set_option maxHeartbeats 4000000 in
set_option maxRecDepth 100000 in
theorem c_X6_undo__j3 (l : Launch) (D : va_G) (cI cB cW cL : ClassId) (ob nw tr : Nat → Nat) (qs : Nat → Nat → Nat) (sc : Nat → Nat) (G : Nat → Option Nat) (N : kM) (S : Nat → kM) (n L : Nat) (T : Nat → Int32) (sz : Nat) (M : kM) (r k : Nat) (hk : k < 4) (hj : (k + r) % 4 = 3) : kMi l yX6_undo wsX6_undo ({ frames := 3, cells := 0, slots := 0, locals := 122 }) D vwCl (kT cI cB cW cL) sz [.ref (ob 0)] (wX cI cB cW ob nw tr qs sc (g_rot qs r) M N S (k + 1) L T) (wX cI cB cW ob nw tr qs sc (g_rot qs r) (S 3) N S k L T) (nI k) := by
  refine kr_ofi (cc := cX6_undo) (maxL := 1) (ret := (some .int)) (by decide) rfl (Nat.le_of_ble_eq_true rfl) ?_
  intro pp ee ss mm args below meth cc AA ls hx hcd hr hts hown hlocks hml hK hP hD hA hl
  have hS : va_S AA ss.heap ss.heap [] := va_S.rf
  have hown : ss.vm.findClass RX6 = some mm.cls := hown
  have hl : lv_has ls 1 [(0, .ref (ob 0))] := hl
  have uX6 : ∀ w ∈ u_ws RX6 TX6 5, w ∈ wsX6_undo := by decide +kernel
  refine lv_aload_n hx hcd dX6_undo_0 rfl (lv_at hl 0 rfl) ?_
  refine kr_get hx hcd hts uX6 hown hK hP 0 rfl rfl 4 (by decide) (by decide +kernel) (v := .int (nI (k + 1))) rfl dX6_undo_1 ?_
  refine lv_iconst (v := nI 1) hx hcd dX6_undo_4 (by decide) ?_
  refine kr_cge (tgt := 18) hx hcd (by omega) (by omega) dX6_undo_5 (by decide) (fun (c_5 : 1 ≤ k + 1) => ?_) (fun (c_5 : k + 1 < 1) => absurd c_5 (by omega))
  refine lv_aload_n hx hcd dX6_undo_18 rfl (lv_at hl 0 rfl) ?_
  refine lv_dup hx hcd dX6_undo_19 rfl ?_
  refine kr_get hx hcd hts uX6 hown hK hP 0 rfl rfl 4 (by decide) (by decide +kernel) (v := .int (nI (k + 1))) rfl dX6_undo_20 ?_
  refine lv_iconst (v := nI 1) hx hcd dX6_undo_23 (by decide) ?_
  refine kr_sub hx hcd (by omega) dX6_undo_24 ?_
  refine kr_top (w := nI k) (congrArg nI (by omega)) ?_
  refine kr_put hx hcd hts uX6 tyX6 tyX6_ok nmX6 hown hK hP hD hS 0 rfl rfl 4 (by decide) (by decide +kernel) rfl rfl rfl (ws2 := wX cI cB cW ob nw tr qs sc (g_rot qs r) M N S k L T) rfl dX6_undo_25 (fun H locs hP hD hS => ?_)
  refine lv_aload_n hx hcd dX6_undo_28 rfl (lv_at hl 0 rfl) ?_
  refine kr_get hx hcd hts uX6 hown hK hP 0 rfl rfl 0 (by decide) (by decide +kernel) (v := .ref (nw 0)) rfl dX6_undo_29 ?_
  refine lv_aload_n hx hcd dX6_undo_32 rfl (lv_at hl 0 rfl) ?_
  refine kr_get hx hcd hts uX6 hown hK hP 0 rfl rfl 2 (by decide) (by decide +kernel) (v := .ref (ob 1)) rfl dX6_undo_33 ?_
  refine lv_aload_n hx hcd dX6_undo_36 rfl (lv_at hl 0 rfl) ?_
  refine kr_get hx hcd hts uX6 hown hK hP 0 rfl rfl 4 (by decide) (by decide +kernel) (v := .int (nI k)) rfl dX6_undo_37 ?_
  refine kr_aald hx hcd hK hP 1 2 rfl rfl (v := qs 3 0) (by omega) (by decide) (rot_at hk hj) dX6_undo_40 ?_
  refine kr_Vv (As := [.ref (qs 3 0)]) (rest := []) (ws2 := wX cI cB cW ob nw tr qs sc (g_rot qs r) (S 3) N S k L T) (q := (RX5, TX5, 5)) ⟨hx, hcd, hml, hown, hts⟩ (c_X5_copyFrom l D cI cB cW cL nw (qs 3) M _ (S 3) ) (cwV 1 hts gX6_undo_X5_copyFrom rfl rfl rfl (by decide +kernel) ⟨Nat.le_of_ble_eq_true rfl, Nat.le_of_ble_eq_true rfl⟩) hK hP hD hS hA [2, 3, 4, 5, 6, 7, 8, 9, 10, 11, 12, 13, 14, 15, 16, 77, 78, 79, 80, 81, 82, 83, 84, 85, 86, 87, 88, 89, 90, 91] wX_cp_nw_q3C (by decide) w2W_adr wX_cp_nw_q3 2 rfl rfl rfl hl.1 rfl (Nat.le_of_ble_eq_true rfl) dX6_undo_41 ⟨Nat.zero_le _, Nat.zero_le _⟩ (fun H locs hP hD hS => ?_)
  refine lv_aload_n hx hcd dX6_undo_44 rfl (lv_at hl 0 rfl) ?_
  refine kr_get hx hcd hts uX6 hown hK hP 0 rfl rfl 4 (by decide) (by decide +kernel) (v := .int (nI k)) rfl dX6_undo_45 ?_
  exact kr_iret hx hcd hr hlocks hK hP hD hS rfl rfl dX6_undo_48
theorem c_X6_undo__ok (l : Launch) (D : va_G) (cI cB cW cL : ClassId) (ob nw tr : Nat → Nat) (qs : Nat → Nat → Nat) (sc : Nat → Nat) (G : Nat → Option Nat) (N : kM) (S : Nat → kM) (n L : Nat) (T : Nat → Int32) (sz : Nat) (M : kM) (r k : Nat) (hk : k < 4) : kMi l yX6_undo wsX6_undo ({ frames := 3, cells := 0, slots := 0, locals := 122 }) D vwCl (kT cI cB cW cL) sz [.ref (ob 0)] (wX cI cB cW ob nw tr qs sc (g_rot qs r) M N S (k + 1) L T) (wX cI cB cW ob nw tr qs sc (g_rot qs r) (S ((k + r) % 4)) N S k L T) (nI k) := by
  rcases (show (k + r) % 4 = 0 ∨ (k + r) % 4 = 1 ∨ (k + r) % 4 = 2 ∨ (k + r) % 4 = 3 by omega) with hj | hj | hj | hj
  · rw [hj]
    exact c_X6_undo__j0 l D cI cB cW cL ob nw tr qs sc G N S n L T sz M r k hk hj
  · rw [hj]
    exact c_X6_undo__j1 l D cI cB cW cL ob nw tr qs sc G N S n L T sz M r k hk hj
  · rw [hj]
    exact c_X6_undo__j2 l D cI cB cW cL ob nw tr qs sc G N S n L T sz M r k hk hj
  · rw [hj]
    exact c_X6_undo__j3 l D cI cB cW cL ob nw tr qs sc G N S n L T sz M r k hk hj
