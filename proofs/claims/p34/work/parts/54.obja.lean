set_option maxHeartbeats 4000000 in
set_option maxRecDepth 100000 in
theorem c_X6_ask__ok (l : Launch) (D : va_G) (cI cB cW cL : ClassId) (ob nw tr : Nat → Nat) (qs : Nat → Nat → Nat) (sc : Nat → Nat) (G : Nat → Option Nat) (N : kM) (S : Nat → kM) (n L : Nat) (T : Nat → Int32) (sz : Nat) (M : kM) (a : Nat) (b : Nat) (r : Nat) (hI : kInv M) (ha : a < 6) (hb : b < 6) (hne : a ≠ b) (hn : n ≤ 4) (hr : r < 4) : kMi l yX6_ask wsX6_ask ({ frames := 4, cells := 0, slots := 0, locals := 142 }) D vwCl (kT cI cB cW cL) sz [.ref (ob 0), .int (nI a), .int (nI b)] (wX cI cB cW ob nw tr qs sc (g_rot qs r) M N S n L T) (wX cI cB cW ob nw tr qs sc (g_rot qs (rj n r)) (g_ask M a b) N (sset S (pj n r) M) (g_kn n) L T) (if g_has M a b 5 = true then 0 else 1) := by
  refine kr_ofi (cc := cX6_ask) (maxL := 3) (ret := (some .int)) (by decide) rfl (Nat.le_of_ble_eq_true rfl) ?_
  intro pp ee ss mm args below meth cc AA ls hx hcd hr hts hown hlocks hml hK hP hD hA hl
  have hS : va_S AA ss.heap ss.heap [] := va_S.rf
  have hown : ss.vm.findClass RX6 = some mm.cls := hown
  have hl : lv_has ls 3 [(0, .ref (ob 0)), (1, .int (nI a)), (2, .int (nI b))] := hl
  have uX6 : ∀ w ∈ u_ws RX6 TX6 5, w ∈ wsX6_ask := by decide +kernel
  refine lv_iload_n hx hcd dX6_ask_0 rfl (lv_at hl 1 rfl) ?_
  refine lv_iload_n hx hcd dX6_ask_1 rfl (lv_at hl 2 rfl) ?_
  refine kr_Sv (As := [.int (nI a), .int (nI b)]) (rest := []) (ws2 := wX cI cB cW ob nw tr qs sc (g_rot qs r) M N S n L T) ⟨hx, hcd, hml, hown, hts⟩ (c_X6_checkPair__ok l D cI cB cW cL  _ M a b (by omega) (by omega) (by omega)) (va_cwS 2 hts gX6_ask_X6_checkPair rfl rfl rfl (by decide +kernel) ⟨Nat.le_of_ble_eq_true rfl, Nat.le_of_ble_eq_true rfl⟩) hK hP hD hS hA [] rfl (by decide) rfl rfl rfl hl.1 rfl (Nat.le_of_ble_eq_true rfl) dX6_ask_2 ⟨Nat.zero_le _, Nat.zero_le _⟩ (fun H locs hP hD hS => ?_)
  refine lv_aload_n hx hcd dX6_ask_5 rfl (lv_at hl 0 rfl) ?_
  refine kr_Vv (As := []) (rest := []) (ws2 := wX cI cB cW ob nw tr qs sc (g_rot qs (rj n r)) M N (sset S (pj n r) M) (g_kn n) L T) (q := (RX6, TX6, 5)) ⟨hx, hcd, hml, hown, hts⟩ (c_X6_saveState l D cI cB cW cL ob nw tr qs sc (g_rot qs r) N S n L T _ M r (by omega) (by omega)) (cwV 0 hts gX6_ask_X6_saveState rfl rfl rfl (by decide +kernel) ⟨Nat.le_of_ble_eq_true rfl, Nat.le_of_ble_eq_true rfl⟩) hK hP hD hS hA [0, 1, 2, 3, 4, 5, 6, 7, 8, 9, 10, 11, 12, 13, 14, 15, 16, 17, 18, 19, 20, 21, 22, 23, 24, 25, 26, 27, 28, 29, 30, 31, 32, 33, 34, 35, 36, 37, 38, 39, 40, 41, 42, 43, 44, 45, 46, 47, 48, 49, 50, 51, 52, 53, 54, 55, 56, 57, 58, 59, 60, 61, 62, 63, 64, 65, 66, 67, 68, 69, 70, 71, 72, 73, 74, 75, 76, 77, 78, 79, 80, 81, 82, 83, 84, 85, 86, 87, 88, 89, 90, 91, 92, 93] wX_allC wX_nd wX_adr wX_all 0 rfl rfl rfl hl.1 rfl (Nat.le_of_ble_eq_true rfl) dX6_ask_6 ⟨Nat.zero_le _, Nat.zero_le _⟩ (fun H locs hP hD hS => ?_)
  refine lv_aload_n hx hcd dX6_ask_9 rfl (lv_at hl 0 rfl) ?_
  refine kr_get hx hcd hts uX6 hown hK hP 0 rfl rfl 0 (by decide) (by decide +kernel) (v := .ref (nw 0)) rfl dX6_ask_10 ?_
  refine lv_iload_n hx hcd dX6_ask_13 rfl (lv_at hl 1 rfl) ?_
  refine lv_iload_n hx hcd dX6_ask_14 rfl (lv_at hl 2 rfl) ?_
  refine kr_Vi (As := [.int (nI a), .int (nI b)]) (rest := []) (ws2 := wX cI cB cW ob nw tr qs sc (g_rot qs (rj n r)) (g_ask M a b) N (sset S (pj n r) M) (g_kn n) L T) (q := (RX5, TX5, 5)) ⟨hx, hcd, hml, hown, hts⟩ (c_X5_askFor l D cI cB cW cL nw _ M a b hI (by omega) (by omega)) (cwV 2 hts gX6_ask_X5_askFor rfl rfl rfl (by decide +kernel) ⟨Nat.le_of_ble_eq_true rfl, Nat.le_of_ble_eq_true rfl⟩) hK hP hD hS hA [2, 3, 4, 5, 6, 7, 8, 9, 10, 11, 12, 13, 14, 15, 16] wX_nw_WC (by decide) wW_adr wX_nw_W 2 rfl rfl rfl hl.1 rfl (Nat.le_of_ble_eq_true rfl) dX6_ask_15 ⟨Nat.zero_le _, Nat.zero_le _⟩ (fun H locs hP hD hS => ?_)
  have hI_1 : kInv (g_ask M a b) := i_ask hI (by omega) (by omega)
  exact kr_iret hx hcd hr hlocks hK hP hD hS rfl rfl dX6_ask_18

set_option maxHeartbeats 4000000 in
set_option maxRecDepth 100000 in
theorem c_X6_grant__ok (l : Launch) (D : va_G) (cI cB cW cL : ClassId) (ob nw tr : Nat → Nat) (qs : Nat → Nat → Nat) (sc : Nat → Nat) (G : Nat → Option Nat) (N : kM) (S : Nat → kM) (n L : Nat) (T : Nat → Int32) (sz : Nat) (M : kM) (a : Nat) (b : Nat) (r : Nat) (hI : kInv M) (ha : a < 6) (hb : b < 6) (hne : a ≠ b) (hn : n ≤ 4) (hr : r < 4) : kMi l yX6_grant wsX6_grant ({ frames := 4, cells := 0, slots := 0, locals := 142 }) D vwCl (kT cI cB cW cL) sz [.ref (ob 0), .int (nI a), .int (nI b)] (wX cI cB cW ob nw tr qs sc (g_rot qs r) M N S n L T) (wX cI cB cW ob nw tr qs sc (g_rot qs (rj n r)) (g_grant M a b) N (sset S (pj n r) M) (g_kn n) L T) (if g_has M a b 8 = true then 1 else 0) := by
  refine kr_ofi (cc := cX6_grant) (maxL := 3) (ret := (some .int)) (by decide) rfl (Nat.le_of_ble_eq_true rfl) ?_
  intro pp ee ss mm args below meth cc AA ls hx hcd hr hts hown hlocks hml hK hP hD hA hl
  have hS : va_S AA ss.heap ss.heap [] := va_S.rf
  have hown : ss.vm.findClass RX6 = some mm.cls := hown
  have hl : lv_has ls 3 [(0, .ref (ob 0)), (1, .int (nI a)), (2, .int (nI b))] := hl
  have uX6 : ∀ w ∈ u_ws RX6 TX6 5, w ∈ wsX6_grant := by decide +kernel
  refine lv_iload_n hx hcd dX6_grant_0 rfl (lv_at hl 1 rfl) ?_
  refine lv_iload_n hx hcd dX6_grant_1 rfl (lv_at hl 2 rfl) ?_
  refine kr_Sv (As := [.int (nI a), .int (nI b)]) (rest := []) (ws2 := wX cI cB cW ob nw tr qs sc (g_rot qs r) M N S n L T) ⟨hx, hcd, hml, hown, hts⟩ (c_X6_checkPair__ok l D cI cB cW cL  _ M a b (by omega) (by omega) (by omega)) (va_cwS 2 hts gX6_grant_X6_checkPair rfl rfl rfl (by decide +kernel) ⟨Nat.le_of_ble_eq_true rfl, Nat.le_of_ble_eq_true rfl⟩) hK hP hD hS hA [] rfl (by decide) rfl rfl rfl hl.1 rfl (Nat.le_of_ble_eq_true rfl) dX6_grant_2 ⟨Nat.zero_le _, Nat.zero_le _⟩ (fun H locs hP hD hS => ?_)
  refine lv_aload_n hx hcd dX6_grant_5 rfl (lv_at hl 0 rfl) ?_
  refine kr_Vv (As := []) (rest := []) (ws2 := wX cI cB cW ob nw tr qs sc (g_rot qs (rj n r)) M N (sset S (pj n r) M) (g_kn n) L T) (q := (RX6, TX6, 5)) ⟨hx, hcd, hml, hown, hts⟩ (c_X6_saveState l D cI cB cW cL ob nw tr qs sc (g_rot qs r) N S n L T _ M r (by omega) (by omega)) (cwV 0 hts gX6_grant_X6_saveState rfl rfl rfl (by decide +kernel) ⟨Nat.le_of_ble_eq_true rfl, Nat.le_of_ble_eq_true rfl⟩) hK hP hD hS hA [0, 1, 2, 3, 4, 5, 6, 7, 8, 9, 10, 11, 12, 13, 14, 15, 16, 17, 18, 19, 20, 21, 22, 23, 24, 25, 26, 27, 28, 29, 30, 31, 32, 33, 34, 35, 36, 37, 38, 39, 40, 41, 42, 43, 44, 45, 46, 47, 48, 49, 50, 51, 52, 53, 54, 55, 56, 57, 58, 59, 60, 61, 62, 63, 64, 65, 66, 67, 68, 69, 70, 71, 72, 73, 74, 75, 76, 77, 78, 79, 80, 81, 82, 83, 84, 85, 86, 87, 88, 89, 90, 91, 92, 93] wX_allC wX_nd wX_adr wX_all 0 rfl rfl rfl hl.1 rfl (Nat.le_of_ble_eq_true rfl) dX6_grant_6 ⟨Nat.zero_le _, Nat.zero_le _⟩ (fun H locs hP hD hS => ?_)
  refine lv_aload_n hx hcd dX6_grant_9 rfl (lv_at hl 0 rfl) ?_
  refine kr_get hx hcd hts uX6 hown hK hP 0 rfl rfl 0 (by decide) (by decide +kernel) (v := .ref (nw 0)) rfl dX6_grant_10 ?_
  refine lv_iload_n hx hcd dX6_grant_13 rfl (lv_at hl 1 rfl) ?_
  refine lv_iload_n hx hcd dX6_grant_14 rfl (lv_at hl 2 rfl) ?_
  refine kr_Vi (As := [.int (nI a), .int (nI b)]) (rest := []) (ws2 := wX cI cB cW ob nw tr qs sc (g_rot qs (rj n r)) (g_grant M a b) N (sset S (pj n r) M) (g_kn n) L T) (q := (RX5, TX5, 5)) ⟨hx, hcd, hml, hown, hts⟩ (c_X5_grantTo l D cI cB cW cL nw _ M a b hI (by omega) (by omega)) (cwV 2 hts gX6_grant_X5_grantTo rfl rfl rfl (by decide +kernel) ⟨Nat.le_of_ble_eq_true rfl, Nat.le_of_ble_eq_true rfl⟩) hK hP hD hS hA [2, 3, 4, 5, 6, 7, 8, 9, 10, 11, 12, 13, 14, 15, 16] wX_nw_WC (by decide) wW_adr wX_nw_W 2 rfl rfl rfl hl.1 rfl (Nat.le_of_ble_eq_true rfl) dX6_grant_15 ⟨Nat.zero_le _, Nat.zero_le _⟩ (fun H locs hP hD hS => ?_)
  have hI_1 : kInv (g_grant M a b) := i_grant hI (by omega) (by omega)
  exact kr_iret hx hcd hr hlocks hK hP hD hS rfl rfl dX6_grant_18

set_option maxHeartbeats 4000000 in
set_option maxRecDepth 100000 in
theorem c_X6_refuse__ok (l : Launch) (D : va_G) (cI cB cW cL : ClassId) (ob nw tr : Nat → Nat) (qs : Nat → Nat → Nat) (sc : Nat → Nat) (G : Nat → Option Nat) (N : kM) (S : Nat → kM) (n L : Nat) (T : Nat → Int32) (sz : Nat) (M : kM) (a : Nat) (b : Nat) (r : Nat) (hI : kInv M) (ha : a < 6) (hb : b < 6) (hne : a ≠ b) (hn : n ≤ 4) (hr : r < 4) : kMi l yX6_refuse wsX6_refuse ({ frames := 4, cells := 0, slots := 0, locals := 142 }) D vwCl (kT cI cB cW cL) sz [.ref (ob 0), .int (nI a), .int (nI b)] (wX cI cB cW ob nw tr qs sc (g_rot qs r) M N S n L T) (wX cI cB cW ob nw tr qs sc (g_rot qs (rj n r)) (g_refuse M a b) N (sset S (pj n r) M) (g_kn n) L T) (if g_has M a b 10 = true then 1 else 0) := by
  refine kr_ofi (cc := cX6_refuse) (maxL := 3) (ret := (some .int)) (by decide) rfl (Nat.le_of_ble_eq_true rfl) ?_
  intro pp ee ss mm args below meth cc AA ls hx hcd hr hts hown hlocks hml hK hP hD hA hl
  have hS : va_S AA ss.heap ss.heap [] := va_S.rf
  have hown : ss.vm.findClass RX6 = some mm.cls := hown
  have hl : lv_has ls 3 [(0, .ref (ob 0)), (1, .int (nI a)), (2, .int (nI b))] := hl
  have uX6 : ∀ w ∈ u_ws RX6 TX6 5, w ∈ wsX6_refuse := by decide +kernel
  refine lv_iload_n hx hcd dX6_refuse_0 rfl (lv_at hl 1 rfl) ?_
  refine lv_iload_n hx hcd dX6_refuse_1 rfl (lv_at hl 2 rfl) ?_
  refine kr_Sv (As := [.int (nI a), .int (nI b)]) (rest := []) (ws2 := wX cI cB cW ob nw tr qs sc (g_rot qs r) M N S n L T) ⟨hx, hcd, hml, hown, hts⟩ (c_X6_checkPair__ok l D cI cB cW cL  _ M a b (by omega) (by omega) (by omega)) (va_cwS 2 hts gX6_refuse_X6_checkPair rfl rfl rfl (by decide +kernel) ⟨Nat.le_of_ble_eq_true rfl, Nat.le_of_ble_eq_true rfl⟩) hK hP hD hS hA [] rfl (by decide) rfl rfl rfl hl.1 rfl (Nat.le_of_ble_eq_true rfl) dX6_refuse_2 ⟨Nat.zero_le _, Nat.zero_le _⟩ (fun H locs hP hD hS => ?_)
  refine lv_aload_n hx hcd dX6_refuse_5 rfl (lv_at hl 0 rfl) ?_
  refine kr_Vv (As := []) (rest := []) (ws2 := wX cI cB cW ob nw tr qs sc (g_rot qs (rj n r)) M N (sset S (pj n r) M) (g_kn n) L T) (q := (RX6, TX6, 5)) ⟨hx, hcd, hml, hown, hts⟩ (c_X6_saveState l D cI cB cW cL ob nw tr qs sc (g_rot qs r) N S n L T _ M r (by omega) (by omega)) (cwV 0 hts gX6_refuse_X6_saveState rfl rfl rfl (by decide +kernel) ⟨Nat.le_of_ble_eq_true rfl, Nat.le_of_ble_eq_true rfl⟩) hK hP hD hS hA [0, 1, 2, 3, 4, 5, 6, 7, 8, 9, 10, 11, 12, 13, 14, 15, 16, 17, 18, 19, 20, 21, 22, 23, 24, 25, 26, 27, 28, 29, 30, 31, 32, 33, 34, 35, 36, 37, 38, 39, 40, 41, 42, 43, 44, 45, 46, 47, 48, 49, 50, 51, 52, 53, 54, 55, 56, 57, 58, 59, 60, 61, 62, 63, 64, 65, 66, 67, 68, 69, 70, 71, 72, 73, 74, 75, 76, 77, 78, 79, 80, 81, 82, 83, 84, 85, 86, 87, 88, 89, 90, 91, 92, 93] wX_allC wX_nd wX_adr wX_all 0 rfl rfl rfl hl.1 rfl (Nat.le_of_ble_eq_true rfl) dX6_refuse_6 ⟨Nat.zero_le _, Nat.zero_le _⟩ (fun H locs hP hD hS => ?_)
  refine lv_aload_n hx hcd dX6_refuse_9 rfl (lv_at hl 0 rfl) ?_
  refine kr_get hx hcd hts uX6 hown hK hP 0 rfl rfl 0 (by decide) (by decide +kernel) (v := .ref (nw 0)) rfl dX6_refuse_10 ?_
  refine lv_iload_n hx hcd dX6_refuse_13 rfl (lv_at hl 1 rfl) ?_
  refine lv_iload_n hx hcd dX6_refuse_14 rfl (lv_at hl 2 rfl) ?_
  refine kr_Vi (As := [.int (nI a), .int (nI b)]) (rest := []) (ws2 := wX cI cB cW ob nw tr qs sc (g_rot qs (rj n r)) (g_refuse M a b) N (sset S (pj n r) M) (g_kn n) L T) (q := (RX5, TX5, 5)) ⟨hx, hcd, hml, hown, hts⟩ (c_X5_refuseTo l D cI cB cW cL nw _ M a b hI (by omega) (by omega)) (cwV 2 hts gX6_refuse_X5_refuseTo rfl rfl rfl (by decide +kernel) ⟨Nat.le_of_ble_eq_true rfl, Nat.le_of_ble_eq_true rfl⟩) hK hP hD hS hA [2, 3, 4, 5, 6, 7, 8, 9, 10, 11, 12, 13, 14, 15, 16] wX_nw_WC (by decide) wW_adr wX_nw_W 2 rfl rfl rfl hl.1 rfl (Nat.le_of_ble_eq_true rfl) dX6_refuse_15 ⟨Nat.zero_le _, Nat.zero_le _⟩ (fun H locs hP hD hS => ?_)
  have hI_1 : kInv (g_refuse M a b) := i_refuse hI (by omega) (by omega)
  exact kr_iret hx hcd hr hlocks hK hP hD hS rfl rfl dX6_refuse_18

set_option maxHeartbeats 4000000 in
set_option maxRecDepth 100000 in
theorem c_X6_stop__ok (l : Launch) (D : va_G) (cI cB cW cL : ClassId) (ob nw tr : Nat → Nat) (qs : Nat → Nat → Nat) (sc : Nat → Nat) (G : Nat → Option Nat) (N : kM) (S : Nat → kM) (n L : Nat) (T : Nat → Int32) (sz : Nat) (M : kM) (a : Nat) (b : Nat) (r : Nat) (hI : kInv M) (ha : a < 6) (hb : b < 6) (hne : a ≠ b) (hn : n ≤ 4) (hr : r < 4) : kMi l yX6_stop wsX6_stop ({ frames := 4, cells := 0, slots := 0, locals := 142 }) D vwCl (kT cI cB cW cL) sz [.ref (ob 0), .int (nI a), .int (nI b)] (wX cI cB cW ob nw tr qs sc (g_rot qs r) M N S n L T) (wX cI cB cW ob nw tr qs sc (g_rot qs (rj n r)) (g_stop M a b) N (sset S (pj n r) M) (g_kn n) L T) (if g_has M a b 5 = true then 1 else 0) := by
  refine kr_ofi (cc := cX6_stop) (maxL := 3) (ret := (some .int)) (by decide) rfl (Nat.le_of_ble_eq_true rfl) ?_
  intro pp ee ss mm args below meth cc AA ls hx hcd hr hts hown hlocks hml hK hP hD hA hl
  have hS : va_S AA ss.heap ss.heap [] := va_S.rf
  have hown : ss.vm.findClass RX6 = some mm.cls := hown
  have hl : lv_has ls 3 [(0, .ref (ob 0)), (1, .int (nI a)), (2, .int (nI b))] := hl
  have uX6 : ∀ w ∈ u_ws RX6 TX6 5, w ∈ wsX6_stop := by decide +kernel
  refine lv_iload_n hx hcd dX6_stop_0 rfl (lv_at hl 1 rfl) ?_
  refine lv_iload_n hx hcd dX6_stop_1 rfl (lv_at hl 2 rfl) ?_
  refine kr_Sv (As := [.int (nI a), .int (nI b)]) (rest := []) (ws2 := wX cI cB cW ob nw tr qs sc (g_rot qs r) M N S n L T) ⟨hx, hcd, hml, hown, hts⟩ (c_X6_checkPair__ok l D cI cB cW cL  _ M a b (by omega) (by omega) (by omega)) (va_cwS 2 hts gX6_stop_X6_checkPair rfl rfl rfl (by decide +kernel) ⟨Nat.le_of_ble_eq_true rfl, Nat.le_of_ble_eq_true rfl⟩) hK hP hD hS hA [] rfl (by decide) rfl rfl rfl hl.1 rfl (Nat.le_of_ble_eq_true rfl) dX6_stop_2 ⟨Nat.zero_le _, Nat.zero_le _⟩ (fun H locs hP hD hS => ?_)
  refine lv_aload_n hx hcd dX6_stop_5 rfl (lv_at hl 0 rfl) ?_
  refine kr_Vv (As := []) (rest := []) (ws2 := wX cI cB cW ob nw tr qs sc (g_rot qs (rj n r)) M N (sset S (pj n r) M) (g_kn n) L T) (q := (RX6, TX6, 5)) ⟨hx, hcd, hml, hown, hts⟩ (c_X6_saveState l D cI cB cW cL ob nw tr qs sc (g_rot qs r) N S n L T _ M r (by omega) (by omega)) (cwV 0 hts gX6_stop_X6_saveState rfl rfl rfl (by decide +kernel) ⟨Nat.le_of_ble_eq_true rfl, Nat.le_of_ble_eq_true rfl⟩) hK hP hD hS hA [0, 1, 2, 3, 4, 5, 6, 7, 8, 9, 10, 11, 12, 13, 14, 15, 16, 17, 18, 19, 20, 21, 22, 23, 24, 25, 26, 27, 28, 29, 30, 31, 32, 33, 34, 35, 36, 37, 38, 39, 40, 41, 42, 43, 44, 45, 46, 47, 48, 49, 50, 51, 52, 53, 54, 55, 56, 57, 58, 59, 60, 61, 62, 63, 64, 65, 66, 67, 68, 69, 70, 71, 72, 73, 74, 75, 76, 77, 78, 79, 80, 81, 82, 83, 84, 85, 86, 87, 88, 89, 90, 91, 92, 93] wX_allC wX_nd wX_adr wX_all 0 rfl rfl rfl hl.1 rfl (Nat.le_of_ble_eq_true rfl) dX6_stop_6 ⟨Nat.zero_le _, Nat.zero_le _⟩ (fun H locs hP hD hS => ?_)
  refine lv_aload_n hx hcd dX6_stop_9 rfl (lv_at hl 0 rfl) ?_
  refine kr_get hx hcd hts uX6 hown hK hP 0 rfl rfl 0 (by decide) (by decide +kernel) (v := .ref (nw 0)) rfl dX6_stop_10 ?_
  refine lv_iload_n hx hcd dX6_stop_13 rfl (lv_at hl 1 rfl) ?_
  refine lv_iload_n hx hcd dX6_stop_14 rfl (lv_at hl 2 rfl) ?_
  refine kr_Vi (As := [.int (nI a), .int (nI b)]) (rest := []) (ws2 := wX cI cB cW ob nw tr qs sc (g_rot qs (rj n r)) (g_stop M a b) N (sset S (pj n r) M) (g_kn n) L T) (q := (RX5, TX5, 5)) ⟨hx, hcd, hml, hown, hts⟩ (c_X5_stopSeeing l D cI cB cW cL nw _ M a b hI (by omega) (by omega)) (cwV 2 hts gX6_stop_X5_stopSeeing rfl rfl rfl (by decide +kernel) ⟨Nat.le_of_ble_eq_true rfl, Nat.le_of_ble_eq_true rfl⟩) hK hP hD hS hA [2, 3, 4, 5, 6, 7, 8, 9, 10, 11, 12, 13, 14, 15, 16] wX_nw_WC (by decide) wW_adr wX_nw_W 2 rfl rfl rfl hl.1 rfl (Nat.le_of_ble_eq_true rfl) dX6_stop_15 ⟨Nat.zero_le _, Nat.zero_le _⟩ (fun H locs hP hD hS => ?_)
  have hI_1 : kInv (g_stop M a b) := i_stop hI (by omega) (by omega)
  exact kr_iret hx hcd hr hlocks hK hP hD hS rfl rfl dX6_stop_18

set_option maxHeartbeats 4000000 in
set_option maxRecDepth 100000 in
theorem c_X6_block__ok (l : Launch) (D : va_G) (cI cB cW cL : ClassId) (ob nw tr : Nat → Nat) (qs : Nat → Nat → Nat) (sc : Nat → Nat) (G : Nat → Option Nat) (N : kM) (S : Nat → kM) (n L : Nat) (T : Nat → Int32) (sz : Nat) (M : kM) (a : Nat) (b : Nat) (v : Bool) (r : Nat) (hI : kInv M) (ha : a < 6) (hb : b < 6) (hne : a ≠ b) (hn : n ≤ 4) (hr : r < 4) : kMi l yX6_block wsX6_block ({ frames := 5, cells := 0, slots := 0, locals := 142 }) D vwCl (kT cI cB cW cL) sz [.ref (ob 0), .int (nI a), .int (nI b), .int (kI v)] (wX cI cB cW ob nw tr qs sc (g_rot qs r) M N S n L T) (wX cI cB cW ob nw tr qs sc (g_rot qs (rj n r)) (g_block M a b v) N (sset S (pj n r) M) (g_kn n) L T) (if M (240 + 6 * a + b) = kI v then 0 else 1) := by
  refine kr_ofi (cc := cX6_block) (maxL := 4) (ret := (some .int)) (by decide) rfl (Nat.le_of_ble_eq_true rfl) ?_
  intro pp ee ss mm args below meth cc AA ls hx hcd hr hts hown hlocks hml hK hP hD hA hl
  have hS : va_S AA ss.heap ss.heap [] := va_S.rf
  have hown : ss.vm.findClass RX6 = some mm.cls := hown
  have hl : lv_has ls 4 [(0, .ref (ob 0)), (1, .int (nI a)), (2, .int (nI b)), (3, .int (kI v))] := hl
  have uX6 : ∀ w ∈ u_ws RX6 TX6 5, w ∈ wsX6_block := by decide +kernel
  refine lv_iload_n hx hcd dX6_block_0 rfl (lv_at hl 1 rfl) ?_
  refine lv_iload_n hx hcd dX6_block_1 rfl (lv_at hl 2 rfl) ?_
  refine kr_Sv (As := [.int (nI a), .int (nI b)]) (rest := []) (ws2 := wX cI cB cW ob nw tr qs sc (g_rot qs r) M N S n L T) ⟨hx, hcd, hml, hown, hts⟩ (c_X6_checkPair__ok l D cI cB cW cL  _ M a b (by omega) (by omega) (by omega)) (va_cwS 2 hts gX6_block_X6_checkPair rfl rfl rfl (by decide +kernel) ⟨Nat.le_of_ble_eq_true rfl, Nat.le_of_ble_eq_true rfl⟩) hK hP hD hS hA [] rfl (by decide) rfl rfl rfl hl.1 rfl (Nat.le_of_ble_eq_true rfl) dX6_block_2 ⟨Nat.zero_le _, Nat.zero_le _⟩ (fun H locs hP hD hS => ?_)
  refine lv_aload_n hx hcd dX6_block_5 rfl (lv_at hl 0 rfl) ?_
  refine kr_Vv (As := []) (rest := []) (ws2 := wX cI cB cW ob nw tr qs sc (g_rot qs (rj n r)) M N (sset S (pj n r) M) (g_kn n) L T) (q := (RX6, TX6, 5)) ⟨hx, hcd, hml, hown, hts⟩ (c_X6_saveState l D cI cB cW cL ob nw tr qs sc (g_rot qs r) N S n L T _ M r (by omega) (by omega)) (cwV 0 hts gX6_block_X6_saveState rfl rfl rfl (by decide +kernel) ⟨Nat.le_of_ble_eq_true rfl, Nat.le_of_ble_eq_true rfl⟩) hK hP hD hS hA [0, 1, 2, 3, 4, 5, 6, 7, 8, 9, 10, 11, 12, 13, 14, 15, 16, 17, 18, 19, 20, 21, 22, 23, 24, 25, 26, 27, 28, 29, 30, 31, 32, 33, 34, 35, 36, 37, 38, 39, 40, 41, 42, 43, 44, 45, 46, 47, 48, 49, 50, 51, 52, 53, 54, 55, 56, 57, 58, 59, 60, 61, 62, 63, 64, 65, 66, 67, 68, 69, 70, 71, 72, 73, 74, 75, 76, 77, 78, 79, 80, 81, 82, 83, 84, 85, 86, 87, 88, 89, 90, 91, 92, 93] wX_allC wX_nd wX_adr wX_all 0 rfl rfl rfl hl.1 rfl (Nat.le_of_ble_eq_true rfl) dX6_block_6 ⟨Nat.zero_le _, Nat.zero_le _⟩ (fun H locs hP hD hS => ?_)
  refine lv_aload_n hx hcd dX6_block_9 rfl (lv_at hl 0 rfl) ?_
  refine kr_get hx hcd hts uX6 hown hK hP 0 rfl rfl 0 (by decide) (by decide +kernel) (v := .ref (nw 0)) rfl dX6_block_10 ?_
  refine lv_iload_n hx hcd dX6_block_13 rfl (lv_at hl 1 rfl) ?_
  refine lv_iload_n hx hcd dX6_block_14 rfl (lv_at hl 2 rfl) ?_
  refine lv_iload_n hx hcd dX6_block_15 rfl (lv_at hl 3 rfl) ?_
  refine kr_Vi (As := [.int (nI a), .int (nI b), .int (kI v)]) (rest := []) (ws2 := wX cI cB cW ob nw tr qs sc (g_rot qs (rj n r)) (g_block M a b v) N (sset S (pj n r) M) (g_kn n) L T) (q := (RX5, TX5, 5)) ⟨hx, hcd, hml, hown, hts⟩ (c_X5_changeBlock l D cI cB cW cL nw _ M a b v hI (by omega) (by omega)) (cwV 3 hts gX6_block_X5_changeBlock rfl rfl rfl (by decide +kernel) ⟨Nat.le_of_ble_eq_true rfl, Nat.le_of_ble_eq_true rfl⟩) hK hP hD hS hA [2, 3, 4, 5, 6, 7, 8, 9, 10, 11, 12, 13, 14, 15, 16] wX_nw_WC (by decide) wW_adr wX_nw_W 2 rfl rfl rfl hl.1 rfl (Nat.le_of_ble_eq_true rfl) dX6_block_16 ⟨Nat.zero_le _, Nat.zero_le _⟩ (fun H locs hP hD hS => ?_)
  have hI_1 : kInv (g_block M a b v) := i_block hI (by omega) (by omega)
  exact kr_iret hx hcd hr hlocks hK hP hD hS rfl rfl dX6_block_19

set_option maxHeartbeats 4000000 in
set_option maxRecDepth 100000 in
theorem c_X6_turnOn__ok (l : Launch) (D : va_G) (cI cB cW cL : ClassId) (ob nw tr : Nat → Nat) (qs : Nat → Nat → Nat) (sc : Nat → Nat) (G : Nat → Option Nat) (N : kM) (S : Nat → kM) (n L : Nat) (T : Nat → Int32) (sz : Nat) (M : kM) (a : Nat) (s : Nat) (rk : Int32) (d : Nat) (r : Nat) (hI : kInv M) (ha : a < 6) (hs : s < 3) (hd : d < 5) (hrk1 : ¬ rk < -9) (hrk2 : ¬ 9 < rk) (hn : n ≤ 4) (hr : r < 4) : kMi l yX6_turnOn wsX6_turnOn ({ frames := 4, cells := 0, slots := 0, locals := 142 }) D vwCl (kT cI cB cW cL) sz [.ref (ob 0), .int (nI a), .int (nI s), .int rk, .int (nI d)] (wX cI cB cW ob nw tr qs sc (g_rot qs r) M N S n L T) (wX cI cB cW ob nw tr qs sc (g_rot qs (rj n r)) (g_turnOn M a s rk d) N (sset S (pj n r) M) (g_kn n) L T) (g_cnt (g_turnOn M a s rk d) a) := by
  refine kr_ofi (cc := cX6_turnOn) (maxL := 5) (ret := (some .int)) (by decide) rfl (Nat.le_of_ble_eq_true rfl) ?_
  intro pp ee ss mm args below meth cc AA ls hx hcd hr hts hown hlocks hml hK hP hD hA hl
  have hS : va_S AA ss.heap ss.heap [] := va_S.rf
  have hown : ss.vm.findClass RX6 = some mm.cls := hown
  have hl : lv_has ls 5 [(0, .ref (ob 0)), (1, .int (nI a)), (2, .int (nI s)), (3, .int rk), (4, .int (nI d))] := hl
  have uX6 : ∀ w ∈ u_ws RX6 TX6 5, w ∈ wsX6_turnOn := by decide +kernel
  refine lv_iload_n hx hcd dX6_turnOn_0 rfl (lv_at hl 1 rfl) ?_
  refine lv_iload_n hx hcd dX6_turnOn_1 rfl (lv_at hl 2 rfl) ?_
  refine kr_Sv (As := [.int (nI a), .int (nI s)]) (rest := []) (ws2 := wX cI cB cW ob nw tr qs sc (g_rot qs r) M N S n L T) ⟨hx, hcd, hml, hown, hts⟩ (c_X6_checkSeat__ok l D cI cB cW cL  _ M a s (by omega) (by omega)) (va_cwS 2 hts gX6_turnOn_X6_checkSeat rfl rfl rfl (by decide +kernel) ⟨Nat.le_of_ble_eq_true rfl, Nat.le_of_ble_eq_true rfl⟩) hK hP hD hS hA [] rfl (by decide) rfl rfl rfl hl.1 rfl (Nat.le_of_ble_eq_true rfl) dX6_turnOn_2 ⟨Nat.zero_le _, Nat.zero_le _⟩ (fun H locs hP hD hS => ?_)
  refine lv_iload_n hx hcd dX6_turnOn_5 rfl (lv_at hl 3 rfl) ?_
  refine lv_bipush (v := (-9)) hx hcd dX6_turnOn_6 (by decide) ?_
  refine lv_icmp_lt (tgt := 28) hx hcd dX6_turnOn_8 (by decide) (fun (c_8 : rk < (-9)) => absurd c_8 hrk1) (fun (c_8 : ¬ rk < (-9)) => ?_)
  refine lv_iload_n hx hcd dX6_turnOn_11 rfl (lv_at hl 3 rfl) ?_
  refine lv_bipush (v := nI 9) hx hcd dX6_turnOn_12 (by decide) ?_
  refine lv_icmp_gt (tgt := 28) hx hcd dX6_turnOn_14 (by decide) (fun (c_14 : 9 < rk) => absurd c_14 hrk2) (fun (c_14 : ¬ 9 < rk) => ?_)
  refine lv_iload hx hcd dX6_turnOn_17 (lv_at hl 4 rfl) ?_
  refine kr_zlt (tgt := 28) hx hcd (by omega) dX6_turnOn_19 (by decide) ?_
  refine lv_iload hx hcd dX6_turnOn_22 (lv_at hl 4 rfl) ?_
  refine lv_iconst (v := nI 5) hx hcd dX6_turnOn_24 (by decide) ?_
  refine kr_clt (tgt := 38) hx hcd (by omega) (by omega) dX6_turnOn_25 (by decide) (fun (c_25 : d < 5) => ?_) (fun (c_25 : 5 ≤ d) => absurd c_25 (by omega))
  refine lv_aload_n hx hcd dX6_turnOn_38 rfl (lv_at hl 0 rfl) ?_
  refine kr_Vv (As := []) (rest := []) (ws2 := wX cI cB cW ob nw tr qs sc (g_rot qs (rj n r)) M N (sset S (pj n r) M) (g_kn n) L T) (q := (RX6, TX6, 5)) ⟨hx, hcd, hml, hown, hts⟩ (c_X6_saveState l D cI cB cW cL ob nw tr qs sc (g_rot qs r) N S n L T _ M r (by omega) (by omega)) (cwV 0 hts gX6_turnOn_X6_saveState rfl rfl rfl (by decide +kernel) ⟨Nat.le_of_ble_eq_true rfl, Nat.le_of_ble_eq_true rfl⟩) hK hP hD hS hA [0, 1, 2, 3, 4, 5, 6, 7, 8, 9, 10, 11, 12, 13, 14, 15, 16, 17, 18, 19, 20, 21, 22, 23, 24, 25, 26, 27, 28, 29, 30, 31, 32, 33, 34, 35, 36, 37, 38, 39, 40, 41, 42, 43, 44, 45, 46, 47, 48, 49, 50, 51, 52, 53, 54, 55, 56, 57, 58, 59, 60, 61, 62, 63, 64, 65, 66, 67, 68, 69, 70, 71, 72, 73, 74, 75, 76, 77, 78, 79, 80, 81, 82, 83, 84, 85, 86, 87, 88, 89, 90, 91, 92, 93] wX_allC wX_nd wX_adr wX_all 0 rfl rfl rfl hl.1 rfl (Nat.le_of_ble_eq_true rfl) dX6_turnOn_39 ⟨Nat.zero_le _, Nat.zero_le _⟩ (fun H locs hP hD hS => ?_)
  refine lv_aload_n hx hcd dX6_turnOn_42 rfl (lv_at hl 0 rfl) ?_
  refine kr_get hx hcd hts uX6 hown hK hP 0 rfl rfl 0 (by decide) (by decide +kernel) (v := .ref (nw 0)) rfl dX6_turnOn_43 ?_
  refine lv_iload_n hx hcd dX6_turnOn_46 rfl (lv_at hl 1 rfl) ?_
  refine lv_iload_n hx hcd dX6_turnOn_47 rfl (lv_at hl 2 rfl) ?_
  refine lv_iload_n hx hcd dX6_turnOn_48 rfl (lv_at hl 3 rfl) ?_
  refine lv_iload hx hcd dX6_turnOn_49 (lv_at hl 4 rfl) ?_
  refine kr_Vi (As := [.int (nI a), .int (nI s), .int rk, .int (nI d)]) (rest := []) (ws2 := wX cI cB cW ob nw tr qs sc (g_rot qs (rj n r)) (g_turnOn M a s rk d) N (sset S (pj n r) M) (g_kn n) L T) (q := (RX5, TX5, 5)) ⟨hx, hcd, hml, hown, hts⟩ (c_X5_switchOn l D cI cB cW cL nw _ M a s rk d hI (by omega) (by omega) (by omega)) (cwV 4 hts gX6_turnOn_X5_switchOn rfl rfl rfl (by decide +kernel) ⟨Nat.le_of_ble_eq_true rfl, Nat.le_of_ble_eq_true rfl⟩) hK hP hD hS hA [2, 3, 4, 5, 6, 7, 8, 9, 10, 11, 12, 13, 14, 15, 16] wX_nw_WC (by decide) wW_adr wX_nw_W 2 rfl rfl rfl hl.1 rfl (Nat.le_of_ble_eq_true rfl) dX6_turnOn_51 ⟨Nat.zero_le _, Nat.zero_le _⟩ (fun H locs hP hD hS => ?_)
  have hI_1 : kInv (g_turnOn M a s rk d) := i_turnOn hI (by omega) (by omega) (by omega)
  exact kr_iret hx hcd hr hlocks hK hP hD hS rfl rfl dX6_turnOn_54

set_option maxHeartbeats 4000000 in
set_option maxRecDepth 100000 in
theorem c_X6_turnOff__ok (l : Launch) (D : va_G) (cI cB cW cL : ClassId) (ob nw tr : Nat → Nat) (qs : Nat → Nat → Nat) (sc : Nat → Nat) (G : Nat → Option Nat) (N : kM) (S : Nat → kM) (n L : Nat) (T : Nat → Int32) (sz : Nat) (M : kM) (a : Nat) (s : Nat) (r : Nat) (hI : kInv M) (ha : a < 6) (hs : s < 3) (ho : g_on M a s = true) (hn : n ≤ 4) (hr : r < 4) : kMi l yX6_turnOff wsX6_turnOff ({ frames := 4, cells := 0, slots := 0, locals := 142 }) D vwCl (kT cI cB cW cL) sz [.ref (ob 0), .int (nI a), .int (nI s)] (wX cI cB cW ob nw tr qs sc (g_rot qs r) M N S n L T) (wX cI cB cW ob nw tr qs sc (g_rot qs (rj n r)) (g_turnOff M a s) N (sset S (pj n r) M) (g_kn n) L T) (g_cnt (g_turnOff M a s) a) := by
  refine kr_ofi (cc := cX6_turnOff) (maxL := 3) (ret := (some .int)) (by decide) rfl (Nat.le_of_ble_eq_true rfl) ?_
  intro pp ee ss mm args below meth cc AA ls hx hcd hr hts hown hlocks hml hK hP hD hA hl
  have hS : va_S AA ss.heap ss.heap [] := va_S.rf
  have hown : ss.vm.findClass RX6 = some mm.cls := hown
  have hl : lv_has ls 3 [(0, .ref (ob 0)), (1, .int (nI a)), (2, .int (nI s))] := hl
  have uX5 : ∀ w ∈ u_ws RX5 TX5 5, w ∈ wsX6_turnOff := by decide +kernel
  have uX6 : ∀ w ∈ u_ws RX6 TX6 5, w ∈ wsX6_turnOff := by decide +kernel
  refine lv_iload_n hx hcd dX6_turnOff_0 rfl (lv_at hl 1 rfl) ?_
  refine lv_iload_n hx hcd dX6_turnOff_1 rfl (lv_at hl 2 rfl) ?_
  refine kr_Sv (As := [.int (nI a), .int (nI s)]) (rest := []) (ws2 := wX cI cB cW ob nw tr qs sc (g_rot qs r) M N S n L T) ⟨hx, hcd, hml, hown, hts⟩ (c_X6_checkSeat__ok l D cI cB cW cL  _ M a s (by omega) (by omega)) (va_cwS 2 hts gX6_turnOff_X6_checkSeat rfl rfl rfl (by decide +kernel) ⟨Nat.le_of_ble_eq_true rfl, Nat.le_of_ble_eq_true rfl⟩) hK hP hD hS hA [] rfl (by decide) rfl rfl rfl hl.1 rfl (Nat.le_of_ble_eq_true rfl) dX6_turnOff_2 ⟨Nat.zero_le _, Nat.zero_le _⟩ (fun H locs hP hD hS => ?_)
  refine lv_aload_n hx hcd dX6_turnOff_5 rfl (lv_at hl 0 rfl) ?_
  refine kr_get hx hcd hts uX6 hown hK hP 0 rfl rfl 0 (by decide) (by decide +kernel) (v := .ref (nw 0)) rfl dX6_turnOff_6 ?_
  refine kr_get hx hcd hts uX5 hown hK hP 2 rfl rfl 0 (by decide) (by decide +kernel) (v := .ref (nw 1)) rfl dX6_turnOff_9 ?_
  refine lv_iload_n hx hcd dX6_turnOff_12 rfl (lv_at hl 1 rfl) ?_
  refine lv_iload_n hx hcd dX6_turnOff_13 rfl (lv_at hl 2 rfl) ?_
  refine kr_Vi (As := [.int (nI a), .int (nI s)]) (rest := []) (ws2 := wX cI cB cW ob nw tr qs sc (g_rot qs r) M N S n L T) (q := (RX3, TX3, 3)) ⟨hx, hcd, hml, hown, hts⟩ (c_X3_isOn l D cI cB cW cL nw _ M a s (by omega) (by omega)) (cwV 2 hts gX6_turnOff_X3_isOn rfl rfl rfl (by decide +kernel) ⟨Nat.le_of_ble_eq_true rfl, Nat.le_of_ble_eq_true rfl⟩) hK hP hD hS hA [3, 4, 5, 6] wX_nw_SeC (by decide) wSe_adr (kset_same _ _ _ wX_nw_SeC) 3 rfl rfl rfl hl.1 rfl (Nat.le_of_ble_eq_true rfl) dX6_turnOff_14 ⟨Nat.zero_le _, Nat.zero_le _⟩ (fun H locs hP hD hS => ?_)
  refine kr_bne (tgt := 30) hx hcd dX6_turnOff_17 (by decide) (fun (c_17 : g_on M a s = true) => ?_) (fun (c_17 : g_on M a s = false) => absurd c_17 (by rw [ho]; decide))
  refine lv_aload_n hx hcd dX6_turnOff_30 rfl (lv_at hl 0 rfl) ?_
  refine kr_Vv (As := []) (rest := []) (ws2 := wX cI cB cW ob nw tr qs sc (g_rot qs (rj n r)) M N (sset S (pj n r) M) (g_kn n) L T) (q := (RX6, TX6, 5)) ⟨hx, hcd, hml, hown, hts⟩ (c_X6_saveState l D cI cB cW cL ob nw tr qs sc (g_rot qs r) N S n L T _ M r (by omega) (by omega)) (cwV 0 hts gX6_turnOff_X6_saveState rfl rfl rfl (by decide +kernel) ⟨Nat.le_of_ble_eq_true rfl, Nat.le_of_ble_eq_true rfl⟩) hK hP hD hS hA [0, 1, 2, 3, 4, 5, 6, 7, 8, 9, 10, 11, 12, 13, 14, 15, 16, 17, 18, 19, 20, 21, 22, 23, 24, 25, 26, 27, 28, 29, 30, 31, 32, 33, 34, 35, 36, 37, 38, 39, 40, 41, 42, 43, 44, 45, 46, 47, 48, 49, 50, 51, 52, 53, 54, 55, 56, 57, 58, 59, 60, 61, 62, 63, 64, 65, 66, 67, 68, 69, 70, 71, 72, 73, 74, 75, 76, 77, 78, 79, 80, 81, 82, 83, 84, 85, 86, 87, 88, 89, 90, 91, 92, 93] wX_allC wX_nd wX_adr wX_all 0 rfl rfl rfl hl.1 rfl (Nat.le_of_ble_eq_true rfl) dX6_turnOff_31 ⟨Nat.zero_le _, Nat.zero_le _⟩ (fun H locs hP hD hS => ?_)
  refine lv_aload_n hx hcd dX6_turnOff_34 rfl (lv_at hl 0 rfl) ?_
  refine kr_get hx hcd hts uX6 hown hK hP 0 rfl rfl 0 (by decide) (by decide +kernel) (v := .ref (nw 0)) rfl dX6_turnOff_35 ?_
  refine lv_iload_n hx hcd dX6_turnOff_38 rfl (lv_at hl 1 rfl) ?_
  refine lv_iload_n hx hcd dX6_turnOff_39 rfl (lv_at hl 2 rfl) ?_
  refine kr_Vi (As := [.int (nI a), .int (nI s)]) (rest := []) (ws2 := wX cI cB cW ob nw tr qs sc (g_rot qs (rj n r)) (if g_on M a s = true then g_turnOff M a s else M) N (sset S (pj n r) M) (g_kn n) L T) (q := (RX5, TX5, 5)) ⟨hx, hcd, hml, hown, hts⟩ (c_X5_switchOff l D cI cB cW cL nw _ M a s hI (by omega) (by omega)) (cwV 2 hts gX6_turnOff_X5_switchOff rfl rfl rfl (by decide +kernel) ⟨Nat.le_of_ble_eq_true rfl, Nat.le_of_ble_eq_true rfl⟩) hK hP hD hS hA [2, 3, 4, 5, 6, 7, 8, 9, 10, 11, 12, 13, 14, 15, 16] wX_nw_WC (by decide) wW_adr wX_nw_W 2 rfl rfl rfl hl.1 rfl (Nat.le_of_ble_eq_true rfl) dX6_turnOff_40 ⟨Nat.zero_le _, Nat.zero_le _⟩ (fun H locs hP hD hS => ?_)
  exact kr_iret hx hcd hr hlocks hK hP hD hS (by rw [if_pos ho]) (congrArg (fun M9 => wX cI cB cW ob nw tr qs sc (g_rot qs (rj n r)) M9 N (sset S (pj n r) M) (g_kn n) L T) (by rw [if_pos ho])) dX6_turnOff_43

set_option maxHeartbeats 4000000 in
set_option maxRecDepth 100000 in
theorem c_X6_deliver__ok (l : Launch) (D : va_G) (cI cB cW cL : ClassId) (ob nw tr : Nat → Nat) (qs : Nat → Nat → Nat) (sc : Nat → Nat) (G : Nat → Option Nat) (N : kM) (S : Nat → kM) (n L : Nat) (T : Nat → Int32) (sz : Nat) (M : kM) (c : Nat) (r : Nat) (hI : kInv M) (hc : c ≤ 1000) (hn : n ≤ 4) (hr : r < 4) : kMi l yX6_deliver wsX6_deliver ({ frames := 5, cells := 0, slots := 0, locals := 142 }) D vwCl (kT cI cB cW cL) sz [.ref (ob 0), .int (nI c)] (wX cI cB cW ob nw tr qs sc (g_rot qs r) M N S n L T) (wX cI cB cW ob nw tr qs sc (g_rot qs (rj n r)) (g_del c M) N (sset S (pj n r) M) (g_kn n) L T) (nI (g_delC c M)) := by
  refine kr_ofi (cc := cX6_deliver) (maxL := 2) (ret := (some .int)) (by decide) rfl (Nat.le_of_ble_eq_true rfl) ?_
  intro pp ee ss mm args below meth cc AA ls hx hcd hr hts hown hlocks hml hK hP hD hA hl
  have hS : va_S AA ss.heap ss.heap [] := va_S.rf
  have hown : ss.vm.findClass RX6 = some mm.cls := hown
  have hl : lv_has ls 2 [(0, .ref (ob 0)), (1, .int (nI c))] := hl
  have uX6 : ∀ w ∈ u_ws RX6 TX6 5, w ∈ wsX6_deliver := by decide +kernel
  refine lv_iload_n hx hcd dX6_deliver_0 rfl (lv_at hl 1 rfl) ?_
  refine kr_zlt (tgt := 11) hx hcd (by omega) dX6_deliver_1 (by decide) ?_
  refine lv_iload_n hx hcd dX6_deliver_4 rfl (lv_at hl 1 rfl) ?_
  refine lv_sipush (v := nI 1000) hx hcd dX6_deliver_5 (by decide) ?_
  refine kr_cle (tgt := 21) hx hcd (by omega) (by omega) dX6_deliver_8 (by decide) (fun (c_8 : c ≤ 1000) => ?_) (fun (c_8 : 1000 < c) => absurd c_8 (by omega))
  refine lv_aload_n hx hcd dX6_deliver_21 rfl (lv_at hl 0 rfl) ?_
  refine kr_Vv (As := []) (rest := []) (ws2 := wX cI cB cW ob nw tr qs sc (g_rot qs (rj n r)) M N (sset S (pj n r) M) (g_kn n) L T) (q := (RX6, TX6, 5)) ⟨hx, hcd, hml, hown, hts⟩ (c_X6_saveState l D cI cB cW cL ob nw tr qs sc (g_rot qs r) N S n L T _ M r (by omega) (by omega)) (cwV 0 hts gX6_deliver_X6_saveState rfl rfl rfl (by decide +kernel) ⟨Nat.le_of_ble_eq_true rfl, Nat.le_of_ble_eq_true rfl⟩) hK hP hD hS hA [0, 1, 2, 3, 4, 5, 6, 7, 8, 9, 10, 11, 12, 13, 14, 15, 16, 17, 18, 19, 20, 21, 22, 23, 24, 25, 26, 27, 28, 29, 30, 31, 32, 33, 34, 35, 36, 37, 38, 39, 40, 41, 42, 43, 44, 45, 46, 47, 48, 49, 50, 51, 52, 53, 54, 55, 56, 57, 58, 59, 60, 61, 62, 63, 64, 65, 66, 67, 68, 69, 70, 71, 72, 73, 74, 75, 76, 77, 78, 79, 80, 81, 82, 83, 84, 85, 86, 87, 88, 89, 90, 91, 92, 93] wX_allC wX_nd wX_adr wX_all 0 rfl rfl rfl hl.1 rfl (Nat.le_of_ble_eq_true rfl) dX6_deliver_22 ⟨Nat.zero_le _, Nat.zero_le _⟩ (fun H locs hP hD hS => ?_)
  refine lv_aload_n hx hcd dX6_deliver_25 rfl (lv_at hl 0 rfl) ?_
  refine kr_get hx hcd hts uX6 hown hK hP 0 rfl rfl 0 (by decide) (by decide +kernel) (v := .ref (nw 0)) rfl dX6_deliver_26 ?_
  refine lv_iload_n hx hcd dX6_deliver_29 rfl (lv_at hl 1 rfl) ?_
  refine kr_Vi (As := [.int (nI c)]) (rest := []) (ws2 := wX cI cB cW ob nw tr qs sc (g_rot qs (rj n r)) (g_del c M) N (sset S (pj n r) M) (g_kn n) L T) (q := (RX5, TX5, 5)) ⟨hx, hcd, hml, hown, hts⟩ (c_X5_letArrive l D cI cB cW cL nw _ M c hI (by omega)) (cwV 1 hts gX6_deliver_X5_letArrive rfl rfl rfl (by decide +kernel) ⟨Nat.le_of_ble_eq_true rfl, Nat.le_of_ble_eq_true rfl⟩) hK hP hD hS hA [2, 3, 4, 5, 6, 7, 8, 9, 10, 11, 12, 13, 14, 15, 16] wX_nw_WC (by decide) wW_adr wX_nw_W 2 rfl rfl rfl hl.1 rfl (Nat.le_of_ble_eq_true rfl) dX6_deliver_30 ⟨Nat.zero_le _, Nat.zero_le _⟩ (fun H locs hP hD hS => ?_)
  have hI_1 : kInv (g_del c M) := i_del _ hI
  exact kr_iret hx hcd hr hlocks hK hP hD hS rfl rfl dX6_deliver_33

set_option maxHeartbeats 4000000 in
set_option maxRecDepth 100000 in
theorem c_X6_lose__ok (l : Launch) (D : va_G) (cI cB cW cL : ClassId) (ob nw tr : Nat → Nat) (qs : Nat → Nat → Nat) (sc : Nat → Nat) (G : Nat → Option Nat) (N : kM) (S : Nat → kM) (n L : Nat) (T : Nat → Int32) (sz : Nat) (M : kM) (i : Nat) (r : Nat) (hI : kInv M) (hi : i < wyN M) (hn : n ≤ 4) (hr : r < 4) : kMi l yX6_lose wsX6_lose ({ frames := 4, cells := 0, slots := 0, locals := 142 }) D vwCl (kT cI cB cW cL) sz [.ref (ob 0), .int (nI i)] (wX cI cB cW ob nw tr qs sc (g_rot qs r) M N S n L T) (wX cI cB cW ob nw tr qs sc (g_rot qs (rj n r)) (g_drop M i) N (sset S (pj n r) M) (g_kn n) L T) (g_part (g_msg M i) 0) := by
  refine kr_ofi (cc := cX6_lose) (maxL := 2) (ret := (some .int)) (by decide) rfl (Nat.le_of_ble_eq_true rfl) ?_
  intro pp ee ss mm args below meth cc AA ls hx hcd hr hts hown hlocks hml hK hP hD hA hl
  have hS : va_S AA ss.heap ss.heap [] := va_S.rf
  have hown : ss.vm.findClass RX6 = some mm.cls := hown
  have hl : lv_has ls 2 [(0, .ref (ob 0)), (1, .int (nI i))] := hl
  have uX5 : ∀ w ∈ u_ws RX5 TX5 5, w ∈ wsX6_lose := by decide +kernel
  have uX6 : ∀ w ∈ u_ws RX6 TX6 5, w ∈ wsX6_lose := by decide +kernel
  have b577 := i_wyle hI
  refine lv_aload_n hx hcd dX6_lose_0 rfl (lv_at hl 0 rfl) ?_
  refine lv_iload_n hx hcd dX6_lose_1 rfl (lv_at hl 1 rfl) ?_
  refine kr_Vv (As := [.int (nI i)]) (rest := []) (ws2 := wX cI cB cW ob nw tr qs sc (g_rot qs r) M N S n L T) (q := (RX6, TX6, 5)) ⟨hx, hcd, hml, hown, hts⟩ (c_X6_checkMessage__ok l D cI cB cW cL ob nw tr qs sc (g_rot qs r) N S n L T _ M i hI (by omega)) (cwV 1 hts gX6_lose_X6_checkMessage rfl rfl rfl (by decide +kernel) ⟨Nat.le_of_ble_eq_true rfl, Nat.le_of_ble_eq_true rfl⟩) hK hP hD hS hA [0, 1, 2, 3, 4, 5, 6, 7, 8, 9, 10, 11, 12, 13, 14, 15, 16, 17, 18, 19, 20, 21, 22, 23, 24, 25, 26, 27, 28, 29, 30, 31, 32, 33, 34, 35, 36, 37, 38, 39, 40, 41, 42, 43, 44, 45, 46, 47, 48, 49, 50, 51, 52, 53, 54, 55, 56, 57, 58, 59, 60, 61, 62, 63, 64, 65, 66, 67, 68, 69, 70, 71, 72, 73, 74, 75, 76, 77, 78, 79, 80, 81, 82, 83, 84, 85, 86, 87, 88, 89, 90, 91, 92, 93] wX_allC wX_nd wX_adr wX_all 0 rfl rfl rfl hl.1 rfl (Nat.le_of_ble_eq_true rfl) dX6_lose_2 ⟨Nat.zero_le _, Nat.zero_le _⟩ (fun H locs hP hD hS => ?_)
  refine lv_aload_n hx hcd dX6_lose_5 rfl (lv_at hl 0 rfl) ?_
  refine kr_Vv (As := []) (rest := []) (ws2 := wX cI cB cW ob nw tr qs sc (g_rot qs (rj n r)) M N (sset S (pj n r) M) (g_kn n) L T) (q := (RX6, TX6, 5)) ⟨hx, hcd, hml, hown, hts⟩ (c_X6_saveState l D cI cB cW cL ob nw tr qs sc (g_rot qs r) N S n L T _ M r (by omega) (by omega)) (cwV 0 hts gX6_lose_X6_saveState rfl rfl rfl (by decide +kernel) ⟨Nat.le_of_ble_eq_true rfl, Nat.le_of_ble_eq_true rfl⟩) hK hP hD hS hA [0, 1, 2, 3, 4, 5, 6, 7, 8, 9, 10, 11, 12, 13, 14, 15, 16, 17, 18, 19, 20, 21, 22, 23, 24, 25, 26, 27, 28, 29, 30, 31, 32, 33, 34, 35, 36, 37, 38, 39, 40, 41, 42, 43, 44, 45, 46, 47, 48, 49, 50, 51, 52, 53, 54, 55, 56, 57, 58, 59, 60, 61, 62, 63, 64, 65, 66, 67, 68, 69, 70, 71, 72, 73, 74, 75, 76, 77, 78, 79, 80, 81, 82, 83, 84, 85, 86, 87, 88, 89, 90, 91, 92, 93] wX_allC wX_nd wX_adr wX_all 0 rfl rfl rfl hl.1 rfl (Nat.le_of_ble_eq_true rfl) dX6_lose_6 ⟨Nat.zero_le _, Nat.zero_le _⟩ (fun H locs hP hD hS => ?_)
  refine lv_aload_n hx hcd dX6_lose_9 rfl (lv_at hl 0 rfl) ?_
  refine kr_get hx hcd hts uX6 hown hK hP 0 rfl rfl 0 (by decide) (by decide +kernel) (v := .ref (nw 0)) rfl dX6_lose_10 ?_
  refine kr_get hx hcd hts uX5 hown hK hP 2 rfl rfl 3 (by decide) (by decide +kernel) (v := .ref (nw 11)) rfl dX6_lose_13 ?_
  refine lv_iload_n hx hcd dX6_lose_16 rfl (lv_at hl 1 rfl) ?_
  refine kr_Vi (As := [.int (nI i)]) (rest := []) (ws2 := wX cI cB cW ob nw tr qs sc (g_rot qs (rj n r)) (g_drop M i) N (sset S (pj n r) M) (g_kn n) L T) (q := (RX0, TX0, 4)) ⟨hx, hcd, hml, hown, hts⟩ (c_X0_loseAt l D cI cB cW cL nw _ M i hI (by omega)) (cwV 1 hts gX6_lose_X0_loseAt rfl rfl rfl (by decide +kernel) ⟨Nat.le_of_ble_eq_true rfl, Nat.le_of_ble_eq_true rfl⟩) hK hP hD hS hA [13, 14, 15] wX_nw_PoC (by decide) wPo_adr (wX_nw_Po (fun k hk => o_drop hk)) 13 rfl rfl rfl hl.1 rfl (Nat.le_of_ble_eq_true rfl) dX6_lose_17 ⟨Nat.zero_le _, Nat.zero_le _⟩ (fun H locs hP hD hS => ?_)
  have hI_1 : kInv (g_drop M i) := i_drop hI (by omega)
  refine lv_iconst (v := nI 0) hx hcd dX6_lose_20 (by decide) ?_
  refine kr_Si (As := [.int (nI (cvN (g_msg M i))), .int (nI 0)]) (rest := []) (ws2 := wX cI cB cW ob nw tr qs sc (g_rot qs (rj n r)) (g_drop M i) N (sset S (pj n r) M) (g_kn n) L T) ⟨hx, hcd, hml, hown, hts⟩ (c_X0_part l D cI cB cW cL  _ (g_drop M i) (cvN (g_msg M i)) 0 (g_msg M i) (by omega) rfl (i_msg hI i).1 (i_msglt hI i)) (va_cwS 2 hts gX6_lose_X0_part rfl rfl rfl (by decide +kernel) ⟨Nat.le_of_ble_eq_true rfl, Nat.le_of_ble_eq_true rfl⟩) hK hP hD hS hA [] rfl (by decide) rfl rfl rfl hl.1 rfl (Nat.le_of_ble_eq_true rfl) dX6_lose_21 ⟨Nat.zero_le _, Nat.zero_le _⟩ (fun H locs hP hD hS => ?_)
  exact kr_iret hx hcd hr hlocks hK hP hD hS rfl rfl dX6_lose_24

set_option maxHeartbeats 4000000 in
set_option maxRecDepth 100000 in
theorem c_X6_bestSeat__ok (l : Launch) (D : va_G) (cI cB cW cL : ClassId) (ob nw tr : Nat → Nat) (qs : Nat → Nat → Nat) (sc : Nat → Nat) (G : Nat → Option Nat) (N : kM) (S : Nat → kM) (n L : Nat) (T : Nat → Int32) (sz : Nat) (M : kM) (a : Nat) (ha : a < 6) : kMi l yX6_bestSeat wsX6_bestSeat ({ frames := 2, cells := 0, slots := 0, locals := 47 }) D vwCl (kT cI cB cW cL) sz [.ref (ob 0), .int (nI a)] (wX cI cB cW ob nw tr qs sc G M N S n L T) (wX cI cB cW ob nw tr qs sc G M N S n L T) ((g_bst M a 3).1) := by
  refine kr_ofi (cc := cX6_bestSeat) (maxL := 2) (ret := (some .int)) (by decide) rfl (Nat.le_of_ble_eq_true rfl) ?_
  intro pp ee ss mm args below meth cc AA ls hx hcd hr hts hown hlocks hml hK hP hD hA hl
  have hS : va_S AA ss.heap ss.heap [] := va_S.rf
  have hown : ss.vm.findClass RX6 = some mm.cls := hown
  have hl : lv_has ls 2 [(0, .ref (ob 0)), (1, .int (nI a))] := hl
  have uX5 : ∀ w ∈ u_ws RX5 TX5 5, w ∈ wsX6_bestSeat := by decide +kernel
  have uX6 : ∀ w ∈ u_ws RX6 TX6 5, w ∈ wsX6_bestSeat := by decide +kernel
  refine lv_iload_n hx hcd dX6_bestSeat_0 rfl (lv_at hl 1 rfl) ?_
  refine kr_Sv (As := [.int (nI a)]) (rest := []) (ws2 := wX cI cB cW ob nw tr qs sc G M N S n L T) ⟨hx, hcd, hml, hown, hts⟩ (c_X6_checkUser__ok l D cI cB cW cL  _ M a (by omega)) (va_cwS 1 hts gX6_bestSeat_X6_checkUser rfl rfl rfl (by decide +kernel) ⟨Nat.le_of_ble_eq_true rfl, Nat.le_of_ble_eq_true rfl⟩) hK hP hD hS hA [] rfl (by decide) rfl rfl rfl hl.1 rfl (Nat.le_of_ble_eq_true rfl) dX6_bestSeat_1 ⟨Nat.zero_le _, Nat.zero_le _⟩ (fun H locs hP hD hS => ?_)
  refine lv_aload_n hx hcd dX6_bestSeat_4 rfl (lv_at hl 0 rfl) ?_
  refine kr_get hx hcd hts uX6 hown hK hP 0 rfl rfl 0 (by decide) (by decide +kernel) (v := .ref (nw 0)) rfl dX6_bestSeat_5 ?_
  refine kr_get hx hcd hts uX5 hown hK hP 2 rfl rfl 0 (by decide) (by decide +kernel) (v := .ref (nw 1)) rfl dX6_bestSeat_8 ?_
  refine lv_iload_n hx hcd dX6_bestSeat_11 rfl (lv_at hl 1 rfl) ?_
  refine kr_Vi (As := [.int (nI a)]) (rest := []) (ws2 := wX cI cB cW ob nw tr qs sc G M N S n L T) (q := (RX3, TX3, 3)) ⟨hx, hcd, hml, hown, hts⟩ (c_X3_best l D cI cB cW cL nw _ M a (by omega)) (cwV 1 hts gX6_bestSeat_X3_best rfl rfl rfl (by decide +kernel) ⟨Nat.le_of_ble_eq_true rfl, Nat.le_of_ble_eq_true rfl⟩) hK hP hD hS hA [3, 4, 5, 6] wX_nw_SeC (by decide) wSe_adr (kset_same _ _ _ wX_nw_SeC) 3 rfl rfl rfl hl.1 rfl (Nat.le_of_ble_eq_true rfl) dX6_bestSeat_12 ⟨Nat.zero_le _, Nat.zero_le _⟩ (fun H locs hP hD hS => ?_)
  exact kr_iret hx hcd hr hlocks hK hP hD hS rfl rfl dX6_bestSeat_15

set_option maxHeartbeats 4000000 in
set_option maxRecDepth 100000 in
theorem c_X6_seat__ok (l : Launch) (D : va_G) (cI cB cW cL : ClassId) (ob nw tr : Nat → Nat) (qs : Nat → Nat → Nat) (sc : Nat → Nat) (G : Nat → Option Nat) (N : kM) (S : Nat → kM) (n L : Nat) (T : Nat → Int32) (sz : Nat) (M : kM) (a : Nat) (s : Nat) (wh : Nat) (ha : a < 6) (hs : s < 3) (hwh : wh < 3) : kMi l yX6_seat wsX6_seat ({ frames := 2, cells := 0, slots := 0, locals := 41 }) D vwCl (kT cI cB cW cL) sz [.ref (ob 0), .int (nI a), .int (nI s), .int (nI wh)] (wX cI cB cW ob nw tr qs sc G M N S n L T) (wX cI cB cW ob nw tr qs sc G M N S n L T) (M (9 * a + 3 * s + wh)) := by
  refine kr_ofi (cc := cX6_seat) (maxL := 4) (ret := (some .int)) (by decide) rfl (Nat.le_of_ble_eq_true rfl) ?_
  intro pp ee ss mm args below meth cc AA ls hx hcd hr hts hown hlocks hml hK hP hD hA hl
  have hS : va_S AA ss.heap ss.heap [] := va_S.rf
  have hown : ss.vm.findClass RX6 = some mm.cls := hown
  have hl : lv_has ls 4 [(0, .ref (ob 0)), (1, .int (nI a)), (2, .int (nI s)), (3, .int (nI wh))] := hl
  have uX5 : ∀ w ∈ u_ws RX5 TX5 5, w ∈ wsX6_seat := by decide +kernel
  have uX6 : ∀ w ∈ u_ws RX6 TX6 5, w ∈ wsX6_seat := by decide +kernel
  refine lv_iload_n hx hcd dX6_seat_0 rfl (lv_at hl 1 rfl) ?_
  refine lv_iload_n hx hcd dX6_seat_1 rfl (lv_at hl 2 rfl) ?_
  refine kr_Sv (As := [.int (nI a), .int (nI s)]) (rest := []) (ws2 := wX cI cB cW ob nw tr qs sc G M N S n L T) ⟨hx, hcd, hml, hown, hts⟩ (c_X6_checkSeat__ok l D cI cB cW cL  _ M a s (by omega) (by omega)) (va_cwS 2 hts gX6_seat_X6_checkSeat rfl rfl rfl (by decide +kernel) ⟨Nat.le_of_ble_eq_true rfl, Nat.le_of_ble_eq_true rfl⟩) hK hP hD hS hA [] rfl (by decide) rfl rfl rfl hl.1 rfl (Nat.le_of_ble_eq_true rfl) dX6_seat_2 ⟨Nat.zero_le _, Nat.zero_le _⟩ (fun H locs hP hD hS => ?_)
  refine lv_iload_n hx hcd dX6_seat_5 rfl (lv_at hl 3 rfl) ?_
  refine lv_iconst (v := nI 3) hx hcd dX6_seat_6 (by decide) ?_
  refine kr_Sv (As := [.int (nI wh), .int (nI 3)]) (rest := []) (ws2 := wX cI cB cW ob nw tr qs sc G M N S n L T) ⟨hx, hcd, hml, hown, hts⟩ (c_X6_checkWhat__ok l D cI cB cW cL  _ M wh 3 (by omega) (by omega)) (va_cwS 2 hts gX6_seat_X6_checkWhat rfl rfl rfl (by decide +kernel) ⟨Nat.le_of_ble_eq_true rfl, Nat.le_of_ble_eq_true rfl⟩) hK hP hD hS hA [] rfl (by decide) rfl rfl rfl hl.1 rfl (Nat.le_of_ble_eq_true rfl) dX6_seat_7 ⟨Nat.zero_le _, Nat.zero_le _⟩ (fun H locs hP hD hS => ?_)
  refine lv_aload_n hx hcd dX6_seat_10 rfl (lv_at hl 0 rfl) ?_
  refine kr_get hx hcd hts uX6 hown hK hP 0 rfl rfl 0 (by decide) (by decide +kernel) (v := .ref (nw 0)) rfl dX6_seat_11 ?_
  refine kr_get hx hcd hts uX5 hown hK hP 2 rfl rfl 0 (by decide) (by decide +kernel) (v := .ref (nw 1)) rfl dX6_seat_14 ?_
  refine lv_iload_n hx hcd dX6_seat_17 rfl (lv_at hl 1 rfl) ?_
  refine lv_iload_n hx hcd dX6_seat_18 rfl (lv_at hl 2 rfl) ?_
  refine lv_iload_n hx hcd dX6_seat_19 rfl (lv_at hl 3 rfl) ?_
  refine kr_Vi (As := [.int (nI a), .int (nI s), .int (nI wh)]) (rest := []) (ws2 := wX cI cB cW ob nw tr qs sc G M N S n L T) (q := (RX3, TX3, 3)) ⟨hx, hcd, hml, hown, hts⟩ (c_X3_value l D cI cB cW cL nw _ M a s wh (by omega) (by omega) (by omega)) (cwV 3 hts gX6_seat_X3_value rfl rfl rfl (by decide +kernel) ⟨Nat.le_of_ble_eq_true rfl, Nat.le_of_ble_eq_true rfl⟩) hK hP hD hS hA [3, 4, 5, 6] wX_nw_SeC (by decide) wSe_adr (kset_same _ _ _ wX_nw_SeC) 3 rfl rfl rfl hl.1 rfl (Nat.le_of_ble_eq_true rfl) dX6_seat_20 ⟨Nat.zero_le _, Nat.zero_le _⟩ (fun H locs hP hD hS => ?_)
  exact kr_iret hx hcd hr hlocks hK hP hD hS rfl rfl dX6_seat_23

set_option maxHeartbeats 4000000 in
set_option maxRecDepth 100000 in
theorem c_X6_underWay__ok (l : Launch) (D : va_G) (cI cB cW cL : ClassId) (ob nw tr : Nat → Nat) (qs : Nat → Nat → Nat) (sc : Nat → Nat) (G : Nat → Option Nat) (N : kM) (S : Nat → kM) (n L : Nat) (T : Nat → Int32) (sz : Nat) (M : kM) (hI : kInv M) : kMi l yX6_underWay wsX6_underWay ({ frames := 0, cells := 0, slots := 0, locals := 0 }) D vwCl (kT cI cB cW cL) sz [.ref (ob 0)] (wX cI cB cW ob nw tr qs sc G M N S n L T) (wX cI cB cW ob nw tr qs sc G M N S n L T) (nI (wyN M)) := by
  refine kr_ofi (cc := cX6_underWay) (maxL := 1) (ret := (some .int)) (by decide) rfl (Nat.le_of_ble_eq_true rfl) ?_
  intro pp ee ss mm args below meth cc AA ls hx hcd hr hts hown hlocks hml hK hP hD hA hl
  have hS : va_S AA ss.heap ss.heap [] := va_S.rf
  have hown : ss.vm.findClass RX6 = some mm.cls := hown
  have hl : lv_has ls 1 [(0, .ref (ob 0))] := hl
  have uX0 : ∀ w ∈ u_ws RX0 TX0 4, w ∈ wsX6_underWay := by decide +kernel
  have uX5 : ∀ w ∈ u_ws RX5 TX5 5, w ∈ wsX6_underWay := by decide +kernel
  have uX6 : ∀ w ∈ u_ws RX6 TX6 5, w ∈ wsX6_underWay := by decide +kernel
  refine lv_aload_n hx hcd dX6_underWay_0 rfl (lv_at hl 0 rfl) ?_
  refine kr_get hx hcd hts uX6 hown hK hP 0 rfl rfl 0 (by decide) (by decide +kernel) (v := .ref (nw 0)) rfl dX6_underWay_1 ?_
  refine kr_get hx hcd hts uX5 hown hK hP 2 rfl rfl 3 (by decide) (by decide +kernel) (v := .ref (nw 11)) rfl dX6_underWay_4 ?_
  refine kr_get hx hcd hts uX0 hown hK hP 13 rfl rfl 2 (by decide) (by decide +kernel) (v := .int (M 577)) rfl dX6_underWay_7 ?_
  refine kr_top (w := nI (wyN M)) (i_wy hI) ?_
  exact kr_iret hx hcd hr hlocks hK hP hD hS rfl rfl dX6_underWay_10

set_option maxHeartbeats 4000000 in
set_option maxRecDepth 100000 in
theorem c_X6_message__ok (l : Launch) (D : va_G) (cI cB cW cL : ClassId) (ob nw tr : Nat → Nat) (qs : Nat → Nat → Nat) (sc : Nat → Nat) (G : Nat → Option Nat) (N : kM) (S : Nat → kM) (n L : Nat) (T : Nat → Int32) (sz : Nat) (M : kM) (i : Nat) (wh : Nat) (hI : kInv M) (hi : i < wyN M) (hwh : wh < 5) : kMi l yX6_message wsX6_message ({ frames := 3, cells := 0, slots := 0, locals := 64 }) D vwCl (kT cI cB cW cL) sz [.ref (ob 0), .int (nI i), .int (nI wh)] (wX cI cB cW ob nw tr qs sc G M N S n L T) (wX cI cB cW ob nw tr qs sc G M N S n L T) (g_part (g_msg M i) wh) := by
  refine kr_ofi (cc := cX6_message) (maxL := 3) (ret := (some .int)) (by decide) rfl (Nat.le_of_ble_eq_true rfl) ?_
  intro pp ee ss mm args below meth cc AA ls hx hcd hr hts hown hlocks hml hK hP hD hA hl
  have hS : va_S AA ss.heap ss.heap [] := va_S.rf
  have hown : ss.vm.findClass RX6 = some mm.cls := hown
  have hl : lv_has ls 3 [(0, .ref (ob 0)), (1, .int (nI i)), (2, .int (nI wh))] := hl
  have uX5 : ∀ w ∈ u_ws RX5 TX5 5, w ∈ wsX6_message := by decide +kernel
  have uX6 : ∀ w ∈ u_ws RX6 TX6 5, w ∈ wsX6_message := by decide +kernel
  have b577 := i_wyle hI
  refine lv_aload_n hx hcd dX6_message_0 rfl (lv_at hl 0 rfl) ?_
  refine lv_iload_n hx hcd dX6_message_1 rfl (lv_at hl 1 rfl) ?_
  refine kr_Vv (As := [.int (nI i)]) (rest := []) (ws2 := wX cI cB cW ob nw tr qs sc G M N S n L T) (q := (RX6, TX6, 5)) ⟨hx, hcd, hml, hown, hts⟩ (c_X6_checkMessage__ok l D cI cB cW cL ob nw tr qs sc G N S n L T _ M i hI (by omega)) (cwV 1 hts gX6_message_X6_checkMessage rfl rfl rfl (by decide +kernel) ⟨Nat.le_of_ble_eq_true rfl, Nat.le_of_ble_eq_true rfl⟩) hK hP hD hS hA [0, 1, 2, 3, 4, 5, 6, 7, 8, 9, 10, 11, 12, 13, 14, 15, 16, 17, 18, 19, 20, 21, 22, 23, 24, 25, 26, 27, 28, 29, 30, 31, 32, 33, 34, 35, 36, 37, 38, 39, 40, 41, 42, 43, 44, 45, 46, 47, 48, 49, 50, 51, 52, 53, 54, 55, 56, 57, 58, 59, 60, 61, 62, 63, 64, 65, 66, 67, 68, 69, 70, 71, 72, 73, 74, 75, 76, 77, 78, 79, 80, 81, 82, 83, 84, 85, 86, 87, 88, 89, 90, 91, 92, 93] wX_allC wX_nd wX_adr wX_all 0 rfl rfl rfl hl.1 rfl (Nat.le_of_ble_eq_true rfl) dX6_message_2 ⟨Nat.zero_le _, Nat.zero_le _⟩ (fun H locs hP hD hS => ?_)
  refine lv_iload_n hx hcd dX6_message_5 rfl (lv_at hl 2 rfl) ?_
  refine lv_iconst (v := nI 5) hx hcd dX6_message_6 (by decide) ?_
  refine kr_Sv (As := [.int (nI wh), .int (nI 5)]) (rest := []) (ws2 := wX cI cB cW ob nw tr qs sc G M N S n L T) ⟨hx, hcd, hml, hown, hts⟩ (c_X6_checkWhat__ok l D cI cB cW cL  _ M wh 5 (by omega) (by omega)) (va_cwS 2 hts gX6_message_X6_checkWhat rfl rfl rfl (by decide +kernel) ⟨Nat.le_of_ble_eq_true rfl, Nat.le_of_ble_eq_true rfl⟩) hK hP hD hS hA [] rfl (by decide) rfl rfl rfl hl.1 rfl (Nat.le_of_ble_eq_true rfl) dX6_message_7 ⟨Nat.zero_le _, Nat.zero_le _⟩ (fun H locs hP hD hS => ?_)
  refine lv_aload_n hx hcd dX6_message_10 rfl (lv_at hl 0 rfl) ?_
  refine kr_get hx hcd hts uX6 hown hK hP 0 rfl rfl 0 (by decide) (by decide +kernel) (v := .ref (nw 0)) rfl dX6_message_11 ?_
  refine kr_get hx hcd hts uX5 hown hK hP 2 rfl rfl 3 (by decide) (by decide +kernel) (v := .ref (nw 11)) rfl dX6_message_14 ?_
  refine lv_iload_n hx hcd dX6_message_17 rfl (lv_at hl 1 rfl) ?_
  refine kr_Vi (As := [.int (nI i)]) (rest := []) (ws2 := wX cI cB cW ob nw tr qs sc G M N S n L T) (q := (RX0, TX0, 4)) ⟨hx, hcd, hml, hown, hts⟩ (c_X0_messageAt l D cI cB cW cL nw _ M i hI (by omega)) (cwV 1 hts gX6_message_X0_messageAt rfl rfl rfl (by decide +kernel) ⟨Nat.le_of_ble_eq_true rfl, Nat.le_of_ble_eq_true rfl⟩) hK hP hD hS hA [13, 14, 15] wX_nw_PoC (by decide) wPo_adr (kset_same _ _ _ wX_nw_PoC) 13 rfl rfl rfl hl.1 rfl (Nat.le_of_ble_eq_true rfl) dX6_message_18 ⟨Nat.zero_le _, Nat.zero_le _⟩ (fun H locs hP hD hS => ?_)
  refine lv_iload_n hx hcd dX6_message_21 rfl (lv_at hl 2 rfl) ?_
  refine kr_Si (As := [.int (nI (cvN (g_msg M i))), .int (nI wh)]) (rest := []) (ws2 := wX cI cB cW ob nw tr qs sc G M N S n L T) ⟨hx, hcd, hml, hown, hts⟩ (c_X0_part l D cI cB cW cL  _ M (cvN (g_msg M i)) wh (g_msg M i) (by omega) rfl (i_msg hI i).1 (i_msglt hI i)) (va_cwS 2 hts gX6_message_X0_part rfl rfl rfl (by decide +kernel) ⟨Nat.le_of_ble_eq_true rfl, Nat.le_of_ble_eq_true rfl⟩) hK hP hD hS hA [] rfl (by decide) rfl rfl rfl hl.1 rfl (Nat.le_of_ble_eq_true rfl) dX6_message_22 ⟨Nat.zero_le _, Nat.zero_le _⟩ (fun H locs hP hD hS => ?_)
  exact kr_iret hx hcd hr hlocks hK hP hD hS rfl rfl dX6_message_25

set_option maxHeartbeats 4000000 in
set_option maxRecDepth 100000 in
theorem c_X6_count__ok (l : Launch) (D : va_G) (cI cB cW cL : ClassId) (ob nw tr : Nat → Nat) (qs : Nat → Nat → Nat) (sc : Nat → Nat) (G : Nat → Option Nat) (N : kM) (S : Nat → kM) (n L : Nat) (T : Nat → Int32) (sz : Nat) (M : kM) (wh : Nat) (hwh : wh < 3) : kMi l yX6_count wsX6_count ({ frames := 1, cells := 0, slots := 0, locals := 21 }) D vwCl (kT cI cB cW cL) sz [.ref (ob 0), .int (nI wh)] (wX cI cB cW ob nw tr qs sc G M N S n L T) (wX cI cB cW ob nw tr qs sc G M N S n L T) (M (578 + wh)) := by
  refine kr_ofi (cc := cX6_count) (maxL := 2) (ret := (some .int)) (by decide) rfl (Nat.le_of_ble_eq_true rfl) ?_
  intro pp ee ss mm args below meth cc AA ls hx hcd hr hts hown hlocks hml hK hP hD hA hl
  have hS : va_S AA ss.heap ss.heap [] := va_S.rf
  have hown : ss.vm.findClass RX6 = some mm.cls := hown
  have hl : lv_has ls 2 [(0, .ref (ob 0)), (1, .int (nI wh))] := hl
  have uX0 : ∀ w ∈ u_ws RX0 TX0 4, w ∈ wsX6_count := by decide +kernel
  have uX5 : ∀ w ∈ u_ws RX5 TX5 5, w ∈ wsX6_count := by decide +kernel
  have uX6 : ∀ w ∈ u_ws RX6 TX6 5, w ∈ wsX6_count := by decide +kernel
  refine lv_iload_n hx hcd dX6_count_0 rfl (lv_at hl 1 rfl) ?_
  refine lv_iconst (v := nI 3) hx hcd dX6_count_1 (by decide) ?_
  refine kr_Sv (As := [.int (nI wh), .int (nI 3)]) (rest := []) (ws2 := wX cI cB cW ob nw tr qs sc G M N S n L T) ⟨hx, hcd, hml, hown, hts⟩ (c_X6_checkWhat__ok l D cI cB cW cL  _ M wh 3 (by omega) (by omega)) (va_cwS 2 hts gX6_count_X6_checkWhat rfl rfl rfl (by decide +kernel) ⟨Nat.le_of_ble_eq_true rfl, Nat.le_of_ble_eq_true rfl⟩) hK hP hD hS hA [] rfl (by decide) rfl rfl rfl hl.1 rfl (Nat.le_of_ble_eq_true rfl) dX6_count_2 ⟨Nat.zero_le _, Nat.zero_le _⟩ (fun H locs hP hD hS => ?_)
  refine lv_aload_n hx hcd dX6_count_5 rfl (lv_at hl 0 rfl) ?_
  refine kr_get hx hcd hts uX6 hown hK hP 0 rfl rfl 0 (by decide) (by decide +kernel) (v := .ref (nw 0)) rfl dX6_count_6 ?_
  refine kr_get hx hcd hts uX5 hown hK hP 2 rfl rfl 3 (by decide) (by decide +kernel) (v := .ref (nw 11)) rfl dX6_count_9 ?_
  refine kr_get hx hcd hts uX0 hown hK hP 13 rfl rfl 3 (by decide) (by decide +kernel) (v := .ref (nw 13)) rfl dX6_count_12 ?_
  refine lv_iload_n hx hcd dX6_count_15 rfl (lv_at hl 1 rfl) ?_
  refine kr_iald hx hcd hK hP 15 0 rfl rfl (v := M (578 + wh)) (by omega) (by decide) (vw_at (by omega) (by omega)) dX6_count_16 ?_
  exact kr_iret hx hcd hr hlocks hK hP hD hS rfl rfl dX6_count_17

set_option maxHeartbeats 4000000 in
set_option maxRecDepth 100000 in
theorem c_X6_entry__ok (l : Launch) (D : va_G) (cI cB cW cL : ClassId) (ob nw tr : Nat → Nat) (qs : Nat → Nat → Nat) (sc : Nat → Nat) (G : Nat → Option Nat) (N : kM) (S : Nat → kM) (n L : Nat) (T : Nat → Int32) (sz : Nat) (M : kM) (a : Nat) (b : Nat) (ha : a < 6) (hb : b < 6) (hne : a ≠ b) : kMi l yX6_entry wsX6_entry ({ frames := 2, cells := 0, slots := 0, locals := 41 }) D vwCl (kT cI cB cW cL) sz [.ref (ob 0), .int (nI a), .int (nI b)] (wX cI cB cW ob nw tr qs sc G M N S n L T) (wX cI cB cW ob nw tr qs sc G M N S n L T) (g_st M a b) := by
  refine kr_ofi (cc := cX6_entry) (maxL := 3) (ret := (some .int)) (by decide) rfl (Nat.le_of_ble_eq_true rfl) ?_
  intro pp ee ss mm args below meth cc AA ls hx hcd hr hts hown hlocks hml hK hP hD hA hl
  have hS : va_S AA ss.heap ss.heap [] := va_S.rf
  have hown : ss.vm.findClass RX6 = some mm.cls := hown
  have hl : lv_has ls 3 [(0, .ref (ob 0)), (1, .int (nI a)), (2, .int (nI b))] := hl
  have uX5 : ∀ w ∈ u_ws RX5 TX5 5, w ∈ wsX6_entry := by decide +kernel
  have uX6 : ∀ w ∈ u_ws RX6 TX6 5, w ∈ wsX6_entry := by decide +kernel
  refine lv_iload_n hx hcd dX6_entry_0 rfl (lv_at hl 1 rfl) ?_
  refine lv_iload_n hx hcd dX6_entry_1 rfl (lv_at hl 2 rfl) ?_
  refine kr_Sv (As := [.int (nI a), .int (nI b)]) (rest := []) (ws2 := wX cI cB cW ob nw tr qs sc G M N S n L T) ⟨hx, hcd, hml, hown, hts⟩ (c_X6_checkPair__ok l D cI cB cW cL  _ M a b (by omega) (by omega) (by omega)) (va_cwS 2 hts gX6_entry_X6_checkPair rfl rfl rfl (by decide +kernel) ⟨Nat.le_of_ble_eq_true rfl, Nat.le_of_ble_eq_true rfl⟩) hK hP hD hS hA [] rfl (by decide) rfl rfl rfl hl.1 rfl (Nat.le_of_ble_eq_true rfl) dX6_entry_2 ⟨Nat.zero_le _, Nat.zero_le _⟩ (fun H locs hP hD hS => ?_)
  refine lv_aload_n hx hcd dX6_entry_5 rfl (lv_at hl 0 rfl) ?_
  refine kr_get hx hcd hts uX6 hown hK hP 0 rfl rfl 0 (by decide) (by decide +kernel) (v := .ref (nw 0)) rfl dX6_entry_6 ?_
  refine kr_get hx hcd hts uX5 hown hK hP 2 rfl rfl 1 (by decide) (by decide +kernel) (v := .ref (nw 5)) rfl dX6_entry_9 ?_
  refine lv_iload_n hx hcd dX6_entry_12 rfl (lv_at hl 1 rfl) ?_
  refine lv_iload_n hx hcd dX6_entry_13 rfl (lv_at hl 2 rfl) ?_
  refine kr_Vi (As := [.int (nI a), .int (nI b)]) (rest := []) (ws2 := wX cI cB cW ob nw tr qs sc G M N S n L T) (q := (RX1, TX1, 3)) ⟨hx, hcd, hml, hown, hts⟩ (c_X1_state l D cI cB cW cL nw _ M a b (by omega) (by omega)) (cwV 2 hts gX6_entry_X1_state rfl rfl rfl (by decide +kernel) ⟨Nat.le_of_ble_eq_true rfl, Nat.le_of_ble_eq_true rfl⟩) hK hP hD hS hA [7, 8, 9, 10] wX_nw_RoC (by decide) wRo_adr (kset_same _ _ _ wX_nw_RoC) 7 rfl rfl rfl hl.1 rfl (Nat.le_of_ble_eq_true rfl) dX6_entry_14 ⟨Nat.zero_le _, Nat.zero_le _⟩ (fun H locs hP hD hS => ?_)
  exact kr_iret hx hcd hr hlocks hK hP hD hS rfl rfl dX6_entry_17

set_option maxHeartbeats 4000000 in
set_option maxRecDepth 100000 in
theorem c_X6_version__ok0 (l : Launch) (D : va_G) (cI cB cW cL : ClassId) (ob nw tr : Nat → Nat) (qs : Nat → Nat → Nat) (sc : Nat → Nat) (G : Nat → Option Nat) (N : kM) (S : Nat → kM) (n L : Nat) (T : Nat → Int32) (sz : Nat) (M : kM) (a : Nat) (ha : a < 6) : kMi l yX6_version wsX6_version ({ frames := 1, cells := 0, slots := 0, locals := 21 }) D vwCl (kT cI cB cW cL) sz [.ref (ob 0), .int (nI a), .int (-1)] (wX cI cB cW ob nw tr qs sc G M N S n L T) (wX cI cB cW ob nw tr qs sc G M N S n L T) (M (126 + a)) := by
  refine kr_ofi (cc := cX6_version) (maxL := 3) (ret := (some .int)) (by decide) rfl (Nat.le_of_ble_eq_true rfl) ?_
  intro pp ee ss mm args below meth cc AA ls hx hcd hr hts hown hlocks hml hK hP hD hA hl
  have hS : va_S AA ss.heap ss.heap [] := va_S.rf
  have hown : ss.vm.findClass RX6 = some mm.cls := hown
  have hl : lv_has ls 3 [(0, .ref (ob 0)), (1, .int (nI a)), (2, .int (-1))] := hl
  have uX5 : ∀ w ∈ u_ws RX5 TX5 5, w ∈ wsX6_version := by decide +kernel
  have uX6 : ∀ w ∈ u_ws RX6 TX6 5, w ∈ wsX6_version := by decide +kernel
  refine lv_iload_n hx hcd dX6_version_0 rfl (lv_at hl 1 rfl) ?_
  refine kr_Sv (As := [.int (nI a)]) (rest := []) (ws2 := wX cI cB cW ob nw tr qs sc G M N S n L T) ⟨hx, hcd, hml, hown, hts⟩ (c_X6_checkUser__ok l D cI cB cW cL  _ M a (by omega)) (va_cwS 1 hts gX6_version_X6_checkUser rfl rfl rfl (by decide +kernel) ⟨Nat.le_of_ble_eq_true rfl, Nat.le_of_ble_eq_true rfl⟩) hK hP hD hS hA [] rfl (by decide) rfl rfl rfl hl.1 rfl (Nat.le_of_ble_eq_true rfl) dX6_version_1 ⟨Nat.zero_le _, Nat.zero_le _⟩ (fun H locs hP hD hS => ?_)
  refine lv_iload_n hx hcd dX6_version_4 rfl (lv_at hl 2 rfl) ?_
  refine lv_iconst (v := (-1)) hx hcd dX6_version_5 (by decide) ?_
  refine lv_icmp_ne (tgt := 21) hx hcd dX6_version_6 (by decide) (fun (c_6 : ¬ (-1) = (-1)) => absurd c_6 (not_not_intro rfl)) (fun (c_6 : (-1) = (-1)) => ?_)
  refine lv_aload_n hx hcd dX6_version_9 rfl (lv_at hl 0 rfl) ?_
  refine kr_get hx hcd hts uX6 hown hK hP 0 rfl rfl 0 (by decide) (by decide +kernel) (v := .ref (nw 0)) rfl dX6_version_10 ?_
  refine kr_get hx hcd hts uX5 hown hK hP 2 rfl rfl 1 (by decide) (by decide +kernel) (v := .ref (nw 5)) rfl dX6_version_13 ?_
  refine lv_iload_n hx hcd dX6_version_16 rfl (lv_at hl 1 rfl) ?_
  refine kr_Vi (As := [.int (nI a)]) (rest := []) (ws2 := wX cI cB cW ob nw tr qs sc G M N S n L T) (q := (RX1, TX1, 3)) ⟨hx, hcd, hml, hown, hts⟩ (c_X1_rosterVersion l D cI cB cW cL nw _ M a (by omega)) (cwV 1 hts gX6_version_X1_rosterVersion rfl rfl rfl (by decide +kernel) ⟨Nat.le_of_ble_eq_true rfl, Nat.le_of_ble_eq_true rfl⟩) hK hP hD hS hA [7, 8, 9, 10] wX_nw_RoC (by decide) wRo_adr (kset_same _ _ _ wX_nw_RoC) 7 rfl rfl rfl hl.1 rfl (Nat.le_of_ble_eq_true rfl) dX6_version_17 ⟨Nat.zero_le _, Nat.zero_le _⟩ (fun H locs hP hD hS => ?_)
  exact kr_iret hx hcd hr hlocks hK hP hD hS rfl rfl dX6_version_20

set_option maxHeartbeats 4000000 in
set_option maxRecDepth 100000 in
theorem c_X6_version__ok1 (l : Launch) (D : va_G) (cI cB cW cL : ClassId) (ob nw tr : Nat → Nat) (qs : Nat → Nat → Nat) (sc : Nat → Nat) (G : Nat → Option Nat) (N : kM) (S : Nat → kM) (n L : Nat) (T : Nat → Int32) (sz : Nat) (M : kM) (a : Nat) (b : Nat) (ha : a < 6) (hb : b < 6) (hne : a ≠ b) : kMi l yX6_version wsX6_version ({ frames := 2, cells := 0, slots := 0, locals := 41 }) D vwCl (kT cI cB cW cL) sz [.ref (ob 0), .int (nI a), .int (nI b)] (wX cI cB cW ob nw tr qs sc G M N S n L T) (wX cI cB cW ob nw tr qs sc G M N S n L T) (M (90 + 6 * a + b)) := by
  refine kr_ofi (cc := cX6_version) (maxL := 3) (ret := (some .int)) (by decide) rfl (Nat.le_of_ble_eq_true rfl) ?_
  intro pp ee ss mm args below meth cc AA ls hx hcd hr hts hown hlocks hml hK hP hD hA hl
  have hS : va_S AA ss.heap ss.heap [] := va_S.rf
  have hown : ss.vm.findClass RX6 = some mm.cls := hown
  have hl : lv_has ls 3 [(0, .ref (ob 0)), (1, .int (nI a)), (2, .int (nI b))] := hl
  have uX5 : ∀ w ∈ u_ws RX5 TX5 5, w ∈ wsX6_version := by decide +kernel
  have uX6 : ∀ w ∈ u_ws RX6 TX6 5, w ∈ wsX6_version := by decide +kernel
  refine lv_iload_n hx hcd dX6_version_0 rfl (lv_at hl 1 rfl) ?_
  refine kr_Sv (As := [.int (nI a)]) (rest := []) (ws2 := wX cI cB cW ob nw tr qs sc G M N S n L T) ⟨hx, hcd, hml, hown, hts⟩ (c_X6_checkUser__ok l D cI cB cW cL  _ M a (by omega)) (va_cwS 1 hts gX6_version_X6_checkUser rfl rfl rfl (by decide +kernel) ⟨Nat.le_of_ble_eq_true rfl, Nat.le_of_ble_eq_true rfl⟩) hK hP hD hS hA [] rfl (by decide) rfl rfl rfl hl.1 rfl (Nat.le_of_ble_eq_true rfl) dX6_version_1 ⟨Nat.zero_le _, Nat.zero_le _⟩ (fun H locs hP hD hS => ?_)
  refine lv_iload_n hx hcd dX6_version_4 rfl (lv_at hl 2 rfl) ?_
  refine lv_iconst (v := (-1)) hx hcd dX6_version_5 (by decide) ?_
  refine lv_icmp_ne (tgt := 21) hx hcd dX6_version_6 (by decide) (fun (c_6 : ¬ (nI b) = (-1)) => ?_) (fun (c_6 : (nI b) = (-1)) => absurd c_6 (nI_m1 (by omega)))
  refine lv_iload_n hx hcd dX6_version_21 rfl (lv_at hl 1 rfl) ?_
  refine lv_iload_n hx hcd dX6_version_22 rfl (lv_at hl 2 rfl) ?_
  refine kr_Sv (As := [.int (nI a), .int (nI b)]) (rest := []) (ws2 := wX cI cB cW ob nw tr qs sc G M N S n L T) ⟨hx, hcd, hml, hown, hts⟩ (c_X6_checkPair__ok l D cI cB cW cL  _ M a b (by omega) (by omega) (by omega)) (va_cwS 2 hts gX6_version_X6_checkPair rfl rfl rfl (by decide +kernel) ⟨Nat.le_of_ble_eq_true rfl, Nat.le_of_ble_eq_true rfl⟩) hK hP hD hS hA [] rfl (by decide) rfl rfl rfl hl.1 rfl (Nat.le_of_ble_eq_true rfl) dX6_version_23 ⟨Nat.zero_le _, Nat.zero_le _⟩ (fun H locs hP hD hS => ?_)
  refine lv_aload_n hx hcd dX6_version_26 rfl (lv_at hl 0 rfl) ?_
  refine kr_get hx hcd hts uX6 hown hK hP 0 rfl rfl 0 (by decide) (by decide +kernel) (v := .ref (nw 0)) rfl dX6_version_27 ?_
  refine kr_get hx hcd hts uX5 hown hK hP 2 rfl rfl 1 (by decide) (by decide +kernel) (v := .ref (nw 5)) rfl dX6_version_30 ?_
  refine lv_iload_n hx hcd dX6_version_33 rfl (lv_at hl 1 rfl) ?_
  refine lv_iload_n hx hcd dX6_version_34 rfl (lv_at hl 2 rfl) ?_
  refine kr_Vi (As := [.int (nI a), .int (nI b)]) (rest := []) (ws2 := wX cI cB cW ob nw tr qs sc G M N S n L T) (q := (RX1, TX1, 3)) ⟨hx, hcd, hml, hown, hts⟩ (c_X1_entryVersion l D cI cB cW cL nw _ M a b (by omega) (by omega)) (cwV 2 hts gX6_version_X1_entryVersion rfl rfl rfl (by decide +kernel) ⟨Nat.le_of_ble_eq_true rfl, Nat.le_of_ble_eq_true rfl⟩) hK hP hD hS hA [7, 8, 9, 10] wX_nw_RoC (by decide) wRo_adr (kset_same _ _ _ wX_nw_RoC) 7 rfl rfl rfl hl.1 rfl (Nat.le_of_ble_eq_true rfl) dX6_version_35 ⟨Nat.zero_le _, Nat.zero_le _⟩ (fun H locs hP hD hS => ?_)
  exact kr_iret hx hcd hr hlocks hK hP hD hS rfl rfl dX6_version_38

set_option maxHeartbeats 4000000 in
set_option maxRecDepth 100000 in
theorem c_X6_changedSince__ok (l : Launch) (D : va_G) (cI cB cW cL : ClassId) (ob nw tr : Nat → Nat) (qs : Nat → Nat → Nat) (sc : Nat → Nat) (G : Nat → Option Nat) (N : kM) (S : Nat → kM) (n L : Nat) (T : Nat → Int32) (sz : Nat) (M : kM) (a : Nat) (v : Int32) (ha : a < 6) (hv : ¬ v < 0) : kMi l yX6_changedSince wsX6_changedSince ({ frames := 1, cells := 0, slots := 0, locals := 24 }) D vwCl (kT cI cB cW cL) sz [.ref (ob 0), .int (nI a), .int v] (wX cI cB cW ob nw tr qs sc G M N S n L T) (wX cI cB cW ob nw tr qs sc G M N S n L T) (nI (g_chgN M a v 6)) := by
  refine kr_ofi (cc := cX6_changedSince) (maxL := 3) (ret := (some .int)) (by decide) rfl (Nat.le_of_ble_eq_true rfl) ?_
  intro pp ee ss mm args below meth cc AA ls hx hcd hr hts hown hlocks hml hK hP hD hA hl
  have hS : va_S AA ss.heap ss.heap [] := va_S.rf
  have hown : ss.vm.findClass RX6 = some mm.cls := hown
  have hl : lv_has ls 3 [(0, .ref (ob 0)), (1, .int (nI a)), (2, .int v)] := hl
  have uX5 : ∀ w ∈ u_ws RX5 TX5 5, w ∈ wsX6_changedSince := by decide +kernel
  have uX6 : ∀ w ∈ u_ws RX6 TX6 5, w ∈ wsX6_changedSince := by decide +kernel
  refine lv_iload_n hx hcd dX6_changedSince_0 rfl (lv_at hl 1 rfl) ?_
  refine kr_Sv (As := [.int (nI a)]) (rest := []) (ws2 := wX cI cB cW ob nw tr qs sc G M N S n L T) ⟨hx, hcd, hml, hown, hts⟩ (c_X6_checkUser__ok l D cI cB cW cL  _ M a (by omega)) (va_cwS 1 hts gX6_changedSince_X6_checkUser rfl rfl rfl (by decide +kernel) ⟨Nat.le_of_ble_eq_true rfl, Nat.le_of_ble_eq_true rfl⟩) hK hP hD hS hA [] rfl (by decide) rfl rfl rfl hl.1 rfl (Nat.le_of_ble_eq_true rfl) dX6_changedSince_1 ⟨Nat.zero_le _, Nat.zero_le _⟩ (fun H locs hP hD hS => ?_)
  refine lv_iload_n hx hcd dX6_changedSince_4 rfl (lv_at hl 2 rfl) ?_
  refine lv_if_ge (tgt := 18) hx hcd dX6_changedSince_5 (by decide) (fun (c_5 : 0 ≤ v) => ?_) (fun (c_5 : ¬ 0 ≤ v) => absurd c_5 (fun h => h (ge_of_nlt hv)))
  refine lv_aload_n hx hcd dX6_changedSince_18 rfl (lv_at hl 0 rfl) ?_
  refine kr_get hx hcd hts uX6 hown hK hP 0 rfl rfl 0 (by decide) (by decide +kernel) (v := .ref (nw 0)) rfl dX6_changedSince_19 ?_
  refine kr_get hx hcd hts uX5 hown hK hP 2 rfl rfl 1 (by decide) (by decide +kernel) (v := .ref (nw 5)) rfl dX6_changedSince_22 ?_
  refine lv_iload_n hx hcd dX6_changedSince_25 rfl (lv_at hl 1 rfl) ?_
  refine lv_iload_n hx hcd dX6_changedSince_26 rfl (lv_at hl 2 rfl) ?_
  refine kr_Vi (As := [.int (nI a), .int v]) (rest := []) (ws2 := wX cI cB cW ob nw tr qs sc G M N S n L T) (q := (RX1, TX1, 3)) ⟨hx, hcd, hml, hown, hts⟩ (c_X1_changedAfter l D cI cB cW cL nw _ M a v (by omega)) (cwV 2 hts gX6_changedSince_X1_changedAfter rfl rfl rfl (by decide +kernel) ⟨Nat.le_of_ble_eq_true rfl, Nat.le_of_ble_eq_true rfl⟩) hK hP hD hS hA [7, 8, 9, 10] wX_nw_RoC (by decide) wRo_adr (kset_same _ _ _ wX_nw_RoC) 7 rfl rfl rfl hl.1 rfl (Nat.le_of_ble_eq_true rfl) dX6_changedSince_27 ⟨Nat.zero_le _, Nat.zero_le _⟩ (fun H locs hP hD hS => ?_)
  exact kr_iret hx hcd hr hlocks hK hP hD hS rfl rfl dX6_changedSince_30

set_option maxHeartbeats 4000000 in
set_option maxRecDepth 100000 in
theorem c_X6_view__ok (l : Launch) (D : va_G) (cI cB cW cL : ClassId) (ob nw tr : Nat → Nat) (qs : Nat → Nat → Nat) (sc : Nat → Nat) (G : Nat → Option Nat) (N : kM) (S : Nat → kM) (n L : Nat) (T : Nat → Int32) (sz : Nat) (M : kM) (a : Nat) (b : Nat) (s : Nat) (ha : a < 6) (hb : b < 6) (hs : s < 3) (hne : a ≠ b) : kMi l yX6_view wsX6_view ({ frames := 2, cells := 0, slots := 0, locals := 41 }) D vwCl (kT cI cB cW cL) sz [.ref (ob 0), .int (nI a), .int (nI b), .int (nI s)] (wX cI cB cW ob nw tr qs sc G M N S n L T) (wX cI cB cW ob nw tr qs sc G M N S n L T) (M (132 + 18 * a + 3 * b + s)) := by
  refine kr_ofi (cc := cX6_view) (maxL := 4) (ret := (some .int)) (by decide) rfl (Nat.le_of_ble_eq_true rfl) ?_
  intro pp ee ss mm args below meth cc AA ls hx hcd hr hts hown hlocks hml hK hP hD hA hl
  have hS : va_S AA ss.heap ss.heap [] := va_S.rf
  have hown : ss.vm.findClass RX6 = some mm.cls := hown
  have hl : lv_has ls 4 [(0, .ref (ob 0)), (1, .int (nI a)), (2, .int (nI b)), (3, .int (nI s))] := hl
  have uX5 : ∀ w ∈ u_ws RX5 TX5 5, w ∈ wsX6_view := by decide +kernel
  have uX6 : ∀ w ∈ u_ws RX6 TX6 5, w ∈ wsX6_view := by decide +kernel
  refine lv_iload_n hx hcd dX6_view_0 rfl (lv_at hl 1 rfl) ?_
  refine lv_iload_n hx hcd dX6_view_1 rfl (lv_at hl 3 rfl) ?_
  refine kr_Sv (As := [.int (nI a), .int (nI s)]) (rest := []) (ws2 := wX cI cB cW ob nw tr qs sc G M N S n L T) ⟨hx, hcd, hml, hown, hts⟩ (c_X6_checkSeat__ok l D cI cB cW cL  _ M a s (by omega) (by omega)) (va_cwS 2 hts gX6_view_X6_checkSeat rfl rfl rfl (by decide +kernel) ⟨Nat.le_of_ble_eq_true rfl, Nat.le_of_ble_eq_true rfl⟩) hK hP hD hS hA [] rfl (by decide) rfl rfl rfl hl.1 rfl (Nat.le_of_ble_eq_true rfl) dX6_view_2 ⟨Nat.zero_le _, Nat.zero_le _⟩ (fun H locs hP hD hS => ?_)
  refine lv_iload_n hx hcd dX6_view_5 rfl (lv_at hl 1 rfl) ?_
  refine lv_iload_n hx hcd dX6_view_6 rfl (lv_at hl 2 rfl) ?_
  refine kr_Sv (As := [.int (nI a), .int (nI b)]) (rest := []) (ws2 := wX cI cB cW ob nw tr qs sc G M N S n L T) ⟨hx, hcd, hml, hown, hts⟩ (c_X6_checkPair__ok l D cI cB cW cL  _ M a b (by omega) (by omega) (by omega)) (va_cwS 2 hts gX6_view_X6_checkPair rfl rfl rfl (by decide +kernel) ⟨Nat.le_of_ble_eq_true rfl, Nat.le_of_ble_eq_true rfl⟩) hK hP hD hS hA [] rfl (by decide) rfl rfl rfl hl.1 rfl (Nat.le_of_ble_eq_true rfl) dX6_view_7 ⟨Nat.zero_le _, Nat.zero_le _⟩ (fun H locs hP hD hS => ?_)
  refine lv_aload_n hx hcd dX6_view_10 rfl (lv_at hl 0 rfl) ?_
  refine kr_get hx hcd hts uX6 hown hK hP 0 rfl rfl 0 (by decide) (by decide +kernel) (v := .ref (nw 0)) rfl dX6_view_11 ?_
  refine kr_get hx hcd hts uX5 hown hK hP 2 rfl rfl 2 (by decide) (by decide +kernel) (v := .ref (nw 9)) rfl dX6_view_14 ?_
  refine lv_iload_n hx hcd dX6_view_17 rfl (lv_at hl 1 rfl) ?_
  refine lv_iload_n hx hcd dX6_view_18 rfl (lv_at hl 2 rfl) ?_
  refine lv_iload_n hx hcd dX6_view_19 rfl (lv_at hl 3 rfl) ?_
  refine kr_Vi (As := [.int (nI a), .int (nI b), .int (nI s)]) (rest := []) (ws2 := wX cI cB cW ob nw tr qs sc G M N S n L T) (q := (RX4, TX4, 1)) ⟨hx, hcd, hml, hown, hts⟩ (c_X4_mood l D cI cB cW cL nw _ M a b s (by omega) (by omega) (by omega)) (cwV 3 hts gX6_view_X4_mood rfl rfl rfl (by decide +kernel) ⟨Nat.le_of_ble_eq_true rfl, Nat.le_of_ble_eq_true rfl⟩) hK hP hD hS hA [11, 12] wX_nw_ViC (by decide) wVi_adr (kset_same _ _ _ wX_nw_ViC) 11 rfl rfl rfl hl.1 rfl (Nat.le_of_ble_eq_true rfl) dX6_view_20 ⟨Nat.zero_le _, Nat.zero_le _⟩ (fun H locs hP hD hS => ?_)
  exact kr_iret hx hcd hr hlocks hK hP hD hS rfl rfl dX6_view_23

set_option maxHeartbeats 4000000 in
set_option maxRecDepth 100000 in
theorem c_X6_areApart__ok (l : Launch) (D : va_G) (cI cB cW cL : ClassId) (ob nw tr : Nat → Nat) (qs : Nat → Nat → Nat) (sc : Nat → Nat) (G : Nat → Option Nat) (N : kM) (S : Nat → kM) (n L : Nat) (T : Nat → Int32) (sz : Nat) (M : kM) (a : Nat) (b : Nat) (ha : a < 6) (hb : b < 6) (hne : a ≠ b) : kMi l yX6_areApart wsX6_areApart ({ frames := 2, cells := 0, slots := 0, locals := 41 }) D vwCl (kT cI cB cW cL) sz [.ref (ob 0), .int (nI a), .int (nI b)] (wX cI cB cW ob nw tr qs sc G M N S n L T) (wX cI cB cW ob nw tr qs sc G M N S n L T) (kI (g_apart M a b)) := by
  refine kr_ofi (cc := cX6_areApart) (maxL := 3) (ret := (some .boolean)) (by decide) rfl (Nat.le_of_ble_eq_true rfl) ?_
  intro pp ee ss mm args below meth cc AA ls hx hcd hr hts hown hlocks hml hK hP hD hA hl
  have hS : va_S AA ss.heap ss.heap [] := va_S.rf
  have hown : ss.vm.findClass RX6 = some mm.cls := hown
  have hl : lv_has ls 3 [(0, .ref (ob 0)), (1, .int (nI a)), (2, .int (nI b))] := hl
  have uX6 : ∀ w ∈ u_ws RX6 TX6 5, w ∈ wsX6_areApart := by decide +kernel
  refine lv_iload_n hx hcd dX6_areApart_0 rfl (lv_at hl 1 rfl) ?_
  refine lv_iload_n hx hcd dX6_areApart_1 rfl (lv_at hl 2 rfl) ?_
  refine kr_Sv (As := [.int (nI a), .int (nI b)]) (rest := []) (ws2 := wX cI cB cW ob nw tr qs sc G M N S n L T) ⟨hx, hcd, hml, hown, hts⟩ (c_X6_checkPair__ok l D cI cB cW cL  _ M a b (by omega) (by omega) (by omega)) (va_cwS 2 hts gX6_areApart_X6_checkPair rfl rfl rfl (by decide +kernel) ⟨Nat.le_of_ble_eq_true rfl, Nat.le_of_ble_eq_true rfl⟩) hK hP hD hS hA [] rfl (by decide) rfl rfl rfl hl.1 rfl (Nat.le_of_ble_eq_true rfl) dX6_areApart_2 ⟨Nat.zero_le _, Nat.zero_le _⟩ (fun H locs hP hD hS => ?_)
  refine lv_aload_n hx hcd dX6_areApart_5 rfl (lv_at hl 0 rfl) ?_
  refine kr_get hx hcd hts uX6 hown hK hP 0 rfl rfl 0 (by decide) (by decide +kernel) (v := .ref (nw 0)) rfl dX6_areApart_6 ?_
  refine lv_iload_n hx hcd dX6_areApart_9 rfl (lv_at hl 1 rfl) ?_
  refine lv_iload_n hx hcd dX6_areApart_10 rfl (lv_at hl 2 rfl) ?_
  refine kr_Vi (As := [.int (nI a), .int (nI b)]) (rest := []) (ws2 := wX cI cB cW ob nw tr qs sc G M N S n L T) (q := (RX5, TX5, 5)) ⟨hx, hcd, hml, hown, hts⟩ (c_X5_apart l D cI cB cW cL nw _ M a b (by omega) (by omega)) (cwV 2 hts gX6_areApart_X5_apart rfl rfl rfl (by decide +kernel) ⟨Nat.le_of_ble_eq_true rfl, Nat.le_of_ble_eq_true rfl⟩) hK hP hD hS hA [2, 3, 4, 5, 6, 7, 8, 9, 10, 11, 12, 13, 14, 15, 16] wX_nw_WC (by decide) wW_adr (kset_same _ _ _ wX_nw_WC) 2 rfl rfl rfl hl.1 rfl (Nat.le_of_ble_eq_true rfl) dX6_areApart_11 ⟨Nat.zero_le _, Nat.zero_le _⟩ (fun H locs hP hD hS => ?_)
  exact kr_zret hx hcd hr hlocks hK hP hD hS kr_nb rfl rfl dX6_areApart_14

set_option maxHeartbeats 4000000 in
set_option maxRecDepth 100000 in
theorem c_X6_agree__ok (l : Launch) (D : va_G) (cI cB cW cL : ClassId) (ob nw tr : Nat → Nat) (qs : Nat → Nat → Nat) (sc : Nat → Nat) (G : Nat → Option Nat) (N : kM) (S : Nat → kM) (n L : Nat) (T : Nat → Int32) (sz : Nat) (M : kM) (a : Nat) (b : Nat) (hI : kInv M) (ha : a < 6) (hb : b < 6) (hne : a ≠ b) : kMi l yX6_agree wsX6_agree ({ frames := 2, cells := 0, slots := 0, locals := 41 }) D vwCl (kT cI cB cW cL) sz [.ref (ob 0), .int (nI a), .int (nI b)] (wX cI cB cW ob nw tr qs sc G M N S n L T) (wX cI cB cW ob nw tr qs sc G M N S n L T) (kI (g_agr M a b)) := by
  refine kr_ofi (cc := cX6_agree) (maxL := 3) (ret := (some .boolean)) (by decide) rfl (Nat.le_of_ble_eq_true rfl) ?_
  intro pp ee ss mm args below meth cc AA ls hx hcd hr hts hown hlocks hml hK hP hD hA hl
  have hS : va_S AA ss.heap ss.heap [] := va_S.rf
  have hown : ss.vm.findClass RX6 = some mm.cls := hown
  have hl : lv_has ls 3 [(0, .ref (ob 0)), (1, .int (nI a)), (2, .int (nI b))] := hl
  have uX5 : ∀ w ∈ u_ws RX5 TX5 5, w ∈ wsX6_agree := by decide +kernel
  have uX6 : ∀ w ∈ u_ws RX6 TX6 5, w ∈ wsX6_agree := by decide +kernel
  refine lv_iload_n hx hcd dX6_agree_0 rfl (lv_at hl 1 rfl) ?_
  refine lv_iload_n hx hcd dX6_agree_1 rfl (lv_at hl 2 rfl) ?_
  refine kr_Sv (As := [.int (nI a), .int (nI b)]) (rest := []) (ws2 := wX cI cB cW ob nw tr qs sc G M N S n L T) ⟨hx, hcd, hml, hown, hts⟩ (c_X6_checkPair__ok l D cI cB cW cL  _ M a b (by omega) (by omega) (by omega)) (va_cwS 2 hts gX6_agree_X6_checkPair rfl rfl rfl (by decide +kernel) ⟨Nat.le_of_ble_eq_true rfl, Nat.le_of_ble_eq_true rfl⟩) hK hP hD hS hA [] rfl (by decide) rfl rfl rfl hl.1 rfl (Nat.le_of_ble_eq_true rfl) dX6_agree_2 ⟨Nat.zero_le _, Nat.zero_le _⟩ (fun H locs hP hD hS => ?_)
  refine lv_aload_n hx hcd dX6_agree_5 rfl (lv_at hl 0 rfl) ?_
  refine kr_get hx hcd hts uX6 hown hK hP 0 rfl rfl 0 (by decide) (by decide +kernel) (v := .ref (nw 0)) rfl dX6_agree_6 ?_
  refine kr_get hx hcd hts uX5 hown hK hP 2 rfl rfl 1 (by decide) (by decide +kernel) (v := .ref (nw 5)) rfl dX6_agree_9 ?_
  refine lv_iload_n hx hcd dX6_agree_12 rfl (lv_at hl 1 rfl) ?_
  refine lv_iload_n hx hcd dX6_agree_13 rfl (lv_at hl 2 rfl) ?_
  refine kr_Vi (As := [.int (nI a), .int (nI b)]) (rest := []) (ws2 := wX cI cB cW ob nw tr qs sc G M N S n L T) (q := (RX1, TX1, 3)) ⟨hx, hcd, hml, hown, hts⟩ (c_X1_match l D cI cB cW cL nw _ M a b hI (by omega) (by omega)) (cwV 2 hts gX6_agree_X1_match rfl rfl rfl (by decide +kernel) ⟨Nat.le_of_ble_eq_true rfl, Nat.le_of_ble_eq_true rfl⟩) hK hP hD hS hA [7, 8, 9, 10] wX_nw_RoC (by decide) wRo_adr (kset_same _ _ _ wX_nw_RoC) 7 rfl rfl rfl hl.1 rfl (Nat.le_of_ble_eq_true rfl) dX6_agree_14 ⟨Nat.zero_le _, Nat.zero_le _⟩ (fun H locs hP hD hS => ?_)
  exact kr_zret hx hcd hr hlocks hK hP hD hS kr_nb rfl rfl dX6_agree_17

set_option maxHeartbeats 4000000 in
set_option maxRecDepth 100000 in
theorem c_X6_agreeing__ok (l : Launch) (D : va_G) (cI cB cW cL : ClassId) (ob nw tr : Nat → Nat) (qs : Nat → Nat → Nat) (sc : Nat → Nat) (G : Nat → Option Nat) (N : kM) (S : Nat → kM) (n L : Nat) (T : Nat → Int32) (sz : Nat) (M : kM) (hI : kInv M) : kMi l yX6_agreeing wsX6_agreeing ({ frames := 2, cells := 0, slots := 0, locals := 47 }) D vwCl (kT cI cB cW cL) sz [.ref (ob 0)] (wX cI cB cW ob nw tr qs sc G M N S n L T) (wX cI cB cW ob nw tr qs sc G M N S n L T) (nI (g_pairs M)) := by
  refine kr_ofi (cc := cX6_agreeing) (maxL := 1) (ret := (some .int)) (by decide) rfl (Nat.le_of_ble_eq_true rfl) ?_
  intro pp ee ss mm args below meth cc AA ls hx hcd hr hts hown hlocks hml hK hP hD hA hl
  have hS : va_S AA ss.heap ss.heap [] := va_S.rf
  have hown : ss.vm.findClass RX6 = some mm.cls := hown
  have hl : lv_has ls 1 [(0, .ref (ob 0))] := hl
  have uX5 : ∀ w ∈ u_ws RX5 TX5 5, w ∈ wsX6_agreeing := by decide +kernel
  have uX6 : ∀ w ∈ u_ws RX6 TX6 5, w ∈ wsX6_agreeing := by decide +kernel
  refine lv_aload_n hx hcd dX6_agreeing_0 rfl (lv_at hl 0 rfl) ?_
  refine kr_get hx hcd hts uX6 hown hK hP 0 rfl rfl 0 (by decide) (by decide +kernel) (v := .ref (nw 0)) rfl dX6_agreeing_1 ?_
  refine kr_get hx hcd hts uX5 hown hK hP 2 rfl rfl 1 (by decide) (by decide +kernel) (v := .ref (nw 5)) rfl dX6_agreeing_4 ?_
  refine kr_Vi (As := []) (rest := []) (ws2 := wX cI cB cW ob nw tr qs sc G M N S n L T) (q := (RX1, TX1, 3)) ⟨hx, hcd, hml, hown, hts⟩ (c_X1_matchingPairs l D cI cB cW cL nw _ M hI) (cwV 0 hts gX6_agreeing_X1_matchingPairs rfl rfl rfl (by decide +kernel) ⟨Nat.le_of_ble_eq_true rfl, Nat.le_of_ble_eq_true rfl⟩) hK hP hD hS hA [7, 8, 9, 10] wX_nw_RoC (by decide) wRo_adr (kset_same _ _ _ wX_nw_RoC) 7 rfl rfl rfl hl.1 rfl (Nat.le_of_ble_eq_true rfl) dX6_agreeing_7 ⟨Nat.zero_le _, Nat.zero_le _⟩ (fun H locs hP hD hS => ?_)
  exact kr_iret hx hcd hr hlocks hK hP hD hS rfl rfl dX6_agreeing_10

set_option maxHeartbeats 4000000 in
set_option maxRecDepth 100000 in
theorem c_X6_wrongViews__ok (l : Launch) (D : va_G) (cI cB cW cL : ClassId) (ob nw tr : Nat → Nat) (qs : Nat → Nat → Nat) (sc : Nat → Nat) (G : Nat → Option Nat) (N : kM) (S : Nat → kM) (n L : Nat) (T : Nat → Int32) (sz : Nat) (M : kM) (a : Nat) (ha : a < 6) : kMi l yX6_wrongViews wsX6_wrongViews ({ frames := 3, cells := 0, slots := 0, locals := 74 }) D vwCl (kT cI cB cW cL) sz [.ref (ob 0), .int (nI a)] (wX cI cB cW ob nw tr qs sc G M N S n L T) (wX cI cB cW ob nw tr qs sc G M N S n L T) (nI (g_wrA M a 6)) := by
  refine kr_ofi (cc := cX6_wrongViews) (maxL := 2) (ret := (some .int)) (by decide) rfl (Nat.le_of_ble_eq_true rfl) ?_
  intro pp ee ss mm args below meth cc AA ls hx hcd hr hts hown hlocks hml hK hP hD hA hl
  have hS : va_S AA ss.heap ss.heap [] := va_S.rf
  have hown : ss.vm.findClass RX6 = some mm.cls := hown
  have hl : lv_has ls 2 [(0, .ref (ob 0)), (1, .int (nI a))] := hl
  have uX6 : ∀ w ∈ u_ws RX6 TX6 5, w ∈ wsX6_wrongViews := by decide +kernel
  refine lv_iload_n hx hcd dX6_wrongViews_0 rfl (lv_at hl 1 rfl) ?_
  refine kr_Sv (As := [.int (nI a)]) (rest := []) (ws2 := wX cI cB cW ob nw tr qs sc G M N S n L T) ⟨hx, hcd, hml, hown, hts⟩ (c_X6_checkUser__ok l D cI cB cW cL  _ M a (by omega)) (va_cwS 1 hts gX6_wrongViews_X6_checkUser rfl rfl rfl (by decide +kernel) ⟨Nat.le_of_ble_eq_true rfl, Nat.le_of_ble_eq_true rfl⟩) hK hP hD hS hA [] rfl (by decide) rfl rfl rfl hl.1 rfl (Nat.le_of_ble_eq_true rfl) dX6_wrongViews_1 ⟨Nat.zero_le _, Nat.zero_le _⟩ (fun H locs hP hD hS => ?_)
  refine lv_aload_n hx hcd dX6_wrongViews_4 rfl (lv_at hl 0 rfl) ?_
  refine kr_get hx hcd hts uX6 hown hK hP 0 rfl rfl 0 (by decide) (by decide +kernel) (v := .ref (nw 0)) rfl dX6_wrongViews_5 ?_
  refine lv_iload_n hx hcd dX6_wrongViews_8 rfl (lv_at hl 1 rfl) ?_
  refine kr_Vi (As := [.int (nI a)]) (rest := []) (ws2 := wX cI cB cW ob nw tr qs sc G M N S n L T) (q := (RX5, TX5, 5)) ⟨hx, hcd, hml, hown, hts⟩ (c_X5_wrongViewsOf l D cI cB cW cL nw _ M a (by omega)) (cwV 1 hts gX6_wrongViews_X5_wrongViewsOf rfl rfl rfl (by decide +kernel) ⟨Nat.le_of_ble_eq_true rfl, Nat.le_of_ble_eq_true rfl⟩) hK hP hD hS hA [2, 3, 4, 5, 6, 7, 8, 9, 10, 11, 12, 13, 14, 15, 16] wX_nw_WC (by decide) wW_adr (kset_same _ _ _ wX_nw_WC) 2 rfl rfl rfl hl.1 rfl (Nat.le_of_ble_eq_true rfl) dX6_wrongViews_9 ⟨Nat.zero_le _, Nat.zero_le _⟩ (fun H locs hP hD hS => ?_)
  exact kr_iret hx hcd hr hlocks hK hP hD hS rfl rfl dX6_wrongViews_12

set_option maxHeartbeats 4000000 in
set_option maxRecDepth 100000 in
theorem c_X6_untilRest__ok (l : Launch) (D : va_G) (cI cB cW cL : ClassId) (ob nw tr : Nat → Nat) (qs : Nat → Nat → Nat) (sc : Nat → Nat) (G : Nat → Option Nat) (N : kM) (S : Nat → kM) (n L : Nat) (T : Nat → Int32) (sz : Nat) (M : kM) (hI : kInv M) : kMi l yX6_untilRest wsX6_untilRest ({ frames := 5, cells := 0, slots := 0, locals := 122 }) D vwCl (kT cI cB cW cL) sz [.ref (ob 0)] (wX cI cB cW ob nw tr qs sc G M N S n L T) (wX cI cB cW ob nw tr qs sc G M (g_del 1000 M) S n L T) (nI (g_delC 1000 M)) := by
  refine kr_ofi (cc := cX6_untilRest) (maxL := 2) (ret := (some .int)) (by decide) rfl (Nat.le_of_ble_eq_true rfl) ?_
  intro pp ee ss mm args below meth cc AA ls hx hcd hr hts hown hlocks hml hK hP hD hA hl
  have hS : va_S AA ss.heap ss.heap [] := va_S.rf
  have hown : ss.vm.findClass RX6 = some mm.cls := hown
  have hl : lv_has ls 2 [(0, .ref (ob 0))] := hl
  have uX0 : ∀ w ∈ u_ws RX0 TX0 4, w ∈ wsX6_untilRest := by decide +kernel
  have uX5 : ∀ w ∈ u_ws RX5 TX5 5, w ∈ wsX6_untilRest := by decide +kernel
  have uX6 : ∀ w ∈ u_ws RX6 TX6 5, w ∈ wsX6_untilRest := by decide +kernel
  refine lv_aload_n hx hcd dX6_untilRest_0 rfl (lv_at hl 0 rfl) ?_
  refine kr_get hx hcd hts uX6 hown hK hP 0 rfl rfl 1 (by decide) (by decide +kernel) (v := .ref (tr 0)) rfl dX6_untilRest_1 ?_
  refine lv_aload_n hx hcd dX6_untilRest_4 rfl (lv_at hl 0 rfl) ?_
  refine kr_get hx hcd hts uX6 hown hK hP 0 rfl rfl 0 (by decide) (by decide +kernel) (v := .ref (nw 0)) rfl dX6_untilRest_5 ?_
  refine kr_Vv (As := [.ref (nw 0)]) (rest := []) (ws2 := wX cI cB cW ob nw tr qs sc G M M S n L T) (q := (RX5, TX5, 5)) ⟨hx, hcd, hml, hown, hts⟩ (c_X5_copyFrom l D cI cB cW cL tr nw N _ M ) (cwV 1 hts gX6_untilRest_X5_copyFrom rfl rfl rfl (by decide +kernel) ⟨Nat.le_of_ble_eq_true rfl, Nat.le_of_ble_eq_true rfl⟩) hK hP hD hS hA [17, 18, 19, 20, 21, 22, 23, 24, 25, 26, 27, 28, 29, 30, 31, 2, 3, 4, 5, 6, 7, 8, 9, 10, 11, 12, 13, 14, 15, 16] wX_cp_tr_nwC (by decide) w2W_adr wX_cp_tr_nw 17 rfl rfl rfl hl.1 rfl (Nat.le_of_ble_eq_true rfl) dX6_untilRest_8 ⟨Nat.zero_le _, Nat.zero_le _⟩ (fun H locs hP hD hS => ?_)
  refine lv_aload_n hx hcd dX6_untilRest_11 rfl (lv_at hl 0 rfl) ?_
  refine kr_get hx hcd hts uX6 hown hK hP 0 rfl rfl 1 (by decide) (by decide +kernel) (v := .ref (tr 0)) rfl dX6_untilRest_12 ?_
  refine lv_sipush (v := nI 1000) hx hcd dX6_untilRest_15 (by decide) ?_
  refine kr_Vi (As := [.int (nI 1000)]) (rest := []) (ws2 := wX cI cB cW ob nw tr qs sc G M (g_del 1000 M) S n L T) (q := (RX5, TX5, 5)) ⟨hx, hcd, hml, hown, hts⟩ (c_X5_letArrive l D cI cB cW cL tr _ M 1000 hI (by omega)) (cwV 1 hts gX6_untilRest_X5_letArrive rfl rfl rfl (by decide +kernel) ⟨Nat.le_of_ble_eq_true rfl, Nat.le_of_ble_eq_true rfl⟩) hK hP hD hS hA [17, 18, 19, 20, 21, 22, 23, 24, 25, 26, 27, 28, 29, 30, 31] wX_tr_WC (by decide) wW_adr wX_tr_W 17 rfl rfl rfl hl.1 rfl (Nat.le_of_ble_eq_true rfl) dX6_untilRest_18 ⟨Nat.zero_le _, Nat.zero_le _⟩ (fun H locs hP hD hS => ?_)
  have hI_1 : kInv (g_del 1000 M) := i_del _ hI
  refine lv_istore_n (lv' := [(1, .int (nI (g_delC 1000 M))), (0, .ref (ob 0))]) hx hcd dX6_untilRest_21 rfl hl (by decide) rfl (fun ls hl => ?_)
  refine lv_aload_n hx hcd dX6_untilRest_22 rfl (lv_at hl 1 rfl) ?_
  refine kr_get hx hcd hts uX6 hown hK hP 0 rfl rfl 1 (by decide) (by decide +kernel) (v := .ref (tr 0)) rfl dX6_untilRest_23 ?_
  refine kr_get hx hcd hts uX5 hown hK hP 17 rfl rfl 3 (by decide) (by decide +kernel) (v := .ref (tr 11)) rfl dX6_untilRest_26 ?_
  refine kr_get hx hcd hts uX0 hown hK hP 28 rfl rfl 2 (by decide) (by decide +kernel) (v := .int ((g_del 1000 M) 577)) rfl dX6_untilRest_29 ?_
  refine kr_top (w := nI 0) ((i_wy (i_del 1000 hI)).trans (congrArg nI (rest_ok hI))) ?_
  refine kr_zne (tgt := 39) hx hcd (by omega) dX6_untilRest_32 (by decide) (fun (c_32 : 0 < 0) => absurd c_32 (by omega)) (fun (c_32 : 0 = 0) => ?_)
  refine lv_iload_n hx hcd dX6_untilRest_35 rfl (lv_at hl 0 rfl) ?_
  refine lv_goto (tgt := 40) hx hcd dX6_untilRest_36 (by decide) ?_
  exact kr_iret hx hcd hr hlocks hK hP hD hS rfl rfl dX6_untilRest_40

set_option maxHeartbeats 4000000 in
set_option maxRecDepth 100000 in
theorem c_X6_agreeingAtRest__ok (l : Launch) (D : va_G) (cI cB cW cL : ClassId) (ob nw tr : Nat → Nat) (qs : Nat → Nat → Nat) (sc : Nat → Nat) (G : Nat → Option Nat) (N : kM) (S : Nat → kM) (n L : Nat) (T : Nat → Int32) (sz : Nat) (M : kM) (hI : kInv M) : kMi l yX6_agreeingAtRest wsX6_agreeingAtRest ({ frames := 6, cells := 0, slots := 0, locals := 138 }) D vwCl (kT cI cB cW cL) sz [.ref (ob 0)] (wX cI cB cW ob nw tr qs sc G M N S n L T) (wX cI cB cW ob nw tr qs sc G M (g_del 1000 M) S n L T) (nI (g_pairs (g_del 1000 M))) := by
  refine kr_ofi (cc := cX6_agreeingAtRest) (maxL := 1) (ret := (some .int)) (by decide) rfl (Nat.le_of_ble_eq_true rfl) ?_
  intro pp ee ss mm args below meth cc AA ls hx hcd hr hts hown hlocks hml hK hP hD hA hl
  have hS : va_S AA ss.heap ss.heap [] := va_S.rf
  have hown : ss.vm.findClass RX6 = some mm.cls := hown
  have hl : lv_has ls 1 [(0, .ref (ob 0))] := hl
  have uX6 : ∀ w ∈ u_ws RX6 TX6 5, w ∈ wsX6_agreeingAtRest := by decide +kernel
  refine lv_aload_n hx hcd dX6_agreeingAtRest_0 rfl (lv_at hl 0 rfl) ?_
  refine kr_get hx hcd hts uX6 hown hK hP 0 rfl rfl 1 (by decide) (by decide +kernel) (v := .ref (tr 0)) rfl dX6_agreeingAtRest_1 ?_
  refine lv_aload_n hx hcd dX6_agreeingAtRest_4 rfl (lv_at hl 0 rfl) ?_
  refine kr_get hx hcd hts uX6 hown hK hP 0 rfl rfl 0 (by decide) (by decide +kernel) (v := .ref (nw 0)) rfl dX6_agreeingAtRest_5 ?_
  refine kr_Vv (As := [.ref (nw 0)]) (rest := []) (ws2 := wX cI cB cW ob nw tr qs sc G M M S n L T) (q := (RX5, TX5, 5)) ⟨hx, hcd, hml, hown, hts⟩ (c_X5_copyFrom l D cI cB cW cL tr nw N _ M ) (cwV 1 hts gX6_agreeingAtRest_X5_copyFrom rfl rfl rfl (by decide +kernel) ⟨Nat.le_of_ble_eq_true rfl, Nat.le_of_ble_eq_true rfl⟩) hK hP hD hS hA [17, 18, 19, 20, 21, 22, 23, 24, 25, 26, 27, 28, 29, 30, 31, 2, 3, 4, 5, 6, 7, 8, 9, 10, 11, 12, 13, 14, 15, 16] wX_cp_tr_nwC (by decide) w2W_adr wX_cp_tr_nw 17 rfl rfl rfl hl.1 rfl (Nat.le_of_ble_eq_true rfl) dX6_agreeingAtRest_8 ⟨Nat.zero_le _, Nat.zero_le _⟩ (fun H locs hP hD hS => ?_)
  refine lv_aload_n hx hcd dX6_agreeingAtRest_11 rfl (lv_at hl 0 rfl) ?_
  refine kr_get hx hcd hts uX6 hown hK hP 0 rfl rfl 1 (by decide) (by decide +kernel) (v := .ref (tr 0)) rfl dX6_agreeingAtRest_12 ?_
  refine kr_Vi (As := []) (rest := []) (ws2 := wX cI cB cW ob nw tr qs sc G M (g_del 1000 M) S n L T) (q := (RX5, TX5, 5)) ⟨hx, hcd, hml, hown, hts⟩ (c_X5_matchingPairsAtRest l D cI cB cW cL tr _ M hI) (cwV 0 hts gX6_agreeingAtRest_X5_matchingPairsAtRest rfl rfl rfl (by decide +kernel) ⟨Nat.le_of_ble_eq_true rfl, Nat.le_of_ble_eq_true rfl⟩) hK hP hD hS hA [17, 18, 19, 20, 21, 22, 23, 24, 25, 26, 27, 28, 29, 30, 31] wX_tr_WC (by decide) wW_adr wX_tr_W 17 rfl rfl rfl hl.1 rfl (Nat.le_of_ble_eq_true rfl) dX6_agreeingAtRest_15 ⟨Nat.zero_le _, Nat.zero_le _⟩ (fun H locs hP hD hS => ?_)
  refine kr_top (w := nI (g_pairs (g_del 1000 M))) (if_pos (rest_ok hI)) ?_
  exact kr_iret hx hcd hr hlocks hK hP hD hS rfl rfl dX6_agreeingAtRest_18

set_option maxHeartbeats 4000000 in
set_option maxRecDepth 100000 in
theorem c_X6_visible__ok (l : Launch) (D : va_G) (cI cB cW cL : ClassId) (ob nw tr : Nat → Nat) (qs : Nat → Nat → Nat) (sc : Nat → Nat) (G : Nat → Option Nat) (N : kM) (S : Nat → kM) (n L : Nat) (T : Nat → Int32) (sz : Nat) (M : kM)  : kMd l yX6_visible wsX6_visible ({ frames := 3, cells := 0, slots := 0, locals := 69 }) D vwCl (kT cI cB cW cL) sz [.ref (ob 0)] (wX cI cB cW ob nw tr qs sc G M N S n L T) (wX cI cB cW ob nw tr qs sc G M N S n L T) (g_share (g_visA M 6)) := by
  refine kr_ofd (cc := cX6_visible) (maxL := 1) (ret := (some .double)) (by decide) rfl (Nat.le_of_ble_eq_true rfl) ?_
  intro pp ee ss mm args below meth cc AA ls hx hcd hr hts hown hlocks hml hK hP hD hA hl
  have hS : va_S AA ss.heap ss.heap [] := va_S.rf
  have hown : ss.vm.findClass RX6 = some mm.cls := hown
  have hl : lv_has ls 1 [(0, .ref (ob 0))] := hl
  have uX5 : ∀ w ∈ u_ws RX5 TX5 5, w ∈ wsX6_visible := by decide +kernel
  have uX6 : ∀ w ∈ u_ws RX6 TX6 5, w ∈ wsX6_visible := by decide +kernel
  have bv := visA_le (M := M) 6
  refine lv_aload_n hx hcd dX6_visible_0 rfl (lv_at hl 0 rfl) ?_
  refine kr_get hx hcd hts uX6 hown hK hP 0 rfl rfl 0 (by decide) (by decide +kernel) (v := .ref (nw 0)) rfl dX6_visible_1 ?_
  refine kr_get hx hcd hts uX5 hown hK hP 2 rfl rfl 2 (by decide) (by decide +kernel) (v := .ref (nw 9)) rfl dX6_visible_4 ?_
  refine kr_Vi (As := []) (rest := []) (ws2 := wX cI cB cW ob nw tr qs sc G M N S n L T) (q := (RX4, TX4, 1)) ⟨hx, hcd, hml, hown, hts⟩ (c_X4_seeingPairs l D cI cB cW cL nw _ M ) (cwV 0 hts gX6_visible_X4_seeingPairs rfl rfl rfl (by decide +kernel) ⟨Nat.le_of_ble_eq_true rfl, Nat.le_of_ble_eq_true rfl⟩) hK hP hD hS hA [11, 12] wX_nw_ViC (by decide) wVi_adr (kset_same _ _ _ wX_nw_ViC) 11 rfl rfl rfl hl.1 rfl (Nat.le_of_ble_eq_true rfl) dX6_visible_7 ⟨Nat.zero_le _, Nat.zero_le _⟩ (fun H locs hP hD hS => ?_)
  refine lv_i2d hx hcd dX6_visible_10 ?_
  refine lv_ldc2d (v := 4629137466983448576) hx hcd hown (hts (.constantDouble RX6 188 4629137466983448576) (by decide +kernel)) dX6_visible_11 ?_
  refine lv_ddiv hx hcd dX6_visible_14 (share_ok (by have := visA_le (M := M) 6; omega)) ?_
  exact kr_dret hx hcd hr hlocks hK hP hD hS rfl rfl dX6_visible_15

set_option maxHeartbeats 4000000 in
set_option maxRecDepth 100000 in
theorem c_X6_append__ok (l : Launch) (D : va_G) (cI cB cW cL : ClassId) (ob nw tr : Nat → Nat) (qs : Nat → Nat → Nat) (sc : Nat → Nat) (G : Nat → Option Nat) (N : kM) (S : Nat → kM) (n L : Nat) (T : Nat → Int32) (sz : Nat) (M : kM) (v : Nat) (hv : v ≤ 127) (hLt : L < 100) : kMi l yX6_append wsX6_append ({ frames := 1, cells := 0, slots := 0, locals := 21 }) D vwCl (kT cI cB cW cL) sz [.ref (ob 0), .int (nI v)] (wX cI cB cW ob nw tr qs sc G M N S n L T) (wX cI cB cW ob nw tr qs sc G M N S n (L + 1) (upd T (L) (nI v))) (nI (L + 1)) := by
  refine kr_ofi (cc := cX6_append) (maxL := 2) (ret := (some .int)) (by decide) rfl (Nat.le_of_ble_eq_true rfl) ?_
  intro pp ee ss mm args below meth cc AA ls hx hcd hr hts hown hlocks hml hK hP hD hA hl
  have hS : va_S AA ss.heap ss.heap [] := va_S.rf
  have hown : ss.vm.findClass RX6 = some mm.cls := hown
  have hl : lv_has ls 2 [(0, .ref (ob 0)), (1, .int (nI v))] := hl
  have uX2 : ∀ w ∈ u_ws RX2 TX2 2, w ∈ wsX6_append := by decide +kernel
  have uX6 : ∀ w ∈ u_ws RX6 TX6 5, w ∈ wsX6_append := by decide +kernel
  refine lv_iload_n hx hcd dX6_append_0 rfl (lv_at hl 1 rfl) ?_
  refine kr_zlt (tgt := 10) hx hcd (by omega) dX6_append_1 (by decide) ?_
  refine lv_iload_n hx hcd dX6_append_4 rfl (lv_at hl 1 rfl) ?_
  refine lv_bipush (v := nI 127) hx hcd dX6_append_5 (by decide) ?_
  refine kr_cle (tgt := 20) hx hcd (by omega) (by omega) dX6_append_7 (by decide) (fun (c_7 : v ≤ 127) => ?_) (fun (c_7 : 127 < v) => absurd c_7 (by omega))
  refine lv_aload_n hx hcd dX6_append_20 rfl (lv_at hl 0 rfl) ?_
  refine kr_get hx hcd hts uX6 hown hK hP 0 rfl rfl 3 (by decide) (by decide +kernel) (v := .ref (sc 0)) rfl dX6_append_21 ?_
  refine kr_get hx hcd hts uX2 hown hK hP 92 rfl rfl 1 (by decide) (by decide +kernel) (v := .int (nI L)) rfl dX6_append_24 ?_
  refine lv_bipush (v := nI 100) hx hcd dX6_append_27 (by decide) ?_
  refine kr_clt (tgt := 42) hx hcd (by omega) (by omega) dX6_append_29 (by decide) (fun (c_29 : L < 100) => ?_) (fun (c_29 : 100 ≤ L) => absurd c_29 (by omega))
  refine lv_aload_n hx hcd dX6_append_42 rfl (lv_at hl 0 rfl) ?_
  refine kr_get hx hcd hts uX6 hown hK hP 0 rfl rfl 3 (by decide) (by decide +kernel) (v := .ref (sc 0)) rfl dX6_append_43 ?_
  refine lv_iload_n hx hcd dX6_append_46 rfl (lv_at hl 1 rfl) ?_
  refine lv_i2b (v := nI v) hx hcd dX6_append_47 (by_i2b v (by omega)) ?_
  refine kr_Vi (As := [.int (nI v)]) (rest := []) (ws2 := wX cI cB cW ob nw tr qs sc G M N S n (L + 1) (upd T (L) (nI v))) (q := (RX2, TX2, 2)) ⟨hx, hcd, hml, hown, hts⟩ (c_X2_add l D cI cB cW cL sc L T _ M v (by omega) (by omega)) (cwV 1 hts gX6_append_X2_add rfl rfl rfl (by decide +kernel) ⟨Nat.le_of_ble_eq_true rfl, Nat.le_of_ble_eq_true rfl⟩) hK hP hD hS hA [92, 93] wX_scC (by decide) wSc_adr wX_sc 92 rfl rfl rfl hl.1 rfl (Nat.le_of_ble_eq_true rfl) dX6_append_48 ⟨Nat.zero_le _, Nat.zero_le _⟩ (fun H locs hP hD hS => ?_)
  exact kr_iret hx hcd hr hlocks hK hP hD hS rfl rfl dX6_append_51

set_option maxHeartbeats 4000000 in
set_option maxRecDepth 100000 in
theorem c_X6_digest__ok (l : Launch) (D : va_G) (cI cB cW cL : ClassId) (ob nw tr : Nat → Nat) (qs : Nat → Nat → Nat) (sc : Nat → Nat) (G : Nat → Option Nat) (N : kM) (S : Nat → kM) (n L : Nat) (T : Nat → Int32) (sz : Nat) (M : kM) (hI : kInv M) : kMl l yX6_digest wsX6_digest ({ frames := 4, cells := 0, slots := 0, locals := 91 }) D vwCl (kT cI cB cW cL) sz [.ref (ob 0)] (wX cI cB cW ob nw tr qs sc G M N S n L T) (wX cI cB cW ob nw tr qs sc G M N S n L T) (g_digest M (nI L) (nI n)) := by
  refine kr_ofl (cc := cX6_digest) (maxL := 4) (ret := (some .long)) (by decide) rfl (Nat.le_of_ble_eq_true rfl) ?_
  intro pp ee ss mm args below meth cc AA ls hx hcd hr hts hown hlocks hml hK hP hD hA hl
  have hS : va_S AA ss.heap ss.heap [] := va_S.rf
  have hown : ss.vm.findClass RX6 = some mm.cls := hown
  have hl : lv_has ls 4 [(0, .ref (ob 0))] := hl
  have uX2 : ∀ w ∈ u_ws RX2 TX2 2, w ∈ wsX6_digest := by decide +kernel
  have uX5 : ∀ w ∈ u_ws RX5 TX5 5, w ∈ wsX6_digest := by decide +kernel
  have uX6 : ∀ w ∈ u_ws RX6 TX6 5, w ∈ wsX6_digest := by decide +kernel
  refine lv_ldc2 (v := 98921) hx hcd hown (hts (.constantLong RX6 215 98921) (by decide +kernel)) dX6_digest_0 ?_
  refine lv_aload_n hx hcd dX6_digest_3 rfl (lv_at hl 0 rfl) ?_
  refine kr_get hx hcd hts uX6 hown hK hP 0 rfl rfl 3 (by decide) (by decide +kernel) (v := .ref (sc 0)) rfl dX6_digest_4 ?_
  refine kr_get hx hcd hts uX2 hown hK hP 92 rfl rfl 1 (by decide) (by decide +kernel) (v := .int (nI L)) rfl dX6_digest_7 ?_
  refine lv_i2l hx hcd dX6_digest_10 rfl ?_
  refine lv_ladd hx hcd dX6_digest_11 ?_
  refine kr_topl (w := g_mix 3191 (nI L)) (mix_98921 _) ?_
  refine lv_lstore_n (lv' := [(1, .long (g_mix 3191 (nI L))), (0, .ref (ob 0))]) hx hcd dX6_digest_12 rfl hl (by decide) rfl (fun ls hl => ?_)
  refine lv_iconst (v := nI 0) hx hcd dX6_digest_13 (by decide) ?_
  refine lv_istore_n (lv' := [(3, .int (nI 0)), (1, .long (g_mix 3191 (nI L))), (0, .ref (ob 0))]) hx hcd dX6_digest_14 rfl hl (by decide) rfl (fun ls hl => ?_)
  refine kr_up (fun i => wX cI cB cW ob nw tr qs sc G M N S n L T) (fun i => [(0, .ref (ob 0)), (1, .long (g_hA M (g_mix 3191 (nI L)) i)), (3, .int (nI i))]) 6 (nL := 4) (fun i hi ih_15 H locs ls hP hD hS hl => ?_) (fun H locs ls hP hD hS hl => ?_) 0 (by omega) hP hD hS (lv_sub hl [2, 1, 0] rfl)
  · have hl : lv_has ls 4 [(0, .ref (ob 0)), (1, .long (g_hA M (g_mix 3191 (nI L)) i)), (3, .int (nI i))] := hl
    refine lv_iload_n hx hcd dX6_digest_15 rfl (lv_at hl 2 rfl) ?_
    refine lv_bipush (v := nI 6) hx hcd dX6_digest_16 (by decide) ?_
    refine kr_cge (tgt := 37) hx hcd (by omega) (by omega) dX6_digest_18 (by decide) (fun (c_18 : 6 ≤ i) => absurd c_18 (by omega)) (fun (c_18 : i < 6) => ?_)
    refine lv_aload_n hx hcd dX6_digest_21 rfl (lv_at hl 0 rfl) ?_
    refine kr_get hx hcd hts uX6 hown hK hP 0 rfl rfl 0 (by decide) (by decide +kernel) (v := .ref (nw 0)) rfl dX6_digest_22 ?_
    refine lv_lload_n hx hcd dX6_digest_25 rfl (lv_at hl 1 rfl) ?_
    refine lv_iload_n hx hcd dX6_digest_26 rfl (lv_at hl 2 rfl) ?_
    refine kr_Vl (As := [.long (g_hA M (g_mix 3191 (nI L)) i), .int (nI i)]) (rest := []) (ws2 := wX cI cB cW ob nw tr qs sc G M N S n L T) (q := (RX5, TX5, 5)) ⟨hx, hcd, hml, hown, hts⟩ (c_X5_hashUser l D cI cB cW cL nw _ M (g_hA M (g_mix 3191 (nI L)) i) i (by omega)) (cwV 2 hts gX6_digest_X5_hashUser rfl rfl rfl (by decide +kernel) ⟨Nat.le_of_ble_eq_true rfl, Nat.le_of_ble_eq_true rfl⟩) hK hP hD hS hA [2, 3, 4, 5, 6, 7, 8, 9, 10, 11, 12, 13, 14, 15, 16] wX_nw_WC (by decide) wW_adr (kset_same _ _ _ wX_nw_WC) 2 rfl rfl rfl hl.1 rfl (Nat.le_of_ble_eq_true rfl) dX6_digest_27 ⟨Nat.zero_le _, Nat.zero_le _⟩ (fun H locs hP hD hS => ?_)
    refine lv_lstore_n (lv' := [(1, .long (g_hU M i (g_hA M (g_mix 3191 (nI L)) i))), (0, .ref (ob 0)), (3, .int (nI i))]) hx hcd dX6_digest_30 rfl hl (by decide) rfl (fun ls hl => ?_)
    refine kr_iinc (lv' := [(3, .int (nI (i + 1))), (1, .long (g_hU M i (g_hA M (g_mix 3191 (nI L)) i))), (0, .ref (ob 0))]) hx hcd dX6_digest_31 hl (k := 2) rfl (by decide) rfl (fun ls hl => ?_)
    refine lv_goto (tgt := 15) hx hcd dX6_digest_34 (by decide) ?_
    exact ih_15 H locs ls hP hD hS (lv_sub hl [2, 1, 0] rfl)
  · have hl : lv_has ls 4 [(0, .ref (ob 0)), (1, .long (g_hA M (g_mix 3191 (nI L)) 6)), (3, .int (nI 6))] := hl
    refine lv_iload_n hx hcd dX6_digest_15 rfl (lv_at hl 2 rfl) ?_
    refine lv_bipush (v := nI 6) hx hcd dX6_digest_16 (by decide) ?_
    refine kr_cge (tgt := 37) hx hcd (by omega) (by omega) dX6_digest_18 (by decide) (fun (c_18 : 6 ≤ 6) => ?_) (fun (c_18 : 6 < 6) => absurd c_18 (by omega))
    refine lv_aload_n hx hcd dX6_digest_37 rfl (lv_at hl 0 rfl) ?_
    refine kr_get hx hcd hts uX6 hown hK hP 0 rfl rfl 0 (by decide) (by decide +kernel) (v := .ref (nw 0)) rfl dX6_digest_38 ?_
    refine kr_get hx hcd hts uX5 hown hK hP 2 rfl rfl 3 (by decide) (by decide +kernel) (v := .ref (nw 11)) rfl dX6_digest_41 ?_
    refine lv_lload_n hx hcd dX6_digest_44 rfl (lv_at hl 1 rfl) ?_
    refine kr_Vl (As := [.long (g_hA M (g_mix 3191 (nI L)) 6)]) (rest := []) (ws2 := wX cI cB cW ob nw tr qs sc G M N S n L T) (q := (RX0, TX0, 4)) ⟨hx, hcd, hml, hown, hts⟩ (c_X0_hashMessages l D cI cB cW cL nw _ M (g_hA M (g_mix 3191 (nI L)) 6) hI) (cwV 1 hts gX6_digest_X0_hashMessages rfl rfl rfl (by decide +kernel) ⟨Nat.le_of_ble_eq_true rfl, Nat.le_of_ble_eq_true rfl⟩) hK hP hD hS hA [13, 14, 15] wX_nw_PoC (by decide) wPo_adr (kset_same _ _ _ wX_nw_PoC) 13 rfl rfl rfl hl.1 rfl (Nat.le_of_ble_eq_true rfl) dX6_digest_45 ⟨Nat.zero_le _, Nat.zero_le _⟩ (fun H locs hP hD hS => ?_)
    refine lv_lstore_n (lv' := [(1, .long (g_hPost M (g_hA M (g_mix 3191 (nI L)) 6))), (0, .ref (ob 0)), (3, .int (nI 6))]) hx hcd dX6_digest_48 rfl hl (by decide) rfl (fun ls hl => ?_)
    refine lv_ldc2 (v := 31) hx hcd hown (hts (.constantLong RX6 225 31) (by decide +kernel)) dX6_digest_49 ?_
    refine lv_lload_n hx hcd dX6_digest_52 rfl (lv_at hl 0 rfl) ?_
    refine lv_lmul hx hcd dX6_digest_53 ?_
    refine lv_aload_n hx hcd dX6_digest_54 rfl (lv_at hl 1 rfl) ?_
    refine kr_get hx hcd hts uX6 hown hK hP 0 rfl rfl 4 (by decide) (by decide +kernel) (v := .int (nI n)) rfl dX6_digest_55 ?_
    refine lv_i2l hx hcd dX6_digest_58 rfl ?_
    refine lv_ladd hx hcd dX6_digest_59 ?_
    refine kr_topl (w := g_mix (g_hPost M (g_hA M (g_mix 3191 (nI L)) 6)) (nI n)) rfl ?_
    exact kr_lret hx hcd hr hlocks hK hP hD hS rfl rfl dX6_digest_60
