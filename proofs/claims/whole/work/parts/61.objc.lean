set_option maxHeartbeats 4000000 in
set_option maxRecDepth 100000 in
theorem c_X6_carryOut__b (l : Launch) (D : va_G) (cI cB cW cL : ClassId) (ob nw tr : Nat → Nat) (qs : Nat → Nat → Nat) (sc : Nat → Nat) (G : Nat → Option Nat) (N : kM) (S : Nat → kM) (n L : Nat) (T : Nat → Int32) (sz : Nat) (M : kM) (hI : kInv M) (hT : kTx T) (hL : L ≤ 100) (hok : c_okk T L = false) : kMi l yX6_carryOut wsX6_carryOut ({ frames := 4, cells := 0, slots := 0, locals := 87 }) D vwCl (kT cI cB cW cL) sz [.ref (ob 0)] (wX cI cB cW ob nw tr qs sc G M N S n L T) (wX cI cB cW ob nw tr qs sc G M N S n L T) ((-10) - (nI (c_pos T L))) := by
  refine kr_ofi (cc := cX6_carryOut) (maxL := 4) (ret := (some .int)) (by decide) rfl (Nat.le_of_ble_eq_true rfl) ?_
  intro pp ee ss mm args below meth cc AA ls hx hcd hr hts hown hlocks hml hK hP hD hA hl
  have hS : va_S AA ss.heap ss.heap [] := va_S.rf
  have hown : ss.vm.findClass RX6 = some mm.cls := hown
  have hl : lv_has ls 4 [(0, .ref (ob 0))] := hl
  have uX6 : ∀ w ∈ u_ws RX6 TX6 5, w ∈ wsX6_carryOut := by decide +kernel
  refine lv_aload_n hx hcd dX6_carryOut_0 rfl (lv_at hl 0 rfl) ?_
  refine kr_get hx hcd hts uX6 hown hK hP 0 rfl rfl 3 (by decide) (by decide +kernel) (v := .ref (sc 0)) rfl dX6_carryOut_1 ?_
  refine kr_Vi (As := []) (rest := []) (ws2 := wX cI cB cW ob nw tr qs sc G M N S n L T) (q := (RX2, TX2, 2)) ⟨hx, hcd, hml, hown, hts⟩ (c_X2_errorPosition l D cI cB cW cL sc L T _ M hT (by omega)) (cwV 0 hts gX6_carryOut_X2_errorPosition rfl rfl rfl (by decide +kernel) ⟨Nat.le_of_ble_eq_true rfl, Nat.le_of_ble_eq_true rfl⟩) hK hP hD hS hA [92, 93] wX_scC (by decide) wSc_adr (kset_same _ _ _ wX_scC) 92 rfl rfl rfl hl.1 rfl (Nat.le_of_ble_eq_true rfl) dX6_carryOut_4 ⟨Nat.zero_le _, Nat.zero_le _⟩ (fun H locs hP hD hS => ?_)
  refine kr_top (w := nI (c_pos T L)) (err_okk.trans (if_neg (by rw [hok]; decide))) ?_
  refine lv_istore_n (lv' := [(1, .int (nI (c_pos T L))), (0, .ref (ob 0))]) hx hcd dX6_carryOut_7 rfl hl (by decide) rfl (fun ls hl => ?_)
  refine lv_iload_n hx hcd dX6_carryOut_8 rfl (lv_at hl 0 rfl) ?_
  refine lv_iconst (v := (-1)) hx hcd dX6_carryOut_9 (by decide) ?_
  refine lv_icmp_eq (tgt := 18) hx hcd dX6_carryOut_10 (by decide) (fun (c_10 : (nI (c_pos T L)) = (-1)) => absurd c_10 (nI_m1 (by have := pos_le (T := T) (L := L); omega))) (fun (c_10 : ¬ (nI (c_pos T L)) = (-1)) => ?_)
  refine lv_bipush (v := (-10)) hx hcd dX6_carryOut_13 (by decide) ?_
  refine lv_iload_n hx hcd dX6_carryOut_15 rfl (lv_at hl 0 rfl) ?_
  refine lv_isub hx hcd dX6_carryOut_16 ?_
  exact kr_iret hx hcd hr hlocks hK hP hD hS rfl rfl dX6_carryOut_17

set_option maxHeartbeats 4000000 in
set_option maxRecDepth 100000 in
theorem c_X6_carryOut__ok (l : Launch) (D : va_G) (cI cB cW cL : ClassId) (ob nw tr : Nat → Nat) (qs : Nat → Nat → Nat) (sc : Nat → Nat) (G : Nat → Option Nat) (N : kM) (S : Nat → kM) (n L : Nat) (T : Nat → Int32) (sz : Nat) (M : kM) (r : Nat) (hI : kInv M) (hT : kTx T) (hL : L ≤ 100) (hn : n ≤ 4) (hr : r < 4) (hok : c_okk T L = true) (hall : ∀ j, j < L / 4 → g_okr T M j = true) : kMi l yX6_carryOut wsX6_carryOut ({ frames := 6, cells := 0, slots := 0, locals := 142 }) D vwCl (kT cI cB cW cL) sz [.ref (ob 0)] (wX cI cB cW ob nw tr qs sc (g_rot qs r) M N S n L T) (wX cI cB cW ob nw tr qs sc (g_rot qs (rj n r)) (g_run T M (L / 4)) (g_run T M (L / 4)) (sset S (pj n r) M) (g_kn n) L T) (nI (L / 4)) := by
  refine kr_ofi (cc := cX6_carryOut) (maxL := 4) (ret := (some .int)) (by decide) rfl (Nat.le_of_ble_eq_true rfl) ?_
  intro pp ee ss mm args below meth cc AA ls hx hcd hr hts hown hlocks hml hK hP hD hA hl
  have hS : va_S AA ss.heap ss.heap [] := va_S.rf
  have hown : ss.vm.findClass RX6 = some mm.cls := hown
  have hl : lv_has ls 4 [(0, .ref (ob 0))] := hl
  have uX6 : ∀ w ∈ u_ws RX6 TX6 5, w ∈ wsX6_carryOut := by decide +kernel
  refine lv_aload_n hx hcd dX6_carryOut_0 rfl (lv_at hl 0 rfl) ?_
  refine kr_get hx hcd hts uX6 hown hK hP 0 rfl rfl 3 (by decide) (by decide +kernel) (v := .ref (sc 0)) rfl dX6_carryOut_1 ?_
  refine kr_Vi (As := []) (rest := []) (ws2 := wX cI cB cW ob nw tr qs sc (g_rot qs r) M N S n L T) (q := (RX2, TX2, 2)) ⟨hx, hcd, hml, hown, hts⟩ (c_X2_errorPosition l D cI cB cW cL sc L T _ M hT (by omega)) (cwV 0 hts gX6_carryOut_X2_errorPosition rfl rfl rfl (by decide +kernel) ⟨Nat.le_of_ble_eq_true rfl, Nat.le_of_ble_eq_true rfl⟩) hK hP hD hS hA [92, 93] wX_scC (by decide) wSc_adr (kset_same _ _ _ wX_scC) 92 rfl rfl rfl hl.1 rfl (Nat.le_of_ble_eq_true rfl) dX6_carryOut_4 ⟨Nat.zero_le _, Nat.zero_le _⟩ (fun H locs hP hD hS => ?_)
  refine kr_top (w := (-1)) (err_okk.trans (if_pos hok)) ?_
  refine lv_istore_n (lv' := [(1, .int (-1)), (0, .ref (ob 0))]) hx hcd dX6_carryOut_7 rfl hl (by decide) rfl (fun ls hl => ?_)
  refine lv_iload_n hx hcd dX6_carryOut_8 rfl (lv_at hl 0 rfl) ?_
  refine lv_iconst (v := (-1)) hx hcd dX6_carryOut_9 (by decide) ?_
  refine lv_icmp_eq (tgt := 18) hx hcd dX6_carryOut_10 (by decide) (fun (c_10 : (-1) = (-1)) => ?_) (fun (c_10 : ¬ (-1) = (-1)) => absurd c_10 (not_not_intro rfl))
  refine lv_aload_n hx hcd dX6_carryOut_18 rfl (lv_at hl 1 rfl) ?_
  refine kr_get hx hcd hts uX6 hown hK hP 0 rfl rfl 1 (by decide) (by decide +kernel) (v := .ref (tr 0)) rfl dX6_carryOut_19 ?_
  refine lv_aload_n hx hcd dX6_carryOut_22 rfl (lv_at hl 1 rfl) ?_
  refine kr_get hx hcd hts uX6 hown hK hP 0 rfl rfl 0 (by decide) (by decide +kernel) (v := .ref (nw 0)) rfl dX6_carryOut_23 ?_
  refine kr_Vv (As := [.ref (nw 0)]) (rest := []) (ws2 := wX cI cB cW ob nw tr qs sc (g_rot qs r) M M S n L T) (q := (RX5, TX5, 5)) ⟨hx, hcd, hml, hown, hts⟩ (c_X5_copyFrom l D cI cB cW cL tr nw N _ M ) (cwV 1 hts gX6_carryOut_X5_copyFrom rfl rfl rfl (by decide +kernel) ⟨Nat.le_of_ble_eq_true rfl, Nat.le_of_ble_eq_true rfl⟩) hK hP hD hS hA [17, 18, 19, 20, 21, 22, 23, 24, 25, 26, 27, 28, 29, 30, 31, 2, 3, 4, 5, 6, 7, 8, 9, 10, 11, 12, 13, 14, 15, 16] wX_cp_tr_nwC (by decide) w2W_adr wX_cp_tr_nw 17 rfl rfl rfl hl.1 rfl (Nat.le_of_ble_eq_true rfl) dX6_carryOut_26 ⟨Nat.zero_le _, Nat.zero_le _⟩ (fun H locs hP hD hS => ?_)
  refine lv_aload_n hx hcd dX6_carryOut_29 rfl (lv_at hl 1 rfl) ?_
  refine kr_get hx hcd hts uX6 hown hK hP 0 rfl rfl 3 (by decide) (by decide +kernel) (v := .ref (sc 0)) rfl dX6_carryOut_30 ?_
  refine kr_Vi (As := []) (rest := []) (ws2 := wX cI cB cW ob nw tr qs sc (g_rot qs r) M M S n L T) (q := (RX2, TX2, 2)) ⟨hx, hcd, hml, hown, hts⟩ (c_X2_orders l D cI cB cW cL sc L T _ M (by omega)) (cwV 0 hts gX6_carryOut_X2_orders rfl rfl rfl (by decide +kernel) ⟨Nat.le_of_ble_eq_true rfl, Nat.le_of_ble_eq_true rfl⟩) hK hP hD hS hA [92, 93] wX_scC (by decide) wSc_adr (kset_same _ _ _ wX_scC) 92 rfl rfl rfl hl.1 rfl (Nat.le_of_ble_eq_true rfl) dX6_carryOut_33 ⟨Nat.zero_le _, Nat.zero_le _⟩ (fun H locs hP hD hS => ?_)
  refine lv_istore_n (lv' := [(2, .int (nI (L / 4))), (1, .int (-1)), (0, .ref (ob 0))]) hx hcd dX6_carryOut_36 rfl hl (by decide) rfl (fun ls hl => ?_)
  refine lv_iconst (v := nI 0) hx hcd dX6_carryOut_37 (by decide) ?_
  refine lv_istore_n (lv' := [(3, .int (nI 0)), (2, .int (nI (L / 4))), (1, .int (-1)), (0, .ref (ob 0))]) hx hcd dX6_carryOut_38 rfl hl (by decide) rfl (fun ls hl => ?_)
  obtain ⟨hP, hD⟩ := kr_re (ws2 := wX cI cB cW ob nw tr qs sc (g_rot qs r) M (g_run T M 0) S n L T) hP hD (congrArg (fun c9 => wX cI cB cW ob nw tr qs sc (g_rot qs r) M c9 S n L T) (show M = g_run T M 0 from rfl))
  refine kr_up (fun i => wX cI cB cW ob nw tr qs sc (g_rot qs r) M (g_run T M i) S n L T) (fun i => [(0, .ref (ob 0)), (2, .int (nI (L / 4))), (3, .int (nI i))]) (L / 4) (nL := 4) (fun i hi ih_39 H locs ls hP hD hS hl => ?_) (fun H locs ls hP hD hS hl => ?_) 0 (by omega) hP hD hS (lv_sub hl [3, 1, 0] rfl)
  · have hl : lv_has ls 4 [(0, .ref (ob 0)), (2, .int (nI (L / 4))), (3, .int (nI i))] := hl
    refine lv_iload_n hx hcd dX6_carryOut_39 rfl (lv_at hl 2 rfl) ?_
    refine lv_iload_n hx hcd dX6_carryOut_40 rfl (lv_at hl 1 rfl) ?_
    refine kr_cge (tgt := 64) hx hcd (by omega) (by omega) dX6_carryOut_41 (by decide) (fun (c_41 : L / 4 ≤ i) => absurd c_41 (by omega)) (fun (c_41 : i < L / 4) => ?_)
    refine lv_aload_n hx hcd dX6_carryOut_44 rfl (lv_at hl 0 rfl) ?_
    refine lv_iload_n hx hcd dX6_carryOut_45 rfl (lv_at hl 2 rfl) ?_
    refine kr_Vi (As := [.int (nI i)]) (rest := []) (ws2 := wX cI cB cW ob nw tr qs sc (g_rot qs r) M (g_do (ch T (4 * i)) (g_a T i) (g_b T i) (g_run T M i)) S n L T) (q := (RX6, TX6, 5)) ⟨hx, hcd, hml, hown, hts⟩ (c_X6_tryOrder__t l D cI cB cW cL ob nw tr qs sc (g_rot qs r) (g_run T M i) S n L T _ M i (g_a T i) (g_b T i) (i_run hok hI i (by omega)) hT (by omega) (ord_at hok (show i < L / 4 by omega)).1 (ord_at hok (show i < L / 4 by omega)).2.1 (ord_at hok (show i < L / 4 by omega)).2.2 (hall i (by omega))) (cwV 1 hts gX6_carryOut_X6_tryOrder rfl rfl rfl (by decide +kernel) ⟨Nat.le_of_ble_eq_true rfl, Nat.le_of_ble_eq_true rfl⟩) hK hP hD hS hA [0, 1, 2, 3, 4, 5, 6, 7, 8, 9, 10, 11, 12, 13, 14, 15, 16, 17, 18, 19, 20, 21, 22, 23, 24, 25, 26, 27, 28, 29, 30, 31, 32, 33, 34, 35, 36, 37, 38, 39, 40, 41, 42, 43, 44, 45, 46, 47, 48, 49, 50, 51, 52, 53, 54, 55, 56, 57, 58, 59, 60, 61, 62, 63, 64, 65, 66, 67, 68, 69, 70, 71, 72, 73, 74, 75, 76, 77, 78, 79, 80, 81, 82, 83, 84, 85, 86, 87, 88, 89, 90, 91, 92, 93] wX_allC wX_nd wX_adr wX_all 0 rfl rfl rfl hl.1 rfl (Nat.le_of_ble_eq_true rfl) dX6_carryOut_46 ⟨Nat.zero_le _, Nat.zero_le _⟩ (fun H locs hP hD hS => ?_)
    refine kr_zne (tgt := 58) hx hcd (by omega) dX6_carryOut_49 (by decide) (fun (c_49 : 0 < 1) => ?_) (fun (c_49 : 1 = 0) => absurd c_49 (by omega))
    refine kr_iinc (lv' := [(3, .int (nI (i + 1))), (0, .ref (ob 0)), (2, .int (nI (L / 4)))]) hx hcd dX6_carryOut_58 hl (k := 2) rfl (by decide) rfl (fun ls hl => ?_)
    refine lv_goto (tgt := 39) hx hcd dX6_carryOut_61 (by decide) ?_
    obtain ⟨hP, hD⟩ := kr_re (ws2 := wX cI cB cW ob nw tr qs sc (g_rot qs r) M (g_run T M (i + 1)) S n L T) hP hD (congrArg (fun c9 => wX cI cB cW ob nw tr qs sc (g_rot qs r) M c9 S n L T) rfl)
    exact ih_39 H locs ls hP hD hS (lv_sub hl [1, 2, 0] rfl)
  · have hl : lv_has ls 4 [(0, .ref (ob 0)), (2, .int (nI (L / 4))), (3, .int (nI (L / 4)))] := hl
    refine lv_iload_n hx hcd dX6_carryOut_39 rfl (lv_at hl 2 rfl) ?_
    refine lv_iload_n hx hcd dX6_carryOut_40 rfl (lv_at hl 1 rfl) ?_
    refine kr_cge (tgt := 64) hx hcd (by omega) (by omega) dX6_carryOut_41 (by decide) (fun (c_41 : L / 4 ≤ (L / 4)) => ?_) (fun (c_41 : (L / 4) < L / 4) => absurd c_41 (by omega))
    refine lv_aload_n hx hcd dX6_carryOut_64 rfl (lv_at hl 0 rfl) ?_
    refine kr_Vv (As := []) (rest := []) (ws2 := wX cI cB cW ob nw tr qs sc (g_rot qs (rj n r)) M (g_run T M (L / 4)) (sset S (pj n r) M) (g_kn n) L T) (q := (RX6, TX6, 5)) ⟨hx, hcd, hml, hown, hts⟩ (c_X6_saveState l D cI cB cW cL ob nw tr qs sc (g_rot qs r) (g_run T M (L / 4)) S n L T _ M r (by omega) (by omega)) (cwV 0 hts gX6_carryOut_X6_saveState rfl rfl rfl (by decide +kernel) ⟨Nat.le_of_ble_eq_true rfl, Nat.le_of_ble_eq_true rfl⟩) hK hP hD hS hA [0, 1, 2, 3, 4, 5, 6, 7, 8, 9, 10, 11, 12, 13, 14, 15, 16, 17, 18, 19, 20, 21, 22, 23, 24, 25, 26, 27, 28, 29, 30, 31, 32, 33, 34, 35, 36, 37, 38, 39, 40, 41, 42, 43, 44, 45, 46, 47, 48, 49, 50, 51, 52, 53, 54, 55, 56, 57, 58, 59, 60, 61, 62, 63, 64, 65, 66, 67, 68, 69, 70, 71, 72, 73, 74, 75, 76, 77, 78, 79, 80, 81, 82, 83, 84, 85, 86, 87, 88, 89, 90, 91, 92, 93] wX_allC wX_nd wX_adr wX_all 0 rfl rfl rfl hl.1 rfl (Nat.le_of_ble_eq_true rfl) dX6_carryOut_65 ⟨Nat.zero_le _, Nat.zero_le _⟩ (fun H locs hP hD hS => ?_)
    refine lv_aload_n hx hcd dX6_carryOut_68 rfl (lv_at hl 0 rfl) ?_
    refine kr_get hx hcd hts uX6 hown hK hP 0 rfl rfl 0 (by decide) (by decide +kernel) (v := .ref (nw 0)) rfl dX6_carryOut_69 ?_
    refine lv_aload_n hx hcd dX6_carryOut_72 rfl (lv_at hl 0 rfl) ?_
    refine kr_get hx hcd hts uX6 hown hK hP 0 rfl rfl 1 (by decide) (by decide +kernel) (v := .ref (tr 0)) rfl dX6_carryOut_73 ?_
    refine kr_Vv (As := [.ref (tr 0)]) (rest := []) (ws2 := wX cI cB cW ob nw tr qs sc (g_rot qs (rj n r)) (g_run T M (L / 4)) (g_run T M (L / 4)) (sset S (pj n r) M) (g_kn n) L T) (q := (RX5, TX5, 5)) ⟨hx, hcd, hml, hown, hts⟩ (c_X5_copyFrom l D cI cB cW cL nw tr M _ (g_run T M (L / 4)) ) (cwV 1 hts gX6_carryOut_X5_copyFrom rfl rfl rfl (by decide +kernel) ⟨Nat.le_of_ble_eq_true rfl, Nat.le_of_ble_eq_true rfl⟩) hK hP hD hS hA [2, 3, 4, 5, 6, 7, 8, 9, 10, 11, 12, 13, 14, 15, 16, 17, 18, 19, 20, 21, 22, 23, 24, 25, 26, 27, 28, 29, 30, 31] wX_cp_nw_trC (by decide) w2W_adr wX_cp_nw_tr 2 rfl rfl rfl hl.1 rfl (Nat.le_of_ble_eq_true rfl) dX6_carryOut_76 ⟨Nat.zero_le _, Nat.zero_le _⟩ (fun H locs hP hD hS => ?_)
    refine lv_iload_n hx hcd dX6_carryOut_79 rfl (lv_at hl 1 rfl) ?_
    exact kr_iret hx hcd hr hlocks hK hP hD hS rfl rfl dX6_carryOut_80

set_option maxHeartbeats 4000000 in
set_option maxRecDepth 100000 in
theorem c_X6_carryOut__f (l : Launch) (D : va_G) (cI cB cW cL : ClassId) (ob nw tr : Nat → Nat) (qs : Nat → Nat → Nat) (sc : Nat → Nat) (G : Nat → Option Nat) (N : kM) (S : Nat → kM) (n L : Nat) (T : Nat → Int32) (sz : Nat) (M : kM) (k : Nat) (hI : kInv M) (hT : kTx T) (hL : L ≤ 100) (hok : c_okk T L = true) (hk : k < L / 4) (hall : ∀ j, j < k → g_okr T M j = true) (hno : g_okr T M k = false) : kMi l yX6_carryOut wsX6_carryOut ({ frames := 6, cells := 0, slots := 0, locals := 141 }) D vwCl (kT cI cB cW cL) sz [.ref (ob 0)] (wX cI cB cW ob nw tr qs sc G M N S n L T) (wX cI cB cW ob nw tr qs sc G M (g_run T M k) S n L T) ((-1000) - (nI k)) := by
  refine kr_ofi (cc := cX6_carryOut) (maxL := 4) (ret := (some .int)) (by decide) rfl (Nat.le_of_ble_eq_true rfl) ?_
  intro pp ee ss mm args below meth cc AA ls hx hcd hr hts hown hlocks hml hK hP hD hA hl
  have hS : va_S AA ss.heap ss.heap [] := va_S.rf
  have hown : ss.vm.findClass RX6 = some mm.cls := hown
  have hl : lv_has ls 4 [(0, .ref (ob 0))] := hl
  have uX6 : ∀ w ∈ u_ws RX6 TX6 5, w ∈ wsX6_carryOut := by decide +kernel
  refine lv_aload_n hx hcd dX6_carryOut_0 rfl (lv_at hl 0 rfl) ?_
  refine kr_get hx hcd hts uX6 hown hK hP 0 rfl rfl 3 (by decide) (by decide +kernel) (v := .ref (sc 0)) rfl dX6_carryOut_1 ?_
  refine kr_Vi (As := []) (rest := []) (ws2 := wX cI cB cW ob nw tr qs sc G M N S n L T) (q := (RX2, TX2, 2)) ⟨hx, hcd, hml, hown, hts⟩ (c_X2_errorPosition l D cI cB cW cL sc L T _ M hT (by omega)) (cwV 0 hts gX6_carryOut_X2_errorPosition rfl rfl rfl (by decide +kernel) ⟨Nat.le_of_ble_eq_true rfl, Nat.le_of_ble_eq_true rfl⟩) hK hP hD hS hA [92, 93] wX_scC (by decide) wSc_adr (kset_same _ _ _ wX_scC) 92 rfl rfl rfl hl.1 rfl (Nat.le_of_ble_eq_true rfl) dX6_carryOut_4 ⟨Nat.zero_le _, Nat.zero_le _⟩ (fun H locs hP hD hS => ?_)
  refine kr_top (w := (-1)) (err_okk.trans (if_pos hok)) ?_
  refine lv_istore_n (lv' := [(1, .int (-1)), (0, .ref (ob 0))]) hx hcd dX6_carryOut_7 rfl hl (by decide) rfl (fun ls hl => ?_)
  refine lv_iload_n hx hcd dX6_carryOut_8 rfl (lv_at hl 0 rfl) ?_
  refine lv_iconst (v := (-1)) hx hcd dX6_carryOut_9 (by decide) ?_
  refine lv_icmp_eq (tgt := 18) hx hcd dX6_carryOut_10 (by decide) (fun (c_10 : (-1) = (-1)) => ?_) (fun (c_10 : ¬ (-1) = (-1)) => absurd c_10 (not_not_intro rfl))
  refine lv_aload_n hx hcd dX6_carryOut_18 rfl (lv_at hl 1 rfl) ?_
  refine kr_get hx hcd hts uX6 hown hK hP 0 rfl rfl 1 (by decide) (by decide +kernel) (v := .ref (tr 0)) rfl dX6_carryOut_19 ?_
  refine lv_aload_n hx hcd dX6_carryOut_22 rfl (lv_at hl 1 rfl) ?_
  refine kr_get hx hcd hts uX6 hown hK hP 0 rfl rfl 0 (by decide) (by decide +kernel) (v := .ref (nw 0)) rfl dX6_carryOut_23 ?_
  refine kr_Vv (As := [.ref (nw 0)]) (rest := []) (ws2 := wX cI cB cW ob nw tr qs sc G M M S n L T) (q := (RX5, TX5, 5)) ⟨hx, hcd, hml, hown, hts⟩ (c_X5_copyFrom l D cI cB cW cL tr nw N _ M ) (cwV 1 hts gX6_carryOut_X5_copyFrom rfl rfl rfl (by decide +kernel) ⟨Nat.le_of_ble_eq_true rfl, Nat.le_of_ble_eq_true rfl⟩) hK hP hD hS hA [17, 18, 19, 20, 21, 22, 23, 24, 25, 26, 27, 28, 29, 30, 31, 2, 3, 4, 5, 6, 7, 8, 9, 10, 11, 12, 13, 14, 15, 16] wX_cp_tr_nwC (by decide) w2W_adr wX_cp_tr_nw 17 rfl rfl rfl hl.1 rfl (Nat.le_of_ble_eq_true rfl) dX6_carryOut_26 ⟨Nat.zero_le _, Nat.zero_le _⟩ (fun H locs hP hD hS => ?_)
  refine lv_aload_n hx hcd dX6_carryOut_29 rfl (lv_at hl 1 rfl) ?_
  refine kr_get hx hcd hts uX6 hown hK hP 0 rfl rfl 3 (by decide) (by decide +kernel) (v := .ref (sc 0)) rfl dX6_carryOut_30 ?_
  refine kr_Vi (As := []) (rest := []) (ws2 := wX cI cB cW ob nw tr qs sc G M M S n L T) (q := (RX2, TX2, 2)) ⟨hx, hcd, hml, hown, hts⟩ (c_X2_orders l D cI cB cW cL sc L T _ M (by omega)) (cwV 0 hts gX6_carryOut_X2_orders rfl rfl rfl (by decide +kernel) ⟨Nat.le_of_ble_eq_true rfl, Nat.le_of_ble_eq_true rfl⟩) hK hP hD hS hA [92, 93] wX_scC (by decide) wSc_adr (kset_same _ _ _ wX_scC) 92 rfl rfl rfl hl.1 rfl (Nat.le_of_ble_eq_true rfl) dX6_carryOut_33 ⟨Nat.zero_le _, Nat.zero_le _⟩ (fun H locs hP hD hS => ?_)
  refine lv_istore_n (lv' := [(2, .int (nI (L / 4))), (1, .int (-1)), (0, .ref (ob 0))]) hx hcd dX6_carryOut_36 rfl hl (by decide) rfl (fun ls hl => ?_)
  refine lv_iconst (v := nI 0) hx hcd dX6_carryOut_37 (by decide) ?_
  refine lv_istore_n (lv' := [(3, .int (nI 0)), (2, .int (nI (L / 4))), (1, .int (-1)), (0, .ref (ob 0))]) hx hcd dX6_carryOut_38 rfl hl (by decide) rfl (fun ls hl => ?_)
  obtain ⟨hP, hD⟩ := kr_re (ws2 := wX cI cB cW ob nw tr qs sc G M (g_run T M 0) S n L T) hP hD (congrArg (fun c9 => wX cI cB cW ob nw tr qs sc G M c9 S n L T) (show M = g_run T M 0 from rfl))
  refine kr_up (fun i => wX cI cB cW ob nw tr qs sc G M (g_run T M i) S n L T) (fun i => [(0, .ref (ob 0)), (2, .int (nI (L / 4))), (3, .int (nI i))]) k (nL := 4) (fun i hi ih_39 H locs ls hP hD hS hl => ?_) (fun H locs ls hP hD hS hl => ?_) 0 (by omega) hP hD hS (lv_sub hl [3, 1, 0] rfl)
  · have hl : lv_has ls 4 [(0, .ref (ob 0)), (2, .int (nI (L / 4))), (3, .int (nI i))] := hl
    refine lv_iload_n hx hcd dX6_carryOut_39 rfl (lv_at hl 2 rfl) ?_
    refine lv_iload_n hx hcd dX6_carryOut_40 rfl (lv_at hl 1 rfl) ?_
    refine kr_cge (tgt := 64) hx hcd (by omega) (by omega) dX6_carryOut_41 (by decide) (fun (c_41 : L / 4 ≤ i) => absurd c_41 (by omega)) (fun (c_41 : i < L / 4) => ?_)
    refine lv_aload_n hx hcd dX6_carryOut_44 rfl (lv_at hl 0 rfl) ?_
    refine lv_iload_n hx hcd dX6_carryOut_45 rfl (lv_at hl 2 rfl) ?_
    refine kr_Vi (As := [.int (nI i)]) (rest := []) (ws2 := wX cI cB cW ob nw tr qs sc G M (g_do (ch T (4 * i)) (g_a T i) (g_b T i) (g_run T M i)) S n L T) (q := (RX6, TX6, 5)) ⟨hx, hcd, hml, hown, hts⟩ (c_X6_tryOrder__t l D cI cB cW cL ob nw tr qs sc G (g_run T M i) S n L T _ M i (g_a T i) (g_b T i) (i_run hok hI i (by omega)) hT (by omega) (ord_at hok (show i < L / 4 by omega)).1 (ord_at hok (show i < L / 4 by omega)).2.1 (ord_at hok (show i < L / 4 by omega)).2.2 (hall i (by omega))) (cwV 1 hts gX6_carryOut_X6_tryOrder rfl rfl rfl (by decide +kernel) ⟨Nat.le_of_ble_eq_true rfl, Nat.le_of_ble_eq_true rfl⟩) hK hP hD hS hA [0, 1, 2, 3, 4, 5, 6, 7, 8, 9, 10, 11, 12, 13, 14, 15, 16, 17, 18, 19, 20, 21, 22, 23, 24, 25, 26, 27, 28, 29, 30, 31, 32, 33, 34, 35, 36, 37, 38, 39, 40, 41, 42, 43, 44, 45, 46, 47, 48, 49, 50, 51, 52, 53, 54, 55, 56, 57, 58, 59, 60, 61, 62, 63, 64, 65, 66, 67, 68, 69, 70, 71, 72, 73, 74, 75, 76, 77, 78, 79, 80, 81, 82, 83, 84, 85, 86, 87, 88, 89, 90, 91, 92, 93] wX_allC wX_nd wX_adr wX_all 0 rfl rfl rfl hl.1 rfl (Nat.le_of_ble_eq_true rfl) dX6_carryOut_46 ⟨Nat.zero_le _, Nat.zero_le _⟩ (fun H locs hP hD hS => ?_)
    refine kr_zne (tgt := 58) hx hcd (by omega) dX6_carryOut_49 (by decide) (fun (c_49 : 0 < 1) => ?_) (fun (c_49 : 1 = 0) => absurd c_49 (by omega))
    refine kr_iinc (lv' := [(3, .int (nI (i + 1))), (0, .ref (ob 0)), (2, .int (nI (L / 4)))]) hx hcd dX6_carryOut_58 hl (k := 2) rfl (by decide) rfl (fun ls hl => ?_)
    refine lv_goto (tgt := 39) hx hcd dX6_carryOut_61 (by decide) ?_
    obtain ⟨hP, hD⟩ := kr_re (ws2 := wX cI cB cW ob nw tr qs sc G M (g_run T M (i + 1)) S n L T) hP hD (congrArg (fun c9 => wX cI cB cW ob nw tr qs sc G M c9 S n L T) rfl)
    exact ih_39 H locs ls hP hD hS (lv_sub hl [1, 2, 0] rfl)
  · have hl : lv_has ls 4 [(0, .ref (ob 0)), (2, .int (nI (L / 4))), (3, .int (nI k))] := hl
    refine lv_iload_n hx hcd dX6_carryOut_39 rfl (lv_at hl 2 rfl) ?_
    refine lv_iload_n hx hcd dX6_carryOut_40 rfl (lv_at hl 1 rfl) ?_
    refine kr_cge (tgt := 64) hx hcd (by omega) (by omega) dX6_carryOut_41 (by decide) (fun (c_41 : L / 4 ≤ k) => absurd c_41 (by omega)) (fun (c_41 : k < L / 4) => ?_)
    refine lv_aload_n hx hcd dX6_carryOut_44 rfl (lv_at hl 0 rfl) ?_
    refine lv_iload_n hx hcd dX6_carryOut_45 rfl (lv_at hl 2 rfl) ?_
    refine kr_Vi (As := [.int (nI k)]) (rest := []) (ws2 := wX cI cB cW ob nw tr qs sc G M (g_run T M k) S n L T) (q := (RX6, TX6, 5)) ⟨hx, hcd, hml, hown, hts⟩ (c_X6_tryOrder__f l D cI cB cW cL ob nw tr qs sc G (g_run T M k) S n L T _ M k (g_a T k) (g_b T k) (i_run hok hI k (by omega)) hT (by omega) (ord_at hok (show k < L / 4 by omega)).1 (ord_at hok (show k < L / 4 by omega)).2.1 (ord_at hok (show k < L / 4 by omega)).2.2 hno) (cwV 1 hts gX6_carryOut_X6_tryOrder rfl rfl rfl (by decide +kernel) ⟨Nat.le_of_ble_eq_true rfl, Nat.le_of_ble_eq_true rfl⟩) hK hP hD hS hA [0, 1, 2, 3, 4, 5, 6, 7, 8, 9, 10, 11, 12, 13, 14, 15, 16, 17, 18, 19, 20, 21, 22, 23, 24, 25, 26, 27, 28, 29, 30, 31, 32, 33, 34, 35, 36, 37, 38, 39, 40, 41, 42, 43, 44, 45, 46, 47, 48, 49, 50, 51, 52, 53, 54, 55, 56, 57, 58, 59, 60, 61, 62, 63, 64, 65, 66, 67, 68, 69, 70, 71, 72, 73, 74, 75, 76, 77, 78, 79, 80, 81, 82, 83, 84, 85, 86, 87, 88, 89, 90, 91, 92, 93] wX_allC wX_nd wX_adr wX_all 0 rfl rfl rfl hl.1 rfl (Nat.le_of_ble_eq_true rfl) dX6_carryOut_46 ⟨Nat.zero_le _, Nat.zero_le _⟩ (fun H locs hP hD hS => ?_)
    refine kr_zne (tgt := 58) hx hcd (by omega) dX6_carryOut_49 (by decide) (fun (c_49 : 0 < 0) => absurd c_49 (by omega)) (fun (c_49 : 0 = 0) => ?_)
    refine lv_sipush (v := (-1000)) hx hcd dX6_carryOut_52 (by decide) ?_
    refine lv_iload_n hx hcd dX6_carryOut_55 rfl (lv_at hl 2 rfl) ?_
    refine lv_isub hx hcd dX6_carryOut_56 ?_
    exact kr_iret hx hcd hr hlocks hK hP hD hS rfl rfl dX6_carryOut_57

set_option maxHeartbeats 4000000 in
set_option maxRecDepth 100000 in
theorem c_X6_undo__j0 (l : Launch) (D : va_G) (cI cB cW cL : ClassId) (ob nw tr : Nat → Nat) (qs : Nat → Nat → Nat) (sc : Nat → Nat) (G : Nat → Option Nat) (N : kM) (S : Nat → kM) (n L : Nat) (T : Nat → Int32) (sz : Nat) (M : kM) (r k : Nat) (hk : k < 4) (hj : (k + r) % 4 = 0) : kMi l yX6_undo wsX6_undo ({ frames := 3, cells := 0, slots := 0, locals := 122 }) D vwCl (kT cI cB cW cL) sz [.ref (ob 0)] (wX cI cB cW ob nw tr qs sc (g_rot qs r) M N S (k + 1) L T) (wX cI cB cW ob nw tr qs sc (g_rot qs r) (S 0) N S k L T) (nI k) := by
  refine kr_ofi (cc := cX6_undo) (maxL := 1) (ret := (some .int)) (by decide) rfl (Nat.le_of_ble_eq_true rfl) ?_
  intro pp ee ss mm args below meth cc AA ls hx hcd hr hts hown hlocks hml hK hP hD hA hl
  have hS : va_S AA ss.heap ss.heap [] := va_S.rf
  have hown : ss.vm.findClass RX6 = some mm.cls := hown
  have hl : lv_has ls 1 [(0, .ref (ob 0))] := hl
  have uX6 : ∀ w ∈ u_ws RX6 TX6 5, w ∈ wsX6_undo := by decide +kernel
  refine lv_aload_n hx hcd dX6_undo_0 rfl (lv_at hl 0 rfl) ?_
  refine kr_get hx hcd hts uX6 hown hK hP 0 rfl rfl 4 (by decide) (by decide +kernel) (v := .int (nI (k + 1))) rfl dX6_undo_1 ?_
  refine lv_iconst (v := nI 1) hx hcd dX6_undo_4 (by decide) ?_
  refine kr_cge (tgt := 18) hx hcd (by omega) (by omega) dX6_undo_5 (by decide) (fun (c_5 : 1 ≤ k + 1) => ?_) (fun (c_5 : k + 1 < 1) => absurd c_5 (by omega))
  refine lv_aload_n hx hcd dX6_undo_18 rfl (lv_at hl 0 rfl) ?_
  refine lv_dup hx hcd dX6_undo_19 rfl ?_
  refine kr_get hx hcd hts uX6 hown hK hP 0 rfl rfl 4 (by decide) (by decide +kernel) (v := .int (nI (k + 1))) rfl dX6_undo_20 ?_
  refine lv_iconst (v := nI 1) hx hcd dX6_undo_23 (by decide) ?_
  refine kr_sub hx hcd (by omega) dX6_undo_24 ?_
  refine kr_top (w := nI k) (congrArg nI (by omega)) ?_
  refine kr_put hx hcd hts uX6 tyX6 tyX6_ok nmX6 hown hK hP hD hS 0 rfl rfl 4 (by decide) (by decide +kernel) rfl rfl rfl (ws2 := wX cI cB cW ob nw tr qs sc (g_rot qs r) M N S k L T) rfl dX6_undo_25 (fun H locs hP hD hS => ?_)
  refine lv_aload_n hx hcd dX6_undo_28 rfl (lv_at hl 0 rfl) ?_
  refine kr_get hx hcd hts uX6 hown hK hP 0 rfl rfl 0 (by decide) (by decide +kernel) (v := .ref (nw 0)) rfl dX6_undo_29 ?_
  refine lv_aload_n hx hcd dX6_undo_32 rfl (lv_at hl 0 rfl) ?_
  refine kr_get hx hcd hts uX6 hown hK hP 0 rfl rfl 2 (by decide) (by decide +kernel) (v := .ref (ob 1)) rfl dX6_undo_33 ?_
  refine lv_aload_n hx hcd dX6_undo_36 rfl (lv_at hl 0 rfl) ?_
  refine kr_get hx hcd hts uX6 hown hK hP 0 rfl rfl 4 (by decide) (by decide +kernel) (v := .int (nI k)) rfl dX6_undo_37 ?_
  refine kr_aald hx hcd hK hP 1 2 rfl rfl (v := qs 0 0) (by omega) (by decide) (rot_at hk hj) dX6_undo_40 ?_
  refine kr_Vv (As := [.ref (qs 0 0)]) (rest := []) (ws2 := wX cI cB cW ob nw tr qs sc (g_rot qs r) (S 0) N S k L T) (q := (RX5, TX5, 5)) ⟨hx, hcd, hml, hown, hts⟩ (c_X5_copyFrom l D cI cB cW cL nw (qs 0) M _ (S 0) ) (cwV 1 hts gX6_undo_X5_copyFrom rfl rfl rfl (by decide +kernel) ⟨Nat.le_of_ble_eq_true rfl, Nat.le_of_ble_eq_true rfl⟩) hK hP hD hS hA [2, 3, 4, 5, 6, 7, 8, 9, 10, 11, 12, 13, 14, 15, 16, 32, 33, 34, 35, 36, 37, 38, 39, 40, 41, 42, 43, 44, 45, 46] wX_cp_nw_q0C (by decide) w2W_adr wX_cp_nw_q0 2 rfl rfl rfl hl.1 rfl (Nat.le_of_ble_eq_true rfl) dX6_undo_41 ⟨Nat.zero_le _, Nat.zero_le _⟩ (fun H locs hP hD hS => ?_)
  refine lv_aload_n hx hcd dX6_undo_44 rfl (lv_at hl 0 rfl) ?_
  refine kr_get hx hcd hts uX6 hown hK hP 0 rfl rfl 4 (by decide) (by decide +kernel) (v := .int (nI k)) rfl dX6_undo_45 ?_
  exact kr_iret hx hcd hr hlocks hK hP hD hS rfl rfl dX6_undo_48

set_option maxHeartbeats 4000000 in
set_option maxRecDepth 100000 in
theorem c_X6_undo__j1 (l : Launch) (D : va_G) (cI cB cW cL : ClassId) (ob nw tr : Nat → Nat) (qs : Nat → Nat → Nat) (sc : Nat → Nat) (G : Nat → Option Nat) (N : kM) (S : Nat → kM) (n L : Nat) (T : Nat → Int32) (sz : Nat) (M : kM) (r k : Nat) (hk : k < 4) (hj : (k + r) % 4 = 1) : kMi l yX6_undo wsX6_undo ({ frames := 3, cells := 0, slots := 0, locals := 122 }) D vwCl (kT cI cB cW cL) sz [.ref (ob 0)] (wX cI cB cW ob nw tr qs sc (g_rot qs r) M N S (k + 1) L T) (wX cI cB cW ob nw tr qs sc (g_rot qs r) (S 1) N S k L T) (nI k) := by
  refine kr_ofi (cc := cX6_undo) (maxL := 1) (ret := (some .int)) (by decide) rfl (Nat.le_of_ble_eq_true rfl) ?_
  intro pp ee ss mm args below meth cc AA ls hx hcd hr hts hown hlocks hml hK hP hD hA hl
  have hS : va_S AA ss.heap ss.heap [] := va_S.rf
  have hown : ss.vm.findClass RX6 = some mm.cls := hown
  have hl : lv_has ls 1 [(0, .ref (ob 0))] := hl
  have uX6 : ∀ w ∈ u_ws RX6 TX6 5, w ∈ wsX6_undo := by decide +kernel
  refine lv_aload_n hx hcd dX6_undo_0 rfl (lv_at hl 0 rfl) ?_
  refine kr_get hx hcd hts uX6 hown hK hP 0 rfl rfl 4 (by decide) (by decide +kernel) (v := .int (nI (k + 1))) rfl dX6_undo_1 ?_
  refine lv_iconst (v := nI 1) hx hcd dX6_undo_4 (by decide) ?_
  refine kr_cge (tgt := 18) hx hcd (by omega) (by omega) dX6_undo_5 (by decide) (fun (c_5 : 1 ≤ k + 1) => ?_) (fun (c_5 : k + 1 < 1) => absurd c_5 (by omega))
  refine lv_aload_n hx hcd dX6_undo_18 rfl (lv_at hl 0 rfl) ?_
  refine lv_dup hx hcd dX6_undo_19 rfl ?_
  refine kr_get hx hcd hts uX6 hown hK hP 0 rfl rfl 4 (by decide) (by decide +kernel) (v := .int (nI (k + 1))) rfl dX6_undo_20 ?_
  refine lv_iconst (v := nI 1) hx hcd dX6_undo_23 (by decide) ?_
  refine kr_sub hx hcd (by omega) dX6_undo_24 ?_
  refine kr_top (w := nI k) (congrArg nI (by omega)) ?_
  refine kr_put hx hcd hts uX6 tyX6 tyX6_ok nmX6 hown hK hP hD hS 0 rfl rfl 4 (by decide) (by decide +kernel) rfl rfl rfl (ws2 := wX cI cB cW ob nw tr qs sc (g_rot qs r) M N S k L T) rfl dX6_undo_25 (fun H locs hP hD hS => ?_)
  refine lv_aload_n hx hcd dX6_undo_28 rfl (lv_at hl 0 rfl) ?_
  refine kr_get hx hcd hts uX6 hown hK hP 0 rfl rfl 0 (by decide) (by decide +kernel) (v := .ref (nw 0)) rfl dX6_undo_29 ?_
  refine lv_aload_n hx hcd dX6_undo_32 rfl (lv_at hl 0 rfl) ?_
  refine kr_get hx hcd hts uX6 hown hK hP 0 rfl rfl 2 (by decide) (by decide +kernel) (v := .ref (ob 1)) rfl dX6_undo_33 ?_
  refine lv_aload_n hx hcd dX6_undo_36 rfl (lv_at hl 0 rfl) ?_
  refine kr_get hx hcd hts uX6 hown hK hP 0 rfl rfl 4 (by decide) (by decide +kernel) (v := .int (nI k)) rfl dX6_undo_37 ?_
  refine kr_aald hx hcd hK hP 1 2 rfl rfl (v := qs 1 0) (by omega) (by decide) (rot_at hk hj) dX6_undo_40 ?_
  refine kr_Vv (As := [.ref (qs 1 0)]) (rest := []) (ws2 := wX cI cB cW ob nw tr qs sc (g_rot qs r) (S 1) N S k L T) (q := (RX5, TX5, 5)) ⟨hx, hcd, hml, hown, hts⟩ (c_X5_copyFrom l D cI cB cW cL nw (qs 1) M _ (S 1) ) (cwV 1 hts gX6_undo_X5_copyFrom rfl rfl rfl (by decide +kernel) ⟨Nat.le_of_ble_eq_true rfl, Nat.le_of_ble_eq_true rfl⟩) hK hP hD hS hA [2, 3, 4, 5, 6, 7, 8, 9, 10, 11, 12, 13, 14, 15, 16, 47, 48, 49, 50, 51, 52, 53, 54, 55, 56, 57, 58, 59, 60, 61] wX_cp_nw_q1C (by decide) w2W_adr wX_cp_nw_q1 2 rfl rfl rfl hl.1 rfl (Nat.le_of_ble_eq_true rfl) dX6_undo_41 ⟨Nat.zero_le _, Nat.zero_le _⟩ (fun H locs hP hD hS => ?_)
  refine lv_aload_n hx hcd dX6_undo_44 rfl (lv_at hl 0 rfl) ?_
  refine kr_get hx hcd hts uX6 hown hK hP 0 rfl rfl 4 (by decide) (by decide +kernel) (v := .int (nI k)) rfl dX6_undo_45 ?_
  exact kr_iret hx hcd hr hlocks hK hP hD hS rfl rfl dX6_undo_48

set_option maxHeartbeats 4000000 in
set_option maxRecDepth 100000 in
theorem c_X6_undo__j2 (l : Launch) (D : va_G) (cI cB cW cL : ClassId) (ob nw tr : Nat → Nat) (qs : Nat → Nat → Nat) (sc : Nat → Nat) (G : Nat → Option Nat) (N : kM) (S : Nat → kM) (n L : Nat) (T : Nat → Int32) (sz : Nat) (M : kM) (r k : Nat) (hk : k < 4) (hj : (k + r) % 4 = 2) : kMi l yX6_undo wsX6_undo ({ frames := 3, cells := 0, slots := 0, locals := 122 }) D vwCl (kT cI cB cW cL) sz [.ref (ob 0)] (wX cI cB cW ob nw tr qs sc (g_rot qs r) M N S (k + 1) L T) (wX cI cB cW ob nw tr qs sc (g_rot qs r) (S 2) N S k L T) (nI k) := by
  refine kr_ofi (cc := cX6_undo) (maxL := 1) (ret := (some .int)) (by decide) rfl (Nat.le_of_ble_eq_true rfl) ?_
  intro pp ee ss mm args below meth cc AA ls hx hcd hr hts hown hlocks hml hK hP hD hA hl
  have hS : va_S AA ss.heap ss.heap [] := va_S.rf
  have hown : ss.vm.findClass RX6 = some mm.cls := hown
  have hl : lv_has ls 1 [(0, .ref (ob 0))] := hl
  have uX6 : ∀ w ∈ u_ws RX6 TX6 5, w ∈ wsX6_undo := by decide +kernel
  refine lv_aload_n hx hcd dX6_undo_0 rfl (lv_at hl 0 rfl) ?_
  refine kr_get hx hcd hts uX6 hown hK hP 0 rfl rfl 4 (by decide) (by decide +kernel) (v := .int (nI (k + 1))) rfl dX6_undo_1 ?_
  refine lv_iconst (v := nI 1) hx hcd dX6_undo_4 (by decide) ?_
  refine kr_cge (tgt := 18) hx hcd (by omega) (by omega) dX6_undo_5 (by decide) (fun (c_5 : 1 ≤ k + 1) => ?_) (fun (c_5 : k + 1 < 1) => absurd c_5 (by omega))
  refine lv_aload_n hx hcd dX6_undo_18 rfl (lv_at hl 0 rfl) ?_
  refine lv_dup hx hcd dX6_undo_19 rfl ?_
  refine kr_get hx hcd hts uX6 hown hK hP 0 rfl rfl 4 (by decide) (by decide +kernel) (v := .int (nI (k + 1))) rfl dX6_undo_20 ?_
  refine lv_iconst (v := nI 1) hx hcd dX6_undo_23 (by decide) ?_
  refine kr_sub hx hcd (by omega) dX6_undo_24 ?_
  refine kr_top (w := nI k) (congrArg nI (by omega)) ?_
  refine kr_put hx hcd hts uX6 tyX6 tyX6_ok nmX6 hown hK hP hD hS 0 rfl rfl 4 (by decide) (by decide +kernel) rfl rfl rfl (ws2 := wX cI cB cW ob nw tr qs sc (g_rot qs r) M N S k L T) rfl dX6_undo_25 (fun H locs hP hD hS => ?_)
  refine lv_aload_n hx hcd dX6_undo_28 rfl (lv_at hl 0 rfl) ?_
  refine kr_get hx hcd hts uX6 hown hK hP 0 rfl rfl 0 (by decide) (by decide +kernel) (v := .ref (nw 0)) rfl dX6_undo_29 ?_
  refine lv_aload_n hx hcd dX6_undo_32 rfl (lv_at hl 0 rfl) ?_
  refine kr_get hx hcd hts uX6 hown hK hP 0 rfl rfl 2 (by decide) (by decide +kernel) (v := .ref (ob 1)) rfl dX6_undo_33 ?_
  refine lv_aload_n hx hcd dX6_undo_36 rfl (lv_at hl 0 rfl) ?_
  refine kr_get hx hcd hts uX6 hown hK hP 0 rfl rfl 4 (by decide) (by decide +kernel) (v := .int (nI k)) rfl dX6_undo_37 ?_
  refine kr_aald hx hcd hK hP 1 2 rfl rfl (v := qs 2 0) (by omega) (by decide) (rot_at hk hj) dX6_undo_40 ?_
  refine kr_Vv (As := [.ref (qs 2 0)]) (rest := []) (ws2 := wX cI cB cW ob nw tr qs sc (g_rot qs r) (S 2) N S k L T) (q := (RX5, TX5, 5)) ⟨hx, hcd, hml, hown, hts⟩ (c_X5_copyFrom l D cI cB cW cL nw (qs 2) M _ (S 2) ) (cwV 1 hts gX6_undo_X5_copyFrom rfl rfl rfl (by decide +kernel) ⟨Nat.le_of_ble_eq_true rfl, Nat.le_of_ble_eq_true rfl⟩) hK hP hD hS hA [2, 3, 4, 5, 6, 7, 8, 9, 10, 11, 12, 13, 14, 15, 16, 62, 63, 64, 65, 66, 67, 68, 69, 70, 71, 72, 73, 74, 75, 76] wX_cp_nw_q2C (by decide) w2W_adr wX_cp_nw_q2 2 rfl rfl rfl hl.1 rfl (Nat.le_of_ble_eq_true rfl) dX6_undo_41 ⟨Nat.zero_le _, Nat.zero_le _⟩ (fun H locs hP hD hS => ?_)
  refine lv_aload_n hx hcd dX6_undo_44 rfl (lv_at hl 0 rfl) ?_
  refine kr_get hx hcd hts uX6 hown hK hP 0 rfl rfl 4 (by decide) (by decide +kernel) (v := .int (nI k)) rfl dX6_undo_45 ?_
  exact kr_iret hx hcd hr hlocks hK hP hD hS rfl rfl dX6_undo_48

set_option maxHeartbeats 4000000 in
set_option maxRecDepth 100000 in
theorem c_X6_undo__j3 (l : Launch) (D : va_G) (cI cB cW cL : ClassId) (ob nw tr : Nat → Nat) (qs : Nat → Nat → Nat) (sc : Nat → Nat) (G : Nat → Option Nat) (N : kM) (S : Nat → kM) (n L : Nat) (T : Nat → Int32) (sz : Nat) (M : kM) (r k : Nat) (hk : k < 4) (hj : (k + r) % 4 = 3) : kMi l yX6_undo wsX6_undo ({ frames := 3, cells := 0, slots := 0, locals := 122 }) D vwCl (kT cI cB cW cL) sz [.ref (ob 0)] (wX cI cB cW ob nw tr qs sc (g_rot qs r) M N S (k + 1) L T) (wX cI cB cW ob nw tr qs sc (g_rot qs r) (S 3) N S k L T) (nI k) := by
  refine kr_ofi (cc := cX6_undo) (maxL := 1) (ret := (some .int)) (by decide) rfl (Nat.le_of_ble_eq_true rfl) ?_
  intro pp ee ss mm args below meth cc AA ls hx hcd hr hts hown hlocks hml hK hP hD hA hl
  have hS : va_S AA ss.heap ss.heap [] := va_S.rf
  have hown : ss.vm.findClass RX6 = some mm.cls := hown
  have hl : lv_has ls 1 [(0, .ref (ob 0))] := hl
  have uX6 : ∀ w ∈ u_ws RX6 TX6 5, w ∈ wsX6_undo := by decide +kernel
  refine lv_aload_n hx hcd dX6_undo_0 rfl (lv_at hl 0 rfl) ?_
  refine kr_get hx hcd hts uX6 hown hK hP 0 rfl rfl 4 (by decide) (by decide +kernel) (v := .int (nI (k + 1))) rfl dX6_undo_1 ?_
  refine lv_iconst (v := nI 1) hx hcd dX6_undo_4 (by decide) ?_
  refine kr_cge (tgt := 18) hx hcd (by omega) (by omega) dX6_undo_5 (by decide) (fun (c_5 : 1 ≤ k + 1) => ?_) (fun (c_5 : k + 1 < 1) => absurd c_5 (by omega))
  refine lv_aload_n hx hcd dX6_undo_18 rfl (lv_at hl 0 rfl) ?_
  refine lv_dup hx hcd dX6_undo_19 rfl ?_
  refine kr_get hx hcd hts uX6 hown hK hP 0 rfl rfl 4 (by decide) (by decide +kernel) (v := .int (nI (k + 1))) rfl dX6_undo_20 ?_
  refine lv_iconst (v := nI 1) hx hcd dX6_undo_23 (by decide) ?_
  refine kr_sub hx hcd (by omega) dX6_undo_24 ?_
  refine kr_top (w := nI k) (congrArg nI (by omega)) ?_
  refine kr_put hx hcd hts uX6 tyX6 tyX6_ok nmX6 hown hK hP hD hS 0 rfl rfl 4 (by decide) (by decide +kernel) rfl rfl rfl (ws2 := wX cI cB cW ob nw tr qs sc (g_rot qs r) M N S k L T) rfl dX6_undo_25 (fun H locs hP hD hS => ?_)
  refine lv_aload_n hx hcd dX6_undo_28 rfl (lv_at hl 0 rfl) ?_
  refine kr_get hx hcd hts uX6 hown hK hP 0 rfl rfl 0 (by decide) (by decide +kernel) (v := .ref (nw 0)) rfl dX6_undo_29 ?_
  refine lv_aload_n hx hcd dX6_undo_32 rfl (lv_at hl 0 rfl) ?_
  refine kr_get hx hcd hts uX6 hown hK hP 0 rfl rfl 2 (by decide) (by decide +kernel) (v := .ref (ob 1)) rfl dX6_undo_33 ?_
  refine lv_aload_n hx hcd dX6_undo_36 rfl (lv_at hl 0 rfl) ?_
  refine kr_get hx hcd hts uX6 hown hK hP 0 rfl rfl 4 (by decide) (by decide +kernel) (v := .int (nI k)) rfl dX6_undo_37 ?_
  refine kr_aald hx hcd hK hP 1 2 rfl rfl (v := qs 3 0) (by omega) (by decide) (rot_at hk hj) dX6_undo_40 ?_
  refine kr_Vv (As := [.ref (qs 3 0)]) (rest := []) (ws2 := wX cI cB cW ob nw tr qs sc (g_rot qs r) (S 3) N S k L T) (q := (RX5, TX5, 5)) ⟨hx, hcd, hml, hown, hts⟩ (c_X5_copyFrom l D cI cB cW cL nw (qs 3) M _ (S 3) ) (cwV 1 hts gX6_undo_X5_copyFrom rfl rfl rfl (by decide +kernel) ⟨Nat.le_of_ble_eq_true rfl, Nat.le_of_ble_eq_true rfl⟩) hK hP hD hS hA [2, 3, 4, 5, 6, 7, 8, 9, 10, 11, 12, 13, 14, 15, 16, 77, 78, 79, 80, 81, 82, 83, 84, 85, 86, 87, 88, 89, 90, 91] wX_cp_nw_q3C (by decide) w2W_adr wX_cp_nw_q3 2 rfl rfl rfl hl.1 rfl (Nat.le_of_ble_eq_true rfl) dX6_undo_41 ⟨Nat.zero_le _, Nat.zero_le _⟩ (fun H locs hP hD hS => ?_)
  refine lv_aload_n hx hcd dX6_undo_44 rfl (lv_at hl 0 rfl) ?_
  refine kr_get hx hcd hts uX6 hown hK hP 0 rfl rfl 4 (by decide) (by decide +kernel) (v := .int (nI k)) rfl dX6_undo_45 ?_
  exact kr_iret hx hcd hr hlocks hK hP hD hS rfl rfl dX6_undo_48
theorem c_X6_undo__ok (l : Launch) (D : va_G) (cI cB cW cL : ClassId) (ob nw tr : Nat → Nat) (qs : Nat → Nat → Nat) (sc : Nat → Nat) (G : Nat → Option Nat) (N : kM) (S : Nat → kM) (n L : Nat) (T : Nat → Int32) (sz : Nat) (M : kM) (r k : Nat) (hk : k < 4) : kMi l yX6_undo wsX6_undo ({ frames := 3, cells := 0, slots := 0, locals := 122 }) D vwCl (kT cI cB cW cL) sz [.ref (ob 0)] (wX cI cB cW ob nw tr qs sc (g_rot qs r) M N S (k + 1) L T) (wX cI cB cW ob nw tr qs sc (g_rot qs r) (S ((k + r) % 4)) N S k L T) (nI k) := by
  rcases (show (k + r) % 4 = 0 ∨ (k + r) % 4 = 1 ∨ (k + r) % 4 = 2 ∨ (k + r) % 4 = 3 by omega) with hj | hj | hj | hj
  · rw [hj]
    exact c_X6_undo__j0 l D cI cB cW cL ob nw tr qs sc G N S n L T sz M r k hk hj
  · rw [hj]
    exact c_X6_undo__j1 l D cI cB cW cL ob nw tr qs sc G N S n L T sz M r k hk hj
  · rw [hj]
    exact c_X6_undo__j2 l D cI cB cW cL ob nw tr qs sc G N S n L T sz M r k hk hj
  · rw [hj]
    exact c_X6_undo__j3 l D cI cB cW cL ob nw tr qs sc G N S n L T sz M r k hk hj
