set_option maxHeartbeats 4000000 in
set_option maxRecDepth 100000 in
theorem c_X5_askFor (l : Launch) (D : va_G) (cI cB cW cL : ClassId) (q : Nat → Nat) (sz : Nat) (M : kM) (a : Nat) (b : Nat) (hI : kInv M) (ha : a < 6) (hb : b < 6) : kMi l yX5_askFor wsX5_askFor ({ frames := 3, cells := 0, slots := 0, locals := 73 }) D vwCl (kT cI cB cW cL) sz [.ref (q 0), .int (nI a), .int (nI b)] (wW cI q M) (wW cI q (g_ask M a b)) (if g_has M a b 5 = true then 0 else 1) := by
  refine kr_ofi (cc := cX5_askFor) (maxL := 3) (ret := (some .int)) (by decide) rfl (Nat.le_of_ble_eq_true rfl) ?_
  intro pp ee ss mm args below meth cc AA ls hx hcd hr hts hown hlocks hml hK hP hD hA hl
  have hS : va_S AA ss.heap ss.heap [] := va_S.rf
  have hown : ss.vm.findClass RX5 = some mm.cls := hown
  have hl : lv_has ls 3 [(0, .ref (q 0)), (1, .int (nI a)), (2, .int (nI b))] := hl
  have uX5 : ∀ w ∈ u_ws RX5 TX5 5, w ∈ wsX5_askFor := by decide +kernel
  refine lv_aload_n hx hcd dX5_askFor_0 rfl (lv_at hl 0 rfl) ?_
  refine kr_get hx hcd hts uX5 hown hK hP 0 rfl rfl 1 (by decide) (by decide +kernel) (v := .ref (q 5)) rfl dX5_askFor_1 ?_
  refine lv_iload_n hx hcd dX5_askFor_4 rfl (lv_at hl 1 rfl) ?_
  refine lv_iload_n hx hcd dX5_askFor_5 rfl (lv_at hl 2 rfl) ?_
  refine lv_iconst (v := nI 5) hx hcd dX5_askFor_6 (by decide) ?_
  refine kr_Vi (As := [.int (nI a), .int (nI b), .int (nI 5)]) (rest := []) (ws2 := wW cI q M) (q := (RX1, TX1, 3)) ⟨hx, hcd, hml, hown, hts⟩ (c_X1_hasAny l D cI cB cW cL q _ M a b 5 (by omega) (by omega)) (cwV 3 hts gX5_askFor_X1_hasAny rfl rfl rfl (by decide +kernel) ⟨Nat.le_of_ble_eq_true rfl, Nat.le_of_ble_eq_true rfl⟩) hK hP hD hS hA [5, 6, 7, 8] wW_RoC (by decide) wRo_adr wW_Ro0 5 rfl rfl rfl hl.1 rfl (Nat.le_of_ble_eq_true rfl) dX5_askFor_7 ⟨Nat.zero_le _, Nat.zero_le _⟩ (fun H locs hP hD hS => ?_)
  refine kr_beq (tgt := 15) hx hcd dX5_askFor_10 (by decide) (fun (c_10 : g_has M a b 5 = false) => ?_) (fun (c_10 : g_has M a b 5 = true) => ?_)
  · refine lv_aload_n hx hcd dX5_askFor_15 rfl (lv_at hl 0 rfl) ?_
    refine kr_get hx hcd hts uX5 hown hK hP 0 rfl rfl 1 (by decide) (by decide +kernel) (v := .ref (q 5)) rfl dX5_askFor_16 ?_
    refine lv_iload_n hx hcd dX5_askFor_19 rfl (lv_at hl 1 rfl) ?_
    refine lv_iload_n hx hcd dX5_askFor_20 rfl (lv_at hl 2 rfl) ?_
    refine lv_iconst (v := nI 0) hx hcd dX5_askFor_21 (by decide) ?_
    refine lv_iconst (v := nI 4) hx hcd dX5_askFor_22 (by decide) ?_
    refine kr_Vv (As := [.int (nI a), .int (nI b), .int (nI 0), .int (nI 4)]) (rest := []) (ws2 := wW cI q (g_become M a b ((g_st M a b &&& (0 ^^^ (-1))) ||| 4))) (q := (RX1, TX1, 3)) ⟨hx, hcd, hml, hown, hts⟩ (c_X1_change l D cI cB cW cL q _ M a b 0 4 (by omega) (by omega)) (cwV 4 hts gX5_askFor_X1_change rfl rfl rfl (by decide +kernel) ⟨Nat.le_of_ble_eq_true rfl, Nat.le_of_ble_eq_true rfl⟩) hK hP hD hS hA [5, 6, 7, 8] wW_RoC (by decide) wRo_adr (wW_ro (fun k hk => o_become (by omega) (by omega) hk)) 5 rfl rfl rfl hl.1 rfl (Nat.le_of_ble_eq_true rfl) dX5_askFor_23 ⟨Nat.zero_le _, Nat.zero_le _⟩ (fun H locs hP hD hS => ?_)
    have hI_1 : kInv (g_become M a b ((g_st M a b &&& (0 ^^^ (-1))) ||| 4)) := i_become hI (by omega) (by omega) (i_s hI (by omega) (by omega) (F := fun x => (x &&& (0 ^^^ (-1))) ||| 4) (by decide))
    refine lv_aload_n hx hcd dX5_askFor_26 rfl (lv_at hl 0 rfl) ?_
    refine lv_iconst (v := nI 0) hx hcd dX5_askFor_27 (by decide) ?_
    refine lv_iload_n hx hcd dX5_askFor_28 rfl (lv_at hl 1 rfl) ?_
    refine lv_iload_n hx hcd dX5_askFor_29 rfl (lv_at hl 2 rfl) ?_
    refine kr_Vv (As := [.int (nI 0), .int (nI a), .int (nI b)]) (rest := []) (ws2 := wW cI q (g_send (g_become M a b ((g_st M a b &&& (0 ^^^ (-1))) ||| 4)) 0 a b 0 0)) (q := (RX5, TX5, 5)) ⟨hx, hcd, hml, hown, hts⟩ (c_X5_send l D cI cB cW cL q _ (g_become M a b ((g_st M a b &&& (0 ^^^ (-1))) ||| 4)) 0 a b hI_1 (by omega) (by omega) (by omega) (by omega) (by omega)) (cwV 3 hts gX5_askFor_X5_send rfl rfl rfl (by decide +kernel) ⟨Nat.le_of_ble_eq_true rfl, Nat.le_of_ble_eq_true rfl⟩) hK hP hD hS hA [0, 1, 2, 3, 4, 5, 6, 7, 8, 9, 10, 11, 12, 13, 14] wW_allC (by decide) wW_adr wW_all 0 rfl rfl rfl hl.1 rfl (Nat.le_of_ble_eq_true rfl) dX5_askFor_30 ⟨Nat.zero_le _, Nat.zero_le _⟩ (fun H locs hP hD hS => ?_)
    have hI_2 : kInv (g_send (g_become M a b ((g_st M a b &&& (0 ^^^ (-1))) ||| 4)) 0 a b 0 0) := i_send hI_1 (by omega) (by omega) (by omega) (by omega) (by omega) (by omega) (by omega)
    refine lv_iconst (v := nI 1) hx hcd dX5_askFor_33 (by decide) ?_
    exact kr_iret hx hcd hr hlocks hK hP hD hS (by simp [c_10]; rfl) (congrArg (fun M9 => wW cI q M9) (by (try simp only [b_0, b_z, b_4, b_5, b_8, b_10]); simp [g_ask, c_10])) dX5_askFor_34
  · refine lv_iconst (v := nI 0) hx hcd dX5_askFor_13 (by decide) ?_
    exact kr_iret hx hcd hr hlocks hK hP hD hS (by simp [c_10]; rfl) (congrArg (fun M9 => wW cI q M9) (by (try simp only [b_0, b_z, b_4, b_5, b_8, b_10]); simp [g_ask, c_10])) dX5_askFor_14

set_option maxHeartbeats 4000000 in
set_option maxRecDepth 100000 in
theorem c_X5_grantTo (l : Launch) (D : va_G) (cI cB cW cL : ClassId) (q : Nat → Nat) (sz : Nat) (M : kM) (a : Nat) (b : Nat) (hI : kInv M) (ha : a < 6) (hb : b < 6) : kMi l yX5_grantTo wsX5_grantTo ({ frames := 3, cells := 0, slots := 0, locals := 73 }) D vwCl (kT cI cB cW cL) sz [.ref (q 0), .int (nI a), .int (nI b)] (wW cI q M) (wW cI q (g_grant M a b)) (if g_has M a b 8 = true then 1 else 0) := by
  refine kr_ofi (cc := cX5_grantTo) (maxL := 3) (ret := (some .int)) (by decide) rfl (Nat.le_of_ble_eq_true rfl) ?_
  intro pp ee ss mm args below meth cc AA ls hx hcd hr hts hown hlocks hml hK hP hD hA hl
  have hS : va_S AA ss.heap ss.heap [] := va_S.rf
  have hown : ss.vm.findClass RX5 = some mm.cls := hown
  have hl : lv_has ls 3 [(0, .ref (q 0)), (1, .int (nI a)), (2, .int (nI b))] := hl
  have uX5 : ∀ w ∈ u_ws RX5 TX5 5, w ∈ wsX5_grantTo := by decide +kernel
  refine lv_aload_n hx hcd dX5_grantTo_0 rfl (lv_at hl 0 rfl) ?_
  refine kr_get hx hcd hts uX5 hown hK hP 0 rfl rfl 1 (by decide) (by decide +kernel) (v := .ref (q 5)) rfl dX5_grantTo_1 ?_
  refine lv_iload_n hx hcd dX5_grantTo_4 rfl (lv_at hl 1 rfl) ?_
  refine lv_iload_n hx hcd dX5_grantTo_5 rfl (lv_at hl 2 rfl) ?_
  refine lv_bipush (v := nI 8) hx hcd dX5_grantTo_6 (by decide) ?_
  refine kr_Vi (As := [.int (nI a), .int (nI b), .int (nI 8)]) (rest := []) (ws2 := wW cI q M) (q := (RX1, TX1, 3)) ⟨hx, hcd, hml, hown, hts⟩ (c_X1_hasAny l D cI cB cW cL q _ M a b 8 (by omega) (by omega)) (cwV 3 hts gX5_grantTo_X1_hasAny rfl rfl rfl (by decide +kernel) ⟨Nat.le_of_ble_eq_true rfl, Nat.le_of_ble_eq_true rfl⟩) hK hP hD hS hA [5, 6, 7, 8] wW_RoC (by decide) wRo_adr wW_Ro0 5 rfl rfl rfl hl.1 rfl (Nat.le_of_ble_eq_true rfl) dX5_grantTo_8 ⟨Nat.zero_le _, Nat.zero_le _⟩ (fun H locs hP hD hS => ?_)
  refine kr_bne (tgt := 16) hx hcd dX5_grantTo_11 (by decide) (fun (c_11 : g_has M a b 8 = true) => ?_) (fun (c_11 : g_has M a b 8 = false) => ?_)
  · refine lv_aload_n hx hcd dX5_grantTo_16 rfl (lv_at hl 0 rfl) ?_
    refine kr_get hx hcd hts uX5 hown hK hP 0 rfl rfl 1 (by decide) (by decide +kernel) (v := .ref (q 5)) rfl dX5_grantTo_17 ?_
    refine lv_iload_n hx hcd dX5_grantTo_20 rfl (lv_at hl 1 rfl) ?_
    refine lv_iload_n hx hcd dX5_grantTo_21 rfl (lv_at hl 2 rfl) ?_
    refine lv_bipush (v := nI 8) hx hcd dX5_grantTo_22 (by decide) ?_
    refine lv_iconst (v := nI 2) hx hcd dX5_grantTo_24 (by decide) ?_
    refine kr_Vv (As := [.int (nI a), .int (nI b), .int (nI 8), .int (nI 2)]) (rest := []) (ws2 := wW cI q (g_become M a b ((g_st M a b &&& (8 ^^^ (-1))) ||| 2))) (q := (RX1, TX1, 3)) ⟨hx, hcd, hml, hown, hts⟩ (c_X1_change l D cI cB cW cL q _ M a b 8 2 (by omega) (by omega)) (cwV 4 hts gX5_grantTo_X1_change rfl rfl rfl (by decide +kernel) ⟨Nat.le_of_ble_eq_true rfl, Nat.le_of_ble_eq_true rfl⟩) hK hP hD hS hA [5, 6, 7, 8] wW_RoC (by decide) wRo_adr (wW_ro (fun k hk => o_become (by omega) (by omega) hk)) 5 rfl rfl rfl hl.1 rfl (Nat.le_of_ble_eq_true rfl) dX5_grantTo_25 ⟨Nat.zero_le _, Nat.zero_le _⟩ (fun H locs hP hD hS => ?_)
    have hI_1 : kInv (g_become M a b ((g_st M a b &&& (8 ^^^ (-1))) ||| 2)) := i_become hI (by omega) (by omega) (i_s hI (by omega) (by omega) (F := fun x => (x &&& (8 ^^^ (-1))) ||| 2) (by decide))
    refine lv_aload_n hx hcd dX5_grantTo_28 rfl (lv_at hl 0 rfl) ?_
    refine lv_iconst (v := nI 1) hx hcd dX5_grantTo_29 (by decide) ?_
    refine lv_iload_n hx hcd dX5_grantTo_30 rfl (lv_at hl 1 rfl) ?_
    refine lv_iload_n hx hcd dX5_grantTo_31 rfl (lv_at hl 2 rfl) ?_
    refine kr_Vv (As := [.int (nI 1), .int (nI a), .int (nI b)]) (rest := []) (ws2 := wW cI q (g_send (g_become M a b ((g_st M a b &&& (8 ^^^ (-1))) ||| 2)) 1 a b 0 0)) (q := (RX5, TX5, 5)) ⟨hx, hcd, hml, hown, hts⟩ (c_X5_send l D cI cB cW cL q _ (g_become M a b ((g_st M a b &&& (8 ^^^ (-1))) ||| 2)) 1 a b hI_1 (by omega) (by omega) (by omega) (by omega) (by omega)) (cwV 3 hts gX5_grantTo_X5_send rfl rfl rfl (by decide +kernel) ⟨Nat.le_of_ble_eq_true rfl, Nat.le_of_ble_eq_true rfl⟩) hK hP hD hS hA [0, 1, 2, 3, 4, 5, 6, 7, 8, 9, 10, 11, 12, 13, 14] wW_allC (by decide) wW_adr wW_all 0 rfl rfl rfl hl.1 rfl (Nat.le_of_ble_eq_true rfl) dX5_grantTo_32 ⟨Nat.zero_le _, Nat.zero_le _⟩ (fun H locs hP hD hS => ?_)
    have hI_2 : kInv (g_send (g_become M a b ((g_st M a b &&& (8 ^^^ (-1))) ||| 2)) 1 a b 0 0) := i_send hI_1 (by omega) (by omega) (by omega) (by omega) (by omega) (by omega) (by omega)
    refine lv_aload_n hx hcd dX5_grantTo_35 rfl (lv_at hl 0 rfl) ?_
    refine lv_iload_n hx hcd dX5_grantTo_36 rfl (lv_at hl 1 rfl) ?_
    refine lv_iload_n hx hcd dX5_grantTo_37 rfl (lv_at hl 2 rfl) ?_
    refine kr_Vv (As := [.int (nI a), .int (nI b)]) (rest := []) (ws2 := wW cI q (g_show (g_send (g_become M a b ((g_st M a b &&& (8 ^^^ (-1))) ||| 2)) 1 a b 0 0) a b)) (q := (RX5, TX5, 5)) ⟨hx, hcd, hml, hown, hts⟩ (c_X5_show l D cI cB cW cL q _ (g_send (g_become M a b ((g_st M a b &&& (8 ^^^ (-1))) ||| 2)) 1 a b 0 0) a b hI_2 (by omega) (by omega)) (cwV 2 hts gX5_grantTo_X5_show rfl rfl rfl (by decide +kernel) ⟨Nat.le_of_ble_eq_true rfl, Nat.le_of_ble_eq_true rfl⟩) hK hP hD hS hA [0, 1, 2, 3, 4, 5, 6, 7, 8, 9, 10, 11, 12, 13, 14] wW_allC (by decide) wW_adr wW_all 0 rfl rfl rfl hl.1 rfl (Nat.le_of_ble_eq_true rfl) dX5_grantTo_38 ⟨Nat.zero_le _, Nat.zero_le _⟩ (fun H locs hP hD hS => ?_)
    have hI_3 : kInv (g_show (g_send (g_become M a b ((g_st M a b &&& (8 ^^^ (-1))) ||| 2)) 1 a b 0 0) a b) := i_show hI_2 (by omega) (by omega)
    refine lv_iconst (v := nI 1) hx hcd dX5_grantTo_41 (by decide) ?_
    exact kr_iret hx hcd hr hlocks hK hP hD hS (by simp [c_11]; rfl) (congrArg (fun M9 => wW cI q M9) (by (try simp only [b_0, b_z, b_4, b_5, b_8, b_10]); simp [g_grant, c_11])) dX5_grantTo_42
  · refine lv_iconst (v := nI 0) hx hcd dX5_grantTo_14 (by decide) ?_
    exact kr_iret hx hcd hr hlocks hK hP hD hS (by simp [c_11]; rfl) (congrArg (fun M9 => wW cI q M9) (by (try simp only [b_0, b_z, b_4, b_5, b_8, b_10]); simp [g_grant, c_11])) dX5_grantTo_15

set_option maxHeartbeats 4000000 in
set_option maxRecDepth 100000 in
theorem c_X5_refuseTo (l : Launch) (D : va_G) (cI cB cW cL : ClassId) (q : Nat → Nat) (sz : Nat) (M : kM) (a : Nat) (b : Nat) (hI : kInv M) (ha : a < 6) (hb : b < 6) : kMi l yX5_refuseTo wsX5_refuseTo ({ frames := 3, cells := 0, slots := 0, locals := 73 }) D vwCl (kT cI cB cW cL) sz [.ref (q 0), .int (nI a), .int (nI b)] (wW cI q M) (wW cI q (g_refuse M a b)) (if g_has M a b 10 = true then 1 else 0) := by
  refine kr_ofi (cc := cX5_refuseTo) (maxL := 4) (ret := (some .int)) (by decide) rfl (Nat.le_of_ble_eq_true rfl) ?_
  intro pp ee ss mm args below meth cc AA ls hx hcd hr hts hown hlocks hml hK hP hD hA hl
  have hS : va_S AA ss.heap ss.heap [] := va_S.rf
  have hown : ss.vm.findClass RX5 = some mm.cls := hown
  have hl : lv_has ls 4 [(0, .ref (q 0)), (1, .int (nI a)), (2, .int (nI b))] := hl
  have uX5 : ∀ w ∈ u_ws RX5 TX5 5, w ∈ wsX5_refuseTo := by decide +kernel
  refine lv_aload_n hx hcd dX5_refuseTo_0 rfl (lv_at hl 0 rfl) ?_
  refine kr_get hx hcd hts uX5 hown hK hP 0 rfl rfl 1 (by decide) (by decide +kernel) (v := .ref (q 5)) rfl dX5_refuseTo_1 ?_
  refine lv_iload_n hx hcd dX5_refuseTo_4 rfl (lv_at hl 1 rfl) ?_
  refine lv_iload_n hx hcd dX5_refuseTo_5 rfl (lv_at hl 2 rfl) ?_
  refine lv_bipush (v := nI 10) hx hcd dX5_refuseTo_6 (by decide) ?_
  refine kr_Vi (As := [.int (nI a), .int (nI b), .int (nI 10)]) (rest := []) (ws2 := wW cI q M) (q := (RX1, TX1, 3)) ⟨hx, hcd, hml, hown, hts⟩ (c_X1_hasAny l D cI cB cW cL q _ M a b 10 (by omega) (by omega)) (cwV 3 hts gX5_refuseTo_X1_hasAny rfl rfl rfl (by decide +kernel) ⟨Nat.le_of_ble_eq_true rfl, Nat.le_of_ble_eq_true rfl⟩) hK hP hD hS hA [5, 6, 7, 8] wW_RoC (by decide) wRo_adr wW_Ro0 5 rfl rfl rfl hl.1 rfl (Nat.le_of_ble_eq_true rfl) dX5_refuseTo_8 ⟨Nat.zero_le _, Nat.zero_le _⟩ (fun H locs hP hD hS => ?_)
  refine kr_bne (tgt := 16) hx hcd dX5_refuseTo_11 (by decide) (fun (c_11 : g_has M a b 10 = true) => ?_) (fun (c_11 : g_has M a b 10 = false) => ?_)
  · refine lv_aload_n hx hcd dX5_refuseTo_16 rfl (lv_at hl 0 rfl) ?_
    refine kr_get hx hcd hts uX5 hown hK hP 0 rfl rfl 1 (by decide) (by decide +kernel) (v := .ref (q 5)) rfl dX5_refuseTo_17 ?_
    refine lv_iload_n hx hcd dX5_refuseTo_20 rfl (lv_at hl 1 rfl) ?_
    refine lv_iload_n hx hcd dX5_refuseTo_21 rfl (lv_at hl 2 rfl) ?_
    refine lv_iconst (v := nI 2) hx hcd dX5_refuseTo_22 (by decide) ?_
    refine kr_Vi (As := [.int (nI a), .int (nI b), .int (nI 2)]) (rest := []) (ws2 := wW cI q M) (q := (RX1, TX1, 3)) ⟨hx, hcd, hml, hown, hts⟩ (c_X1_hasAny l D cI cB cW cL q _ M a b 2 (by omega) (by omega)) (cwV 3 hts gX5_refuseTo_X1_hasAny rfl rfl rfl (by decide +kernel) ⟨Nat.le_of_ble_eq_true rfl, Nat.le_of_ble_eq_true rfl⟩) hK hP hD hS hA [5, 6, 7, 8] wW_RoC (by decide) wRo_adr wW_Ro0 5 rfl rfl rfl hl.1 rfl (Nat.le_of_ble_eq_true rfl) dX5_refuseTo_23 ⟨Nat.zero_le _, Nat.zero_le _⟩ (fun H locs hP hD hS => ?_)
    refine lv_istore_n (lv' := [(3, .int (kI (g_has M a b 2))), (0, .ref (q 0)), (1, .int (nI a)), (2, .int (nI b))]) hx hcd dX5_refuseTo_26 rfl hl (by decide) rfl (fun ls hl => ?_)
    refine lv_aload_n hx hcd dX5_refuseTo_27 rfl (lv_at hl 1 rfl) ?_
    refine kr_get hx hcd hts uX5 hown hK hP 0 rfl rfl 1 (by decide) (by decide +kernel) (v := .ref (q 5)) rfl dX5_refuseTo_28 ?_
    refine lv_iload_n hx hcd dX5_refuseTo_31 rfl (lv_at hl 2 rfl) ?_
    refine lv_iload_n hx hcd dX5_refuseTo_32 rfl (lv_at hl 3 rfl) ?_
    refine lv_bipush (v := nI 10) hx hcd dX5_refuseTo_33 (by decide) ?_
    refine lv_iconst (v := nI 0) hx hcd dX5_refuseTo_35 (by decide) ?_
    refine kr_Vv (As := [.int (nI a), .int (nI b), .int (nI 10), .int (nI 0)]) (rest := []) (ws2 := wW cI q (g_become M a b ((g_st M a b &&& (10 ^^^ (-1))) ||| 0))) (q := (RX1, TX1, 3)) ⟨hx, hcd, hml, hown, hts⟩ (c_X1_change l D cI cB cW cL q _ M a b 10 0 (by omega) (by omega)) (cwV 4 hts gX5_refuseTo_X1_change rfl rfl rfl (by decide +kernel) ⟨Nat.le_of_ble_eq_true rfl, Nat.le_of_ble_eq_true rfl⟩) hK hP hD hS hA [5, 6, 7, 8] wW_RoC (by decide) wRo_adr (wW_ro (fun k hk => o_become (by omega) (by omega) hk)) 5 rfl rfl rfl hl.1 rfl (Nat.le_of_ble_eq_true rfl) dX5_refuseTo_36 ⟨Nat.zero_le _, Nat.zero_le _⟩ (fun H locs hP hD hS => ?_)
    have hI_1 : kInv (g_become M a b ((g_st M a b &&& (10 ^^^ (-1))) ||| 0)) := i_become hI (by omega) (by omega) (i_s hI (by omega) (by omega) (F := fun x => (x &&& (10 ^^^ (-1))) ||| 0) (by decide))
    refine lv_aload_n hx hcd dX5_refuseTo_39 rfl (lv_at hl 1 rfl) ?_
    refine lv_iconst (v := nI 3) hx hcd dX5_refuseTo_40 (by decide) ?_
    refine lv_iload_n hx hcd dX5_refuseTo_41 rfl (lv_at hl 2 rfl) ?_
    refine lv_iload_n hx hcd dX5_refuseTo_42 rfl (lv_at hl 3 rfl) ?_
    refine kr_Vv (As := [.int (nI 3), .int (nI a), .int (nI b)]) (rest := []) (ws2 := wW cI q (g_send (g_become M a b ((g_st M a b &&& (10 ^^^ (-1))) ||| 0)) 3 a b 0 0)) (q := (RX5, TX5, 5)) ⟨hx, hcd, hml, hown, hts⟩ (c_X5_send l D cI cB cW cL q _ (g_become M a b ((g_st M a b &&& (10 ^^^ (-1))) ||| 0)) 3 a b hI_1 (by omega) (by omega) (by omega) (by omega) (by omega)) (cwV 3 hts gX5_refuseTo_X5_send rfl rfl rfl (by decide +kernel) ⟨Nat.le_of_ble_eq_true rfl, Nat.le_of_ble_eq_true rfl⟩) hK hP hD hS hA [0, 1, 2, 3, 4, 5, 6, 7, 8, 9, 10, 11, 12, 13, 14] wW_allC (by decide) wW_adr wW_all 0 rfl rfl rfl hl.1 rfl (Nat.le_of_ble_eq_true rfl) dX5_refuseTo_43 ⟨Nat.zero_le _, Nat.zero_le _⟩ (fun H locs hP hD hS => ?_)
    have hI_2 : kInv (g_send (g_become M a b ((g_st M a b &&& (10 ^^^ (-1))) ||| 0)) 3 a b 0 0) := i_send hI_1 (by omega) (by omega) (by omega) (by omega) (by omega) (by omega) (by omega)
    refine lv_iload_n hx hcd dX5_refuseTo_46 rfl (lv_at hl 0 rfl) ?_
    refine kr_beq (tgt := 56) hx hcd dX5_refuseTo_47 (by decide) (fun (c_47 : g_has M a b 2 = false) => ?_) (fun (c_47 : g_has M a b 2 = true) => ?_)
    · refine lv_iconst (v := nI 1) hx hcd dX5_refuseTo_56 (by decide) ?_
      exact kr_iret hx hcd hr hlocks hK hP hD hS (by simp [c_11, c_47]; rfl) (congrArg (fun M9 => wW cI q M9) (by (try simp only [b_0, b_z, b_4, b_5, b_8, b_10]); simp [g_refuse, c_11, c_47])) dX5_refuseTo_57
    · refine lv_aload_n hx hcd dX5_refuseTo_50 rfl (lv_at hl 1 rfl) ?_
      refine lv_iload_n hx hcd dX5_refuseTo_51 rfl (lv_at hl 2 rfl) ?_
      refine lv_iload_n hx hcd dX5_refuseTo_52 rfl (lv_at hl 3 rfl) ?_
      refine kr_Vv (As := [.int (nI a), .int (nI b)]) (rest := []) (ws2 := wW cI q (g_hide (g_send (g_become M a b ((g_st M a b &&& (10 ^^^ (-1))) ||| 0)) 3 a b 0 0) a b)) (q := (RX5, TX5, 5)) ⟨hx, hcd, hml, hown, hts⟩ (c_X5_hide l D cI cB cW cL q _ (g_send (g_become M a b ((g_st M a b &&& (10 ^^^ (-1))) ||| 0)) 3 a b 0 0) a b hI_2 (by omega) (by omega)) (cwV 2 hts gX5_refuseTo_X5_hide rfl rfl rfl (by decide +kernel) ⟨Nat.le_of_ble_eq_true rfl, Nat.le_of_ble_eq_true rfl⟩) hK hP hD hS hA [0, 1, 2, 3, 4, 5, 6, 7, 8, 9, 10, 11, 12, 13, 14] wW_allC (by decide) wW_adr wW_all 0 rfl rfl rfl hl.1 rfl (Nat.le_of_ble_eq_true rfl) dX5_refuseTo_53 ⟨Nat.zero_le _, Nat.zero_le _⟩ (fun H locs hP hD hS => ?_)
      have hI_3 : kInv (g_hide (g_send (g_become M a b ((g_st M a b &&& (10 ^^^ (-1))) ||| 0)) 3 a b 0 0) a b) := i_hide hI_2 (by omega) (by omega)
      refine lv_iconst (v := nI 1) hx hcd dX5_refuseTo_56 (by decide) ?_
      exact kr_iret hx hcd hr hlocks hK hP hD hS (by simp [c_11, c_47]; rfl) (congrArg (fun M9 => wW cI q M9) (by (try simp only [b_0, b_z, b_4, b_5, b_8, b_10]); simp [g_refuse, c_11, c_47])) dX5_refuseTo_57
  · refine lv_iconst (v := nI 0) hx hcd dX5_refuseTo_14 (by decide) ?_
    exact kr_iret hx hcd hr hlocks hK hP hD hS (by simp [c_11]; rfl) (congrArg (fun M9 => wW cI q M9) (by (try simp only [b_0, b_z, b_4, b_5, b_8, b_10]); simp [g_refuse, c_11])) dX5_refuseTo_15

set_option maxHeartbeats 4000000 in
set_option maxRecDepth 100000 in
theorem c_X5_stopSeeing (l : Launch) (D : va_G) (cI cB cW cL : ClassId) (q : Nat → Nat) (sz : Nat) (M : kM) (a : Nat) (b : Nat) (hI : kInv M) (ha : a < 6) (hb : b < 6) : kMi l yX5_stopSeeing wsX5_stopSeeing ({ frames := 3, cells := 0, slots := 0, locals := 73 }) D vwCl (kT cI cB cW cL) sz [.ref (q 0), .int (nI a), .int (nI b)] (wW cI q M) (wW cI q (g_stop M a b)) (if g_has M a b 5 = true then 1 else 0) := by
  refine kr_ofi (cc := cX5_stopSeeing) (maxL := 3) (ret := (some .int)) (by decide) rfl (Nat.le_of_ble_eq_true rfl) ?_
  intro pp ee ss mm args below meth cc AA ls hx hcd hr hts hown hlocks hml hK hP hD hA hl
  have hS : va_S AA ss.heap ss.heap [] := va_S.rf
  have hown : ss.vm.findClass RX5 = some mm.cls := hown
  have hl : lv_has ls 3 [(0, .ref (q 0)), (1, .int (nI a)), (2, .int (nI b))] := hl
  have uX5 : ∀ w ∈ u_ws RX5 TX5 5, w ∈ wsX5_stopSeeing := by decide +kernel
  refine lv_aload_n hx hcd dX5_stopSeeing_0 rfl (lv_at hl 0 rfl) ?_
  refine kr_get hx hcd hts uX5 hown hK hP 0 rfl rfl 1 (by decide) (by decide +kernel) (v := .ref (q 5)) rfl dX5_stopSeeing_1 ?_
  refine lv_iload_n hx hcd dX5_stopSeeing_4 rfl (lv_at hl 1 rfl) ?_
  refine lv_iload_n hx hcd dX5_stopSeeing_5 rfl (lv_at hl 2 rfl) ?_
  refine lv_iconst (v := nI 5) hx hcd dX5_stopSeeing_6 (by decide) ?_
  refine kr_Vi (As := [.int (nI a), .int (nI b), .int (nI 5)]) (rest := []) (ws2 := wW cI q M) (q := (RX1, TX1, 3)) ⟨hx, hcd, hml, hown, hts⟩ (c_X1_hasAny l D cI cB cW cL q _ M a b 5 (by omega) (by omega)) (cwV 3 hts gX5_stopSeeing_X1_hasAny rfl rfl rfl (by decide +kernel) ⟨Nat.le_of_ble_eq_true rfl, Nat.le_of_ble_eq_true rfl⟩) hK hP hD hS hA [5, 6, 7, 8] wW_RoC (by decide) wRo_adr wW_Ro0 5 rfl rfl rfl hl.1 rfl (Nat.le_of_ble_eq_true rfl) dX5_stopSeeing_7 ⟨Nat.zero_le _, Nat.zero_le _⟩ (fun H locs hP hD hS => ?_)
  refine kr_bne (tgt := 15) hx hcd dX5_stopSeeing_10 (by decide) (fun (c_10 : g_has M a b 5 = true) => ?_) (fun (c_10 : g_has M a b 5 = false) => ?_)
  · refine lv_aload_n hx hcd dX5_stopSeeing_15 rfl (lv_at hl 0 rfl) ?_
    refine kr_get hx hcd hts uX5 hown hK hP 0 rfl rfl 1 (by decide) (by decide +kernel) (v := .ref (q 5)) rfl dX5_stopSeeing_16 ?_
    refine lv_iload_n hx hcd dX5_stopSeeing_19 rfl (lv_at hl 1 rfl) ?_
    refine lv_iload_n hx hcd dX5_stopSeeing_20 rfl (lv_at hl 2 rfl) ?_
    refine lv_iconst (v := nI 5) hx hcd dX5_stopSeeing_21 (by decide) ?_
    refine lv_iconst (v := nI 0) hx hcd dX5_stopSeeing_22 (by decide) ?_
    refine kr_Vv (As := [.int (nI a), .int (nI b), .int (nI 5), .int (nI 0)]) (rest := []) (ws2 := wW cI q (g_become M a b ((g_st M a b &&& (5 ^^^ (-1))) ||| 0))) (q := (RX1, TX1, 3)) ⟨hx, hcd, hml, hown, hts⟩ (c_X1_change l D cI cB cW cL q _ M a b 5 0 (by omega) (by omega)) (cwV 4 hts gX5_stopSeeing_X1_change rfl rfl rfl (by decide +kernel) ⟨Nat.le_of_ble_eq_true rfl, Nat.le_of_ble_eq_true rfl⟩) hK hP hD hS hA [5, 6, 7, 8] wW_RoC (by decide) wRo_adr (wW_ro (fun k hk => o_become (by omega) (by omega) hk)) 5 rfl rfl rfl hl.1 rfl (Nat.le_of_ble_eq_true rfl) dX5_stopSeeing_23 ⟨Nat.zero_le _, Nat.zero_le _⟩ (fun H locs hP hD hS => ?_)
    have hI_1 : kInv (g_become M a b ((g_st M a b &&& (5 ^^^ (-1))) ||| 0)) := i_become hI (by omega) (by omega) (i_s hI (by omega) (by omega) (F := fun x => (x &&& (5 ^^^ (-1))) ||| 0) (by decide))
    refine lv_aload_n hx hcd dX5_stopSeeing_26 rfl (lv_at hl 0 rfl) ?_
    refine lv_iconst (v := nI 2) hx hcd dX5_stopSeeing_27 (by decide) ?_
    refine lv_iload_n hx hcd dX5_stopSeeing_28 rfl (lv_at hl 1 rfl) ?_
    refine lv_iload_n hx hcd dX5_stopSeeing_29 rfl (lv_at hl 2 rfl) ?_
    refine kr_Vv (As := [.int (nI 2), .int (nI a), .int (nI b)]) (rest := []) (ws2 := wW cI q (g_send (g_become M a b ((g_st M a b &&& (5 ^^^ (-1))) ||| 0)) 2 a b 0 0)) (q := (RX5, TX5, 5)) ⟨hx, hcd, hml, hown, hts⟩ (c_X5_send l D cI cB cW cL q _ (g_become M a b ((g_st M a b &&& (5 ^^^ (-1))) ||| 0)) 2 a b hI_1 (by omega) (by omega) (by omega) (by omega) (by omega)) (cwV 3 hts gX5_stopSeeing_X5_send rfl rfl rfl (by decide +kernel) ⟨Nat.le_of_ble_eq_true rfl, Nat.le_of_ble_eq_true rfl⟩) hK hP hD hS hA [0, 1, 2, 3, 4, 5, 6, 7, 8, 9, 10, 11, 12, 13, 14] wW_allC (by decide) wW_adr wW_all 0 rfl rfl rfl hl.1 rfl (Nat.le_of_ble_eq_true rfl) dX5_stopSeeing_30 ⟨Nat.zero_le _, Nat.zero_le _⟩ (fun H locs hP hD hS => ?_)
    have hI_2 : kInv (g_send (g_become M a b ((g_st M a b &&& (5 ^^^ (-1))) ||| 0)) 2 a b 0 0) := i_send hI_1 (by omega) (by omega) (by omega) (by omega) (by omega) (by omega) (by omega)
    refine lv_aload_n hx hcd dX5_stopSeeing_33 rfl (lv_at hl 0 rfl) ?_
    refine kr_get hx hcd hts uX5 hown hK hP 0 rfl rfl 2 (by decide) (by decide +kernel) (v := .ref (q 9)) rfl dX5_stopSeeing_34 ?_
    refine lv_iload_n hx hcd dX5_stopSeeing_37 rfl (lv_at hl 1 rfl) ?_
    refine lv_iload_n hx hcd dX5_stopSeeing_38 rfl (lv_at hl 2 rfl) ?_
    refine kr_Vv (As := [.int (nI a), .int (nI b)]) (rest := []) (ws2 := wW cI q (g_forget (g_send (g_become M a b ((g_st M a b &&& (5 ^^^ (-1))) ||| 0)) 2 a b 0 0) a b)) (q := (RX4, TX4, 1)) ⟨hx, hcd, hml, hown, hts⟩ (c_X4_forget l D cI cB cW cL q _ (g_send (g_become M a b ((g_st M a b &&& (5 ^^^ (-1))) ||| 0)) 2 a b 0 0) a b (by omega) (by omega)) (cwV 2 hts gX5_stopSeeing_X4_forget rfl rfl rfl (by decide +kernel) ⟨Nat.le_of_ble_eq_true rfl, Nat.le_of_ble_eq_true rfl⟩) hK hP hD hS hA [9, 10] wW_ViC (by decide) wVi_adr (wW_vi (fun k hk => o_forget (by omega) (by omega) hk)) 9 rfl rfl rfl hl.1 rfl (Nat.le_of_ble_eq_true rfl) dX5_stopSeeing_39 ⟨Nat.zero_le _, Nat.zero_le _⟩ (fun H locs hP hD hS => ?_)
    have hI_3 : kInv (g_forget (g_send (g_become M a b ((g_st M a b &&& (5 ^^^ (-1))) ||| 0)) 2 a b 0 0) a b) := i_forget hI_2 (by omega) (by omega)
    refine lv_iconst (v := nI 1) hx hcd dX5_stopSeeing_42 (by decide) ?_
    exact kr_iret hx hcd hr hlocks hK hP hD hS (by simp [c_10]; rfl) (congrArg (fun M9 => wW cI q M9) (by (try simp only [b_0, b_z, b_4, b_5, b_8, b_10]); simp [g_stop, c_10])) dX5_stopSeeing_43
  · refine lv_iconst (v := nI 0) hx hcd dX5_stopSeeing_13 (by decide) ?_
    exact kr_iret hx hcd hr hlocks hK hP hD hS (by simp [c_10]; rfl) (congrArg (fun M9 => wW cI q M9) (by (try simp only [b_0, b_z, b_4, b_5, b_8, b_10]); simp [g_stop, c_10])) dX5_stopSeeing_14

set_option maxHeartbeats 4000000 in
set_option maxRecDepth 100000 in
theorem c_X5_greetAgain (l : Launch) (D : va_G) (cI cB cW cL : ClassId) (q : Nat → Nat) (sz : Nat) (M : kM) (a : Nat) (b : Nat) (hI : kInv M) (ha : a < 6) (hb : b < 6) : kMv l yX5_greetAgain wsX5_greetAgain ({ frames := 3, cells := 0, slots := 0, locals := 73 }) D vwCl (kT cI cB cW cL) sz [.ref (q 0), .int (nI a), .int (nI b)] (wW cI q M) (wW cI q (g_greet M a b)) := by
  refine kr_ofv (cc := cX5_greetAgain) (maxL := 3) (ret := none) (by decide) rfl (Nat.le_of_ble_eq_true rfl) ?_
  intro pp ee ss mm args below meth cc AA ls hx hcd hr hts hown hlocks hml hK hP hD hA hl
  have hS : va_S AA ss.heap ss.heap [] := va_S.rf
  have hown : ss.vm.findClass RX5 = some mm.cls := hown
  have hl : lv_has ls 3 [(0, .ref (q 0)), (1, .int (nI a)), (2, .int (nI b))] := hl
  have uX5 : ∀ w ∈ u_ws RX5 TX5 5, w ∈ wsX5_greetAgain := by decide +kernel
  refine lv_aload_n hx hcd dX5_greetAgain_0 rfl (lv_at hl 0 rfl) ?_
  refine kr_get hx hcd hts uX5 hown hK hP 0 rfl rfl 1 (by decide) (by decide +kernel) (v := .ref (q 5)) rfl dX5_greetAgain_1 ?_
  refine lv_iload_n hx hcd dX5_greetAgain_4 rfl (lv_at hl 1 rfl) ?_
  refine lv_iload_n hx hcd dX5_greetAgain_5 rfl (lv_at hl 2 rfl) ?_
  refine lv_iconst (v := nI 1) hx hcd dX5_greetAgain_6 (by decide) ?_
  refine kr_Vi (As := [.int (nI a), .int (nI b), .int (nI 1)]) (rest := []) (ws2 := wW cI q M) (q := (RX1, TX1, 3)) ⟨hx, hcd, hml, hown, hts⟩ (c_X1_hasAny l D cI cB cW cL q _ M a b 1 (by omega) (by omega)) (cwV 3 hts gX5_greetAgain_X1_hasAny rfl rfl rfl (by decide +kernel) ⟨Nat.le_of_ble_eq_true rfl, Nat.le_of_ble_eq_true rfl⟩) hK hP hD hS hA [5, 6, 7, 8] wW_RoC (by decide) wRo_adr wW_Ro0 5 rfl rfl rfl hl.1 rfl (Nat.le_of_ble_eq_true rfl) dX5_greetAgain_7 ⟨Nat.zero_le _, Nat.zero_le _⟩ (fun H locs hP hD hS => ?_)
  refine kr_beq (tgt := 32) hx hcd dX5_greetAgain_10 (by decide) (fun (c_10 : g_has M a b 1 = false) => ?_) (fun (c_10 : g_has M a b 1 = true) => ?_)
  · refine lv_aload_n hx hcd dX5_greetAgain_32 rfl (lv_at hl 0 rfl) ?_
    refine kr_get hx hcd hts uX5 hown hK hP 0 rfl rfl 1 (by decide) (by decide +kernel) (v := .ref (q 5)) rfl dX5_greetAgain_33 ?_
    refine lv_iload_n hx hcd dX5_greetAgain_36 rfl (lv_at hl 1 rfl) ?_
    refine lv_iload_n hx hcd dX5_greetAgain_37 rfl (lv_at hl 2 rfl) ?_
    refine lv_iconst (v := nI 2) hx hcd dX5_greetAgain_38 (by decide) ?_
    refine kr_Vi (As := [.int (nI a), .int (nI b), .int (nI 2)]) (rest := []) (ws2 := wW cI q M) (q := (RX1, TX1, 3)) ⟨hx, hcd, hml, hown, hts⟩ (c_X1_hasAny l D cI cB cW cL q _ M a b 2 (by omega) (by omega)) (cwV 3 hts gX5_greetAgain_X1_hasAny rfl rfl rfl (by decide +kernel) ⟨Nat.le_of_ble_eq_true rfl, Nat.le_of_ble_eq_true rfl⟩) hK hP hD hS hA [5, 6, 7, 8] wW_RoC (by decide) wRo_adr wW_Ro0 5 rfl rfl rfl hl.1 rfl (Nat.le_of_ble_eq_true rfl) dX5_greetAgain_39 ⟨Nat.zero_le _, Nat.zero_le _⟩ (fun H locs hP hD hS => ?_)
    refine kr_beq (tgt := 51) hx hcd dX5_greetAgain_42 (by decide) (fun (c_42 : g_has M a b 2 = false) => ?_) (fun (c_42 : g_has M a b 2 = true) => ?_)
    · exact kr_vret hx hcd hr hlocks hK hP hD hS (congrArg (fun M9 => wW cI q M9) (by first | (rw [o_has_send ha hb] at c_42; simp [g_greet, c_10, c_42]) | simp [g_greet, c_10, c_42])) dX5_greetAgain_51
    · refine lv_aload_n hx hcd dX5_greetAgain_45 rfl (lv_at hl 0 rfl) ?_
      refine lv_iload_n hx hcd dX5_greetAgain_46 rfl (lv_at hl 1 rfl) ?_
      refine lv_iload_n hx hcd dX5_greetAgain_47 rfl (lv_at hl 2 rfl) ?_
      refine kr_Vv (As := [.int (nI a), .int (nI b)]) (rest := []) (ws2 := wW cI q (g_show M a b)) (q := (RX5, TX5, 5)) ⟨hx, hcd, hml, hown, hts⟩ (c_X5_show l D cI cB cW cL q _ M a b hI (by omega) (by omega)) (cwV 2 hts gX5_greetAgain_X5_show rfl rfl rfl (by decide +kernel) ⟨Nat.le_of_ble_eq_true rfl, Nat.le_of_ble_eq_true rfl⟩) hK hP hD hS hA [0, 1, 2, 3, 4, 5, 6, 7, 8, 9, 10, 11, 12, 13, 14] wW_allC (by decide) wW_adr wW_all 0 rfl rfl rfl hl.1 rfl (Nat.le_of_ble_eq_true rfl) dX5_greetAgain_48 ⟨Nat.zero_le _, Nat.zero_le _⟩ (fun H locs hP hD hS => ?_)
      have hI_1 : kInv (g_show M a b) := i_show hI (by omega) (by omega)
      exact kr_vret hx hcd hr hlocks hK hP hD hS (congrArg (fun M9 => wW cI q M9) (by first | (rw [o_has_send ha hb] at c_42; simp [g_greet, c_10, c_42]) | simp [g_greet, c_10, c_42])) dX5_greetAgain_51
  · refine lv_aload_n hx hcd dX5_greetAgain_13 rfl (lv_at hl 0 rfl) ?_
    refine kr_get hx hcd hts uX5 hown hK hP 0 rfl rfl 0 (by decide) (by decide +kernel) (v := .ref (q 1)) rfl dX5_greetAgain_14 ?_
    refine lv_iload_n hx hcd dX5_greetAgain_17 rfl (lv_at hl 1 rfl) ?_
    refine kr_Vi (As := [.int (nI a)]) (rest := []) (ws2 := wW cI q M) (q := (RX3, TX3, 3)) ⟨hx, hcd, hml, hown, hts⟩ (c_X3_isThere l D cI cB cW cL q _ M a (by omega)) (cwV 1 hts gX5_greetAgain_X3_isThere rfl rfl rfl (by decide +kernel) ⟨Nat.le_of_ble_eq_true rfl, Nat.le_of_ble_eq_true rfl⟩) hK hP hD hS hA [1, 2, 3, 4] wW_SeC (by decide) wSe_adr wW_Se0 1 rfl rfl rfl hl.1 rfl (Nat.le_of_ble_eq_true rfl) dX5_greetAgain_18 ⟨Nat.zero_le _, Nat.zero_le _⟩ (fun H locs hP hD hS => ?_)
    refine kr_beq (tgt := 32) hx hcd dX5_greetAgain_21 (by decide) (fun (c_21 : g_there M a = false) => ?_) (fun (c_21 : g_there M a = true) => ?_)
    · refine lv_aload_n hx hcd dX5_greetAgain_32 rfl (lv_at hl 0 rfl) ?_
      refine kr_get hx hcd hts uX5 hown hK hP 0 rfl rfl 1 (by decide) (by decide +kernel) (v := .ref (q 5)) rfl dX5_greetAgain_33 ?_
      refine lv_iload_n hx hcd dX5_greetAgain_36 rfl (lv_at hl 1 rfl) ?_
      refine lv_iload_n hx hcd dX5_greetAgain_37 rfl (lv_at hl 2 rfl) ?_
      refine lv_iconst (v := nI 2) hx hcd dX5_greetAgain_38 (by decide) ?_
      refine kr_Vi (As := [.int (nI a), .int (nI b), .int (nI 2)]) (rest := []) (ws2 := wW cI q M) (q := (RX1, TX1, 3)) ⟨hx, hcd, hml, hown, hts⟩ (c_X1_hasAny l D cI cB cW cL q _ M a b 2 (by omega) (by omega)) (cwV 3 hts gX5_greetAgain_X1_hasAny rfl rfl rfl (by decide +kernel) ⟨Nat.le_of_ble_eq_true rfl, Nat.le_of_ble_eq_true rfl⟩) hK hP hD hS hA [5, 6, 7, 8] wW_RoC (by decide) wRo_adr wW_Ro0 5 rfl rfl rfl hl.1 rfl (Nat.le_of_ble_eq_true rfl) dX5_greetAgain_39 ⟨Nat.zero_le _, Nat.zero_le _⟩ (fun H locs hP hD hS => ?_)
      refine kr_beq (tgt := 51) hx hcd dX5_greetAgain_42 (by decide) (fun (c_42 : g_has M a b 2 = false) => ?_) (fun (c_42 : g_has M a b 2 = true) => ?_)
      · exact kr_vret hx hcd hr hlocks hK hP hD hS (congrArg (fun M9 => wW cI q M9) (by first | (rw [o_has_send ha hb] at c_42; simp [g_greet, c_10, c_21, c_42]) | simp [g_greet, c_10, c_21, c_42])) dX5_greetAgain_51
      · refine lv_aload_n hx hcd dX5_greetAgain_45 rfl (lv_at hl 0 rfl) ?_
        refine lv_iload_n hx hcd dX5_greetAgain_46 rfl (lv_at hl 1 rfl) ?_
        refine lv_iload_n hx hcd dX5_greetAgain_47 rfl (lv_at hl 2 rfl) ?_
        refine kr_Vv (As := [.int (nI a), .int (nI b)]) (rest := []) (ws2 := wW cI q (g_show M a b)) (q := (RX5, TX5, 5)) ⟨hx, hcd, hml, hown, hts⟩ (c_X5_show l D cI cB cW cL q _ M a b hI (by omega) (by omega)) (cwV 2 hts gX5_greetAgain_X5_show rfl rfl rfl (by decide +kernel) ⟨Nat.le_of_ble_eq_true rfl, Nat.le_of_ble_eq_true rfl⟩) hK hP hD hS hA [0, 1, 2, 3, 4, 5, 6, 7, 8, 9, 10, 11, 12, 13, 14] wW_allC (by decide) wW_adr wW_all 0 rfl rfl rfl hl.1 rfl (Nat.le_of_ble_eq_true rfl) dX5_greetAgain_48 ⟨Nat.zero_le _, Nat.zero_le _⟩ (fun H locs hP hD hS => ?_)
        have hI_2 : kInv (g_show M a b) := i_show hI (by omega) (by omega)
        exact kr_vret hx hcd hr hlocks hK hP hD hS (congrArg (fun M9 => wW cI q M9) (by first | (rw [o_has_send ha hb] at c_42; simp [g_greet, c_10, c_21, c_42]) | simp [g_greet, c_10, c_21, c_42])) dX5_greetAgain_51
    · refine lv_aload_n hx hcd dX5_greetAgain_24 rfl (lv_at hl 0 rfl) ?_
      refine lv_bipush (v := nI 6) hx hcd dX5_greetAgain_25 (by decide) ?_
      refine lv_iload_n hx hcd dX5_greetAgain_27 rfl (lv_at hl 1 rfl) ?_
      refine lv_iload_n hx hcd dX5_greetAgain_28 rfl (lv_at hl 2 rfl) ?_
      refine kr_Vv (As := [.int (nI 6), .int (nI a), .int (nI b)]) (rest := []) (ws2 := wW cI q (g_send M 6 a b 0 0)) (q := (RX5, TX5, 5)) ⟨hx, hcd, hml, hown, hts⟩ (c_X5_send l D cI cB cW cL q _ M 6 a b hI (by omega) (by omega) (by omega) (by omega) (by omega)) (cwV 3 hts gX5_greetAgain_X5_send rfl rfl rfl (by decide +kernel) ⟨Nat.le_of_ble_eq_true rfl, Nat.le_of_ble_eq_true rfl⟩) hK hP hD hS hA [0, 1, 2, 3, 4, 5, 6, 7, 8, 9, 10, 11, 12, 13, 14] wW_allC (by decide) wW_adr wW_all 0 rfl rfl rfl hl.1 rfl (Nat.le_of_ble_eq_true rfl) dX5_greetAgain_29 ⟨Nat.zero_le _, Nat.zero_le _⟩ (fun H locs hP hD hS => ?_)
      have hI_3 : kInv (g_send M 6 a b 0 0) := i_send hI (by omega) (by omega) (by omega) (by omega) (by omega) (by omega) (by omega)
      refine lv_aload_n hx hcd dX5_greetAgain_32 rfl (lv_at hl 0 rfl) ?_
      refine kr_get hx hcd hts uX5 hown hK hP 0 rfl rfl 1 (by decide) (by decide +kernel) (v := .ref (q 5)) rfl dX5_greetAgain_33 ?_
      refine lv_iload_n hx hcd dX5_greetAgain_36 rfl (lv_at hl 1 rfl) ?_
      refine lv_iload_n hx hcd dX5_greetAgain_37 rfl (lv_at hl 2 rfl) ?_
      refine lv_iconst (v := nI 2) hx hcd dX5_greetAgain_38 (by decide) ?_
      refine kr_Vi (As := [.int (nI a), .int (nI b), .int (nI 2)]) (rest := []) (ws2 := wW cI q (g_send M 6 a b 0 0)) (q := (RX1, TX1, 3)) ⟨hx, hcd, hml, hown, hts⟩ (c_X1_hasAny l D cI cB cW cL q _ (g_send M 6 a b 0 0) a b 2 (by omega) (by omega)) (cwV 3 hts gX5_greetAgain_X1_hasAny rfl rfl rfl (by decide +kernel) ⟨Nat.le_of_ble_eq_true rfl, Nat.le_of_ble_eq_true rfl⟩) hK hP hD hS hA [5, 6, 7, 8] wW_RoC (by decide) wRo_adr wW_Ro0 5 rfl rfl rfl hl.1 rfl (Nat.le_of_ble_eq_true rfl) dX5_greetAgain_39 ⟨Nat.zero_le _, Nat.zero_le _⟩ (fun H locs hP hD hS => ?_)
      refine kr_beq (tgt := 51) hx hcd dX5_greetAgain_42 (by decide) (fun (c_42 : g_has (g_send M 6 a b 0 0) a b 2 = false) => ?_) (fun (c_42 : g_has (g_send M 6 a b 0 0) a b 2 = true) => ?_)
      · exact kr_vret hx hcd hr hlocks hK hP hD hS (congrArg (fun M9 => wW cI q M9) (by first | (rw [o_has_send ha hb] at c_42; simp [g_greet, c_10, c_21, c_42]) | simp [g_greet, c_10, c_21, c_42])) dX5_greetAgain_51
      · refine lv_aload_n hx hcd dX5_greetAgain_45 rfl (lv_at hl 0 rfl) ?_
        refine lv_iload_n hx hcd dX5_greetAgain_46 rfl (lv_at hl 1 rfl) ?_
        refine lv_iload_n hx hcd dX5_greetAgain_47 rfl (lv_at hl 2 rfl) ?_
        refine kr_Vv (As := [.int (nI a), .int (nI b)]) (rest := []) (ws2 := wW cI q (g_show (g_send M 6 a b 0 0) a b)) (q := (RX5, TX5, 5)) ⟨hx, hcd, hml, hown, hts⟩ (c_X5_show l D cI cB cW cL q _ (g_send M 6 a b 0 0) a b hI_3 (by omega) (by omega)) (cwV 2 hts gX5_greetAgain_X5_show rfl rfl rfl (by decide +kernel) ⟨Nat.le_of_ble_eq_true rfl, Nat.le_of_ble_eq_true rfl⟩) hK hP hD hS hA [0, 1, 2, 3, 4, 5, 6, 7, 8, 9, 10, 11, 12, 13, 14] wW_allC (by decide) wW_adr wW_all 0 rfl rfl rfl hl.1 rfl (Nat.le_of_ble_eq_true rfl) dX5_greetAgain_48 ⟨Nat.zero_le _, Nat.zero_le _⟩ (fun H locs hP hD hS => ?_)
        have hI_4 : kInv (g_show (g_send M 6 a b 0 0) a b) := i_show hI_3 (by omega) (by omega)
        exact kr_vret hx hcd hr hlocks hK hP hD hS (congrArg (fun M9 => wW cI q M9) (by first | (rw [o_has_send ha hb] at c_42; simp [g_greet, c_10, c_21, c_42]) | simp [g_greet, c_10, c_21, c_42])) dX5_greetAgain_51

set_option maxHeartbeats 4000000 in
set_option maxRecDepth 100000 in
theorem c_X5_changeBlock (l : Launch) (D : va_G) (cI cB cW cL : ClassId) (q : Nat → Nat) (sz : Nat) (M : kM) (a : Nat) (b : Nat) (v : Bool) (hI : kInv M) (ha : a < 6) (hb : b < 6) : kMi l yX5_changeBlock wsX5_changeBlock ({ frames := 4, cells := 0, slots := 0, locals := 95 }) D vwCl (kT cI cB cW cL) sz [.ref (q 0), .int (nI a), .int (nI b), .int (kI v)] (wW cI q M) (wW cI q (g_block M a b v)) (if M (240 + 6 * a + b) = kI v then 0 else 1) := by
  refine kr_ofi (cc := cX5_changeBlock) (maxL := 5) (ret := (some .int)) (by decide) rfl (Nat.le_of_ble_eq_true rfl) ?_
  intro pp ee ss mm args below meth cc AA ls hx hcd hr hts hown hlocks hml hK hP hD hA hl
  have hS : va_S AA ss.heap ss.heap [] := va_S.rf
  have hown : ss.vm.findClass RX5 = some mm.cls := hown
  have hl : lv_has ls 5 [(0, .ref (q 0)), (1, .int (nI a)), (2, .int (nI b)), (3, .int (kI v))] := hl
  have uX5 : ∀ w ∈ u_ws RX5 TX5 5, w ∈ wsX5_changeBlock := by decide +kernel
  refine lv_iload_n hx hcd dX5_changeBlock_0 rfl (lv_at hl 1 rfl) ?_
  refine lv_bipush (v := nI 6) hx hcd dX5_changeBlock_1 (by decide) ?_
  refine kr_mul hx hcd dX5_changeBlock_3 ?_
  refine lv_iload_n hx hcd dX5_changeBlock_4 rfl (lv_at hl 2 rfl) ?_
  refine kr_add hx hcd dX5_changeBlock_5 ?_
  refine lv_istore (lv' := [(4, .int (nI ((a * 6) + b))), (0, .ref (q 0)), (1, .int (nI a)), (2, .int (nI b)), (3, .int (kI v))]) hx hcd dX5_changeBlock_6 hl (by decide) rfl (fun ls hl => ?_)
  refine lv_aload_n hx hcd dX5_changeBlock_8 rfl (lv_at hl 1 rfl) ?_
  refine kr_get hx hcd hts uX5 hown hK hP 0 rfl rfl 4 (by decide) (by decide +kernel) (v := .ref (q 14)) rfl dX5_changeBlock_9 ?_
  refine lv_iload hx hcd dX5_changeBlock_12 (lv_at hl 0 rfl) ?_
  refine kr_iald hx hcd hK hP 14 0 rfl rfl (v := M (240 + 6 * a + b)) (by omega) (by decide) (vw_at (by omega) (by omega)) dX5_changeBlock_14 ?_
  refine lv_iconst (v := nI 1) hx hcd dX5_changeBlock_15 (by decide) ?_
  refine lv_icmp_ne (tgt := 23) hx hcd dX5_changeBlock_16 (by decide) (fun (c_16 : ¬ (M (240 + 6 * a + b)) = 1) => ?_) (fun (c_16 : (M (240 + 6 * a + b)) = 1) => ?_)
  · refine lv_iconst (v := nI 0) hx hcd dX5_changeBlock_23 (by decide) ?_
    refine lv_iload_n hx hcd dX5_changeBlock_24 rfl (lv_at hl 4 rfl) ?_
    refine lv_icmp_ne (tgt := 30) hx hcd dX5_changeBlock_25 (by decide) (fun (c_25 : ¬ 0 = (kI v)) => ?_) (fun (c_25 : 0 = (kI v)) => ?_)
    · refine lv_iload_n hx hcd dX5_changeBlock_30 rfl (lv_at hl 4 rfl) ?_
      refine kr_beq (tgt := 73) hx hcd dX5_changeBlock_31 (by decide) (fun (c_31 : v = false) => ?_) (fun (c_31 : v = true) => ?_)
      · refine lv_aload_n hx hcd dX5_changeBlock_73 rfl (lv_at hl 1 rfl) ?_
        refine kr_get hx hcd hts uX5 hown hK hP 0 rfl rfl 4 (by decide) (by decide +kernel) (v := .ref (q 14)) rfl dX5_changeBlock_74 ?_
        refine lv_iload hx hcd dX5_changeBlock_77 (lv_at hl 0 rfl) ?_
        refine lv_iconst (v := nI 0) hx hcd dX5_changeBlock_79 (by decide) ?_
        refine kr_iast hx hcd hK hP hD hS 14 0 rfl rfl (by omega) (by decide) (vw_upd (by omega) (by omega)) (ws2 := wW cI q (upd M (240 + 6 * a + b) 0)) (wW_bl (fun k hk => upd_ne (by omega))) dX5_changeBlock_80 (fun H locs hP hD hS => ?_)
        have hI_1 : kInv (upd M (240 + 6 * a + b) 0) := (i_blupd (b := false) hI (by omega))
        refine lv_aload_n hx hcd dX5_changeBlock_81 rfl (lv_at hl 1 rfl) ?_
        refine lv_iload_n hx hcd dX5_changeBlock_82 rfl (lv_at hl 2 rfl) ?_
        refine lv_iload_n hx hcd dX5_changeBlock_83 rfl (lv_at hl 3 rfl) ?_
        refine kr_Vv (As := [.int (nI a), .int (nI b)]) (rest := []) (ws2 := wW cI q (g_greet (upd M (240 + 6 * a + b) 0) a b)) (q := (RX5, TX5, 5)) ⟨hx, hcd, hml, hown, hts⟩ (c_X5_greetAgain l D cI cB cW cL q _ (upd M (240 + 6 * a + b) 0) a b hI_1 (by omega) (by omega)) (cwV 2 hts gX5_changeBlock_X5_greetAgain rfl rfl rfl (by decide +kernel) ⟨Nat.le_of_ble_eq_true rfl, Nat.le_of_ble_eq_true rfl⟩) hK hP hD hS hA [0, 1, 2, 3, 4, 5, 6, 7, 8, 9, 10, 11, 12, 13, 14] wW_allC (by decide) wW_adr wW_all 0 rfl rfl rfl hl.1 rfl (Nat.le_of_ble_eq_true rfl) dX5_changeBlock_84 ⟨Nat.zero_le _, Nat.zero_le _⟩ (fun H locs hP hD hS => ?_)
        have hI_2 : kInv (g_greet (upd M (240 + 6 * a + b) 0) a b) := i_greet hI_1 (by omega) (by omega)
        refine lv_iconst (v := nI 1) hx hcd dX5_changeBlock_87 (by decide) ?_
        exact kr_iret hx hcd hr hlocks hK hP hD hS (by rw [if_neg (by first | exact fun h => c_25 (c_16.symm.trans h) | exact fun h => c_25 ((i_bl0 hI ha hb c_16).symm.trans h))]; rfl) (congrArg (fun M9 => wW cI q M9) (by have h9 : ¬ M (240 + 6 * a + b) = kI v := (by first | exact fun h => c_25 (c_16.symm.trans h) | exact fun h => c_25 ((i_bl0 hI ha hb c_16).symm.trans h)); subst c_31; simp [g_block, h9])) dX5_changeBlock_88
      · refine lv_aload_n hx hcd dX5_changeBlock_34 rfl (lv_at hl 1 rfl) ?_
        refine kr_get hx hcd hts uX5 hown hK hP 0 rfl rfl 1 (by decide) (by decide +kernel) (v := .ref (q 5)) rfl dX5_changeBlock_35 ?_
        refine lv_iload_n hx hcd dX5_changeBlock_38 rfl (lv_at hl 2 rfl) ?_
        refine lv_iload_n hx hcd dX5_changeBlock_39 rfl (lv_at hl 3 rfl) ?_
        refine lv_iconst (v := nI 2) hx hcd dX5_changeBlock_40 (by decide) ?_
        refine kr_Vi (As := [.int (nI a), .int (nI b), .int (nI 2)]) (rest := []) (ws2 := wW cI q M) (q := (RX1, TX1, 3)) ⟨hx, hcd, hml, hown, hts⟩ (c_X1_hasAny l D cI cB cW cL q _ M a b 2 (by omega) (by omega)) (cwV 3 hts gX5_changeBlock_X1_hasAny rfl rfl rfl (by decide +kernel) ⟨Nat.le_of_ble_eq_true rfl, Nat.le_of_ble_eq_true rfl⟩) hK hP hD hS hA [5, 6, 7, 8] wW_RoC (by decide) wRo_adr wW_Ro0 5 rfl rfl rfl hl.1 rfl (Nat.le_of_ble_eq_true rfl) dX5_changeBlock_41 ⟨Nat.zero_le _, Nat.zero_le _⟩ (fun H locs hP hD hS => ?_)
        refine kr_beq (tgt := 53) hx hcd dX5_changeBlock_44 (by decide) (fun (c_44 : g_has M a b 2 = false) => ?_) (fun (c_44 : g_has M a b 2 = true) => ?_)
        · refine lv_aload_n hx hcd dX5_changeBlock_53 rfl (lv_at hl 1 rfl) ?_
          refine kr_get hx hcd hts uX5 hown hK hP 0 rfl rfl 4 (by decide) (by decide +kernel) (v := .ref (q 14)) rfl dX5_changeBlock_54 ?_
          refine lv_iload hx hcd dX5_changeBlock_57 (lv_at hl 0 rfl) ?_
          refine lv_iconst (v := nI 1) hx hcd dX5_changeBlock_59 (by decide) ?_
          refine kr_iast hx hcd hK hP hD hS 14 0 rfl rfl (by omega) (by decide) (vw_upd (by omega) (by omega)) (ws2 := wW cI q (upd M (240 + 6 * a + b) 1)) (wW_bl (fun k hk => upd_ne (by omega))) dX5_changeBlock_60 (fun H locs hP hD hS => ?_)
          have hI_3 : kInv (upd M (240 + 6 * a + b) 1) := (i_blupd (b := true) hI (by omega))
          refine lv_aload_n hx hcd dX5_changeBlock_61 rfl (lv_at hl 1 rfl) ?_
          refine kr_get hx hcd hts uX5 hown hK hP 0 rfl rfl 2 (by decide) (by decide +kernel) (v := .ref (q 9)) rfl dX5_changeBlock_62 ?_
          refine lv_iload_n hx hcd dX5_changeBlock_65 rfl (lv_at hl 2 rfl) ?_
          refine lv_iload_n hx hcd dX5_changeBlock_66 rfl (lv_at hl 3 rfl) ?_
          refine kr_Vv (As := [.int (nI a), .int (nI b)]) (rest := []) (ws2 := wW cI q (g_forget (upd M (240 + 6 * a + b) 1) a b)) (q := (RX4, TX4, 1)) ⟨hx, hcd, hml, hown, hts⟩ (c_X4_forget l D cI cB cW cL q _ (upd M (240 + 6 * a + b) 1) a b (by omega) (by omega)) (cwV 2 hts gX5_changeBlock_X4_forget rfl rfl rfl (by decide +kernel) ⟨Nat.le_of_ble_eq_true rfl, Nat.le_of_ble_eq_true rfl⟩) hK hP hD hS hA [9, 10] wW_ViC (by decide) wVi_adr (wW_vi (fun k hk => o_forget (by omega) (by omega) hk)) 9 rfl rfl rfl hl.1 rfl (Nat.le_of_ble_eq_true rfl) dX5_changeBlock_67 ⟨Nat.zero_le _, Nat.zero_le _⟩ (fun H locs hP hD hS => ?_)
          have hI_4 : kInv (g_forget (upd M (240 + 6 * a + b) 1) a b) := i_forget hI_3 (by omega) (by omega)
          refine lv_goto (tgt := 87) hx hcd dX5_changeBlock_70 (by decide) ?_
          refine lv_iconst (v := nI 1) hx hcd dX5_changeBlock_87 (by decide) ?_
          exact kr_iret hx hcd hr hlocks hK hP hD hS (by rw [if_neg (by first | exact fun h => c_25 (c_16.symm.trans h) | exact fun h => c_25 ((i_bl0 hI ha hb c_16).symm.trans h))]; rfl) (congrArg (fun M9 => wW cI q M9) (by have h9 : ¬ M (240 + 6 * a + b) = kI v := (by first | exact fun h => c_25 (c_16.symm.trans h) | exact fun h => c_25 ((i_bl0 hI ha hb c_16).symm.trans h)); subst c_31; simp [g_block, h9, c_44])) dX5_changeBlock_88
        · refine lv_aload_n hx hcd dX5_changeBlock_47 rfl (lv_at hl 1 rfl) ?_
          refine lv_iload_n hx hcd dX5_changeBlock_48 rfl (lv_at hl 2 rfl) ?_
          refine lv_iload_n hx hcd dX5_changeBlock_49 rfl (lv_at hl 3 rfl) ?_
          refine kr_Vv (As := [.int (nI a), .int (nI b)]) (rest := []) (ws2 := wW cI q (g_hide M a b)) (q := (RX5, TX5, 5)) ⟨hx, hcd, hml, hown, hts⟩ (c_X5_hide l D cI cB cW cL q _ M a b hI (by omega) (by omega)) (cwV 2 hts gX5_changeBlock_X5_hide rfl rfl rfl (by decide +kernel) ⟨Nat.le_of_ble_eq_true rfl, Nat.le_of_ble_eq_true rfl⟩) hK hP hD hS hA [0, 1, 2, 3, 4, 5, 6, 7, 8, 9, 10, 11, 12, 13, 14] wW_allC (by decide) wW_adr wW_all 0 rfl rfl rfl hl.1 rfl (Nat.le_of_ble_eq_true rfl) dX5_changeBlock_50 ⟨Nat.zero_le _, Nat.zero_le _⟩ (fun H locs hP hD hS => ?_)
          have hI_5 : kInv (g_hide M a b) := i_hide hI (by omega) (by omega)
          refine lv_aload_n hx hcd dX5_changeBlock_53 rfl (lv_at hl 1 rfl) ?_
          refine kr_get hx hcd hts uX5 hown hK hP 0 rfl rfl 4 (by decide) (by decide +kernel) (v := .ref (q 14)) rfl dX5_changeBlock_54 ?_
          refine lv_iload hx hcd dX5_changeBlock_57 (lv_at hl 0 rfl) ?_
          refine lv_iconst (v := nI 1) hx hcd dX5_changeBlock_59 (by decide) ?_
          refine kr_iast hx hcd hK hP hD hS 14 0 rfl rfl (by omega) (by decide) (vw_upd (by omega) (by omega)) (ws2 := wW cI q (upd (g_hide M a b) (240 + 6 * a + b) 1)) (wW_bl (fun k hk => upd_ne (by omega))) dX5_changeBlock_60 (fun H locs hP hD hS => ?_)
          have hI_6 : kInv (upd (g_hide M a b) (240 + 6 * a + b) 1) := (i_blupd (b := true) hI_5 (by omega))
          refine lv_aload_n hx hcd dX5_changeBlock_61 rfl (lv_at hl 1 rfl) ?_
          refine kr_get hx hcd hts uX5 hown hK hP 0 rfl rfl 2 (by decide) (by decide +kernel) (v := .ref (q 9)) rfl dX5_changeBlock_62 ?_
          refine lv_iload_n hx hcd dX5_changeBlock_65 rfl (lv_at hl 2 rfl) ?_
          refine lv_iload_n hx hcd dX5_changeBlock_66 rfl (lv_at hl 3 rfl) ?_
          refine kr_Vv (As := [.int (nI a), .int (nI b)]) (rest := []) (ws2 := wW cI q (g_forget (upd (g_hide M a b) (240 + 6 * a + b) 1) a b)) (q := (RX4, TX4, 1)) ⟨hx, hcd, hml, hown, hts⟩ (c_X4_forget l D cI cB cW cL q _ (upd (g_hide M a b) (240 + 6 * a + b) 1) a b (by omega) (by omega)) (cwV 2 hts gX5_changeBlock_X4_forget rfl rfl rfl (by decide +kernel) ⟨Nat.le_of_ble_eq_true rfl, Nat.le_of_ble_eq_true rfl⟩) hK hP hD hS hA [9, 10] wW_ViC (by decide) wVi_adr (wW_vi (fun k hk => o_forget (by omega) (by omega) hk)) 9 rfl rfl rfl hl.1 rfl (Nat.le_of_ble_eq_true rfl) dX5_changeBlock_67 ⟨Nat.zero_le _, Nat.zero_le _⟩ (fun H locs hP hD hS => ?_)
          have hI_7 : kInv (g_forget (upd (g_hide M a b) (240 + 6 * a + b) 1) a b) := i_forget hI_6 (by omega) (by omega)
          refine lv_goto (tgt := 87) hx hcd dX5_changeBlock_70 (by decide) ?_
          refine lv_iconst (v := nI 1) hx hcd dX5_changeBlock_87 (by decide) ?_
          exact kr_iret hx hcd hr hlocks hK hP hD hS (by rw [if_neg (by first | exact fun h => c_25 (c_16.symm.trans h) | exact fun h => c_25 ((i_bl0 hI ha hb c_16).symm.trans h))]; rfl) (congrArg (fun M9 => wW cI q M9) (by have h9 : ¬ M (240 + 6 * a + b) = kI v := (by first | exact fun h => c_25 (c_16.symm.trans h) | exact fun h => c_25 ((i_bl0 hI ha hb c_16).symm.trans h)); subst c_31; simp [g_block, h9, c_44])) dX5_changeBlock_88
    · refine lv_iconst (v := nI 0) hx hcd dX5_changeBlock_28 (by decide) ?_
      exact kr_iret hx hcd hr hlocks hK hP hD hS (by rw [if_pos (by first | exact c_16.trans c_25 | exact (i_bl0 hI ha hb c_16).trans c_25)]; rfl) (congrArg (fun M9 => wW cI q M9) (by rw [g_block, if_pos (by first | exact c_16.trans c_25 | exact (i_bl0 hI ha hb c_16).trans c_25)])) dX5_changeBlock_29
  · refine lv_iconst (v := nI 1) hx hcd dX5_changeBlock_19 (by decide) ?_
    refine lv_goto (tgt := 24) hx hcd dX5_changeBlock_20 (by decide) ?_
    refine lv_iload_n hx hcd dX5_changeBlock_24 rfl (lv_at hl 4 rfl) ?_
    refine lv_icmp_ne (tgt := 30) hx hcd dX5_changeBlock_25 (by decide) (fun (c_25 : ¬ 1 = (kI v)) => ?_) (fun (c_25 : 1 = (kI v)) => ?_)
    · refine lv_iload_n hx hcd dX5_changeBlock_30 rfl (lv_at hl 4 rfl) ?_
      refine kr_beq (tgt := 73) hx hcd dX5_changeBlock_31 (by decide) (fun (c_31 : v = false) => ?_) (fun (c_31 : v = true) => ?_)
      · refine lv_aload_n hx hcd dX5_changeBlock_73 rfl (lv_at hl 1 rfl) ?_
        refine kr_get hx hcd hts uX5 hown hK hP 0 rfl rfl 4 (by decide) (by decide +kernel) (v := .ref (q 14)) rfl dX5_changeBlock_74 ?_
        refine lv_iload hx hcd dX5_changeBlock_77 (lv_at hl 0 rfl) ?_
        refine lv_iconst (v := nI 0) hx hcd dX5_changeBlock_79 (by decide) ?_
        refine kr_iast hx hcd hK hP hD hS 14 0 rfl rfl (by omega) (by decide) (vw_upd (by omega) (by omega)) (ws2 := wW cI q (upd M (240 + 6 * a + b) 0)) (wW_bl (fun k hk => upd_ne (by omega))) dX5_changeBlock_80 (fun H locs hP hD hS => ?_)
        have hI_8 : kInv (upd M (240 + 6 * a + b) 0) := (i_blupd (b := false) hI (by omega))
        refine lv_aload_n hx hcd dX5_changeBlock_81 rfl (lv_at hl 1 rfl) ?_
        refine lv_iload_n hx hcd dX5_changeBlock_82 rfl (lv_at hl 2 rfl) ?_
        refine lv_iload_n hx hcd dX5_changeBlock_83 rfl (lv_at hl 3 rfl) ?_
        refine kr_Vv (As := [.int (nI a), .int (nI b)]) (rest := []) (ws2 := wW cI q (g_greet (upd M (240 + 6 * a + b) 0) a b)) (q := (RX5, TX5, 5)) ⟨hx, hcd, hml, hown, hts⟩ (c_X5_greetAgain l D cI cB cW cL q _ (upd M (240 + 6 * a + b) 0) a b hI_8 (by omega) (by omega)) (cwV 2 hts gX5_changeBlock_X5_greetAgain rfl rfl rfl (by decide +kernel) ⟨Nat.le_of_ble_eq_true rfl, Nat.le_of_ble_eq_true rfl⟩) hK hP hD hS hA [0, 1, 2, 3, 4, 5, 6, 7, 8, 9, 10, 11, 12, 13, 14] wW_allC (by decide) wW_adr wW_all 0 rfl rfl rfl hl.1 rfl (Nat.le_of_ble_eq_true rfl) dX5_changeBlock_84 ⟨Nat.zero_le _, Nat.zero_le _⟩ (fun H locs hP hD hS => ?_)
        have hI_9 : kInv (g_greet (upd M (240 + 6 * a + b) 0) a b) := i_greet hI_8 (by omega) (by omega)
        refine lv_iconst (v := nI 1) hx hcd dX5_changeBlock_87 (by decide) ?_
        exact kr_iret hx hcd hr hlocks hK hP hD hS (by rw [if_neg (by first | exact fun h => c_25 (c_16.symm.trans h) | exact fun h => c_25 ((i_bl0 hI ha hb c_16).symm.trans h))]; rfl) (congrArg (fun M9 => wW cI q M9) (by have h9 : ¬ M (240 + 6 * a + b) = kI v := (by first | exact fun h => c_25 (c_16.symm.trans h) | exact fun h => c_25 ((i_bl0 hI ha hb c_16).symm.trans h)); subst c_31; simp [g_block, h9])) dX5_changeBlock_88
      · refine lv_aload_n hx hcd dX5_changeBlock_34 rfl (lv_at hl 1 rfl) ?_
        refine kr_get hx hcd hts uX5 hown hK hP 0 rfl rfl 1 (by decide) (by decide +kernel) (v := .ref (q 5)) rfl dX5_changeBlock_35 ?_
        refine lv_iload_n hx hcd dX5_changeBlock_38 rfl (lv_at hl 2 rfl) ?_
        refine lv_iload_n hx hcd dX5_changeBlock_39 rfl (lv_at hl 3 rfl) ?_
        refine lv_iconst (v := nI 2) hx hcd dX5_changeBlock_40 (by decide) ?_
        refine kr_Vi (As := [.int (nI a), .int (nI b), .int (nI 2)]) (rest := []) (ws2 := wW cI q M) (q := (RX1, TX1, 3)) ⟨hx, hcd, hml, hown, hts⟩ (c_X1_hasAny l D cI cB cW cL q _ M a b 2 (by omega) (by omega)) (cwV 3 hts gX5_changeBlock_X1_hasAny rfl rfl rfl (by decide +kernel) ⟨Nat.le_of_ble_eq_true rfl, Nat.le_of_ble_eq_true rfl⟩) hK hP hD hS hA [5, 6, 7, 8] wW_RoC (by decide) wRo_adr wW_Ro0 5 rfl rfl rfl hl.1 rfl (Nat.le_of_ble_eq_true rfl) dX5_changeBlock_41 ⟨Nat.zero_le _, Nat.zero_le _⟩ (fun H locs hP hD hS => ?_)
        refine kr_beq (tgt := 53) hx hcd dX5_changeBlock_44 (by decide) (fun (c_44 : g_has M a b 2 = false) => ?_) (fun (c_44 : g_has M a b 2 = true) => ?_)
        · refine lv_aload_n hx hcd dX5_changeBlock_53 rfl (lv_at hl 1 rfl) ?_
          refine kr_get hx hcd hts uX5 hown hK hP 0 rfl rfl 4 (by decide) (by decide +kernel) (v := .ref (q 14)) rfl dX5_changeBlock_54 ?_
          refine lv_iload hx hcd dX5_changeBlock_57 (lv_at hl 0 rfl) ?_
          refine lv_iconst (v := nI 1) hx hcd dX5_changeBlock_59 (by decide) ?_
          refine kr_iast hx hcd hK hP hD hS 14 0 rfl rfl (by omega) (by decide) (vw_upd (by omega) (by omega)) (ws2 := wW cI q (upd M (240 + 6 * a + b) 1)) (wW_bl (fun k hk => upd_ne (by omega))) dX5_changeBlock_60 (fun H locs hP hD hS => ?_)
          have hI_10 : kInv (upd M (240 + 6 * a + b) 1) := (i_blupd (b := true) hI (by omega))
          refine lv_aload_n hx hcd dX5_changeBlock_61 rfl (lv_at hl 1 rfl) ?_
          refine kr_get hx hcd hts uX5 hown hK hP 0 rfl rfl 2 (by decide) (by decide +kernel) (v := .ref (q 9)) rfl dX5_changeBlock_62 ?_
          refine lv_iload_n hx hcd dX5_changeBlock_65 rfl (lv_at hl 2 rfl) ?_
          refine lv_iload_n hx hcd dX5_changeBlock_66 rfl (lv_at hl 3 rfl) ?_
          refine kr_Vv (As := [.int (nI a), .int (nI b)]) (rest := []) (ws2 := wW cI q (g_forget (upd M (240 + 6 * a + b) 1) a b)) (q := (RX4, TX4, 1)) ⟨hx, hcd, hml, hown, hts⟩ (c_X4_forget l D cI cB cW cL q _ (upd M (240 + 6 * a + b) 1) a b (by omega) (by omega)) (cwV 2 hts gX5_changeBlock_X4_forget rfl rfl rfl (by decide +kernel) ⟨Nat.le_of_ble_eq_true rfl, Nat.le_of_ble_eq_true rfl⟩) hK hP hD hS hA [9, 10] wW_ViC (by decide) wVi_adr (wW_vi (fun k hk => o_forget (by omega) (by omega) hk)) 9 rfl rfl rfl hl.1 rfl (Nat.le_of_ble_eq_true rfl) dX5_changeBlock_67 ⟨Nat.zero_le _, Nat.zero_le _⟩ (fun H locs hP hD hS => ?_)
          have hI_11 : kInv (g_forget (upd M (240 + 6 * a + b) 1) a b) := i_forget hI_10 (by omega) (by omega)
          refine lv_goto (tgt := 87) hx hcd dX5_changeBlock_70 (by decide) ?_
          refine lv_iconst (v := nI 1) hx hcd dX5_changeBlock_87 (by decide) ?_
          exact kr_iret hx hcd hr hlocks hK hP hD hS (by rw [if_neg (by first | exact fun h => c_25 (c_16.symm.trans h) | exact fun h => c_25 ((i_bl0 hI ha hb c_16).symm.trans h))]; rfl) (congrArg (fun M9 => wW cI q M9) (by have h9 : ¬ M (240 + 6 * a + b) = kI v := (by first | exact fun h => c_25 (c_16.symm.trans h) | exact fun h => c_25 ((i_bl0 hI ha hb c_16).symm.trans h)); subst c_31; simp [g_block, h9, c_44])) dX5_changeBlock_88
        · refine lv_aload_n hx hcd dX5_changeBlock_47 rfl (lv_at hl 1 rfl) ?_
          refine lv_iload_n hx hcd dX5_changeBlock_48 rfl (lv_at hl 2 rfl) ?_
          refine lv_iload_n hx hcd dX5_changeBlock_49 rfl (lv_at hl 3 rfl) ?_
          refine kr_Vv (As := [.int (nI a), .int (nI b)]) (rest := []) (ws2 := wW cI q (g_hide M a b)) (q := (RX5, TX5, 5)) ⟨hx, hcd, hml, hown, hts⟩ (c_X5_hide l D cI cB cW cL q _ M a b hI (by omega) (by omega)) (cwV 2 hts gX5_changeBlock_X5_hide rfl rfl rfl (by decide +kernel) ⟨Nat.le_of_ble_eq_true rfl, Nat.le_of_ble_eq_true rfl⟩) hK hP hD hS hA [0, 1, 2, 3, 4, 5, 6, 7, 8, 9, 10, 11, 12, 13, 14] wW_allC (by decide) wW_adr wW_all 0 rfl rfl rfl hl.1 rfl (Nat.le_of_ble_eq_true rfl) dX5_changeBlock_50 ⟨Nat.zero_le _, Nat.zero_le _⟩ (fun H locs hP hD hS => ?_)
          have hI_12 : kInv (g_hide M a b) := i_hide hI (by omega) (by omega)
          refine lv_aload_n hx hcd dX5_changeBlock_53 rfl (lv_at hl 1 rfl) ?_
          refine kr_get hx hcd hts uX5 hown hK hP 0 rfl rfl 4 (by decide) (by decide +kernel) (v := .ref (q 14)) rfl dX5_changeBlock_54 ?_
          refine lv_iload hx hcd dX5_changeBlock_57 (lv_at hl 0 rfl) ?_
          refine lv_iconst (v := nI 1) hx hcd dX5_changeBlock_59 (by decide) ?_
          refine kr_iast hx hcd hK hP hD hS 14 0 rfl rfl (by omega) (by decide) (vw_upd (by omega) (by omega)) (ws2 := wW cI q (upd (g_hide M a b) (240 + 6 * a + b) 1)) (wW_bl (fun k hk => upd_ne (by omega))) dX5_changeBlock_60 (fun H locs hP hD hS => ?_)
          have hI_13 : kInv (upd (g_hide M a b) (240 + 6 * a + b) 1) := (i_blupd (b := true) hI_12 (by omega))
          refine lv_aload_n hx hcd dX5_changeBlock_61 rfl (lv_at hl 1 rfl) ?_
          refine kr_get hx hcd hts uX5 hown hK hP 0 rfl rfl 2 (by decide) (by decide +kernel) (v := .ref (q 9)) rfl dX5_changeBlock_62 ?_
          refine lv_iload_n hx hcd dX5_changeBlock_65 rfl (lv_at hl 2 rfl) ?_
          refine lv_iload_n hx hcd dX5_changeBlock_66 rfl (lv_at hl 3 rfl) ?_
          refine kr_Vv (As := [.int (nI a), .int (nI b)]) (rest := []) (ws2 := wW cI q (g_forget (upd (g_hide M a b) (240 + 6 * a + b) 1) a b)) (q := (RX4, TX4, 1)) ⟨hx, hcd, hml, hown, hts⟩ (c_X4_forget l D cI cB cW cL q _ (upd (g_hide M a b) (240 + 6 * a + b) 1) a b (by omega) (by omega)) (cwV 2 hts gX5_changeBlock_X4_forget rfl rfl rfl (by decide +kernel) ⟨Nat.le_of_ble_eq_true rfl, Nat.le_of_ble_eq_true rfl⟩) hK hP hD hS hA [9, 10] wW_ViC (by decide) wVi_adr (wW_vi (fun k hk => o_forget (by omega) (by omega) hk)) 9 rfl rfl rfl hl.1 rfl (Nat.le_of_ble_eq_true rfl) dX5_changeBlock_67 ⟨Nat.zero_le _, Nat.zero_le _⟩ (fun H locs hP hD hS => ?_)
          have hI_14 : kInv (g_forget (upd (g_hide M a b) (240 + 6 * a + b) 1) a b) := i_forget hI_13 (by omega) (by omega)
          refine lv_goto (tgt := 87) hx hcd dX5_changeBlock_70 (by decide) ?_
          refine lv_iconst (v := nI 1) hx hcd dX5_changeBlock_87 (by decide) ?_
          exact kr_iret hx hcd hr hlocks hK hP hD hS (by rw [if_neg (by first | exact fun h => c_25 (c_16.symm.trans h) | exact fun h => c_25 ((i_bl0 hI ha hb c_16).symm.trans h))]; rfl) (congrArg (fun M9 => wW cI q M9) (by have h9 : ¬ M (240 + 6 * a + b) = kI v := (by first | exact fun h => c_25 (c_16.symm.trans h) | exact fun h => c_25 ((i_bl0 hI ha hb c_16).symm.trans h)); subst c_31; simp [g_block, h9, c_44])) dX5_changeBlock_88
    · refine lv_iconst (v := nI 0) hx hcd dX5_changeBlock_28 (by decide) ?_
      exact kr_iret hx hcd hr hlocks hK hP hD hS (by rw [if_pos (by first | exact c_16.trans c_25 | exact (i_bl0 hI ha hb c_16).trans c_25)]; rfl) (congrArg (fun M9 => wW cI q M9) (by rw [g_block, if_pos (by first | exact c_16.trans c_25 | exact (i_bl0 hI ha hb c_16).trans c_25)])) dX5_changeBlock_29
