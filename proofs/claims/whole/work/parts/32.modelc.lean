set_option maxHeartbeats 4000000 in
set_option maxRecDepth 100000 in
theorem c_X7_asks (l : Launch) (D : va_G) (cI cB cW cL : ClassId) (z : Nat → Nat) (x : Nat → Int32) (hh : Int64) (sz : Nat) (M : kM) (a : Nat) (b : Nat) (hI : kInv M) (ha : a < 6) (hb : b < 6) : kMi l yX7_asks wsX7_asks ({ frames := 2, cells := 0, slots := 0, locals := 47 }) D vwCl (kT cI cB cW cL) sz [.ref (z 0), .int (nI a), .int (nI b)] (wMo cI z x hh M) (wMo cI z x hh (g_ask M a b)) (if g_has M a b 5 = true then 0 else 1) := by
  refine kr_ofi (cc := cX7_asks) (maxL := 3) (ret := (some .int)) (by decide) rfl (Nat.le_of_ble_eq_true rfl) ?_
  intro pp ee ss mm args below meth cc AA ls hx hcd hr hts hown hlocks hml hK hP hD hA hl
  have hS : va_S AA ss.heap ss.heap [] := va_S.rf
  have hown : ss.vm.findClass RX7 = some mm.cls := hown
  have hl : lv_has ls 3 [(0, .ref (z 0)), (1, .int (nI a)), (2, .int (nI b))] := hl
  refine lv_aload_n hx hcd dX7_asks_0 rfl (lv_at hl 0 rfl) ?_
  refine lv_iload_n hx hcd dX7_asks_1 rfl (lv_at hl 1 rfl) ?_
  refine lv_iload_n hx hcd dX7_asks_2 rfl (lv_at hl 2 rfl) ?_
  refine lv_iconst (v := nI 5) hx hcd dX7_asks_3 (by decide) ?_
  refine kr_Vi (As := [.int (nI a), .int (nI b), .int (nI 5)]) (rest := []) (ws2 := wMo cI z x hh M) (q := (RX7, TX7, 10)) ⟨hx, hcd, hml, hown, hts⟩ (c_X7_has l D cI cB cW cL z x hh _ M a b 5 (by omega) (by omega)) (cwV 3 hts gX7_asks_X7_has rfl rfl rfl (by decide +kernel) ⟨Nat.le_of_ble_eq_true rfl, Nat.le_of_ble_eq_true rfl⟩) hK hP hD hS hA [0, 1] wMo_allC (by decide) wMo_adr wMo_all 0 rfl rfl rfl hl.1 rfl (Nat.le_of_ble_eq_true rfl) dX7_asks_4 ⟨Nat.zero_le _, Nat.zero_le _⟩ (fun H locs hP hD hS => ?_)
  refine kr_beq (tgt := 12) hx hcd dX7_asks_7 (by decide) (fun (c_7 : g_has M a b 5 = false) => ?_) (fun (c_7 : g_has M a b 5 = true) => ?_)
  · refine lv_aload_n hx hcd dX7_asks_12 rfl (lv_at hl 0 rfl) ?_
    refine lv_iload_n hx hcd dX7_asks_13 rfl (lv_at hl 1 rfl) ?_
    refine lv_iload_n hx hcd dX7_asks_14 rfl (lv_at hl 2 rfl) ?_
    refine lv_aload_n hx hcd dX7_asks_15 rfl (lv_at hl 0 rfl) ?_
    refine lv_iload_n hx hcd dX7_asks_16 rfl (lv_at hl 1 rfl) ?_
    refine lv_iload_n hx hcd dX7_asks_17 rfl (lv_at hl 2 rfl) ?_
    refine kr_Vi (As := [.int (nI a), .int (nI b)]) (rest := [.int (nI b), .int (nI a), .ref (z 0)]) (ws2 := wMo cI z x hh M) (q := (RX7, TX7, 10)) ⟨hx, hcd, hml, hown, hts⟩ (c_X7_state l D cI cB cW cL z x hh _ M a b (by omega) (by omega)) (cwV 2 hts gX7_asks_X7_state rfl rfl rfl (by decide +kernel) ⟨Nat.le_of_ble_eq_true rfl, Nat.le_of_ble_eq_true rfl⟩) hK hP hD hS hA [0, 1] wMo_allC (by decide) wMo_adr wMo_all 0 rfl rfl rfl hl.1 rfl (Nat.le_of_ble_eq_true rfl) dX7_asks_18 ⟨Nat.zero_le _, Nat.zero_le _⟩ (fun H locs hP hD hS => ?_)
    refine lv_iconst (v := nI 4) hx hcd dX7_asks_21 (by decide) ?_
    refine lv_ior hx hcd dX7_asks_22 ?_
    refine kr_Vv (As := [.int (nI a), .int (nI b), .int ((g_st M a b) ||| 4)]) (rest := []) (ws2 := wMo cI z x hh (g_become M a b ((g_st M a b) ||| 4))) (q := (RX7, TX7, 10)) ⟨hx, hcd, hml, hown, hts⟩ (c_X7_become l D cI cB cW cL z x hh _ M a b ((g_st M a b) ||| 4) (by omega) (by omega)) (cwV 3 hts gX7_asks_X7_become rfl rfl rfl (by decide +kernel) ⟨Nat.le_of_ble_eq_true rfl, Nat.le_of_ble_eq_true rfl⟩) hK hP hD hS hA [0, 1] wMo_allC (by decide) wMo_adr wMo_all 0 rfl rfl rfl hl.1 rfl (Nat.le_of_ble_eq_true rfl) dX7_asks_23 ⟨Nat.zero_le _, Nat.zero_le _⟩ (fun H locs hP hD hS => ?_)
    have hI_1 : kInv (g_become M a b ((g_st M a b) ||| 4)) := i_become hI (by omega) (by omega) (i_s hI (by omega) (by omega) (F := fun x => x ||| 4) (by decide))
    refine lv_aload_n hx hcd dX7_asks_26 rfl (lv_at hl 0 rfl) ?_
    refine lv_iconst (v := nI 0) hx hcd dX7_asks_27 (by decide) ?_
    refine lv_iload_n hx hcd dX7_asks_28 rfl (lv_at hl 1 rfl) ?_
    refine lv_iload_n hx hcd dX7_asks_29 rfl (lv_at hl 2 rfl) ?_
    refine lv_iconst (v := nI 0) hx hcd dX7_asks_30 (by decide) ?_
    refine lv_iconst (v := nI 0) hx hcd dX7_asks_31 (by decide) ?_
    refine kr_Vv (As := [.int (nI 0), .int (nI a), .int (nI b), .int (nI 0), .int (nI 0)]) (rest := []) (ws2 := wMo cI z x hh (g_send (g_become M a b ((g_st M a b) ||| 4)) 0 a b 0 0)) (q := (RX7, TX7, 10)) ⟨hx, hcd, hml, hown, hts⟩ (c_X7_send l D cI cB cW cL z x hh _ (g_become M a b ((g_st M a b) ||| 4)) 0 a b 0 0 hI_1 (by omega) (by omega) (by omega) (by omega) (by omega) (by omega) (by omega)) (cwV 5 hts gX7_asks_X7_send rfl rfl rfl (by decide +kernel) ⟨Nat.le_of_ble_eq_true rfl, Nat.le_of_ble_eq_true rfl⟩) hK hP hD hS hA [0, 1] wMo_allC (by decide) wMo_adr wMo_all 0 rfl rfl rfl hl.1 rfl (Nat.le_of_ble_eq_true rfl) dX7_asks_32 ⟨Nat.zero_le _, Nat.zero_le _⟩ (fun H locs hP hD hS => ?_)
    have hI_2 : kInv (g_send (g_become M a b ((g_st M a b) ||| 4)) 0 a b 0 0) := i_send hI_1 (by omega) (by omega) (by omega) (by omega) (by omega) (by omega) (by omega)
    refine lv_iconst (v := nI 1) hx hcd dX7_asks_35 (by decide) ?_
    exact kr_iret hx hcd hr hlocks hK hP hD hS (by simp [c_7]; rfl) (congrArg (fun M9 => wMo cI z x hh M9) (by simp [g_ask, c_7])) dX7_asks_36
  · refine lv_iconst (v := nI 0) hx hcd dX7_asks_10 (by decide) ?_
    exact kr_iret hx hcd hr hlocks hK hP hD hS (by simp [c_7]; rfl) (congrArg (fun M9 => wMo cI z x hh M9) (by simp [g_ask, c_7])) dX7_asks_11

set_option maxHeartbeats 4000000 in
set_option maxRecDepth 100000 in
theorem c_X7_grants (l : Launch) (D : va_G) (cI cB cW cL : ClassId) (z : Nat → Nat) (x : Nat → Int32) (hh : Int64) (sz : Nat) (M : kM) (a : Nat) (b : Nat) (hI : kInv M) (ha : a < 6) (hb : b < 6) : kMi l yX7_grants wsX7_grants ({ frames := 3, cells := 0, slots := 0, locals := 70 }) D vwCl (kT cI cB cW cL) sz [.ref (z 0), .int (nI a), .int (nI b)] (wMo cI z x hh M) (wMo cI z x hh (g_grant M a b)) (if g_has M a b 8 = true then 1 else 0) := by
  refine kr_ofi (cc := cX7_grants) (maxL := 3) (ret := (some .int)) (by decide) rfl (Nat.le_of_ble_eq_true rfl) ?_
  intro pp ee ss mm args below meth cc AA ls hx hcd hr hts hown hlocks hml hK hP hD hA hl
  have hS : va_S AA ss.heap ss.heap [] := va_S.rf
  have hown : ss.vm.findClass RX7 = some mm.cls := hown
  have hl : lv_has ls 3 [(0, .ref (z 0)), (1, .int (nI a)), (2, .int (nI b))] := hl
  refine lv_aload_n hx hcd dX7_grants_0 rfl (lv_at hl 0 rfl) ?_
  refine lv_iload_n hx hcd dX7_grants_1 rfl (lv_at hl 1 rfl) ?_
  refine lv_iload_n hx hcd dX7_grants_2 rfl (lv_at hl 2 rfl) ?_
  refine lv_bipush (v := nI 8) hx hcd dX7_grants_3 (by decide) ?_
  refine kr_Vi (As := [.int (nI a), .int (nI b), .int (nI 8)]) (rest := []) (ws2 := wMo cI z x hh M) (q := (RX7, TX7, 10)) ⟨hx, hcd, hml, hown, hts⟩ (c_X7_has l D cI cB cW cL z x hh _ M a b 8 (by omega) (by omega)) (cwV 3 hts gX7_grants_X7_has rfl rfl rfl (by decide +kernel) ⟨Nat.le_of_ble_eq_true rfl, Nat.le_of_ble_eq_true rfl⟩) hK hP hD hS hA [0, 1] wMo_allC (by decide) wMo_adr wMo_all 0 rfl rfl rfl hl.1 rfl (Nat.le_of_ble_eq_true rfl) dX7_grants_5 ⟨Nat.zero_le _, Nat.zero_le _⟩ (fun H locs hP hD hS => ?_)
  refine kr_bne (tgt := 13) hx hcd dX7_grants_8 (by decide) (fun (c_8 : g_has M a b 8 = true) => ?_) (fun (c_8 : g_has M a b 8 = false) => ?_)
  · refine lv_aload_n hx hcd dX7_grants_13 rfl (lv_at hl 0 rfl) ?_
    refine lv_iload_n hx hcd dX7_grants_14 rfl (lv_at hl 1 rfl) ?_
    refine lv_iload_n hx hcd dX7_grants_15 rfl (lv_at hl 2 rfl) ?_
    refine lv_aload_n hx hcd dX7_grants_16 rfl (lv_at hl 0 rfl) ?_
    refine lv_iload_n hx hcd dX7_grants_17 rfl (lv_at hl 1 rfl) ?_
    refine lv_iload_n hx hcd dX7_grants_18 rfl (lv_at hl 2 rfl) ?_
    refine kr_Vi (As := [.int (nI a), .int (nI b)]) (rest := [.int (nI b), .int (nI a), .ref (z 0)]) (ws2 := wMo cI z x hh M) (q := (RX7, TX7, 10)) ⟨hx, hcd, hml, hown, hts⟩ (c_X7_state l D cI cB cW cL z x hh _ M a b (by omega) (by omega)) (cwV 2 hts gX7_grants_X7_state rfl rfl rfl (by decide +kernel) ⟨Nat.le_of_ble_eq_true rfl, Nat.le_of_ble_eq_true rfl⟩) hK hP hD hS hA [0, 1] wMo_allC (by decide) wMo_adr wMo_all 0 rfl rfl rfl hl.1 rfl (Nat.le_of_ble_eq_true rfl) dX7_grants_19 ⟨Nat.zero_le _, Nat.zero_le _⟩ (fun H locs hP hD hS => ?_)
    refine lv_bipush (v := (-9)) hx hcd dX7_grants_22 (by decide) ?_
    refine lv_iand hx hcd dX7_grants_24 ?_
    refine lv_iconst (v := nI 2) hx hcd dX7_grants_25 (by decide) ?_
    refine lv_ior hx hcd dX7_grants_26 ?_
    refine kr_Vv (As := [.int (nI a), .int (nI b), .int (((g_st M a b) &&& (-9)) ||| 2)]) (rest := []) (ws2 := wMo cI z x hh (g_become M a b (((g_st M a b) &&& (-9)) ||| 2))) (q := (RX7, TX7, 10)) ⟨hx, hcd, hml, hown, hts⟩ (c_X7_become l D cI cB cW cL z x hh _ M a b (((g_st M a b) &&& (-9)) ||| 2) (by omega) (by omega)) (cwV 3 hts gX7_grants_X7_become rfl rfl rfl (by decide +kernel) ⟨Nat.le_of_ble_eq_true rfl, Nat.le_of_ble_eq_true rfl⟩) hK hP hD hS hA [0, 1] wMo_allC (by decide) wMo_adr wMo_all 0 rfl rfl rfl hl.1 rfl (Nat.le_of_ble_eq_true rfl) dX7_grants_27 ⟨Nat.zero_le _, Nat.zero_le _⟩ (fun H locs hP hD hS => ?_)
    have hI_1 : kInv (g_become M a b (((g_st M a b) &&& (-9)) ||| 2)) := i_become hI (by omega) (by omega) (i_s hI (by omega) (by omega) (F := fun x => (x &&& (-9)) ||| 2) (by decide))
    refine lv_aload_n hx hcd dX7_grants_30 rfl (lv_at hl 0 rfl) ?_
    refine lv_iconst (v := nI 1) hx hcd dX7_grants_31 (by decide) ?_
    refine lv_iload_n hx hcd dX7_grants_32 rfl (lv_at hl 1 rfl) ?_
    refine lv_iload_n hx hcd dX7_grants_33 rfl (lv_at hl 2 rfl) ?_
    refine lv_iconst (v := nI 0) hx hcd dX7_grants_34 (by decide) ?_
    refine lv_iconst (v := nI 0) hx hcd dX7_grants_35 (by decide) ?_
    refine kr_Vv (As := [.int (nI 1), .int (nI a), .int (nI b), .int (nI 0), .int (nI 0)]) (rest := []) (ws2 := wMo cI z x hh (g_send (g_become M a b (((g_st M a b) &&& (-9)) ||| 2)) 1 a b 0 0)) (q := (RX7, TX7, 10)) ⟨hx, hcd, hml, hown, hts⟩ (c_X7_send l D cI cB cW cL z x hh _ (g_become M a b (((g_st M a b) &&& (-9)) ||| 2)) 1 a b 0 0 hI_1 (by omega) (by omega) (by omega) (by omega) (by omega) (by omega) (by omega)) (cwV 5 hts gX7_grants_X7_send rfl rfl rfl (by decide +kernel) ⟨Nat.le_of_ble_eq_true rfl, Nat.le_of_ble_eq_true rfl⟩) hK hP hD hS hA [0, 1] wMo_allC (by decide) wMo_adr wMo_all 0 rfl rfl rfl hl.1 rfl (Nat.le_of_ble_eq_true rfl) dX7_grants_36 ⟨Nat.zero_le _, Nat.zero_le _⟩ (fun H locs hP hD hS => ?_)
    have hI_2 : kInv (g_send (g_become M a b (((g_st M a b) &&& (-9)) ||| 2)) 1 a b 0 0) := i_send hI_1 (by omega) (by omega) (by omega) (by omega) (by omega) (by omega) (by omega)
    refine lv_aload_n hx hcd dX7_grants_39 rfl (lv_at hl 0 rfl) ?_
    refine lv_iload_n hx hcd dX7_grants_40 rfl (lv_at hl 1 rfl) ?_
    refine lv_iload_n hx hcd dX7_grants_41 rfl (lv_at hl 2 rfl) ?_
    refine kr_Vv (As := [.int (nI a), .int (nI b)]) (rest := []) (ws2 := wMo cI z x hh (g_show (g_send (g_become M a b (((g_st M a b) &&& (-9)) ||| 2)) 1 a b 0 0) a b)) (q := (RX7, TX7, 10)) ⟨hx, hcd, hml, hown, hts⟩ (c_X7_shows l D cI cB cW cL z x hh _ (g_send (g_become M a b (((g_st M a b) &&& (-9)) ||| 2)) 1 a b 0 0) a b hI_2 (by omega) (by omega)) (cwV 2 hts gX7_grants_X7_shows rfl rfl rfl (by decide +kernel) ⟨Nat.le_of_ble_eq_true rfl, Nat.le_of_ble_eq_true rfl⟩) hK hP hD hS hA [0, 1] wMo_allC (by decide) wMo_adr wMo_all 0 rfl rfl rfl hl.1 rfl (Nat.le_of_ble_eq_true rfl) dX7_grants_42 ⟨Nat.zero_le _, Nat.zero_le _⟩ (fun H locs hP hD hS => ?_)
    have hI_3 : kInv (g_show (g_send (g_become M a b (((g_st M a b) &&& (-9)) ||| 2)) 1 a b 0 0) a b) := i_show hI_2 (by omega) (by omega)
    refine lv_iconst (v := nI 1) hx hcd dX7_grants_45 (by decide) ?_
    exact kr_iret hx hcd hr hlocks hK hP hD hS (by simp [c_8]; rfl) (congrArg (fun M9 => wMo cI z x hh M9) (by simp [g_grant, c_8])) dX7_grants_46
  · refine lv_iconst (v := nI 0) hx hcd dX7_grants_11 (by decide) ?_
    exact kr_iret hx hcd hr hlocks hK hP hD hS (by simp [c_8]; rfl) (congrArg (fun M9 => wMo cI z x hh M9) (by simp [g_grant, c_8])) dX7_grants_12

set_option maxHeartbeats 4000000 in
set_option maxRecDepth 100000 in
theorem c_X7_refuses (l : Launch) (D : va_G) (cI cB cW cL : ClassId) (z : Nat → Nat) (x : Nat → Int32) (hh : Int64) (sz : Nat) (M : kM) (a : Nat) (b : Nat) (hI : kInv M) (ha : a < 6) (hb : b < 6) : kMi l yX7_refuses wsX7_refuses ({ frames := 3, cells := 0, slots := 0, locals := 70 }) D vwCl (kT cI cB cW cL) sz [.ref (z 0), .int (nI a), .int (nI b)] (wMo cI z x hh M) (wMo cI z x hh (g_refuse M a b)) (if g_has M a b 10 = true then 1 else 0) := by
  refine kr_ofi (cc := cX7_refuses) (maxL := 4) (ret := (some .int)) (by decide) rfl (Nat.le_of_ble_eq_true rfl) ?_
  intro pp ee ss mm args below meth cc AA ls hx hcd hr hts hown hlocks hml hK hP hD hA hl
  have hS : va_S AA ss.heap ss.heap [] := va_S.rf
  have hown : ss.vm.findClass RX7 = some mm.cls := hown
  have hl : lv_has ls 4 [(0, .ref (z 0)), (1, .int (nI a)), (2, .int (nI b))] := hl
  refine lv_aload_n hx hcd dX7_refuses_0 rfl (lv_at hl 0 rfl) ?_
  refine lv_iload_n hx hcd dX7_refuses_1 rfl (lv_at hl 1 rfl) ?_
  refine lv_iload_n hx hcd dX7_refuses_2 rfl (lv_at hl 2 rfl) ?_
  refine lv_bipush (v := nI 10) hx hcd dX7_refuses_3 (by decide) ?_
  refine kr_Vi (As := [.int (nI a), .int (nI b), .int (nI 10)]) (rest := []) (ws2 := wMo cI z x hh M) (q := (RX7, TX7, 10)) ⟨hx, hcd, hml, hown, hts⟩ (c_X7_has l D cI cB cW cL z x hh _ M a b 10 (by omega) (by omega)) (cwV 3 hts gX7_refuses_X7_has rfl rfl rfl (by decide +kernel) ⟨Nat.le_of_ble_eq_true rfl, Nat.le_of_ble_eq_true rfl⟩) hK hP hD hS hA [0, 1] wMo_allC (by decide) wMo_adr wMo_all 0 rfl rfl rfl hl.1 rfl (Nat.le_of_ble_eq_true rfl) dX7_refuses_5 ⟨Nat.zero_le _, Nat.zero_le _⟩ (fun H locs hP hD hS => ?_)
  refine kr_bne (tgt := 13) hx hcd dX7_refuses_8 (by decide) (fun (c_8 : g_has M a b 10 = true) => ?_) (fun (c_8 : g_has M a b 10 = false) => ?_)
  · refine lv_aload_n hx hcd dX7_refuses_13 rfl (lv_at hl 0 rfl) ?_
    refine lv_iload_n hx hcd dX7_refuses_14 rfl (lv_at hl 1 rfl) ?_
    refine lv_iload_n hx hcd dX7_refuses_15 rfl (lv_at hl 2 rfl) ?_
    refine lv_iconst (v := nI 2) hx hcd dX7_refuses_16 (by decide) ?_
    refine kr_Vi (As := [.int (nI a), .int (nI b), .int (nI 2)]) (rest := []) (ws2 := wMo cI z x hh M) (q := (RX7, TX7, 10)) ⟨hx, hcd, hml, hown, hts⟩ (c_X7_has l D cI cB cW cL z x hh _ M a b 2 (by omega) (by omega)) (cwV 3 hts gX7_refuses_X7_has rfl rfl rfl (by decide +kernel) ⟨Nat.le_of_ble_eq_true rfl, Nat.le_of_ble_eq_true rfl⟩) hK hP hD hS hA [0, 1] wMo_allC (by decide) wMo_adr wMo_all 0 rfl rfl rfl hl.1 rfl (Nat.le_of_ble_eq_true rfl) dX7_refuses_17 ⟨Nat.zero_le _, Nat.zero_le _⟩ (fun H locs hP hD hS => ?_)
    refine lv_istore_n (lv' := [(3, .int (kI (g_has M a b 2))), (0, .ref (z 0)), (1, .int (nI a)), (2, .int (nI b))]) hx hcd dX7_refuses_20 rfl hl (by decide) rfl (fun ls hl => ?_)
    refine lv_aload_n hx hcd dX7_refuses_21 rfl (lv_at hl 1 rfl) ?_
    refine lv_iload_n hx hcd dX7_refuses_22 rfl (lv_at hl 2 rfl) ?_
    refine lv_iload_n hx hcd dX7_refuses_23 rfl (lv_at hl 3 rfl) ?_
    refine lv_aload_n hx hcd dX7_refuses_24 rfl (lv_at hl 1 rfl) ?_
    refine lv_iload_n hx hcd dX7_refuses_25 rfl (lv_at hl 2 rfl) ?_
    refine lv_iload_n hx hcd dX7_refuses_26 rfl (lv_at hl 3 rfl) ?_
    refine kr_Vi (As := [.int (nI a), .int (nI b)]) (rest := [.int (nI b), .int (nI a), .ref (z 0)]) (ws2 := wMo cI z x hh M) (q := (RX7, TX7, 10)) ⟨hx, hcd, hml, hown, hts⟩ (c_X7_state l D cI cB cW cL z x hh _ M a b (by omega) (by omega)) (cwV 2 hts gX7_refuses_X7_state rfl rfl rfl (by decide +kernel) ⟨Nat.le_of_ble_eq_true rfl, Nat.le_of_ble_eq_true rfl⟩) hK hP hD hS hA [0, 1] wMo_allC (by decide) wMo_adr wMo_all 0 rfl rfl rfl hl.1 rfl (Nat.le_of_ble_eq_true rfl) dX7_refuses_27 ⟨Nat.zero_le _, Nat.zero_le _⟩ (fun H locs hP hD hS => ?_)
    refine lv_bipush (v := (-11)) hx hcd dX7_refuses_30 (by decide) ?_
    refine lv_iand hx hcd dX7_refuses_32 ?_
    refine kr_Vv (As := [.int (nI a), .int (nI b), .int ((g_st M a b) &&& (-11))]) (rest := []) (ws2 := wMo cI z x hh (g_become M a b ((g_st M a b) &&& (-11)))) (q := (RX7, TX7, 10)) ⟨hx, hcd, hml, hown, hts⟩ (c_X7_become l D cI cB cW cL z x hh _ M a b ((g_st M a b) &&& (-11)) (by omega) (by omega)) (cwV 3 hts gX7_refuses_X7_become rfl rfl rfl (by decide +kernel) ⟨Nat.le_of_ble_eq_true rfl, Nat.le_of_ble_eq_true rfl⟩) hK hP hD hS hA [0, 1] wMo_allC (by decide) wMo_adr wMo_all 0 rfl rfl rfl hl.1 rfl (Nat.le_of_ble_eq_true rfl) dX7_refuses_33 ⟨Nat.zero_le _, Nat.zero_le _⟩ (fun H locs hP hD hS => ?_)
    have hI_1 : kInv (g_become M a b ((g_st M a b) &&& (-11))) := i_become hI (by omega) (by omega) (i_s hI (by omega) (by omega) (F := fun x => x &&& (-11)) (by decide))
    refine lv_aload_n hx hcd dX7_refuses_36 rfl (lv_at hl 1 rfl) ?_
    refine lv_iconst (v := nI 3) hx hcd dX7_refuses_37 (by decide) ?_
    refine lv_iload_n hx hcd dX7_refuses_38 rfl (lv_at hl 2 rfl) ?_
    refine lv_iload_n hx hcd dX7_refuses_39 rfl (lv_at hl 3 rfl) ?_
    refine lv_iconst (v := nI 0) hx hcd dX7_refuses_40 (by decide) ?_
    refine lv_iconst (v := nI 0) hx hcd dX7_refuses_41 (by decide) ?_
    refine kr_Vv (As := [.int (nI 3), .int (nI a), .int (nI b), .int (nI 0), .int (nI 0)]) (rest := []) (ws2 := wMo cI z x hh (g_send (g_become M a b ((g_st M a b) &&& (-11))) 3 a b 0 0)) (q := (RX7, TX7, 10)) ⟨hx, hcd, hml, hown, hts⟩ (c_X7_send l D cI cB cW cL z x hh _ (g_become M a b ((g_st M a b) &&& (-11))) 3 a b 0 0 hI_1 (by omega) (by omega) (by omega) (by omega) (by omega) (by omega) (by omega)) (cwV 5 hts gX7_refuses_X7_send rfl rfl rfl (by decide +kernel) ⟨Nat.le_of_ble_eq_true rfl, Nat.le_of_ble_eq_true rfl⟩) hK hP hD hS hA [0, 1] wMo_allC (by decide) wMo_adr wMo_all 0 rfl rfl rfl hl.1 rfl (Nat.le_of_ble_eq_true rfl) dX7_refuses_42 ⟨Nat.zero_le _, Nat.zero_le _⟩ (fun H locs hP hD hS => ?_)
    have hI_2 : kInv (g_send (g_become M a b ((g_st M a b) &&& (-11))) 3 a b 0 0) := i_send hI_1 (by omega) (by omega) (by omega) (by omega) (by omega) (by omega) (by omega)
    refine lv_iload_n hx hcd dX7_refuses_45 rfl (lv_at hl 0 rfl) ?_
    refine kr_beq (tgt := 55) hx hcd dX7_refuses_46 (by decide) (fun (c_46 : g_has M a b 2 = false) => ?_) (fun (c_46 : g_has M a b 2 = true) => ?_)
    · refine lv_iconst (v := nI 1) hx hcd dX7_refuses_55 (by decide) ?_
      exact kr_iret hx hcd hr hlocks hK hP hD hS (by simp [c_8, c_46]; rfl) (congrArg (fun M9 => wMo cI z x hh M9) (by simp [g_refuse, c_8, c_46])) dX7_refuses_56
    · refine lv_aload_n hx hcd dX7_refuses_49 rfl (lv_at hl 1 rfl) ?_
      refine lv_iload_n hx hcd dX7_refuses_50 rfl (lv_at hl 2 rfl) ?_
      refine lv_iload_n hx hcd dX7_refuses_51 rfl (lv_at hl 3 rfl) ?_
      refine kr_Vv (As := [.int (nI a), .int (nI b)]) (rest := []) (ws2 := wMo cI z x hh (g_hide (g_send (g_become M a b ((g_st M a b) &&& (-11))) 3 a b 0 0) a b)) (q := (RX7, TX7, 10)) ⟨hx, hcd, hml, hown, hts⟩ (c_X7_hides l D cI cB cW cL z x hh _ (g_send (g_become M a b ((g_st M a b) &&& (-11))) 3 a b 0 0) a b hI_2 (by omega) (by omega)) (cwV 2 hts gX7_refuses_X7_hides rfl rfl rfl (by decide +kernel) ⟨Nat.le_of_ble_eq_true rfl, Nat.le_of_ble_eq_true rfl⟩) hK hP hD hS hA [0, 1] wMo_allC (by decide) wMo_adr wMo_all 0 rfl rfl rfl hl.1 rfl (Nat.le_of_ble_eq_true rfl) dX7_refuses_52 ⟨Nat.zero_le _, Nat.zero_le _⟩ (fun H locs hP hD hS => ?_)
      have hI_3 : kInv (g_hide (g_send (g_become M a b ((g_st M a b) &&& (-11))) 3 a b 0 0) a b) := i_hide hI_2 (by omega) (by omega)
      refine lv_iconst (v := nI 1) hx hcd dX7_refuses_55 (by decide) ?_
      exact kr_iret hx hcd hr hlocks hK hP hD hS (by simp [c_8, c_46]; rfl) (congrArg (fun M9 => wMo cI z x hh M9) (by simp [g_refuse, c_8, c_46])) dX7_refuses_56
  · refine lv_iconst (v := nI 0) hx hcd dX7_refuses_11 (by decide) ?_
    exact kr_iret hx hcd hr hlocks hK hP hD hS (by simp [c_8]; rfl) (congrArg (fun M9 => wMo cI z x hh M9) (by simp [g_refuse, c_8])) dX7_refuses_12

set_option maxHeartbeats 4000000 in
set_option maxRecDepth 100000 in
theorem c_X7_stops (l : Launch) (D : va_G) (cI cB cW cL : ClassId) (z : Nat → Nat) (x : Nat → Int32) (hh : Int64) (sz : Nat) (M : kM) (a : Nat) (b : Nat) (hI : kInv M) (ha : a < 6) (hb : b < 6) : kMi l yX7_stops wsX7_stops ({ frames := 2, cells := 0, slots := 0, locals := 47 }) D vwCl (kT cI cB cW cL) sz [.ref (z 0), .int (nI a), .int (nI b)] (wMo cI z x hh M) (wMo cI z x hh (g_stop M a b)) (if g_has M a b 5 = true then 1 else 0) := by
  refine kr_ofi (cc := cX7_stops) (maxL := 3) (ret := (some .int)) (by decide) rfl (Nat.le_of_ble_eq_true rfl) ?_
  intro pp ee ss mm args below meth cc AA ls hx hcd hr hts hown hlocks hml hK hP hD hA hl
  have hS : va_S AA ss.heap ss.heap [] := va_S.rf
  have hown : ss.vm.findClass RX7 = some mm.cls := hown
  have hl : lv_has ls 3 [(0, .ref (z 0)), (1, .int (nI a)), (2, .int (nI b))] := hl
  refine lv_aload_n hx hcd dX7_stops_0 rfl (lv_at hl 0 rfl) ?_
  refine lv_iload_n hx hcd dX7_stops_1 rfl (lv_at hl 1 rfl) ?_
  refine lv_iload_n hx hcd dX7_stops_2 rfl (lv_at hl 2 rfl) ?_
  refine lv_iconst (v := nI 5) hx hcd dX7_stops_3 (by decide) ?_
  refine kr_Vi (As := [.int (nI a), .int (nI b), .int (nI 5)]) (rest := []) (ws2 := wMo cI z x hh M) (q := (RX7, TX7, 10)) ⟨hx, hcd, hml, hown, hts⟩ (c_X7_has l D cI cB cW cL z x hh _ M a b 5 (by omega) (by omega)) (cwV 3 hts gX7_stops_X7_has rfl rfl rfl (by decide +kernel) ⟨Nat.le_of_ble_eq_true rfl, Nat.le_of_ble_eq_true rfl⟩) hK hP hD hS hA [0, 1] wMo_allC (by decide) wMo_adr wMo_all 0 rfl rfl rfl hl.1 rfl (Nat.le_of_ble_eq_true rfl) dX7_stops_4 ⟨Nat.zero_le _, Nat.zero_le _⟩ (fun H locs hP hD hS => ?_)
  refine kr_bne (tgt := 12) hx hcd dX7_stops_7 (by decide) (fun (c_7 : g_has M a b 5 = true) => ?_) (fun (c_7 : g_has M a b 5 = false) => ?_)
  · refine lv_aload_n hx hcd dX7_stops_12 rfl (lv_at hl 0 rfl) ?_
    refine lv_iload_n hx hcd dX7_stops_13 rfl (lv_at hl 1 rfl) ?_
    refine lv_iload_n hx hcd dX7_stops_14 rfl (lv_at hl 2 rfl) ?_
    refine lv_aload_n hx hcd dX7_stops_15 rfl (lv_at hl 0 rfl) ?_
    refine lv_iload_n hx hcd dX7_stops_16 rfl (lv_at hl 1 rfl) ?_
    refine lv_iload_n hx hcd dX7_stops_17 rfl (lv_at hl 2 rfl) ?_
    refine kr_Vi (As := [.int (nI a), .int (nI b)]) (rest := [.int (nI b), .int (nI a), .ref (z 0)]) (ws2 := wMo cI z x hh M) (q := (RX7, TX7, 10)) ⟨hx, hcd, hml, hown, hts⟩ (c_X7_state l D cI cB cW cL z x hh _ M a b (by omega) (by omega)) (cwV 2 hts gX7_stops_X7_state rfl rfl rfl (by decide +kernel) ⟨Nat.le_of_ble_eq_true rfl, Nat.le_of_ble_eq_true rfl⟩) hK hP hD hS hA [0, 1] wMo_allC (by decide) wMo_adr wMo_all 0 rfl rfl rfl hl.1 rfl (Nat.le_of_ble_eq_true rfl) dX7_stops_18 ⟨Nat.zero_le _, Nat.zero_le _⟩ (fun H locs hP hD hS => ?_)
    refine lv_bipush (v := (-6)) hx hcd dX7_stops_21 (by decide) ?_
    refine lv_iand hx hcd dX7_stops_23 ?_
    refine kr_Vv (As := [.int (nI a), .int (nI b), .int ((g_st M a b) &&& (-6))]) (rest := []) (ws2 := wMo cI z x hh (g_become M a b ((g_st M a b) &&& (-6)))) (q := (RX7, TX7, 10)) ⟨hx, hcd, hml, hown, hts⟩ (c_X7_become l D cI cB cW cL z x hh _ M a b ((g_st M a b) &&& (-6)) (by omega) (by omega)) (cwV 3 hts gX7_stops_X7_become rfl rfl rfl (by decide +kernel) ⟨Nat.le_of_ble_eq_true rfl, Nat.le_of_ble_eq_true rfl⟩) hK hP hD hS hA [0, 1] wMo_allC (by decide) wMo_adr wMo_all 0 rfl rfl rfl hl.1 rfl (Nat.le_of_ble_eq_true rfl) dX7_stops_24 ⟨Nat.zero_le _, Nat.zero_le _⟩ (fun H locs hP hD hS => ?_)
    have hI_1 : kInv (g_become M a b ((g_st M a b) &&& (-6))) := i_become hI (by omega) (by omega) (i_s hI (by omega) (by omega) (F := fun x => x &&& (-6)) (by decide))
    refine lv_aload_n hx hcd dX7_stops_27 rfl (lv_at hl 0 rfl) ?_
    refine lv_iconst (v := nI 2) hx hcd dX7_stops_28 (by decide) ?_
    refine lv_iload_n hx hcd dX7_stops_29 rfl (lv_at hl 1 rfl) ?_
    refine lv_iload_n hx hcd dX7_stops_30 rfl (lv_at hl 2 rfl) ?_
    refine lv_iconst (v := nI 0) hx hcd dX7_stops_31 (by decide) ?_
    refine lv_iconst (v := nI 0) hx hcd dX7_stops_32 (by decide) ?_
    refine kr_Vv (As := [.int (nI 2), .int (nI a), .int (nI b), .int (nI 0), .int (nI 0)]) (rest := []) (ws2 := wMo cI z x hh (g_send (g_become M a b ((g_st M a b) &&& (-6))) 2 a b 0 0)) (q := (RX7, TX7, 10)) ⟨hx, hcd, hml, hown, hts⟩ (c_X7_send l D cI cB cW cL z x hh _ (g_become M a b ((g_st M a b) &&& (-6))) 2 a b 0 0 hI_1 (by omega) (by omega) (by omega) (by omega) (by omega) (by omega) (by omega)) (cwV 5 hts gX7_stops_X7_send rfl rfl rfl (by decide +kernel) ⟨Nat.le_of_ble_eq_true rfl, Nat.le_of_ble_eq_true rfl⟩) hK hP hD hS hA [0, 1] wMo_allC (by decide) wMo_adr wMo_all 0 rfl rfl rfl hl.1 rfl (Nat.le_of_ble_eq_true rfl) dX7_stops_33 ⟨Nat.zero_le _, Nat.zero_le _⟩ (fun H locs hP hD hS => ?_)
    have hI_2 : kInv (g_send (g_become M a b ((g_st M a b) &&& (-6))) 2 a b 0 0) := i_send hI_1 (by omega) (by omega) (by omega) (by omega) (by omega) (by omega) (by omega)
    refine lv_aload_n hx hcd dX7_stops_36 rfl (lv_at hl 0 rfl) ?_
    refine lv_iload_n hx hcd dX7_stops_37 rfl (lv_at hl 1 rfl) ?_
    refine lv_iload_n hx hcd dX7_stops_38 rfl (lv_at hl 2 rfl) ?_
    refine kr_Vv (As := [.int (nI a), .int (nI b)]) (rest := []) (ws2 := wMo cI z x hh (g_forget (g_send (g_become M a b ((g_st M a b) &&& (-6))) 2 a b 0 0) a b)) (q := (RX7, TX7, 10)) ⟨hx, hcd, hml, hown, hts⟩ (c_X7_clearViews l D cI cB cW cL z x hh _ (g_send (g_become M a b ((g_st M a b) &&& (-6))) 2 a b 0 0) a b (by omega) (by omega)) (cwV 2 hts gX7_stops_X7_clearViews rfl rfl rfl (by decide +kernel) ⟨Nat.le_of_ble_eq_true rfl, Nat.le_of_ble_eq_true rfl⟩) hK hP hD hS hA [0, 1] wMo_allC (by decide) wMo_adr wMo_all 0 rfl rfl rfl hl.1 rfl (Nat.le_of_ble_eq_true rfl) dX7_stops_39 ⟨Nat.zero_le _, Nat.zero_le _⟩ (fun H locs hP hD hS => ?_)
    have hI_3 : kInv (g_forget (g_send (g_become M a b ((g_st M a b) &&& (-6))) 2 a b 0 0) a b) := i_forget hI_2 (by omega) (by omega)
    refine lv_iconst (v := nI 1) hx hcd dX7_stops_42 (by decide) ?_
    exact kr_iret hx hcd hr hlocks hK hP hD hS (by simp [c_7]; rfl) (congrArg (fun M9 => wMo cI z x hh M9) (by simp [g_stop, c_7])) dX7_stops_43
  · refine lv_iconst (v := nI 0) hx hcd dX7_stops_10 (by decide) ?_
    exact kr_iret hx hcd hr hlocks hK hP hD hS (by simp [c_7]; rfl) (congrArg (fun M9 => wMo cI z x hh M9) (by simp [g_stop, c_7])) dX7_stops_11

set_option maxHeartbeats 4000000 in
set_option maxRecDepth 100000 in
theorem c_X7_turnsOn (l : Launch) (D : va_G) (cI cB cW cL : ClassId) (z : Nat → Nat) (x : Nat → Int32) (hh : Int64) (sz : Nat) (M : kM) (a : Nat) (s : Nat) (rk : Int32) (d : Nat) (hI : kInv M) (ha : a < 6) (hs : s < 3) (hd : d < 5) : kMi l yX7_turnsOn wsX7_turnsOn ({ frames := 3, cells := 0, slots := 0, locals := 67 }) D vwCl (kT cI cB cW cL) sz [.ref (z 0), .int (nI a), .int (nI s), .int rk, .int (nI d)] (wMo cI z x hh M) (wMo cI z x hh (g_turnOn M a s rk d)) (g_cnt (g_turnOn M a s rk d) a) := by
  refine kr_ofi (cc := cX7_turnsOn) (maxL := 8) (ret := (some .int)) (by decide) rfl (Nat.le_of_ble_eq_true rfl) ?_
  intro pp ee ss mm args below meth cc AA ls hx hcd hr hts hown hlocks hml hK hP hD hA hl
  have hS : va_S AA ss.heap ss.heap [] := va_S.rf
  have hown : ss.vm.findClass RX7 = some mm.cls := hown
  have hl : lv_has ls 8 [(0, .ref (z 0)), (1, .int (nI a)), (2, .int (nI s)), (3, .int rk), (4, .int (nI d))] := hl
  have uX7 : ∀ w ∈ u_ws RX7 TX7 10, w ∈ wsX7_turnsOn := by decide +kernel
  refine lv_aload_n hx hcd dX7_turnsOn_0 rfl (lv_at hl 0 rfl) ?_
  refine lv_iload_n hx hcd dX7_turnsOn_1 rfl (lv_at hl 1 rfl) ?_
  refine kr_Vi (As := [.int (nI a)]) (rest := []) (ws2 := wMo cI z x hh M) (q := (RX7, TX7, 10)) ⟨hx, hcd, hml, hown, hts⟩ (c_X7_seatsOn l D cI cB cW cL z x hh _ M a (by omega)) (cwV 1 hts gX7_turnsOn_X7_seatsOn rfl rfl rfl (by decide +kernel) ⟨Nat.le_of_ble_eq_true rfl, Nat.le_of_ble_eq_true rfl⟩) hK hP hD hS hA [0, 1] wMo_allC (by decide) wMo_adr wMo_all 0 rfl rfl rfl hl.1 rfl (Nat.le_of_ble_eq_true rfl) dX7_turnsOn_2 ⟨Nat.zero_le _, Nat.zero_le _⟩ (fun H locs hP hD hS => ?_)
  refine lv_if_le (tgt := 12) hx hcd dX7_turnsOn_5 (by decide) (fun (c_5 : (g_cnt M a) ≤ 0) => ?_) (fun (c_5 : ¬ (g_cnt M a) ≤ 0) => ?_)
  · refine lv_iconst (v := nI 0) hx hcd dX7_turnsOn_12 (by decide) ?_
    refine lv_istore (lv' := [(5, .int (nI 0)), (0, .ref (z 0)), (1, .int (nI a)), (2, .int (nI s)), (3, .int rk), (4, .int (nI d))]) hx hcd dX7_turnsOn_13 hl (by decide) rfl (fun ls hl => ?_)
    refine lv_iload_n hx hcd dX7_turnsOn_15 rfl (lv_at hl 2 rfl) ?_
    refine lv_iload_n hx hcd dX7_turnsOn_16 rfl (lv_at hl 3 rfl) ?_
    refine kr_Si (As := [.int (nI a), .int (nI s)]) (rest := []) (ws2 := wMo cI z x hh M) ⟨hx, hcd, hml, hown, hts⟩ (c_X7_seatCell l D cI cB cW cL  _ M a s) (va_cwS 2 hts gX7_turnsOn_X7_seatCell rfl rfl rfl (by decide +kernel) ⟨Nat.le_of_ble_eq_true rfl, Nat.le_of_ble_eq_true rfl⟩) hK hP hD hS hA [] rfl (by decide) rfl rfl rfl hl.1 rfl (Nat.le_of_ble_eq_true rfl) dX7_turnsOn_17 ⟨Nat.zero_le _, Nat.zero_le _⟩ (fun H locs hP hD hS => ?_)
    refine lv_istore (lv' := [(6, .int (nI (9 * a + 3 * s))), (5, .int (nI 0)), (0, .ref (z 0)), (1, .int (nI a)), (2, .int (nI s)), (3, .int rk), (4, .int (nI d))]) hx hcd dX7_turnsOn_20 hl (by decide) rfl (fun ls hl => ?_)
    refine lv_aload_n hx hcd dX7_turnsOn_22 rfl (lv_at hl 2 rfl) ?_
    refine kr_get hx hcd hts uX7 hown hK hP 0 rfl rfl 0 (by decide) (by decide +kernel) (v := .ref (z 1)) rfl dX7_turnsOn_23 ?_
    refine lv_iload hx hcd dX7_turnsOn_26 (lv_at hl 0 rfl) ?_
    refine lv_iconst (v := nI 1) hx hcd dX7_turnsOn_28 (by decide) ?_
    refine kr_iast hx hcd hK hP hD hS 1 0 rfl rfl (by omega) (by decide) (congrArg (fun k9 => upd M k9 1) (by omega)) (ws2 := wMo cI z x hh (upd M (9 * a + 3 * s) 1)) rfl dX7_turnsOn_29 (fun H locs hP hD hS => ?_)
    refine lv_aload_n hx hcd dX7_turnsOn_30 rfl (lv_at hl 2 rfl) ?_
    refine kr_get hx hcd hts uX7 hown hK hP 0 rfl rfl 0 (by decide) (by decide +kernel) (v := .ref (z 1)) rfl dX7_turnsOn_31 ?_
    refine lv_iload hx hcd dX7_turnsOn_34 (lv_at hl 0 rfl) ?_
    refine lv_iconst (v := nI 1) hx hcd dX7_turnsOn_36 (by decide) ?_
    refine kr_add hx hcd dX7_turnsOn_37 ?_
    refine lv_iload_n hx hcd dX7_turnsOn_38 rfl (lv_at hl 5 rfl) ?_
    refine kr_iast hx hcd hK hP hD hS 1 0 rfl rfl (by omega) (by decide) (congrArg (fun k9 => upd (upd M (9 * a + 3 * s) 1) k9 rk) (by omega)) (ws2 := wMo cI z x hh (upd (upd M (9 * a + 3 * s) 1) (1 + 9 * a + 3 * s) rk)) rfl dX7_turnsOn_39 (fun H locs hP hD hS => ?_)
    refine lv_aload_n hx hcd dX7_turnsOn_40 rfl (lv_at hl 2 rfl) ?_
    refine kr_get hx hcd hts uX7 hown hK hP 0 rfl rfl 0 (by decide) (by decide +kernel) (v := .ref (z 1)) rfl dX7_turnsOn_41 ?_
    refine lv_iload hx hcd dX7_turnsOn_44 (lv_at hl 0 rfl) ?_
    refine lv_iconst (v := nI 2) hx hcd dX7_turnsOn_46 (by decide) ?_
    refine kr_add hx hcd dX7_turnsOn_47 ?_
    refine lv_iload hx hcd dX7_turnsOn_48 (lv_at hl 6 rfl) ?_
    refine kr_iast hx hcd hK hP hD hS 1 0 rfl rfl (by omega) (by decide) (congrArg (fun k9 => upd (upd (upd M (9 * a + 3 * s) 1) (1 + 9 * a + 3 * s) rk) k9 (nI d)) (by omega)) (ws2 := wMo cI z x hh (upd (upd (upd M (9 * a + 3 * s) 1) (1 + 9 * a + 3 * s) rk) (2 + 9 * a + 3 * s) (nI d))) rfl dX7_turnsOn_50 (fun H locs hP hD hS => ?_)
    obtain ⟨hP, hD⟩ := kr_re (ws2 := wMo cI z x hh (g_set M a s rk (nI d))) hP hD (congrArg (fun M9 => wMo cI z x hh M9) (by rfl : upd (upd (upd M (9 * a + 3 * s) 1) (1 + 9 * a + 3 * s) rk) (2 + 9 * a + 3 * s) (nI d) = g_set M a s rk (nI d)))
    have hI_1 : kInv (g_set M a s rk (nI d)) := i_set hI ha hs hd
    refine lv_iload hx hcd dX7_turnsOn_51 (lv_at hl 1 rfl) ?_
    refine kr_zne (tgt := 99) hx hcd (by omega) dX7_turnsOn_53 (by decide) (fun (c_53 : 0 < 0) => absurd c_53 (by omega)) (fun (c_53 : 0 = 0) => ?_)
    refine lv_aload_n hx hcd dX7_turnsOn_56 rfl (lv_at hl 2 rfl) ?_
    refine lv_iload_n hx hcd dX7_turnsOn_57 rfl (lv_at hl 3 rfl) ?_
    refine kr_Vv (As := [.int (nI a)]) (rest := []) (ws2 := wMo cI z x hh (g_forgetAll (g_set M a s rk (nI d)) a)) (q := (RX7, TX7, 10)) ⟨hx, hcd, hml, hown, hts⟩ (c_X7_clearAllViews l D cI cB cW cL z x hh _ (g_set M a s rk (nI d)) a (by omega)) (cwV 1 hts gX7_turnsOn_X7_clearAllViews rfl rfl rfl (by decide +kernel) ⟨Nat.le_of_ble_eq_true rfl, Nat.le_of_ble_eq_true rfl⟩) hK hP hD hS hA [0, 1] wMo_allC (by decide) wMo_adr wMo_all 0 rfl rfl rfl hl.1 rfl (Nat.le_of_ble_eq_true rfl) dX7_turnsOn_58 ⟨Nat.zero_le _, Nat.zero_le _⟩ (fun H locs hP hD hS => ?_)
    have hI_2 : kInv (g_forgetAll (g_set M a s rk (nI d)) a) := i_forgetAll hI_1 (by omega)
    refine lv_iconst (v := nI 0) hx hcd dX7_turnsOn_61 (by decide) ?_
    refine lv_istore (lv' := [(7, .int (nI 0)), (6, .int (nI (9 * a + 3 * s))), (5, .int (nI 0)), (0, .ref (z 0)), (1, .int (nI a)), (2, .int (nI s)), (3, .int rk), (4, .int (nI d))]) hx hcd dX7_turnsOn_62 hl (by decide) rfl (fun ls hl => ?_)
    refine kr_up (fun i => wMo cI z x hh (g_seersN (g_forgetAll (g_set M a s rk (nI d)) a) 1 6 a 0 0 i)) (fun i => [(0, .ref (z 0)), (1, .int (nI a)), (2, .int (nI s)), (3, .int rk), (4, .int (nI d)), (7, .int (nI i))]) 6 (nL := 8) (fun i hi ih_64 H locs ls hP hD hS hl => ?_) (fun H locs ls hP hD hS hl => ?_) 0 (by omega) hP hD hS (lv_sub hl [3, 4, 5, 6, 7, 0] rfl)
    · have hl : lv_has ls 8 [(0, .ref (z 0)), (1, .int (nI a)), (2, .int (nI s)), (3, .int rk), (4, .int (nI d)), (7, .int (nI i))] := hl
      have hJ := i_seersN hI_2 (mk := 1) (k := 6) (a := a) (s := 0) (d := 0) (by omega) ha (by omega) (by omega) (by omega) (by omega) i (by omega)
      refine lv_iload hx hcd dX7_turnsOn_64 (lv_at hl 5 rfl) ?_
      refine lv_bipush (v := nI 6) hx hcd dX7_turnsOn_66 (by decide) ?_
      refine kr_cge (tgt := 99) hx hcd (by omega) (by omega) dX7_turnsOn_68 (by decide) (fun (c_68 : 6 ≤ i) => absurd c_68 (by omega)) (fun (c_68 : i < 6) => ?_)
      refine lv_aload_n hx hcd dX7_turnsOn_71 rfl (lv_at hl 0 rfl) ?_
      refine lv_iload_n hx hcd dX7_turnsOn_72 rfl (lv_at hl 1 rfl) ?_
      refine lv_iload hx hcd dX7_turnsOn_73 (lv_at hl 5 rfl) ?_
      refine lv_iconst (v := nI 1) hx hcd dX7_turnsOn_75 (by decide) ?_
      refine kr_Vi (As := [.int (nI a), .int (nI i), .int (nI 1)]) (rest := []) (ws2 := wMo cI z x hh (g_seersN (g_forgetAll (g_set M a s rk (nI d)) a) 1 6 a 0 0 i)) (q := (RX7, TX7, 10)) ⟨hx, hcd, hml, hown, hts⟩ (c_X7_has l D cI cB cW cL z x hh _ (g_seersN (g_forgetAll (g_set M a s rk (nI d)) a) 1 6 a 0 0 i) a i 1 (by omega) (by omega)) (cwV 3 hts gX7_turnsOn_X7_has rfl rfl rfl (by decide +kernel) ⟨Nat.le_of_ble_eq_true rfl, Nat.le_of_ble_eq_true rfl⟩) hK hP hD hS hA [0, 1] wMo_allC (by decide) wMo_adr wMo_all 0 rfl rfl rfl hl.1 rfl (Nat.le_of_ble_eq_true rfl) dX7_turnsOn_76 ⟨Nat.zero_le _, Nat.zero_le _⟩ (fun H locs hP hD hS => ?_)
      refine kr_beq (tgt := 93) hx hcd dX7_turnsOn_79 (by decide) (fun (c_79 : g_has (g_seersN (g_forgetAll (g_set M a s rk (nI d)) a) 1 6 a 0 0 i) a i 1 = false) => ?_) (fun (c_79 : g_has (g_seersN (g_forgetAll (g_set M a s rk (nI d)) a) 1 6 a 0 0 i) a i 1 = true) => ?_)
      · refine kr_iinc (lv' := [(7, .int (nI (i + 1))), (0, .ref (z 0)), (1, .int (nI a)), (2, .int (nI s)), (3, .int rk), (4, .int (nI d))]) hx hcd dX7_turnsOn_93 hl (k := 5) rfl (by decide) rfl (fun ls hl => ?_)
        refine lv_goto (tgt := 64) hx hcd dX7_turnsOn_96 (by decide) ?_
        obtain ⟨hP, hD⟩ := kr_re (ws2 := wMo cI z x hh (g_seersN (g_forgetAll (g_set M a s rk (nI d)) a) 1 6 a 0 0 (i + 1))) hP hD (congrArg (fun M9 => wMo cI z x hh M9) (by first | exact seers_t c_79 | exact seers_f c_79))
        exact ih_64 H locs ls hP hD hS (lv_sub hl [1, 2, 3, 4, 5, 0] rfl)
      · refine lv_aload_n hx hcd dX7_turnsOn_82 rfl (lv_at hl 0 rfl) ?_
        refine lv_bipush (v := nI 6) hx hcd dX7_turnsOn_83 (by decide) ?_
        refine lv_iload_n hx hcd dX7_turnsOn_85 rfl (lv_at hl 1 rfl) ?_
        refine lv_iload hx hcd dX7_turnsOn_86 (lv_at hl 5 rfl) ?_
        refine lv_iconst (v := nI 0) hx hcd dX7_turnsOn_88 (by decide) ?_
        refine lv_iconst (v := nI 0) hx hcd dX7_turnsOn_89 (by decide) ?_
        refine kr_Vv (As := [.int (nI 6), .int (nI a), .int (nI i), .int (nI 0), .int (nI 0)]) (rest := []) (ws2 := wMo cI z x hh (g_send (g_seersN (g_forgetAll (g_set M a s rk (nI d)) a) 1 6 a 0 0 i) 6 a i 0 0)) (q := (RX7, TX7, 10)) ⟨hx, hcd, hml, hown, hts⟩ (c_X7_send l D cI cB cW cL z x hh _ (g_seersN (g_forgetAll (g_set M a s rk (nI d)) a) 1 6 a 0 0 i) 6 a i 0 0 hJ (by omega) (by omega) (by omega) (by omega) (by omega) (by omega) (by omega)) (cwV 5 hts gX7_turnsOn_X7_send rfl rfl rfl (by decide +kernel) ⟨Nat.le_of_ble_eq_true rfl, Nat.le_of_ble_eq_true rfl⟩) hK hP hD hS hA [0, 1] wMo_allC (by decide) wMo_adr wMo_all 0 rfl rfl rfl hl.1 rfl (Nat.le_of_ble_eq_true rfl) dX7_turnsOn_90 ⟨Nat.zero_le _, Nat.zero_le _⟩ (fun H locs hP hD hS => ?_)
        have hI_3 : kInv (g_send (g_seersN (g_forgetAll (g_set M a s rk (nI d)) a) 1 6 a 0 0 i) 6 a i 0 0) := i_send hJ (by omega) (by omega) (by omega) (by omega) (by omega) (by omega) (by omega)
        refine kr_iinc (lv' := [(7, .int (nI (i + 1))), (0, .ref (z 0)), (1, .int (nI a)), (2, .int (nI s)), (3, .int rk), (4, .int (nI d))]) hx hcd dX7_turnsOn_93 hl (k := 5) rfl (by decide) rfl (fun ls hl => ?_)
        refine lv_goto (tgt := 64) hx hcd dX7_turnsOn_96 (by decide) ?_
        obtain ⟨hP, hD⟩ := kr_re (ws2 := wMo cI z x hh (g_seersN (g_forgetAll (g_set M a s rk (nI d)) a) 1 6 a 0 0 (i + 1))) hP hD (congrArg (fun M9 => wMo cI z x hh M9) (by first | exact seers_t c_79 | exact seers_f c_79))
        exact ih_64 H locs ls hP hD hS (lv_sub hl [1, 2, 3, 4, 5, 0] rfl)
    · have hl : lv_has ls 8 [(0, .ref (z 0)), (1, .int (nI a)), (2, .int (nI s)), (3, .int rk), (4, .int (nI d)), (7, .int (nI 6))] := hl
      have hJ := i_seersN hI_2 (mk := 1) (k := 6) (a := a) (s := 0) (d := 0) (by omega) ha (by omega) (by omega) (by omega) (by omega) 6 (by omega)
      refine lv_iload hx hcd dX7_turnsOn_64 (lv_at hl 5 rfl) ?_
      refine lv_bipush (v := nI 6) hx hcd dX7_turnsOn_66 (by decide) ?_
      refine kr_cge (tgt := 99) hx hcd (by omega) (by omega) dX7_turnsOn_68 (by decide) (fun (c_68 : 6 ≤ 6) => ?_) (fun (c_68 : 6 < 6) => absurd c_68 (by omega))
      refine lv_iconst (v := nI 0) hx hcd dX7_turnsOn_99 (by decide) ?_
      refine lv_istore (lv' := [(7, .int (nI 0)), (0, .ref (z 0)), (1, .int (nI a)), (2, .int (nI s)), (3, .int rk), (4, .int (nI d))]) hx hcd dX7_turnsOn_100 hl (by decide) rfl (fun ls hl => ?_)
      refine kr_up (fun i => wMo cI z x hh (g_seersN (g_seersN (g_forgetAll (g_set M a s rk (nI d)) a) 1 6 a 0 0 6) 2 4 a s d i)) (fun i => [(0, .ref (z 0)), (1, .int (nI a)), (2, .int (nI s)), (3, .int rk), (4, .int (nI d)), (7, .int (nI i))]) 6 (nL := 8) (fun i hi ih_102 H locs ls hP hD hS hl => ?_) (fun H locs ls hP hD hS hl => ?_) 0 (by omega) hP hD hS (lv_sub hl [1, 2, 3, 4, 5, 0] rfl)
      · have hl : lv_has ls 8 [(0, .ref (z 0)), (1, .int (nI a)), (2, .int (nI s)), (3, .int rk), (4, .int (nI d)), (7, .int (nI i))] := hl
        have hJ := i_seersN hJ (mk := 2) (k := 4) (a := a) (s := s) (d := d) (by omega) ha (by omega) (by omega) (by omega) (by omega) i (by omega)
        refine lv_iload hx hcd dX7_turnsOn_102 (lv_at hl 5 rfl) ?_
        refine lv_bipush (v := nI 6) hx hcd dX7_turnsOn_104 (by decide) ?_
        refine kr_cge (tgt := 137) hx hcd (by omega) (by omega) dX7_turnsOn_106 (by decide) (fun (c_106 : 6 ≤ i) => absurd c_106 (by omega)) (fun (c_106 : i < 6) => ?_)
        refine lv_aload_n hx hcd dX7_turnsOn_109 rfl (lv_at hl 0 rfl) ?_
        refine lv_iload_n hx hcd dX7_turnsOn_110 rfl (lv_at hl 1 rfl) ?_
        refine lv_iload hx hcd dX7_turnsOn_111 (lv_at hl 5 rfl) ?_
        refine lv_iconst (v := nI 2) hx hcd dX7_turnsOn_113 (by decide) ?_
        refine kr_Vi (As := [.int (nI a), .int (nI i), .int (nI 2)]) (rest := []) (ws2 := wMo cI z x hh (g_seersN (g_seersN (g_forgetAll (g_set M a s rk (nI d)) a) 1 6 a 0 0 6) 2 4 a s d i)) (q := (RX7, TX7, 10)) ⟨hx, hcd, hml, hown, hts⟩ (c_X7_has l D cI cB cW cL z x hh _ (g_seersN (g_seersN (g_forgetAll (g_set M a s rk (nI d)) a) 1 6 a 0 0 6) 2 4 a s d i) a i 2 (by omega) (by omega)) (cwV 3 hts gX7_turnsOn_X7_has rfl rfl rfl (by decide +kernel) ⟨Nat.le_of_ble_eq_true rfl, Nat.le_of_ble_eq_true rfl⟩) hK hP hD hS hA [0, 1] wMo_allC (by decide) wMo_adr wMo_all 0 rfl rfl rfl hl.1 rfl (Nat.le_of_ble_eq_true rfl) dX7_turnsOn_114 ⟨Nat.zero_le _, Nat.zero_le _⟩ (fun H locs hP hD hS => ?_)
        refine kr_beq (tgt := 131) hx hcd dX7_turnsOn_117 (by decide) (fun (c_117 : g_has (g_seersN (g_seersN (g_forgetAll (g_set M a s rk (nI d)) a) 1 6 a 0 0 6) 2 4 a s d i) a i 2 = false) => ?_) (fun (c_117 : g_has (g_seersN (g_seersN (g_forgetAll (g_set M a s rk (nI d)) a) 1 6 a 0 0 6) 2 4 a s d i) a i 2 = true) => ?_)
        · refine kr_iinc (lv' := [(7, .int (nI (i + 1))), (0, .ref (z 0)), (1, .int (nI a)), (2, .int (nI s)), (3, .int rk), (4, .int (nI d))]) hx hcd dX7_turnsOn_131 hl (k := 5) rfl (by decide) rfl (fun ls hl => ?_)
          refine lv_goto (tgt := 102) hx hcd dX7_turnsOn_134 (by decide) ?_
          obtain ⟨hP, hD⟩ := kr_re (ws2 := wMo cI z x hh (g_seersN (g_seersN (g_forgetAll (g_set M a s rk (nI d)) a) 1 6 a 0 0 6) 2 4 a s d (i + 1))) hP hD (congrArg (fun M9 => wMo cI z x hh M9) (by first | exact seers_t c_117 | exact seers_f c_117))
          exact ih_102 H locs ls hP hD hS (lv_sub hl [1, 2, 3, 4, 5, 0] rfl)
        · refine lv_aload_n hx hcd dX7_turnsOn_120 rfl (lv_at hl 0 rfl) ?_
          refine lv_iconst (v := nI 4) hx hcd dX7_turnsOn_121 (by decide) ?_
          refine lv_iload_n hx hcd dX7_turnsOn_122 rfl (lv_at hl 1 rfl) ?_
          refine lv_iload hx hcd dX7_turnsOn_123 (lv_at hl 5 rfl) ?_
          refine lv_iload_n hx hcd dX7_turnsOn_125 rfl (lv_at hl 2 rfl) ?_
          refine lv_iload hx hcd dX7_turnsOn_126 (lv_at hl 4 rfl) ?_
          refine kr_Vv (As := [.int (nI 4), .int (nI a), .int (nI i), .int (nI s), .int (nI d)]) (rest := []) (ws2 := wMo cI z x hh (g_send (g_seersN (g_seersN (g_forgetAll (g_set M a s rk (nI d)) a) 1 6 a 0 0 6) 2 4 a s d i) 4 a i s d)) (q := (RX7, TX7, 10)) ⟨hx, hcd, hml, hown, hts⟩ (c_X7_send l D cI cB cW cL z x hh _ (g_seersN (g_seersN (g_forgetAll (g_set M a s rk (nI d)) a) 1 6 a 0 0 6) 2 4 a s d i) 4 a i s d hJ (by omega) (by omega) (by omega) (by omega) (by omega) (by omega) (by omega)) (cwV 5 hts gX7_turnsOn_X7_send rfl rfl rfl (by decide +kernel) ⟨Nat.le_of_ble_eq_true rfl, Nat.le_of_ble_eq_true rfl⟩) hK hP hD hS hA [0, 1] wMo_allC (by decide) wMo_adr wMo_all 0 rfl rfl rfl hl.1 rfl (Nat.le_of_ble_eq_true rfl) dX7_turnsOn_128 ⟨Nat.zero_le _, Nat.zero_le _⟩ (fun H locs hP hD hS => ?_)
          have hI_4 : kInv (g_send (g_seersN (g_seersN (g_forgetAll (g_set M a s rk (nI d)) a) 1 6 a 0 0 6) 2 4 a s d i) 4 a i s d) := i_send hJ (by omega) (by omega) (by omega) (by omega) (by omega) (by omega) (by omega)
          refine kr_iinc (lv' := [(7, .int (nI (i + 1))), (0, .ref (z 0)), (1, .int (nI a)), (2, .int (nI s)), (3, .int rk), (4, .int (nI d))]) hx hcd dX7_turnsOn_131 hl (k := 5) rfl (by decide) rfl (fun ls hl => ?_)
          refine lv_goto (tgt := 102) hx hcd dX7_turnsOn_134 (by decide) ?_
          obtain ⟨hP, hD⟩ := kr_re (ws2 := wMo cI z x hh (g_seersN (g_seersN (g_forgetAll (g_set M a s rk (nI d)) a) 1 6 a 0 0 6) 2 4 a s d (i + 1))) hP hD (congrArg (fun M9 => wMo cI z x hh M9) (by first | exact seers_t c_117 | exact seers_f c_117))
          exact ih_102 H locs ls hP hD hS (lv_sub hl [1, 2, 3, 4, 5, 0] rfl)
      · have hl : lv_has ls 8 [(0, .ref (z 0)), (1, .int (nI a)), (2, .int (nI s)), (3, .int rk), (4, .int (nI d)), (7, .int (nI 6))] := hl
        have hJ := i_seersN hJ (mk := 2) (k := 4) (a := a) (s := s) (d := d) (by omega) ha (by omega) (by omega) (by omega) (by omega) 6 (by omega)
        refine lv_iload hx hcd dX7_turnsOn_102 (lv_at hl 5 rfl) ?_
        refine lv_bipush (v := nI 6) hx hcd dX7_turnsOn_104 (by decide) ?_
        refine kr_cge (tgt := 137) hx hcd (by omega) (by omega) dX7_turnsOn_106 (by decide) (fun (c_106 : 6 ≤ 6) => ?_) (fun (c_106 : 6 < 6) => absurd c_106 (by omega))
        refine lv_aload_n hx hcd dX7_turnsOn_137 rfl (lv_at hl 0 rfl) ?_
        refine lv_iload_n hx hcd dX7_turnsOn_138 rfl (lv_at hl 1 rfl) ?_
        refine kr_Vi (As := [.int (nI a)]) (rest := []) (ws2 := wMo cI z x hh (g_seersN (g_seersN (g_forgetAll (g_set M a s rk (nI d)) a) 1 6 a 0 0 6) 2 4 a s d 6)) (q := (RX7, TX7, 10)) ⟨hx, hcd, hml, hown, hts⟩ (c_X7_seatsOn l D cI cB cW cL z x hh _ (g_seersN (g_seersN (g_forgetAll (g_set M a s rk (nI d)) a) 1 6 a 0 0 6) 2 4 a s d 6) a (by omega)) (cwV 1 hts gX7_turnsOn_X7_seatsOn rfl rfl rfl (by decide +kernel) ⟨Nat.le_of_ble_eq_true rfl, Nat.le_of_ble_eq_true rfl⟩) hK hP hD hS hA [0, 1] wMo_allC (by decide) wMo_adr wMo_all 0 rfl rfl rfl hl.1 rfl (Nat.le_of_ble_eq_true rfl) dX7_turnsOn_139 ⟨Nat.zero_le _, Nat.zero_le _⟩ (fun H locs hP hD hS => ?_)
        exact kr_iret hx hcd hr hlocks hK hP hD hS (by first | (rw [g_turnOn, if_neg (by simp [g_there, c_5])]; rfl) | (rw [g_turnOn, if_pos (by simp [g_there, c_5])]; rfl)) (congrArg (fun M9 => wMo cI z x hh M9) (by first | (rw [g_turnOn, if_neg (by simp [g_there, c_5])]; rfl) | (rw [g_turnOn, if_pos (by simp [g_there, c_5])]; rfl))) dX7_turnsOn_142
  · refine lv_iconst (v := nI 1) hx hcd dX7_turnsOn_8 (by decide) ?_
    refine lv_goto (tgt := 13) hx hcd dX7_turnsOn_9 (by decide) ?_
    refine lv_istore (lv' := [(5, .int (nI 1)), (0, .ref (z 0)), (1, .int (nI a)), (2, .int (nI s)), (3, .int rk), (4, .int (nI d))]) hx hcd dX7_turnsOn_13 hl (by decide) rfl (fun ls hl => ?_)
    refine lv_iload_n hx hcd dX7_turnsOn_15 rfl (lv_at hl 2 rfl) ?_
    refine lv_iload_n hx hcd dX7_turnsOn_16 rfl (lv_at hl 3 rfl) ?_
    refine kr_Si (As := [.int (nI a), .int (nI s)]) (rest := []) (ws2 := wMo cI z x hh M) ⟨hx, hcd, hml, hown, hts⟩ (c_X7_seatCell l D cI cB cW cL  _ M a s) (va_cwS 2 hts gX7_turnsOn_X7_seatCell rfl rfl rfl (by decide +kernel) ⟨Nat.le_of_ble_eq_true rfl, Nat.le_of_ble_eq_true rfl⟩) hK hP hD hS hA [] rfl (by decide) rfl rfl rfl hl.1 rfl (Nat.le_of_ble_eq_true rfl) dX7_turnsOn_17 ⟨Nat.zero_le _, Nat.zero_le _⟩ (fun H locs hP hD hS => ?_)
    refine lv_istore (lv' := [(6, .int (nI (9 * a + 3 * s))), (5, .int (nI 1)), (0, .ref (z 0)), (1, .int (nI a)), (2, .int (nI s)), (3, .int rk), (4, .int (nI d))]) hx hcd dX7_turnsOn_20 hl (by decide) rfl (fun ls hl => ?_)
    refine lv_aload_n hx hcd dX7_turnsOn_22 rfl (lv_at hl 2 rfl) ?_
    refine kr_get hx hcd hts uX7 hown hK hP 0 rfl rfl 0 (by decide) (by decide +kernel) (v := .ref (z 1)) rfl dX7_turnsOn_23 ?_
    refine lv_iload hx hcd dX7_turnsOn_26 (lv_at hl 0 rfl) ?_
    refine lv_iconst (v := nI 1) hx hcd dX7_turnsOn_28 (by decide) ?_
    refine kr_iast hx hcd hK hP hD hS 1 0 rfl rfl (by omega) (by decide) (congrArg (fun k9 => upd M k9 1) (by omega)) (ws2 := wMo cI z x hh (upd M (9 * a + 3 * s) 1)) rfl dX7_turnsOn_29 (fun H locs hP hD hS => ?_)
    refine lv_aload_n hx hcd dX7_turnsOn_30 rfl (lv_at hl 2 rfl) ?_
    refine kr_get hx hcd hts uX7 hown hK hP 0 rfl rfl 0 (by decide) (by decide +kernel) (v := .ref (z 1)) rfl dX7_turnsOn_31 ?_
    refine lv_iload hx hcd dX7_turnsOn_34 (lv_at hl 0 rfl) ?_
    refine lv_iconst (v := nI 1) hx hcd dX7_turnsOn_36 (by decide) ?_
    refine kr_add hx hcd dX7_turnsOn_37 ?_
    refine lv_iload_n hx hcd dX7_turnsOn_38 rfl (lv_at hl 5 rfl) ?_
    refine kr_iast hx hcd hK hP hD hS 1 0 rfl rfl (by omega) (by decide) (congrArg (fun k9 => upd (upd M (9 * a + 3 * s) 1) k9 rk) (by omega)) (ws2 := wMo cI z x hh (upd (upd M (9 * a + 3 * s) 1) (1 + 9 * a + 3 * s) rk)) rfl dX7_turnsOn_39 (fun H locs hP hD hS => ?_)
    refine lv_aload_n hx hcd dX7_turnsOn_40 rfl (lv_at hl 2 rfl) ?_
    refine kr_get hx hcd hts uX7 hown hK hP 0 rfl rfl 0 (by decide) (by decide +kernel) (v := .ref (z 1)) rfl dX7_turnsOn_41 ?_
    refine lv_iload hx hcd dX7_turnsOn_44 (lv_at hl 0 rfl) ?_
    refine lv_iconst (v := nI 2) hx hcd dX7_turnsOn_46 (by decide) ?_
    refine kr_add hx hcd dX7_turnsOn_47 ?_
    refine lv_iload hx hcd dX7_turnsOn_48 (lv_at hl 6 rfl) ?_
    refine kr_iast hx hcd hK hP hD hS 1 0 rfl rfl (by omega) (by decide) (congrArg (fun k9 => upd (upd (upd M (9 * a + 3 * s) 1) (1 + 9 * a + 3 * s) rk) k9 (nI d)) (by omega)) (ws2 := wMo cI z x hh (upd (upd (upd M (9 * a + 3 * s) 1) (1 + 9 * a + 3 * s) rk) (2 + 9 * a + 3 * s) (nI d))) rfl dX7_turnsOn_50 (fun H locs hP hD hS => ?_)
    obtain ⟨hP, hD⟩ := kr_re (ws2 := wMo cI z x hh (g_set M a s rk (nI d))) hP hD (congrArg (fun M9 => wMo cI z x hh M9) (by rfl : upd (upd (upd M (9 * a + 3 * s) 1) (1 + 9 * a + 3 * s) rk) (2 + 9 * a + 3 * s) (nI d) = g_set M a s rk (nI d)))
    have hI_5 : kInv (g_set M a s rk (nI d)) := i_set hI ha hs hd
    refine lv_iload hx hcd dX7_turnsOn_51 (lv_at hl 1 rfl) ?_
    refine kr_zne (tgt := 99) hx hcd (by omega) dX7_turnsOn_53 (by decide) (fun (c_53 : 0 < 1) => ?_) (fun (c_53 : 1 = 0) => absurd c_53 (by omega))
    refine lv_iconst (v := nI 0) hx hcd dX7_turnsOn_99 (by decide) ?_
    refine lv_istore (lv' := [(7, .int (nI 0)), (6, .int (nI (9 * a + 3 * s))), (5, .int (nI 1)), (0, .ref (z 0)), (1, .int (nI a)), (2, .int (nI s)), (3, .int rk), (4, .int (nI d))]) hx hcd dX7_turnsOn_100 hl (by decide) rfl (fun ls hl => ?_)
    refine kr_up (fun i => wMo cI z x hh (g_seersN (g_set M a s rk (nI d)) 2 4 a s d i)) (fun i => [(0, .ref (z 0)), (1, .int (nI a)), (2, .int (nI s)), (3, .int rk), (4, .int (nI d)), (7, .int (nI i))]) 6 (nL := 8) (fun i hi ih_102 H locs ls hP hD hS hl => ?_) (fun H locs ls hP hD hS hl => ?_) 0 (by omega) hP hD hS (lv_sub hl [3, 4, 5, 6, 7, 0] rfl)
    · have hl : lv_has ls 8 [(0, .ref (z 0)), (1, .int (nI a)), (2, .int (nI s)), (3, .int rk), (4, .int (nI d)), (7, .int (nI i))] := hl
      have hJ := i_seersN hI_5 (mk := 2) (k := 4) (a := a) (s := s) (d := d) (by omega) ha (by omega) (by omega) (by omega) (by omega) i (by omega)
      refine lv_iload hx hcd dX7_turnsOn_102 (lv_at hl 5 rfl) ?_
      refine lv_bipush (v := nI 6) hx hcd dX7_turnsOn_104 (by decide) ?_
      refine kr_cge (tgt := 137) hx hcd (by omega) (by omega) dX7_turnsOn_106 (by decide) (fun (c_106 : 6 ≤ i) => absurd c_106 (by omega)) (fun (c_106 : i < 6) => ?_)
      refine lv_aload_n hx hcd dX7_turnsOn_109 rfl (lv_at hl 0 rfl) ?_
      refine lv_iload_n hx hcd dX7_turnsOn_110 rfl (lv_at hl 1 rfl) ?_
      refine lv_iload hx hcd dX7_turnsOn_111 (lv_at hl 5 rfl) ?_
      refine lv_iconst (v := nI 2) hx hcd dX7_turnsOn_113 (by decide) ?_
      refine kr_Vi (As := [.int (nI a), .int (nI i), .int (nI 2)]) (rest := []) (ws2 := wMo cI z x hh (g_seersN (g_set M a s rk (nI d)) 2 4 a s d i)) (q := (RX7, TX7, 10)) ⟨hx, hcd, hml, hown, hts⟩ (c_X7_has l D cI cB cW cL z x hh _ (g_seersN (g_set M a s rk (nI d)) 2 4 a s d i) a i 2 (by omega) (by omega)) (cwV 3 hts gX7_turnsOn_X7_has rfl rfl rfl (by decide +kernel) ⟨Nat.le_of_ble_eq_true rfl, Nat.le_of_ble_eq_true rfl⟩) hK hP hD hS hA [0, 1] wMo_allC (by decide) wMo_adr wMo_all 0 rfl rfl rfl hl.1 rfl (Nat.le_of_ble_eq_true rfl) dX7_turnsOn_114 ⟨Nat.zero_le _, Nat.zero_le _⟩ (fun H locs hP hD hS => ?_)
      refine kr_beq (tgt := 131) hx hcd dX7_turnsOn_117 (by decide) (fun (c_117 : g_has (g_seersN (g_set M a s rk (nI d)) 2 4 a s d i) a i 2 = false) => ?_) (fun (c_117 : g_has (g_seersN (g_set M a s rk (nI d)) 2 4 a s d i) a i 2 = true) => ?_)
      · refine kr_iinc (lv' := [(7, .int (nI (i + 1))), (0, .ref (z 0)), (1, .int (nI a)), (2, .int (nI s)), (3, .int rk), (4, .int (nI d))]) hx hcd dX7_turnsOn_131 hl (k := 5) rfl (by decide) rfl (fun ls hl => ?_)
        refine lv_goto (tgt := 102) hx hcd dX7_turnsOn_134 (by decide) ?_
        obtain ⟨hP, hD⟩ := kr_re (ws2 := wMo cI z x hh (g_seersN (g_set M a s rk (nI d)) 2 4 a s d (i + 1))) hP hD (congrArg (fun M9 => wMo cI z x hh M9) (by first | exact seers_t c_117 | exact seers_f c_117))
        exact ih_102 H locs ls hP hD hS (lv_sub hl [1, 2, 3, 4, 5, 0] rfl)
      · refine lv_aload_n hx hcd dX7_turnsOn_120 rfl (lv_at hl 0 rfl) ?_
        refine lv_iconst (v := nI 4) hx hcd dX7_turnsOn_121 (by decide) ?_
        refine lv_iload_n hx hcd dX7_turnsOn_122 rfl (lv_at hl 1 rfl) ?_
        refine lv_iload hx hcd dX7_turnsOn_123 (lv_at hl 5 rfl) ?_
        refine lv_iload_n hx hcd dX7_turnsOn_125 rfl (lv_at hl 2 rfl) ?_
        refine lv_iload hx hcd dX7_turnsOn_126 (lv_at hl 4 rfl) ?_
        refine kr_Vv (As := [.int (nI 4), .int (nI a), .int (nI i), .int (nI s), .int (nI d)]) (rest := []) (ws2 := wMo cI z x hh (g_send (g_seersN (g_set M a s rk (nI d)) 2 4 a s d i) 4 a i s d)) (q := (RX7, TX7, 10)) ⟨hx, hcd, hml, hown, hts⟩ (c_X7_send l D cI cB cW cL z x hh _ (g_seersN (g_set M a s rk (nI d)) 2 4 a s d i) 4 a i s d hJ (by omega) (by omega) (by omega) (by omega) (by omega) (by omega) (by omega)) (cwV 5 hts gX7_turnsOn_X7_send rfl rfl rfl (by decide +kernel) ⟨Nat.le_of_ble_eq_true rfl, Nat.le_of_ble_eq_true rfl⟩) hK hP hD hS hA [0, 1] wMo_allC (by decide) wMo_adr wMo_all 0 rfl rfl rfl hl.1 rfl (Nat.le_of_ble_eq_true rfl) dX7_turnsOn_128 ⟨Nat.zero_le _, Nat.zero_le _⟩ (fun H locs hP hD hS => ?_)
        have hI_6 : kInv (g_send (g_seersN (g_set M a s rk (nI d)) 2 4 a s d i) 4 a i s d) := i_send hJ (by omega) (by omega) (by omega) (by omega) (by omega) (by omega) (by omega)
        refine kr_iinc (lv' := [(7, .int (nI (i + 1))), (0, .ref (z 0)), (1, .int (nI a)), (2, .int (nI s)), (3, .int rk), (4, .int (nI d))]) hx hcd dX7_turnsOn_131 hl (k := 5) rfl (by decide) rfl (fun ls hl => ?_)
        refine lv_goto (tgt := 102) hx hcd dX7_turnsOn_134 (by decide) ?_
        obtain ⟨hP, hD⟩ := kr_re (ws2 := wMo cI z x hh (g_seersN (g_set M a s rk (nI d)) 2 4 a s d (i + 1))) hP hD (congrArg (fun M9 => wMo cI z x hh M9) (by first | exact seers_t c_117 | exact seers_f c_117))
        exact ih_102 H locs ls hP hD hS (lv_sub hl [1, 2, 3, 4, 5, 0] rfl)
    · have hl : lv_has ls 8 [(0, .ref (z 0)), (1, .int (nI a)), (2, .int (nI s)), (3, .int rk), (4, .int (nI d)), (7, .int (nI 6))] := hl
      have hJ := i_seersN hI_5 (mk := 2) (k := 4) (a := a) (s := s) (d := d) (by omega) ha (by omega) (by omega) (by omega) (by omega) 6 (by omega)
      refine lv_iload hx hcd dX7_turnsOn_102 (lv_at hl 5 rfl) ?_
      refine lv_bipush (v := nI 6) hx hcd dX7_turnsOn_104 (by decide) ?_
      refine kr_cge (tgt := 137) hx hcd (by omega) (by omega) dX7_turnsOn_106 (by decide) (fun (c_106 : 6 ≤ 6) => ?_) (fun (c_106 : 6 < 6) => absurd c_106 (by omega))
      refine lv_aload_n hx hcd dX7_turnsOn_137 rfl (lv_at hl 0 rfl) ?_
      refine lv_iload_n hx hcd dX7_turnsOn_138 rfl (lv_at hl 1 rfl) ?_
      refine kr_Vi (As := [.int (nI a)]) (rest := []) (ws2 := wMo cI z x hh (g_seersN (g_set M a s rk (nI d)) 2 4 a s d 6)) (q := (RX7, TX7, 10)) ⟨hx, hcd, hml, hown, hts⟩ (c_X7_seatsOn l D cI cB cW cL z x hh _ (g_seersN (g_set M a s rk (nI d)) 2 4 a s d 6) a (by omega)) (cwV 1 hts gX7_turnsOn_X7_seatsOn rfl rfl rfl (by decide +kernel) ⟨Nat.le_of_ble_eq_true rfl, Nat.le_of_ble_eq_true rfl⟩) hK hP hD hS hA [0, 1] wMo_allC (by decide) wMo_adr wMo_all 0 rfl rfl rfl hl.1 rfl (Nat.le_of_ble_eq_true rfl) dX7_turnsOn_139 ⟨Nat.zero_le _, Nat.zero_le _⟩ (fun H locs hP hD hS => ?_)
      exact kr_iret hx hcd hr hlocks hK hP hD hS (by first | (rw [g_turnOn, if_neg (by simp [g_there, c_5])]; rfl) | (rw [g_turnOn, if_pos (by simp [g_there, c_5])]; rfl)) (congrArg (fun M9 => wMo cI z x hh M9) (by first | (rw [g_turnOn, if_neg (by simp [g_there, c_5])]; rfl) | (rw [g_turnOn, if_pos (by simp [g_there, c_5])]; rfl))) dX7_turnsOn_142

set_option maxHeartbeats 4000000 in
set_option maxRecDepth 100000 in
theorem c_X7_turnsOff (l : Launch) (D : va_G) (cI cB cW cL : ClassId) (z : Nat → Nat) (x : Nat → Int32) (hh : Int64) (sz : Nat) (M : kM) (a : Nat) (s : Nat) (hI : kInv M) (ha : a < 6) (hs : s < 3) : kMi l yX7_turnsOff wsX7_turnsOff ({ frames := 3, cells := 0, slots := 0, locals := 67 }) D vwCl (kT cI cB cW cL) sz [.ref (z 0), .int (nI a), .int (nI s)] (wMo cI z x hh M) (wMo cI z x hh (g_turnOff M a s)) (g_cnt (g_turnOff M a s) a) := by
  refine kr_ofi (cc := cX7_turnsOff) (maxL := 4) (ret := (some .int)) (by decide) rfl (Nat.le_of_ble_eq_true rfl) ?_
  intro pp ee ss mm args below meth cc AA ls hx hcd hr hts hown hlocks hml hK hP hD hA hl
  have hS : va_S AA ss.heap ss.heap [] := va_S.rf
  have hown : ss.vm.findClass RX7 = some mm.cls := hown
  have hl : lv_has ls 4 [(0, .ref (z 0)), (1, .int (nI a)), (2, .int (nI s))] := hl
  have uX7 : ∀ w ∈ u_ws RX7 TX7 10, w ∈ wsX7_turnsOff := by decide +kernel
  refine lv_aload_n hx hcd dX7_turnsOff_0 rfl (lv_at hl 0 rfl) ?_
  refine kr_get hx hcd hts uX7 hown hK hP 0 rfl rfl 0 (by decide) (by decide +kernel) (v := .ref (z 1)) rfl dX7_turnsOff_1 ?_
  refine lv_iload_n hx hcd dX7_turnsOff_4 rfl (lv_at hl 1 rfl) ?_
  refine lv_iload_n hx hcd dX7_turnsOff_5 rfl (lv_at hl 2 rfl) ?_
  refine kr_Si (As := [.int (nI a), .int (nI s)]) (rest := [.ref (z 1)]) (ws2 := wMo cI z x hh M) ⟨hx, hcd, hml, hown, hts⟩ (c_X7_seatCell l D cI cB cW cL  _ M a s) (va_cwS 2 hts gX7_turnsOff_X7_seatCell rfl rfl rfl (by decide +kernel) ⟨Nat.le_of_ble_eq_true rfl, Nat.le_of_ble_eq_true rfl⟩) hK hP hD hS hA [] rfl (by decide) rfl rfl rfl hl.1 rfl (Nat.le_of_ble_eq_true rfl) dX7_turnsOff_6 ⟨Nat.zero_le _, Nat.zero_le _⟩ (fun H locs hP hD hS => ?_)
  refine lv_iconst (v := nI 0) hx hcd dX7_turnsOff_9 (by decide) ?_
  refine kr_iast hx hcd hK hP hD hS 1 0 rfl rfl (by omega) (by decide) (congrArg (fun k9 => upd M k9 0) (by omega)) (ws2 := wMo cI z x hh (upd M (9 * a + 3 * s) 0)) rfl dX7_turnsOff_10 (fun H locs hP hD hS => ?_)
  have hI_1 : kInv (upd M (9 * a + 3 * s) 0) := (i_onupd (b := false) hI (by omega))
  refine lv_iconst (v := nI 0) hx hcd dX7_turnsOff_11 (by decide) ?_
  refine lv_istore_n (lv' := [(3, .int (nI 0)), (0, .ref (z 0)), (1, .int (nI a)), (2, .int (nI s))]) hx hcd dX7_turnsOff_12 rfl hl (by decide) rfl (fun ls hl => ?_)
  refine kr_up (fun i => wMo cI z x hh (g_seersN (upd M (9 * a + 3 * s) 0) 2 5 a s 0 i)) (fun i => [(0, .ref (z 0)), (1, .int (nI a)), (2, .int (nI s)), (3, .int (nI i))]) 6 (nL := 4) (fun i hi ih_13 H locs ls hP hD hS hl => ?_) (fun H locs ls hP hD hS hl => ?_) 0 (by omega) hP hD hS (lv_sub hl [1, 2, 3, 0] rfl)
  · have hl : lv_has ls 4 [(0, .ref (z 0)), (1, .int (nI a)), (2, .int (nI s)), (3, .int (nI i))] := hl
    have hJ := i_seersN hI_1 (mk := 2) (k := 5) (a := a) (s := s) (d := 0) (by omega) ha (by omega) (by omega) (by omega) (by omega) i (by omega)
    refine lv_iload_n hx hcd dX7_turnsOff_13 rfl (lv_at hl 3 rfl) ?_
    refine lv_bipush (v := nI 6) hx hcd dX7_turnsOff_14 (by decide) ?_
    refine kr_cge (tgt := 44) hx hcd (by omega) (by omega) dX7_turnsOff_16 (by decide) (fun (c_16 : 6 ≤ i) => absurd c_16 (by omega)) (fun (c_16 : i < 6) => ?_)
    refine lv_aload_n hx hcd dX7_turnsOff_19 rfl (lv_at hl 0 rfl) ?_
    refine lv_iload_n hx hcd dX7_turnsOff_20 rfl (lv_at hl 1 rfl) ?_
    refine lv_iload_n hx hcd dX7_turnsOff_21 rfl (lv_at hl 3 rfl) ?_
    refine lv_iconst (v := nI 2) hx hcd dX7_turnsOff_22 (by decide) ?_
    refine kr_Vi (As := [.int (nI a), .int (nI i), .int (nI 2)]) (rest := []) (ws2 := wMo cI z x hh (g_seersN (upd M (9 * a + 3 * s) 0) 2 5 a s 0 i)) (q := (RX7, TX7, 10)) ⟨hx, hcd, hml, hown, hts⟩ (c_X7_has l D cI cB cW cL z x hh _ (g_seersN (upd M (9 * a + 3 * s) 0) 2 5 a s 0 i) a i 2 (by omega) (by omega)) (cwV 3 hts gX7_turnsOff_X7_has rfl rfl rfl (by decide +kernel) ⟨Nat.le_of_ble_eq_true rfl, Nat.le_of_ble_eq_true rfl⟩) hK hP hD hS hA [0, 1] wMo_allC (by decide) wMo_adr wMo_all 0 rfl rfl rfl hl.1 rfl (Nat.le_of_ble_eq_true rfl) dX7_turnsOff_23 ⟨Nat.zero_le _, Nat.zero_le _⟩ (fun H locs hP hD hS => ?_)
    refine kr_beq (tgt := 38) hx hcd dX7_turnsOff_26 (by decide) (fun (c_26 : g_has (g_seersN (upd M (9 * a + 3 * s) 0) 2 5 a s 0 i) a i 2 = false) => ?_) (fun (c_26 : g_has (g_seersN (upd M (9 * a + 3 * s) 0) 2 5 a s 0 i) a i 2 = true) => ?_)
    · refine kr_iinc (lv' := [(3, .int (nI (i + 1))), (0, .ref (z 0)), (1, .int (nI a)), (2, .int (nI s))]) hx hcd dX7_turnsOff_38 hl (k := 3) rfl (by decide) rfl (fun ls hl => ?_)
      refine lv_goto (tgt := 13) hx hcd dX7_turnsOff_41 (by decide) ?_
      obtain ⟨hP, hD⟩ := kr_re (ws2 := wMo cI z x hh (g_seersN (upd M (9 * a + 3 * s) 0) 2 5 a s 0 (i + 1))) hP hD (congrArg (fun M9 => wMo cI z x hh M9) (by first | exact seers_t c_26 | exact seers_f c_26))
      exact ih_13 H locs ls hP hD hS (lv_sub hl [1, 2, 3, 0] rfl)
    · refine lv_aload_n hx hcd dX7_turnsOff_29 rfl (lv_at hl 0 rfl) ?_
      refine lv_iconst (v := nI 5) hx hcd dX7_turnsOff_30 (by decide) ?_
      refine lv_iload_n hx hcd dX7_turnsOff_31 rfl (lv_at hl 1 rfl) ?_
      refine lv_iload_n hx hcd dX7_turnsOff_32 rfl (lv_at hl 3 rfl) ?_
      refine lv_iload_n hx hcd dX7_turnsOff_33 rfl (lv_at hl 2 rfl) ?_
      refine lv_iconst (v := nI 0) hx hcd dX7_turnsOff_34 (by decide) ?_
      refine kr_Vv (As := [.int (nI 5), .int (nI a), .int (nI i), .int (nI s), .int (nI 0)]) (rest := []) (ws2 := wMo cI z x hh (g_send (g_seersN (upd M (9 * a + 3 * s) 0) 2 5 a s 0 i) 5 a i s 0)) (q := (RX7, TX7, 10)) ⟨hx, hcd, hml, hown, hts⟩ (c_X7_send l D cI cB cW cL z x hh _ (g_seersN (upd M (9 * a + 3 * s) 0) 2 5 a s 0 i) 5 a i s 0 hJ (by omega) (by omega) (by omega) (by omega) (by omega) (by omega) (by omega)) (cwV 5 hts gX7_turnsOff_X7_send rfl rfl rfl (by decide +kernel) ⟨Nat.le_of_ble_eq_true rfl, Nat.le_of_ble_eq_true rfl⟩) hK hP hD hS hA [0, 1] wMo_allC (by decide) wMo_adr wMo_all 0 rfl rfl rfl hl.1 rfl (Nat.le_of_ble_eq_true rfl) dX7_turnsOff_35 ⟨Nat.zero_le _, Nat.zero_le _⟩ (fun H locs hP hD hS => ?_)
      have hI_2 : kInv (g_send (g_seersN (upd M (9 * a + 3 * s) 0) 2 5 a s 0 i) 5 a i s 0) := i_send hJ (by omega) (by omega) (by omega) (by omega) (by omega) (by omega) (by omega)
      refine kr_iinc (lv' := [(3, .int (nI (i + 1))), (0, .ref (z 0)), (1, .int (nI a)), (2, .int (nI s))]) hx hcd dX7_turnsOff_38 hl (k := 3) rfl (by decide) rfl (fun ls hl => ?_)
      refine lv_goto (tgt := 13) hx hcd dX7_turnsOff_41 (by decide) ?_
      obtain ⟨hP, hD⟩ := kr_re (ws2 := wMo cI z x hh (g_seersN (upd M (9 * a + 3 * s) 0) 2 5 a s 0 (i + 1))) hP hD (congrArg (fun M9 => wMo cI z x hh M9) (by first | exact seers_t c_26 | exact seers_f c_26))
      exact ih_13 H locs ls hP hD hS (lv_sub hl [1, 2, 3, 0] rfl)
  · have hl : lv_has ls 4 [(0, .ref (z 0)), (1, .int (nI a)), (2, .int (nI s)), (3, .int (nI 6))] := hl
    have hJ := i_seersN hI_1 (mk := 2) (k := 5) (a := a) (s := s) (d := 0) (by omega) ha (by omega) (by omega) (by omega) (by omega) 6 (by omega)
    refine lv_iload_n hx hcd dX7_turnsOff_13 rfl (lv_at hl 3 rfl) ?_
    refine lv_bipush (v := nI 6) hx hcd dX7_turnsOff_14 (by decide) ?_
    refine kr_cge (tgt := 44) hx hcd (by omega) (by omega) dX7_turnsOff_16 (by decide) (fun (c_16 : 6 ≤ 6) => ?_) (fun (c_16 : 6 < 6) => absurd c_16 (by omega))
    refine lv_aload_n hx hcd dX7_turnsOff_44 rfl (lv_at hl 0 rfl) ?_
    refine lv_iload_n hx hcd dX7_turnsOff_45 rfl (lv_at hl 1 rfl) ?_
    refine kr_Vi (As := [.int (nI a)]) (rest := []) (ws2 := wMo cI z x hh (g_seersN (upd M (9 * a + 3 * s) 0) 2 5 a s 0 6)) (q := (RX7, TX7, 10)) ⟨hx, hcd, hml, hown, hts⟩ (c_X7_seatsOn l D cI cB cW cL z x hh _ (g_seersN (upd M (9 * a + 3 * s) 0) 2 5 a s 0 6) a (by omega)) (cwV 1 hts gX7_turnsOff_X7_seatsOn rfl rfl rfl (by decide +kernel) ⟨Nat.le_of_ble_eq_true rfl, Nat.le_of_ble_eq_true rfl⟩) hK hP hD hS hA [0, 1] wMo_allC (by decide) wMo_adr wMo_all 0 rfl rfl rfl hl.1 rfl (Nat.le_of_ble_eq_true rfl) dX7_turnsOff_46 ⟨Nat.zero_le _, Nat.zero_le _⟩ (fun H locs hP hD hS => ?_)
    refine lv_if_ne (tgt := 57) hx hcd dX7_turnsOff_49 (by decide) (fun (c_49 : ¬ (g_cnt (g_seersN (upd M (9 * a + 3 * s) 0) 2 5 a s 0 6) a) = 0) => ?_) (fun (c_49 : (g_cnt (g_seersN (upd M (9 * a + 3 * s) 0) 2 5 a s 0 6) a) = 0) => ?_)
    · refine lv_aload_n hx hcd dX7_turnsOff_57 rfl (lv_at hl 0 rfl) ?_
      refine lv_iload_n hx hcd dX7_turnsOff_58 rfl (lv_at hl 1 rfl) ?_
      refine kr_Vi (As := [.int (nI a)]) (rest := []) (ws2 := wMo cI z x hh (g_seersN (upd M (9 * a + 3 * s) 0) 2 5 a s 0 6)) (q := (RX7, TX7, 10)) ⟨hx, hcd, hml, hown, hts⟩ (c_X7_seatsOn l D cI cB cW cL z x hh _ (g_seersN (upd M (9 * a + 3 * s) 0) 2 5 a s 0 6) a (by omega)) (cwV 1 hts gX7_turnsOff_X7_seatsOn rfl rfl rfl (by decide +kernel) ⟨Nat.le_of_ble_eq_true rfl, Nat.le_of_ble_eq_true rfl⟩) hK hP hD hS hA [0, 1] wMo_allC (by decide) wMo_adr wMo_all 0 rfl rfl rfl hl.1 rfl (Nat.le_of_ble_eq_true rfl) dX7_turnsOff_59 ⟨Nat.zero_le _, Nat.zero_le _⟩ (fun H locs hP hD hS => ?_)
      exact kr_iret hx hcd hr hlocks hK hP hD hS (by first | (rw [g_turnOff, if_pos (there_of (M := g_seers (upd M (9 * a + 3 * s) 0) 2 5 a s 0) hJ ha c_49)]; rfl) | (rw [g_turnOff, if_neg (nthere_of (M := g_seers (upd M (9 * a + 3 * s) 0) 2 5 a s 0) hJ ha c_49)]; rfl)) (congrArg (fun M9 => wMo cI z x hh M9) (by first | (rw [g_turnOff, if_pos (there_of (M := g_seers (upd M (9 * a + 3 * s) 0) 2 5 a s 0) hJ ha c_49)]; rfl) | (rw [g_turnOff, if_neg (nthere_of (M := g_seers (upd M (9 * a + 3 * s) 0) 2 5 a s 0) hJ ha c_49)]; rfl))) dX7_turnsOff_62
    · refine lv_aload_n hx hcd dX7_turnsOff_52 rfl (lv_at hl 0 rfl) ?_
      refine lv_iload_n hx hcd dX7_turnsOff_53 rfl (lv_at hl 1 rfl) ?_
      refine kr_Vv (As := [.int (nI a)]) (rest := []) (ws2 := wMo cI z x hh (g_forgetAll (g_seersN (upd M (9 * a + 3 * s) 0) 2 5 a s 0 6) a)) (q := (RX7, TX7, 10)) ⟨hx, hcd, hml, hown, hts⟩ (c_X7_clearAllViews l D cI cB cW cL z x hh _ (g_seersN (upd M (9 * a + 3 * s) 0) 2 5 a s 0 6) a (by omega)) (cwV 1 hts gX7_turnsOff_X7_clearAllViews rfl rfl rfl (by decide +kernel) ⟨Nat.le_of_ble_eq_true rfl, Nat.le_of_ble_eq_true rfl⟩) hK hP hD hS hA [0, 1] wMo_allC (by decide) wMo_adr wMo_all 0 rfl rfl rfl hl.1 rfl (Nat.le_of_ble_eq_true rfl) dX7_turnsOff_54 ⟨Nat.zero_le _, Nat.zero_le _⟩ (fun H locs hP hD hS => ?_)
      have hI_3 : kInv (g_forgetAll (g_seersN (upd M (9 * a + 3 * s) 0) 2 5 a s 0 6) a) := i_forgetAll hJ (by omega)
      refine lv_aload_n hx hcd dX7_turnsOff_57 rfl (lv_at hl 0 rfl) ?_
      refine lv_iload_n hx hcd dX7_turnsOff_58 rfl (lv_at hl 1 rfl) ?_
      refine kr_Vi (As := [.int (nI a)]) (rest := []) (ws2 := wMo cI z x hh (g_forgetAll (g_seersN (upd M (9 * a + 3 * s) 0) 2 5 a s 0 6) a)) (q := (RX7, TX7, 10)) ⟨hx, hcd, hml, hown, hts⟩ (c_X7_seatsOn l D cI cB cW cL z x hh _ (g_forgetAll (g_seersN (upd M (9 * a + 3 * s) 0) 2 5 a s 0 6) a) a (by omega)) (cwV 1 hts gX7_turnsOff_X7_seatsOn rfl rfl rfl (by decide +kernel) ⟨Nat.le_of_ble_eq_true rfl, Nat.le_of_ble_eq_true rfl⟩) hK hP hD hS hA [0, 1] wMo_allC (by decide) wMo_adr wMo_all 0 rfl rfl rfl hl.1 rfl (Nat.le_of_ble_eq_true rfl) dX7_turnsOff_59 ⟨Nat.zero_le _, Nat.zero_le _⟩ (fun H locs hP hD hS => ?_)
      exact kr_iret hx hcd hr hlocks hK hP hD hS (by first | (rw [g_turnOff, if_pos (there_of (M := g_seers (upd M (9 * a + 3 * s) 0) 2 5 a s 0) hJ ha c_49)]; rfl) | (rw [g_turnOff, if_neg (nthere_of (M := g_seers (upd M (9 * a + 3 * s) 0) 2 5 a s 0) hJ ha c_49)]; rfl)) (congrArg (fun M9 => wMo cI z x hh M9) (by first | (rw [g_turnOff, if_pos (there_of (M := g_seers (upd M (9 * a + 3 * s) 0) 2 5 a s 0) hJ ha c_49)]; rfl) | (rw [g_turnOff, if_neg (nthere_of (M := g_seers (upd M (9 * a + 3 * s) 0) 2 5 a s 0) hJ ha c_49)]; rfl))) dX7_turnsOff_62
