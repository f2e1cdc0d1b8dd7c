set_option maxHeartbeats 4000000 in
set_option maxRecDepth 100000 in
theorem c_X7_carryOut__b (l : Launch) (D : va_G) (cI cB cW cL : ClassId) (z : Nat → Nat) (x : Nat → Int32) (hh : Int64) (Sp Ot Sv Tx : Nat → Int32) (sz : Nat) (M : kM) (L : Nat) (hI : kInv M) (hT : kTx Tx) (h6 : x 6 = nI L) (hL : L ≤ 100) (hok : c_okk Tx L = false) : kMi l yX7_carryOut wsX7_carryOut ({ frames := 4, cells := 0, slots := 0, locals := 88 }) D vwCl (kT cI cB cW cL) sz [.ref (z 0)] (wMA cI z x hh M Sp Ot Sv Tx) (wMA cI z (xu (xu x 7 0) 8 (nI (c_pos Tx L))) hh M Sp Ot Sv Tx) ((-10) - (nI (c_pos Tx L))) := by
  refine kr_ofi (cc := cX7_carryOut) (maxL := 3) (ret := (some .int)) (by decide) rfl (Nat.le_of_ble_eq_true rfl) ?_
  intro pp ee ss mm args below meth cc AA ls hx hcd hr hts hown hlocks hml hK hP hD hA hl
  have hS : va_S AA ss.heap ss.heap [] := va_S.rf
  have hown : ss.vm.findClass RX7 = some mm.cls := hown
  have hl : lv_has ls 3 [(0, .ref (z 0))] := hl
  have uX7 : ∀ w ∈ u_ws RX7 TX7 10, w ∈ wsX7_carryOut := by decide +kernel
  refine lv_aload_n hx hcd dX7_carryOut_0 rfl (lv_at hl 0 rfl) ?_
  refine lv_iconst (v := nI 0) hx hcd dX7_carryOut_1 (by decide) ?_
  refine kr_put hx hcd hts uX7 tyX7 tyX7_ok nmX7 hown hK hP hD hS 0 rfl rfl 7 (by decide) (by decide +kernel) rfl rfl rfl (ws2 := wMA cI z (xu x 7 0) hh M Sp Ot Sv Tx) rfl dX7_carryOut_2 (fun H locs hP hD hS => ?_)
  refine lv_aload_n hx hcd dX7_carryOut_5 rfl (lv_at hl 0 rfl) ?_
  refine kr_Vi (As := []) (rest := []) (ws2 := wMA cI z (xu (xu x 7 0) 8 (nI (c_pos Tx L))) hh M Sp Ot Sv Tx) (q := (RX7, TX7, 10)) ⟨hx, hcd, hml, hown, hts⟩ (c_X7_readAll l D cI cB cW cL z (xu x 7 0) hh Sp Ot Sv Tx _ M L hT h6 (by omega)) (cwV 0 hts gX7_carryOut_X7_readAll rfl rfl rfl (by decide +kernel) ⟨Nat.le_of_ble_eq_true rfl, Nat.le_of_ble_eq_true rfl⟩) hK hP hD hS hA [0, 1, 2, 3, 4, 5] wMA_allC (by decide) wMA_adr wMA_all 0 rfl rfl rfl hl.1 rfl (Nat.le_of_ble_eq_true rfl) dX7_carryOut_6 ⟨Nat.zero_le _, Nat.zero_le _⟩ (fun H locs hP hD hS => ?_)
  refine kr_bne (tgt := 20) hx hcd dX7_carryOut_9 (by decide) (fun (c_9 : c_okk Tx L = true) => absurd c_9 (by rw [hok]; decide)) (fun (c_9 : c_okk Tx L = false) => ?_)
  refine lv_bipush (v := (-10)) hx hcd dX7_carryOut_12 (by decide) ?_
  refine lv_aload_n hx hcd dX7_carryOut_14 rfl (lv_at hl 0 rfl) ?_
  refine kr_get hx hcd hts uX7 hown hK hP 0 rfl rfl 8 (by decide) (by decide +kernel) (v := .int (nI (c_pos Tx L))) rfl dX7_carryOut_15 ?_
  refine lv_isub hx hcd dX7_carryOut_18 ?_
  exact kr_iret hx hcd hr hlocks hK hP hD hS rfl rfl dX7_carryOut_19

set_option maxHeartbeats 4000000 in
set_option maxRecDepth 100000 in
theorem c_X7_carryOut__ok (l : Launch) (D : va_G) (cI cB cW cL : ClassId) (z : Nat → Nat) (x : Nat → Int32) (hh : Int64) (Sp Ot Sv Tx : Nat → Int32) (sz : Nat) (M : kM) (L n : Nat) (hI : kInv M) (hT : kTx Tx) (h6 : x 6 = nI L) (hL : L ≤ 100) (hn4 : x 4 = nI n) (hn : n ≤ 4) (hok : c_okk Tx L = true) (hall : ∀ j, j < L / 4 → g_okr Tx M j = true) : kMi l yX7_carryOut wsX7_carryOut ({ frames := 6, cells := 0, slots := 0, locals := 142 }) D vwCl (kT cI cB cW cL) sz [.ref (z 0)] (wMA cI z x hh M Sp Ot Sv Tx) (wMA cI z (xu (xu (xu x 7 0) 8 (nI (c_pos Tx L))) 4 (nI (g_kn n))) hh (g_run Tx M (L / 4)) (va_cpy (g_run Tx M (L / 4)) Sp 0 0 581) (va_cpy M Ot 0 0 581) (g_keep Sv M n) Tx) (nI (L / 4)) := by
  refine kr_ofi (cc := cX7_carryOut) (maxL := 3) (ret := (some .int)) (by decide) rfl (Nat.le_of_ble_eq_true rfl) ?_
  intro pp ee ss mm args below meth cc AA ls hx hcd hr hts hown hlocks hml hK hP hD hA hl
  have hS : va_S AA ss.heap ss.heap [] := va_S.rf
  have hown : ss.vm.findClass RX7 = some mm.cls := hown
  have hl : lv_has ls 3 [(0, .ref (z 0))] := hl
  have uX7 : ∀ w ∈ u_ws RX7 TX7 10, w ∈ wsX7_carryOut := by decide +kernel
  refine lv_aload_n hx hcd dX7_carryOut_0 rfl (lv_at hl 0 rfl) ?_
  refine lv_iconst (v := nI 0) hx hcd dX7_carryOut_1 (by decide) ?_
  refine kr_put hx hcd hts uX7 tyX7 tyX7_ok nmX7 hown hK hP hD hS 0 rfl rfl 7 (by decide) (by decide +kernel) rfl rfl rfl (ws2 := wMA cI z (xu x 7 0) hh M Sp Ot Sv Tx) rfl dX7_carryOut_2 (fun H locs hP hD hS => ?_)
  refine lv_aload_n hx hcd dX7_carryOut_5 rfl (lv_at hl 0 rfl) ?_
  refine kr_Vi (As := []) (rest := []) (ws2 := wMA cI z (xu (xu x 7 0) 8 (nI (c_pos Tx L))) hh M Sp Ot Sv Tx) (q := (RX7, TX7, 10)) ⟨hx, hcd, hml, hown, hts⟩ (c_X7_readAll l D cI cB cW cL z (xu x 7 0) hh Sp Ot Sv Tx _ M L hT h6 (by omega)) (cwV 0 hts gX7_carryOut_X7_readAll rfl rfl rfl (by decide +kernel) ⟨Nat.le_of_ble_eq_true rfl, Nat.le_of_ble_eq_true rfl⟩) hK hP hD hS hA [0, 1, 2, 3, 4, 5] wMA_allC (by decide) wMA_adr wMA_all 0 rfl rfl rfl hl.1 rfl (Nat.le_of_ble_eq_true rfl) dX7_carryOut_6 ⟨Nat.zero_le _, Nat.zero_le _⟩ (fun H locs hP hD hS => ?_)
  refine kr_bne (tgt := 20) hx hcd dX7_carryOut_9 (by decide) (fun (c_9 : c_okk Tx L = true) => ?_) (fun (c_9 : c_okk Tx L = false) => absurd c_9 (by rw [hok]; decide))
  refine lv_aload_n hx hcd dX7_carryOut_20 rfl (lv_at hl 0 rfl) ?_
  refine kr_get hx hcd hts uX7 hown hK hP 0 rfl rfl 0 (by decide) (by decide +kernel) (v := .ref (z 1)) rfl dX7_carryOut_21 ?_
  refine lv_iconst (v := nI 0) hx hcd dX7_carryOut_24 (by decide) ?_
  refine lv_aload_n hx hcd dX7_carryOut_25 rfl (lv_at hl 0 rfl) ?_
  refine kr_get hx hcd hts uX7 hown hK hP 0 rfl rfl 2 (by decide) (by decide +kernel) (v := .ref (z 3)) rfl dX7_carryOut_26 ?_
  refine lv_iconst (v := nI 0) hx hcd dX7_carryOut_29 (by decide) ?_
  refine kr_Sv (As := [.ref (z 1), .int (nI 0), .ref (z 3), .int (nI 0)]) (rest := []) (ws2 := wMA cI z (xu (xu x 7 0) 8 (nI (c_pos Tx L))) hh M Sp (va_cpy M Ot 0 0 581) Sv Tx) ⟨hx, hcd, hml, hown, hts⟩ (c_X7_bring l D cI cB cW cL (z 1) (z 3) 581 581 M Ot _ M 0 0 (by omega) (by omega) (by omega) (by omega)) (va_cwS 4 hts gX7_carryOut_X7_bring rfl rfl rfl (by decide +kernel) ⟨Nat.le_of_ble_eq_true rfl, Nat.le_of_ble_eq_true rfl⟩) hK hP hD hS hA [1, 3] rfl (by decide) wBr_adr rfl rfl hl.1 rfl (Nat.le_of_ble_eq_true rfl) dX7_carryOut_30 ⟨Nat.zero_le _, Nat.zero_le _⟩ (fun H locs hP hD hS => ?_)
  refine lv_aload_n hx hcd dX7_carryOut_33 rfl (lv_at hl 0 rfl) ?_
  refine kr_get hx hcd hts uX7 hown hK hP 0 rfl rfl 6 (by decide) (by decide +kernel) (v := .int (x 6)) rfl dX7_carryOut_34 ?_
  refine kr_top (w := nI L) h6 ?_
  refine lv_iconst (v := nI 4) hx hcd dX7_carryOut_37 (by decide) ?_
  refine kr_div hx hcd (by omega) (by decide) (by decide) dX7_carryOut_38 ?_
  refine lv_istore_n (lv' := [(1, .int (nI (L / 4))), (0, .ref (z 0))]) hx hcd dX7_carryOut_39 rfl hl (by decide) rfl (fun ls hl => ?_)
  refine lv_iconst (v := nI 0) hx hcd dX7_carryOut_40 (by decide) ?_
  refine lv_istore_n (lv' := [(2, .int (nI 0)), (1, .int (nI (L / 4))), (0, .ref (z 0))]) hx hcd dX7_carryOut_41 rfl hl (by decide) rfl (fun ls hl => ?_)
  refine kr_up (fun i => wMA cI z (xu (xu x 7 0) 8 (nI (c_pos Tx L))) hh (g_run Tx M i) Sp (va_cpy M Ot 0 0 581) Sv Tx) (fun i => [(0, .ref (z 0)), (1, .int (nI (L / 4))), (2, .int (nI i))]) (L / 4) (nL := 3) (fun i hi ih_42 H locs ls hP hD hS hl => ?_) (fun H locs ls hP hD hS hl => ?_) 0 (by omega) hP hD hS (lv_sub hl [2, 1, 0] rfl)
  · have hl : lv_has ls 3 [(0, .ref (z 0)), (1, .int (nI (L / 4))), (2, .int (nI i))] := hl
    refine lv_iload_n hx hcd dX7_carryOut_42 rfl (lv_at hl 2 rfl) ?_
    refine lv_iload_n hx hcd dX7_carryOut_43 rfl (lv_at hl 1 rfl) ?_
    refine kr_cge (tgt := 80) hx hcd (by omega) (by omega) dX7_carryOut_44 (by decide) (fun (c_44 : L / 4 ≤ i) => absurd c_44 (by omega)) (fun (c_44 : i < L / 4) => ?_)
    refine lv_aload_n hx hcd dX7_carryOut_47 rfl (lv_at hl 0 rfl) ?_
    refine lv_iload_n hx hcd dX7_carryOut_48 rfl (lv_at hl 2 rfl) ?_
    refine kr_Vi (As := [.int (nI i)]) (rest := []) (ws2 := wMA cI z (xu (xu x 7 0) 8 (nI (c_pos Tx L))) hh (g_do (ch Tx (4 * i)) (g_a Tx i) (g_b Tx i) (g_run Tx M i)) Sp (va_cpy M Ot 0 0 581) Sv Tx) (q := (RX7, TX7, 10)) ⟨hx, hcd, hml, hown, hts⟩ (c_X7_does__t l D cI cB cW cL z (xu (xu x 7 0) 8 (nI (c_pos Tx L))) hh Sp (va_cpy M Ot 0 0 581) Sv Tx _ (g_run Tx M i) i (g_a Tx i) (g_b Tx i) (i_run hok hI i (by omega)) hT (by omega) (ord_at hok (show i < L / 4 by omega)).1 (ord_at hok (show i < L / 4 by omega)).2.1 (ord_at hok (show i < L / 4 by omega)).2.2 (hall i (by omega))) (cwV 1 hts gX7_carryOut_X7_does rfl rfl rfl (by decide +kernel) ⟨Nat.le_of_ble_eq_true rfl, Nat.le_of_ble_eq_true rfl⟩) hK hP hD hS hA [0, 1, 2, 3, 4, 5] wMA_allC (by decide) wMA_adr wMA_all 0 rfl rfl rfl hl.1 rfl (Nat.le_of_ble_eq_true rfl) dX7_carryOut_49 ⟨Nat.zero_le _, Nat.zero_le _⟩ (fun H locs hP hD hS => ?_)
    refine kr_zne (tgt := 74) hx hcd (by omega) dX7_carryOut_52 (by decide) (fun (c_52 : 0 < 1) => ?_) (fun (c_52 : 1 = 0) => absurd c_52 (by omega))
    refine kr_iinc (lv' := [(2, .int (nI (i + 1))), (0, .ref (z 0)), (1, .int (nI (L / 4)))]) hx hcd dX7_carryOut_74 hl (k := 2) rfl (by decide) rfl (fun ls hl => ?_)
    refine lv_goto (tgt := 42) hx hcd dX7_carryOut_77 (by decide) ?_
    exact ih_42 H locs ls hP hD hS (lv_sub hl [1, 2, 0] rfl)
  · have hl : lv_has ls 3 [(0, .ref (z 0)), (1, .int (nI (L / 4))), (2, .int (nI (L / 4)))] := hl
    refine lv_iload_n hx hcd dX7_carryOut_42 rfl (lv_at hl 2 rfl) ?_
    refine lv_iload_n hx hcd dX7_carryOut_43 rfl (lv_at hl 1 rfl) ?_
    refine kr_cge (tgt := 80) hx hcd (by omega) (by omega) dX7_carryOut_44 (by decide) (fun (c_44 : L / 4 ≤ (L / 4)) => ?_) (fun (c_44 : (L / 4) < L / 4) => absurd c_44 (by omega))
    refine lv_aload_n hx hcd dX7_carryOut_80 rfl (lv_at hl 0 rfl) ?_
    refine kr_get hx hcd hts uX7 hown hK hP 0 rfl rfl 0 (by decide) (by decide +kernel) (v := .ref (z 1)) rfl dX7_carryOut_81 ?_
    refine lv_iconst (v := nI 0) hx hcd dX7_carryOut_84 (by decide) ?_
    refine lv_aload_n hx hcd dX7_carryOut_85 rfl (lv_at hl 0 rfl) ?_
    refine kr_get hx hcd hts uX7 hown hK hP 0 rfl rfl 1 (by decide) (by decide +kernel) (v := .ref (z 2)) rfl dX7_carryOut_86 ?_
    refine lv_iconst (v := nI 0) hx hcd dX7_carryOut_89 (by decide) ?_
    refine kr_Sv (As := [.ref (z 1), .int (nI 0), .ref (z 2), .int (nI 0)]) (rest := []) (ws2 := wMA cI z (xu (xu x 7 0) 8 (nI (c_pos Tx L))) hh (g_run Tx M (L / 4)) (va_cpy (g_run Tx M (L / 4)) Sp 0 0 581) (va_cpy M Ot 0 0 581) Sv Tx) ⟨hx, hcd, hml, hown, hts⟩ (c_X7_bring l D cI cB cW cL (z 1) (z 2) 581 581 (g_run Tx M (L / 4)) Sp _ (g_run Tx M (L / 4)) 0 0 (by omega) (by omega) (by omega) (by omega)) (va_cwS 4 hts gX7_carryOut_X7_bring rfl rfl rfl (by decide +kernel) ⟨Nat.le_of_ble_eq_true rfl, Nat.le_of_ble_eq_true rfl⟩) hK hP hD hS hA [1, 2] rfl (by decide) wBr_adr rfl rfl hl.1 rfl (Nat.le_of_ble_eq_true rfl) dX7_carryOut_90 ⟨Nat.zero_le _, Nat.zero_le _⟩ (fun H locs hP hD hS => ?_)
    refine lv_aload_n hx hcd dX7_carryOut_93 rfl (lv_at hl 0 rfl) ?_
    refine kr_get hx hcd hts uX7 hown hK hP 0 rfl rfl 2 (by decide) (by decide +kernel) (v := .ref (z 3)) rfl dX7_carryOut_94 ?_
    refine lv_iconst (v := nI 0) hx hcd dX7_carryOut_97 (by decide) ?_
    refine lv_aload_n hx hcd dX7_carryOut_98 rfl (lv_at hl 0 rfl) ?_
    refine kr_get hx hcd hts uX7 hown hK hP 0 rfl rfl 0 (by decide) (by decide +kernel) (v := .ref (z 1)) rfl dX7_carryOut_99 ?_
    refine lv_iconst (v := nI 0) hx hcd dX7_carryOut_102 (by decide) ?_
    refine kr_Sv (As := [.ref (z 3), .int (nI 0), .ref (z 1), .int (nI 0)]) (rest := []) (ws2 := wMA cI z (xu (xu x 7 0) 8 (nI (c_pos Tx L))) hh (va_cpy (va_cpy M Ot 0 0 581) (g_run Tx M (L / 4)) 0 0 581) (va_cpy (g_run Tx M (L / 4)) Sp 0 0 581) (va_cpy M Ot 0 0 581) Sv Tx) ⟨hx, hcd, hml, hown, hts⟩ (c_X7_bring l D cI cB cW cL (z 3) (z 1) 581 581 (va_cpy M Ot 0 0 581) (g_run Tx M (L / 4)) _ (g_run Tx M (L / 4)) 0 0 (by omega) (by omega) (by omega) (by omega)) (va_cwS 4 hts gX7_carryOut_X7_bring rfl rfl rfl (by decide +kernel) ⟨Nat.le_of_ble_eq_true rfl, Nat.le_of_ble_eq_true rfl⟩) hK hP hD hS hA [3, 1] rfl (by decide) wBr_adr rfl rfl hl.1 rfl (Nat.le_of_ble_eq_true rfl) dX7_carryOut_103 ⟨Nat.zero_le _, Nat.zero_le _⟩ (fun H locs hP hD hS => ?_)
    obtain ⟨hP, hD⟩ := kr_re (ws2 := wMA cI z (xu (xu x 7 0) 8 (nI (c_pos Tx L))) hh M (va_cpy (g_run Tx M (L / 4)) Sp 0 0 581) (va_cpy M Ot 0 0 581) Sv Tx) hP hD (congrArg (fun M9 => wMA cI z (xu (xu x 7 0) 8 (nI (c_pos Tx L))) hh M9 (va_cpy (g_run Tx M (L / 4)) Sp 0 0 581) (va_cpy M Ot 0 0 581) Sv Tx) (by exact back_m fun j hj => h_run hok hI hj (L / 4) (by omega) : va_cpy (va_cpy M Ot 0 0 581) (g_run Tx M (L / 4)) 0 0 581 = M))
    have hI_1 : kInv M := hI
    refine lv_aload_n hx hcd dX7_carryOut_106 rfl (lv_at hl 0 rfl) ?_
    refine kr_Vv (As := []) (rest := []) (ws2 := wMA cI z (xu (xu (xu x 7 0) 8 (nI (c_pos Tx L))) 4 (nI (g_kn n))) hh M (va_cpy (g_run Tx M (L / 4)) Sp 0 0 581) (va_cpy M Ot 0 0 581) (g_keep Sv M n) Tx) (q := (RX7, TX7, 10)) ⟨hx, hcd, hml, hown, hts⟩ (c_X7_keep l D cI cB cW cL z (xu (xu x 7 0) 8 (nI (c_pos Tx L))) hh (va_cpy (g_run Tx M (L / 4)) Sp 0 0 581) (va_cpy M Ot 0 0 581) Sv Tx _ M n hn4 (by omega)) (cwV 0 hts gX7_carryOut_X7_keep rfl rfl rfl (by decide +kernel) ⟨Nat.le_of_ble_eq_true rfl, Nat.le_of_ble_eq_true rfl⟩) hK hP hD hS hA [0, 1, 2, 3, 4, 5] wMA_allC (by decide) wMA_adr wMA_all 0 rfl rfl rfl hl.1 rfl (Nat.le_of_ble_eq_true rfl) dX7_carryOut_107 ⟨Nat.zero_le _, Nat.zero_le _⟩ (fun H locs hP hD hS => ?_)
    refine lv_aload_n hx hcd dX7_carryOut_110 rfl (lv_at hl 0 rfl) ?_
    refine kr_get hx hcd hts uX7 hown hK hP 0 rfl rfl 1 (by decide) (by decide +kernel) (v := .ref (z 2)) rfl dX7_carryOut_111 ?_
    refine lv_iconst (v := nI 0) hx hcd dX7_carryOut_114 (by decide) ?_
    refine lv_aload_n hx hcd dX7_carryOut_115 rfl (lv_at hl 0 rfl) ?_
    refine kr_get hx hcd hts uX7 hown hK hP 0 rfl rfl 0 (by decide) (by decide +kernel) (v := .ref (z 1)) rfl dX7_carryOut_116 ?_
    refine lv_iconst (v := nI 0) hx hcd dX7_carryOut_119 (by decide) ?_
    refine kr_Sv (As := [.ref (z 2), .int (nI 0), .ref (z 1), .int (nI 0)]) (rest := []) (ws2 := wMA cI z (xu (xu (xu x 7 0) 8 (nI (c_pos Tx L))) 4 (nI (g_kn n))) hh (va_cpy (va_cpy (g_run Tx M (L / 4)) Sp 0 0 581) M 0 0 581) (va_cpy (g_run Tx M (L / 4)) Sp 0 0 581) (va_cpy M Ot 0 0 581) (g_keep Sv M n) Tx) ⟨hx, hcd, hml, hown, hts⟩ (c_X7_bring l D cI cB cW cL (z 2) (z 1) 581 581 (va_cpy (g_run Tx M (L / 4)) Sp 0 0 581) M _ M 0 0 (by omega) (by omega) (by omega) (by omega)) (va_cwS 4 hts gX7_carryOut_X7_bring rfl rfl rfl (by decide +kernel) ⟨Nat.le_of_ble_eq_true rfl, Nat.le_of_ble_eq_true rfl⟩) hK hP hD hS hA [2, 1] rfl (by decide) wBr_adr rfl rfl hl.1 rfl (Nat.le_of_ble_eq_true rfl) dX7_carryOut_120 ⟨Nat.zero_le _, Nat.zero_le _⟩ (fun H locs hP hD hS => ?_)
    obtain ⟨hP, hD⟩ := kr_re (ws2 := wMA cI z (xu (xu (xu x 7 0) 8 (nI (c_pos Tx L))) 4 (nI (g_kn n))) hh (g_run Tx M (L / 4)) (va_cpy (g_run Tx M (L / 4)) Sp 0 0 581) (va_cpy M Ot 0 0 581) (g_keep Sv M n) Tx) hP hD (congrArg (fun M9 => wMA cI z (xu (xu (xu x 7 0) 8 (nI (c_pos Tx L))) 4 (nI (g_kn n))) hh M9 (va_cpy (g_run Tx M (L / 4)) Sp 0 0 581) (va_cpy M Ot 0 0 581) (g_keep Sv M n) Tx) (by exact back_m fun j hj => (h_run hok hI hj (L / 4) (by omega)).symm : va_cpy (va_cpy (g_run Tx M (L / 4)) Sp 0 0 581) M 0 0 581 = g_run Tx M (L / 4)))
    have hI_2 : kInv (g_run Tx M (L / 4)) := (i_run hok hI (L / 4) (by omega))
    refine lv_iload_n hx hcd dX7_carryOut_123 rfl (lv_at hl 1 rfl) ?_
    exact kr_iret hx hcd hr hlocks hK hP hD hS rfl rfl dX7_carryOut_124

set_option maxHeartbeats 4000000 in
set_option maxRecDepth 100000 in
theorem c_X7_carryOut__f (l : Launch) (D : va_G) (cI cB cW cL : ClassId) (z : Nat → Nat) (x : Nat → Int32) (hh : Int64) (Sp Ot Sv Tx : Nat → Int32) (sz : Nat) (M : kM) (L k : Nat) (hI : kInv M) (hT : kTx Tx) (h6 : x 6 = nI L) (hL : L ≤ 100) (hok : c_okk Tx L = true) (hk : k < L / 4) (hall : ∀ j, j < k → g_okr Tx M j = true) (hno : g_okr Tx M k = false) : kMi l yX7_carryOut wsX7_carryOut ({ frames := 6, cells := 0, slots := 0, locals := 142 }) D vwCl (kT cI cB cW cL) sz [.ref (z 0)] (wMA cI z x hh M Sp Ot Sv Tx) (wMA cI z (xu (xu x 7 0) 8 (nI (c_pos Tx L))) hh M Sp (va_cpy M Ot 0 0 581) Sv Tx) ((-1000) - (nI k)) := by
  refine kr_ofi (cc := cX7_carryOut) (maxL := 3) (ret := (some .int)) (by decide) rfl (Nat.le_of_ble_eq_true rfl) ?_
  intro pp ee ss mm args below meth cc AA ls hx hcd hr hts hown hlocks hml hK hP hD hA hl
  have hS : va_S AA ss.heap ss.heap [] := va_S.rf
  have hown : ss.vm.findClass RX7 = some mm.cls := hown
  have hl : lv_has ls 3 [(0, .ref (z 0))] := hl
  have uX7 : ∀ w ∈ u_ws RX7 TX7 10, w ∈ wsX7_carryOut := by decide +kernel
  refine lv_aload_n hx hcd dX7_carryOut_0 rfl (lv_at hl 0 rfl) ?_
  refine lv_iconst (v := nI 0) hx hcd dX7_carryOut_1 (by decide) ?_
  refine kr_put hx hcd hts uX7 tyX7 tyX7_ok nmX7 hown hK hP hD hS 0 rfl rfl 7 (by decide) (by decide +kernel) rfl rfl rfl (ws2 := wMA cI z (xu x 7 0) hh M Sp Ot Sv Tx) rfl dX7_carryOut_2 (fun H locs hP hD hS => ?_)
  refine lv_aload_n hx hcd dX7_carryOut_5 rfl (lv_at hl 0 rfl) ?_
  refine kr_Vi (As := []) (rest := []) (ws2 := wMA cI z (xu (xu x 7 0) 8 (nI (c_pos Tx L))) hh M Sp Ot Sv Tx) (q := (RX7, TX7, 10)) ⟨hx, hcd, hml, hown, hts⟩ (c_X7_readAll l D cI cB cW cL z (xu x 7 0) hh Sp Ot Sv Tx _ M L hT h6 (by omega)) (cwV 0 hts gX7_carryOut_X7_readAll rfl rfl rfl (by decide +kernel) ⟨Nat.le_of_ble_eq_true rfl, Nat.le_of_ble_eq_true rfl⟩) hK hP hD hS hA [0, 1, 2, 3, 4, 5] wMA_allC (by decide) wMA_adr wMA_all 0 rfl rfl rfl hl.1 rfl (Nat.le_of_ble_eq_true rfl) dX7_carryOut_6 ⟨Nat.zero_le _, Nat.zero_le _⟩ (fun H locs hP hD hS => ?_)
  refine kr_bne (tgt := 20) hx hcd dX7_carryOut_9 (by decide) (fun (c_9 : c_okk Tx L = true) => ?_) (fun (c_9 : c_okk Tx L = false) => absurd c_9 (by rw [hok]; decide))
  refine lv_aload_n hx hcd dX7_carryOut_20 rfl (lv_at hl 0 rfl) ?_
  refine kr_get hx hcd hts uX7 hown hK hP 0 rfl rfl 0 (by decide) (by decide +kernel) (v := .ref (z 1)) rfl dX7_carryOut_21 ?_
  refine lv_iconst (v := nI 0) hx hcd dX7_carryOut_24 (by decide) ?_
  refine lv_aload_n hx hcd dX7_carryOut_25 rfl (lv_at hl 0 rfl) ?_
  refine kr_get hx hcd hts uX7 hown hK hP 0 rfl rfl 2 (by decide) (by decide +kernel) (v := .ref (z 3)) rfl dX7_carryOut_26 ?_
  refine lv_iconst (v := nI 0) hx hcd dX7_carryOut_29 (by decide) ?_
  refine kr_Sv (As := [.ref (z 1), .int (nI 0), .ref (z 3), .int (nI 0)]) (rest := []) (ws2 := wMA cI z (xu (xu x 7 0) 8 (nI (c_pos Tx L))) hh M Sp (va_cpy M Ot 0 0 581) Sv Tx) ⟨hx, hcd, hml, hown, hts⟩ (c_X7_bring l D cI cB cW cL (z 1) (z 3) 581 581 M Ot _ M 0 0 (by omega) (by omega) (by omega) (by omega)) (va_cwS 4 hts gX7_carryOut_X7_bring rfl rfl rfl (by decide +kernel) ⟨Nat.le_of_ble_eq_true rfl, Nat.le_of_ble_eq_true rfl⟩) hK hP hD hS hA [1, 3] rfl (by decide) wBr_adr rfl rfl hl.1 rfl (Nat.le_of_ble_eq_true rfl) dX7_carryOut_30 ⟨Nat.zero_le _, Nat.zero_le _⟩ (fun H locs hP hD hS => ?_)
  refine lv_aload_n hx hcd dX7_carryOut_33 rfl (lv_at hl 0 rfl) ?_
  refine kr_get hx hcd hts uX7 hown hK hP 0 rfl rfl 6 (by decide) (by decide +kernel) (v := .int (x 6)) rfl dX7_carryOut_34 ?_
  refine kr_top (w := nI L) h6 ?_
  refine lv_iconst (v := nI 4) hx hcd dX7_carryOut_37 (by decide) ?_
  refine kr_div hx hcd (by omega) (by decide) (by decide) dX7_carryOut_38 ?_
  refine lv_istore_n (lv' := [(1, .int (nI (L / 4))), (0, .ref (z 0))]) hx hcd dX7_carryOut_39 rfl hl (by decide) rfl (fun ls hl => ?_)
  refine lv_iconst (v := nI 0) hx hcd dX7_carryOut_40 (by decide) ?_
  refine lv_istore_n (lv' := [(2, .int (nI 0)), (1, .int (nI (L / 4))), (0, .ref (z 0))]) hx hcd dX7_carryOut_41 rfl hl (by decide) rfl (fun ls hl => ?_)
  refine kr_up (fun i => wMA cI z (xu (xu x 7 0) 8 (nI (c_pos Tx L))) hh (g_run Tx M i) Sp (va_cpy M Ot 0 0 581) Sv Tx) (fun i => [(0, .ref (z 0)), (1, .int (nI (L / 4))), (2, .int (nI i))]) k (nL := 3) (fun i hi ih_42 H locs ls hP hD hS hl => ?_) (fun H locs ls hP hD hS hl => ?_) 0 (by omega) hP hD hS (lv_sub hl [2, 1, 0] rfl)
  · have hl : lv_has ls 3 [(0, .ref (z 0)), (1, .int (nI (L / 4))), (2, .int (nI i))] := hl
    refine lv_iload_n hx hcd dX7_carryOut_42 rfl (lv_at hl 2 rfl) ?_
    refine lv_iload_n hx hcd dX7_carryOut_43 rfl (lv_at hl 1 rfl) ?_
    refine kr_cge (tgt := 80) hx hcd (by omega) (by omega) dX7_carryOut_44 (by decide) (fun (c_44 : L / 4 ≤ i) => absurd c_44 (by omega)) (fun (c_44 : i < L / 4) => ?_)
    refine lv_aload_n hx hcd dX7_carryOut_47 rfl (lv_at hl 0 rfl) ?_
    refine lv_iload_n hx hcd dX7_carryOut_48 rfl (lv_at hl 2 rfl) ?_
    refine kr_Vi (As := [.int (nI i)]) (rest := []) (ws2 := wMA cI z (xu (xu x 7 0) 8 (nI (c_pos Tx L))) hh (g_do (ch Tx (4 * i)) (g_a Tx i) (g_b Tx i) (g_run Tx M i)) Sp (va_cpy M Ot 0 0 581) Sv Tx) (q := (RX7, TX7, 10)) ⟨hx, hcd, hml, hown, hts⟩ (c_X7_does__t l D cI cB cW cL z (xu (xu x 7 0) 8 (nI (c_pos Tx L))) hh Sp (va_cpy M Ot 0 0 581) Sv Tx _ (g_run Tx M i) i (g_a Tx i) (g_b Tx i) (i_run hok hI i (by omega)) hT (by omega) (ord_at hok (show i < L / 4 by omega)).1 (ord_at hok (show i < L / 4 by omega)).2.1 (ord_at hok (show i < L / 4 by omega)).2.2 (hall i (by omega))) (cwV 1 hts gX7_carryOut_X7_does rfl rfl rfl (by decide +kernel) ⟨Nat.le_of_ble_eq_true rfl, Nat.le_of_ble_eq_true rfl⟩) hK hP hD hS hA [0, 1, 2, 3, 4, 5] wMA_allC (by decide) wMA_adr wMA_all 0 rfl rfl rfl hl.1 rfl (Nat.le_of_ble_eq_true rfl) dX7_carryOut_49 ⟨Nat.zero_le _, Nat.zero_le _⟩ (fun H locs hP hD hS => ?_)
    refine kr_zne (tgt := 74) hx hcd (by omega) dX7_carryOut_52 (by decide) (fun (c_52 : 0 < 1) => ?_) (fun (c_52 : 1 = 0) => absurd c_52 (by omega))
    refine kr_iinc (lv' := [(2, .int (nI (i + 1))), (0, .ref (z 0)), (1, .int (nI (L / 4)))]) hx hcd dX7_carryOut_74 hl (k := 2) rfl (by decide) rfl (fun ls hl => ?_)
    refine lv_goto (tgt := 42) hx hcd dX7_carryOut_77 (by decide) ?_
    exact ih_42 H locs ls hP hD hS (lv_sub hl [1, 2, 0] rfl)
  · have hl : lv_has ls 3 [(0, .ref (z 0)), (1, .int (nI (L / 4))), (2, .int (nI k))] := hl
    refine lv_iload_n hx hcd dX7_carryOut_42 rfl (lv_at hl 2 rfl) ?_
    refine lv_iload_n hx hcd dX7_carryOut_43 rfl (lv_at hl 1 rfl) ?_
    refine kr_cge (tgt := 80) hx hcd (by omega) (by omega) dX7_carryOut_44 (by decide) (fun (c_44 : L / 4 ≤ k) => absurd c_44 (by omega)) (fun (c_44 : k < L / 4) => ?_)
    refine lv_aload_n hx hcd dX7_carryOut_47 rfl (lv_at hl 0 rfl) ?_
    refine lv_iload_n hx hcd dX7_carryOut_48 rfl (lv_at hl 2 rfl) ?_
    refine kr_Vi (As := [.int (nI k)]) (rest := []) (ws2 := wMA cI z (xu (xu x 7 0) 8 (nI (c_pos Tx L))) hh (g_run Tx M k) Sp (va_cpy M Ot 0 0 581) Sv Tx) (q := (RX7, TX7, 10)) ⟨hx, hcd, hml, hown, hts⟩ (c_X7_does__f l D cI cB cW cL z (xu (xu x 7 0) 8 (nI (c_pos Tx L))) hh Sp (va_cpy M Ot 0 0 581) Sv Tx _ (g_run Tx M k) k (g_a Tx k) (g_b Tx k) (i_run hok hI k (by omega)) hT (by omega) (ord_at hok (show k < L / 4 by omega)).1 (ord_at hok (show k < L / 4 by omega)).2.1 (ord_at hok (show k < L / 4 by omega)).2.2 hno) (cwV 1 hts gX7_carryOut_X7_does rfl rfl rfl (by decide +kernel) ⟨Nat.le_of_ble_eq_true rfl, Nat.le_of_ble_eq_true rfl⟩) hK hP hD hS hA [0, 1, 2, 3, 4, 5] wMA_allC (by decide) wMA_adr wMA_all 0 rfl rfl rfl hl.1 rfl (Nat.le_of_ble_eq_true rfl) dX7_carryOut_49 ⟨Nat.zero_le _, Nat.zero_le _⟩ (fun H locs hP hD hS => ?_)
    refine kr_zne (tgt := 74) hx hcd (by omega) dX7_carryOut_52 (by decide) (fun (c_52 : 0 < 0) => absurd c_52 (by omega)) (fun (c_52 : 0 = 0) => ?_)
    refine lv_aload_n hx hcd dX7_carryOut_55 rfl (lv_at hl 0 rfl) ?_
    refine kr_get hx hcd hts uX7 hown hK hP 0 rfl rfl 2 (by decide) (by decide +kernel) (v := .ref (z 3)) rfl dX7_carryOut_56 ?_
    refine lv_iconst (v := nI 0) hx hcd dX7_carryOut_59 (by decide) ?_
    refine lv_aload_n hx hcd dX7_carryOut_60 rfl (lv_at hl 0 rfl) ?_
    refine kr_get hx hcd hts uX7 hown hK hP 0 rfl rfl 0 (by decide) (by decide +kernel) (v := .ref (z 1)) rfl dX7_carryOut_61 ?_
    refine lv_iconst (v := nI 0) hx hcd dX7_carryOut_64 (by decide) ?_
    refine kr_Sv (As := [.ref (z 3), .int (nI 0), .ref (z 1), .int (nI 0)]) (rest := []) (ws2 := wMA cI z (xu (xu x 7 0) 8 (nI (c_pos Tx L))) hh (va_cpy (va_cpy M Ot 0 0 581) (g_run Tx M k) 0 0 581) Sp (va_cpy M Ot 0 0 581) Sv Tx) ⟨hx, hcd, hml, hown, hts⟩ (c_X7_bring l D cI cB cW cL (z 3) (z 1) 581 581 (va_cpy M Ot 0 0 581) (g_run Tx M k) _ (g_run Tx M k) 0 0 (by omega) (by omega) (by omega) (by omega)) (va_cwS 4 hts gX7_carryOut_X7_bring rfl rfl rfl (by decide +kernel) ⟨Nat.le_of_ble_eq_true rfl, Nat.le_of_ble_eq_true rfl⟩) hK hP hD hS hA [3, 1] rfl (by decide) wBr_adr rfl rfl hl.1 rfl (Nat.le_of_ble_eq_true rfl) dX7_carryOut_65 ⟨Nat.zero_le _, Nat.zero_le _⟩ (fun H locs hP hD hS => ?_)
    obtain ⟨hP, hD⟩ := kr_re (ws2 := wMA cI z (xu (xu x 7 0) 8 (nI (c_pos Tx L))) hh M Sp (va_cpy M Ot 0 0 581) Sv Tx) hP hD (congrArg (fun M9 => wMA cI z (xu (xu x 7 0) 8 (nI (c_pos Tx L))) hh M9 Sp (va_cpy M Ot 0 0 581) Sv Tx) (by exact back_m fun j hj => h_run hok hI hj k (by omega) : va_cpy (va_cpy M Ot 0 0 581) (g_run Tx M k) 0 0 581 = M))
    have hI_1 : kInv M := hI
    refine lv_sipush (v := (-1000)) hx hcd dX7_carryOut_68 (by decide) ?_
    refine lv_iload_n hx hcd dX7_carryOut_71 rfl (lv_at hl 2 rfl) ?_
    refine lv_isub hx hcd dX7_carryOut_72 ?_
    exact kr_iret hx hcd hr hlocks hK hP hD hS rfl rfl dX7_carryOut_73
