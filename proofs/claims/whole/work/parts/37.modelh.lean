set_option maxHeartbeats 4000000 in
set_option maxRecDepth 100000 in
theorem c_X7_mix (l : Launch) (D : va_G) (cI cB cW cL : ClassId) (z : Nat → Nat) (x : Nat → Int32) (hh : Int64) (sz : Nat) (M : kM) (v : Int32) : kMv l yX7_mix wsX7_mix ({ frames := 0, cells := 0, slots := 0, locals := 0 }) D vwCl (kT cI cB cW cL) sz [.ref (z 0), .long ((v : Int32).toInt64)] (wMo cI z x hh M) (wMo cI z x (g_mix hh v) M) := by
  refine kr_ofv (cc := cX7_mix) (maxL := 3) (ret := none) (by decide) rfl (Nat.le_of_ble_eq_true rfl) ?_
  intro pp ee ss mm args below meth cc AA ls hx hcd hr hts hown hlocks hml hK hP hD hA hl
  have hS : va_S AA ss.heap ss.heap [] := va_S.rf
  have hown : ss.vm.findClass RX7 = some mm.cls := hown
  have hl : lv_has ls 3 [(0, .ref (z 0)), (1, .long ((v : Int32).toInt64))] := hl
  have uX7 : ∀ w ∈ u_ws RX7 TX7 10, w ∈ wsX7_mix := by decide +kernel
  refine lv_aload_n hx hcd dX7_mix_0 rfl (lv_at hl 0 rfl) ?_
  refine lv_ldc2 (v := 31) hx hcd hown (hts (.constantLong RX7 177 31) (by decide +kernel)) dX7_mix_1 ?_
  refine lv_aload_n hx hcd dX7_mix_4 rfl (lv_at hl 0 rfl) ?_
  refine kr_get hx hcd hts uX7 hown hK hP 0 rfl rfl 9 (by decide) (by decide +kernel) (v := .long hh) rfl dX7_mix_5 ?_
  refine lv_lmul hx hcd dX7_mix_8 ?_
  refine lv_lload_n hx hcd dX7_mix_9 rfl (lv_at hl 1 rfl) ?_
  refine lv_ladd hx hcd dX7_mix_10 ?_
  refine kr_topl (w := g_mix hh v) rfl ?_
  refine kr_putl hx hcd hts uX7 tyX7 tyX7_ok nmX7 hown hK hP hD hS 0 rfl rfl 9 (by decide) (by decide +kernel) rfl rfl rfl (ws2 := wMo cI z x (g_mix hh v) M) rfl dX7_mix_11 (fun H locs hP hD hS => ?_)
  exact kr_vret hx hcd hr hlocks hK hP hD hS rfl dX7_mix_14

set_option maxHeartbeats 4000000 in
set_option maxRecDepth 100000 in
theorem c_X7_mixUser (l : Launch) (D : va_G) (cI cB cW cL : ClassId) (z : Nat → Nat) (x : Nat → Int32) (hh : Int64) (sz : Nat) (M : kM) (a : Nat) (ha : a < 6) : kMv l yX7_mixUser wsX7_mixUser ({ frames := 1, cells := 0, slots := 0, locals := 22 }) D vwCl (kT cI cB cW cL) sz [.ref (z 0), .int (nI a)] (wMo cI z x hh M) (wMo cI z x (g_hU M a hh) M) := by
  refine kr_ofv (cc := cX7_mixUser) (maxL := 4) (ret := none) (by decide) rfl (Nat.le_of_ble_eq_true rfl) ?_
  intro pp ee ss mm args below meth cc AA ls hx hcd hr hts hown hlocks hml hK hP hD hA hl
  have hS : va_S AA ss.heap ss.heap [] := va_S.rf
  have hown : ss.vm.findClass RX7 = some mm.cls := hown
  have hl : lv_has ls 4 [(0, .ref (z 0)), (1, .int (nI a))] := hl
  have uX7 : ∀ w ∈ u_ws RX7 TX7 10, w ∈ wsX7_mixUser := by decide +kernel
  refine lv_aload_n hx hcd dX7_mixUser_0 rfl (lv_at hl 0 rfl) ?_
  refine lv_aload_n hx hcd dX7_mixUser_1 rfl (lv_at hl 0 rfl) ?_
  refine kr_get hx hcd hts uX7 hown hK hP 0 rfl rfl 0 (by decide) (by decide +kernel) (v := .ref (z 1)) rfl dX7_mixUser_2 ?_
  refine lv_bipush (v := nI 126) hx hcd dX7_mixUser_5 (by decide) ?_
  refine lv_iload_n hx hcd dX7_mixUser_7 rfl (lv_at hl 1 rfl) ?_
  refine kr_add hx hcd dX7_mixUser_8 ?_
  refine kr_iald hx hcd hK hP 1 0 rfl rfl (v := M (126 + a)) (by omega) (by decide) (congrArg M (by omega)) dX7_mixUser_9 ?_
  refine lv_i2l hx hcd dX7_mixUser_10 rfl ?_
  refine kr_Vv (As := [.long ((M (126 + a) : Int32).toInt64)]) (rest := []) (ws2 := wMo cI z x (g_mix hh (M (126 + a))) M) (q := (RX7, TX7, 10)) ⟨hx, hcd, hml, hown, hts⟩ (c_X7_mix l D cI cB cW cL z x hh _ M (M (126 + a))) (cwV 1 hts gX7_mixUser_X7_mix rfl rfl rfl (by decide +kernel) ⟨Nat.le_of_ble_eq_true rfl, Nat.le_of_ble_eq_true rfl⟩) hK hP hD hS hA [0, 1] wMo_allC (by decide) wMo_adr2 wMo_all2 0 rfl rfl rfl hl.1 rfl (Nat.le_of_ble_eq_true rfl) dX7_mixUser_11 ⟨Nat.zero_le _, Nat.zero_le _⟩ (fun H locs hP hD hS => ?_)
  refine lv_iconst (v := nI 0) hx hcd dX7_mixUser_14 (by decide) ?_
  refine lv_istore_n (lv' := [(2, .int (nI 0)), (0, .ref (z 0)), (1, .int (nI a))]) hx hcd dX7_mixUser_15 rfl hl (by decide) rfl (fun ls hl => ?_)
  obtain ⟨hP, hD⟩ := kr_re (ws2 := wMo cI z x (g_hK M a (g_mix hh (M (126 + a))) 0) M) hP hD (congrArg (fun c9 => wMo cI z x c9 M) (show g_mix hh (M (126 + a)) = g_hK M a (g_mix hh (M (126 + a))) 0 from rfl))
  refine kr_up (fun i => wMo cI z x (g_hK M a (g_mix hh (M (126 + a))) i) M) (fun i => [(0, .ref (z 0)), (1, .int (nI a)), (2, .int (nI i))]) 9 (nL := 4) (fun i hi ih_16 H locs ls hP hD hS hl => ?_) (fun H locs ls hP hD hS hl => ?_) 0 (by omega) hP hD hS (lv_sub hl [1, 2, 0] rfl)
  · have hl : lv_has ls 4 [(0, .ref (z 0)), (1, .int (nI a)), (2, .int (nI i))] := hl
    refine lv_iload_n hx hcd dX7_mixUser_16 rfl (lv_at hl 2 rfl) ?_
    refine lv_bipush (v := nI 9) hx hcd dX7_mixUser_17 (by decide) ?_
    refine kr_cge (tgt := 45) hx hcd (by omega) (by omega) dX7_mixUser_19 (by decide) (fun (c_19 : 9 ≤ i) => absurd c_19 (by omega)) (fun (c_19 : i < 9) => ?_)
    refine lv_aload_n hx hcd dX7_mixUser_22 rfl (lv_at hl 0 rfl) ?_
    refine lv_aload_n hx hcd dX7_mixUser_23 rfl (lv_at hl 0 rfl) ?_
    refine kr_get hx hcd hts uX7 hown hK hP 0 rfl rfl 0 (by decide) (by decide +kernel) (v := .ref (z 1)) rfl dX7_mixUser_24 ?_
    refine lv_iload_n hx hcd dX7_mixUser_27 rfl (lv_at hl 1 rfl) ?_
    refine lv_iconst (v := nI 0) hx hcd dX7_mixUser_28 (by decide) ?_
    refine kr_Si (As := [.int (nI a), .int (nI 0)]) (rest := [.ref (z 1), .ref (z 0)]) (ws2 := wMo cI z x (g_hK M a (g_mix hh (M (126 + a))) i) M) ⟨hx, hcd, hml, hown, hts⟩ (c_X7_seatCell l D cI cB cW cL  _ M a 0) (va_cwS 2 hts gX7_mixUser_X7_seatCell rfl rfl rfl (by decide +kernel) ⟨Nat.le_of_ble_eq_true rfl, Nat.le_of_ble_eq_true rfl⟩) hK hP hD hS hA [] rfl (by decide) rfl rfl rfl hl.1 rfl (Nat.le_of_ble_eq_true rfl) dX7_mixUser_29 ⟨Nat.zero_le _, Nat.zero_le _⟩ (fun H locs hP hD hS => ?_)
    refine lv_iload_n hx hcd dX7_mixUser_32 rfl (lv_at hl 2 rfl) ?_
    refine kr_add hx hcd dX7_mixUser_33 ?_
    refine kr_iald hx hcd hK hP 1 0 rfl rfl (v := M (9 * a + i)) (by omega) (by decide) (congrArg M (by omega)) dX7_mixUser_34 ?_
    refine lv_i2l hx hcd dX7_mixUser_35 rfl ?_
    refine kr_Vv (As := [.long ((M (9 * a + i) : Int32).toInt64)]) (rest := []) (ws2 := wMo cI z x (g_mix (g_hK M a (g_mix hh (M (126 + a))) i) (M (9 * a + i))) M) (q := (RX7, TX7, 10)) ⟨hx, hcd, hml, hown, hts⟩ (c_X7_mix l D cI cB cW cL z x (g_hK M a (g_mix hh (M (126 + a))) i) _ M (M (9 * a + i))) (cwV 1 hts gX7_mixUser_X7_mix rfl rfl rfl (by decide +kernel) ⟨Nat.le_of_ble_eq_true rfl, Nat.le_of_ble_eq_true rfl⟩) hK hP hD hS hA [0, 1] wMo_allC (by decide) wMo_adr2 wMo_all2 0 rfl rfl rfl hl.1 rfl (Nat.le_of_ble_eq_true rfl) dX7_mixUser_36 ⟨Nat.zero_le _, Nat.zero_le _⟩ (fun H locs hP hD hS => ?_)
    refine kr_iinc (lv' := [(2, .int (nI (i + 1))), (0, .ref (z 0)), (1, .int (nI a))]) hx hcd dX7_mixUser_39 hl (k := 2) rfl (by decide) rfl (fun ls hl => ?_)
    refine lv_goto (tgt := 16) hx hcd dX7_mixUser_42 (by decide) ?_
    obtain ⟨hP, hD⟩ := kr_re (ws2 := wMo cI z x (g_hK M a (g_mix hh (M (126 + a))) (i + 1)) M) hP hD (congrArg (fun c9 => wMo cI z x c9 M) (hK_up (by omega)))
    exact ih_16 H locs ls hP hD hS (lv_sub hl [1, 2, 0] rfl)
  · have hl : lv_has ls 4 [(0, .ref (z 0)), (1, .int (nI a)), (2, .int (nI 9))] := hl
    refine lv_iload_n hx hcd dX7_mixUser_16 rfl (lv_at hl 2 rfl) ?_
    refine lv_bipush (v := nI 9) hx hcd dX7_mixUser_17 (by decide) ?_
    refine kr_cge (tgt := 45) hx hcd (by omega) (by omega) dX7_mixUser_19 (by decide) (fun (c_19 : 9 ≤ 9) => ?_) (fun (c_19 : 9 < 9) => absurd c_19 (by omega))
    refine lv_iconst (v := nI 0) hx hcd dX7_mixUser_45 (by decide) ?_
    refine lv_istore_n (lv' := [(2, .int (nI 0)), (0, .ref (z 0)), (1, .int (nI a))]) hx hcd dX7_mixUser_46 rfl hl (by decide) rfl (fun ls hl => ?_)
    obtain ⟨hP, hD⟩ := kr_re (ws2 := wMo cI z x (g_hO M a (g_hK M a (g_mix hh (M (126 + a))) 9) 0) M) hP hD (congrArg (fun c9 => wMo cI z x c9 M) (show _ = g_hO M a (g_hK M a (g_mix hh (M (126 + a))) 9) 0 from rfl))
    refine kr_up (fun i => wMo cI z x (g_hO M a (g_hK M a (g_mix hh (M (126 + a))) 9) i) M) (fun i => [(0, .ref (z 0)), (1, .int (nI a)), (2, .int (nI i))]) 6 (nL := 4) (fun i hi ih_47 H locs ls hP hD hS hl => ?_) (fun H locs ls hP hD hS hl => ?_) 0 (by omega) hP hD hS (lv_sub hl [1, 2, 0] rfl)
    · have hl : lv_has ls 4 [(0, .ref (z 0)), (1, .int (nI a)), (2, .int (nI i))] := hl
      refine lv_iload_n hx hcd dX7_mixUser_47 rfl (lv_at hl 2 rfl) ?_
      refine lv_bipush (v := nI 6) hx hcd dX7_mixUser_48 (by decide) ?_
      refine kr_cge (tgt := 143) hx hcd (by omega) (by omega) dX7_mixUser_50 (by decide) (fun (c_50 : 6 ≤ i) => absurd c_50 (by omega)) (fun (c_50 : i < 6) => ?_)
      refine lv_iload_n hx hcd dX7_mixUser_53 rfl (lv_at hl 2 rfl) ?_
      refine lv_iload_n hx hcd dX7_mixUser_54 rfl (lv_at hl 1 rfl) ?_
      refine kr_ceq (tgt := 137) hx hcd (by omega) (by omega) dX7_mixUser_55 (by decide) (fun (c_55 : i = a) => ?_) (fun (c_55 : ¬ i = a) => ?_)
      · refine kr_iinc (lv' := [(2, .int (nI (i + 1))), (0, .ref (z 0)), (1, .int (nI a))]) hx hcd dX7_mixUser_137 hl (k := 2) rfl (by decide) rfl (fun ls hl => ?_)
        refine lv_goto (tgt := 47) hx hcd dX7_mixUser_140 (by decide) ?_
        obtain ⟨hP, hD⟩ := kr_re (ws2 := wMo cI z x (g_hO M a (g_hK M a (g_mix hh (M (126 + a))) 9) (i + 1)) M) hP hD (congrArg (fun c9 => wMo cI z x c9 M) (by first | exact hO_eq c_55 | exact hO_ne c_55))
        exact ih_47 H locs ls hP hD hS (lv_sub hl [1, 2, 0] rfl)
      · refine lv_aload_n hx hcd dX7_mixUser_58 rfl (lv_at hl 0 rfl) ?_
        refine lv_aload_n hx hcd dX7_mixUser_59 rfl (lv_at hl 0 rfl) ?_
        refine lv_iload_n hx hcd dX7_mixUser_60 rfl (lv_at hl 1 rfl) ?_
        refine lv_iload_n hx hcd dX7_mixUser_61 rfl (lv_at hl 2 rfl) ?_
        refine kr_Vi (As := [.int (nI a), .int (nI i)]) (rest := [.ref (z 0)]) (ws2 := wMo cI z x (g_hO M a (g_hK M a (g_mix hh (M (126 + a))) 9) i) M) (q := (RX7, TX7, 10)) ⟨hx, hcd, hml, hown, hts⟩ (c_X7_state l D cI cB cW cL z x (g_hO M a (g_hK M a (g_mix hh (M (126 + a))) 9) i) _ M a i (by omega) (by omega)) (cwV 2 hts gX7_mixUser_X7_state rfl rfl rfl (by decide +kernel) ⟨Nat.le_of_ble_eq_true rfl, Nat.le_of_ble_eq_true rfl⟩) hK hP hD hS hA [0, 1] wMo_allC (by decide) wMo_adr wMo_all 0 rfl rfl rfl hl.1 rfl (Nat.le_of_ble_eq_true rfl) dX7_mixUser_62 ⟨Nat.zero_le _, Nat.zero_le _⟩ (fun H locs hP hD hS => ?_)
        refine lv_i2l hx hcd dX7_mixUser_65 rfl ?_
        refine kr_Vv (As := [.long ((g_st M a i : Int32).toInt64)]) (rest := []) (ws2 := wMo cI z x (g_mix (g_hO M a (g_hK M a (g_mix hh (M (126 + a))) 9) i) (g_st M a i)) M) (q := (RX7, TX7, 10)) ⟨hx, hcd, hml, hown, hts⟩ (c_X7_mix l D cI cB cW cL z x (g_hO M a (g_hK M a (g_mix hh (M (126 + a))) 9) i) _ M (g_st M a i)) (cwV 1 hts gX7_mixUser_X7_mix rfl rfl rfl (by decide +kernel) ⟨Nat.le_of_ble_eq_true rfl, Nat.le_of_ble_eq_true rfl⟩) hK hP hD hS hA [0, 1] wMo_allC (by decide) wMo_adr2 wMo_all2 0 rfl rfl rfl hl.1 rfl (Nat.le_of_ble_eq_true rfl) dX7_mixUser_66 ⟨Nat.zero_le _, Nat.zero_le _⟩ (fun H locs hP hD hS => ?_)
        refine lv_aload_n hx hcd dX7_mixUser_69 rfl (lv_at hl 0 rfl) ?_
        refine lv_aload_n hx hcd dX7_mixUser_70 rfl (lv_at hl 0 rfl) ?_
        refine kr_get hx hcd hts uX7 hown hK hP 0 rfl rfl 0 (by decide) (by decide +kernel) (v := .ref (z 1)) rfl dX7_mixUser_71 ?_
        refine lv_bipush (v := nI 90) hx hcd dX7_mixUser_74 (by decide) ?_
        refine lv_bipush (v := nI 6) hx hcd dX7_mixUser_76 (by decide) ?_
        refine lv_iload_n hx hcd dX7_mixUser_78 rfl (lv_at hl 1 rfl) ?_
        refine kr_mul hx hcd dX7_mixUser_79 ?_
        refine kr_add hx hcd dX7_mixUser_80 ?_
        refine lv_iload_n hx hcd dX7_mixUser_81 rfl (lv_at hl 2 rfl) ?_
        refine kr_add hx hcd dX7_mixUser_82 ?_
        refine kr_iald hx hcd hK hP 1 0 rfl rfl (v := M (90 + 6 * a + i)) (by omega) (by decide) (congrArg M (by omega)) dX7_mixUser_83 ?_
        refine lv_i2l hx hcd dX7_mixUser_84 rfl ?_
        refine kr_Vv (As := [.long ((M (90 + 6 * a + i) : Int32).toInt64)]) (rest := []) (ws2 := wMo cI z x (g_mix (g_mix (g_hO M a (g_hK M a (g_mix hh (M (126 + a))) 9) i) (g_st M a i)) (M (90 + 6 * a + i))) M) (q := (RX7, TX7, 10)) ⟨hx, hcd, hml, hown, hts⟩ (c_X7_mix l D cI cB cW cL z x (g_mix (g_hO M a (g_hK M a (g_mix hh (M (126 + a))) 9) i) (g_st M a i)) _ M (M (90 + 6 * a + i))) (cwV 1 hts gX7_mixUser_X7_mix rfl rfl rfl (by decide +kernel) ⟨Nat.le_of_ble_eq_true rfl, Nat.le_of_ble_eq_true rfl⟩) hK hP hD hS hA [0, 1] wMo_allC (by decide) wMo_adr2 wMo_all2 0 rfl rfl rfl hl.1 rfl (Nat.le_of_ble_eq_true rfl) dX7_mixUser_85 ⟨Nat.zero_le _, Nat.zero_le _⟩ (fun H locs hP hD hS => ?_)
        refine lv_aload_n hx hcd dX7_mixUser_88 rfl (lv_at hl 0 rfl) ?_
        refine lv_aload_n hx hcd dX7_mixUser_89 rfl (lv_at hl 0 rfl) ?_
        refine kr_get hx hcd hts uX7 hown hK hP 0 rfl rfl 0 (by decide) (by decide +kernel) (v := .ref (z 1)) rfl dX7_mixUser_90 ?_
        refine lv_sipush (v := nI 240) hx hcd dX7_mixUser_93 (by decide) ?_
        refine lv_bipush (v := nI 6) hx hcd dX7_mixUser_96 (by decide) ?_
        refine lv_iload_n hx hcd dX7_mixUser_98 rfl (lv_at hl 1 rfl) ?_
        refine kr_mul hx hcd dX7_mixUser_99 ?_
        refine kr_add hx hcd dX7_mixUser_100 ?_
        refine lv_iload_n hx hcd dX7_mixUser_101 rfl (lv_at hl 2 rfl) ?_
        refine kr_add hx hcd dX7_mixUser_102 ?_
        refine kr_iald hx hcd hK hP 1 0 rfl rfl (v := M (240 + 6 * a + i)) (by omega) (by decide) (congrArg M (by omega)) dX7_mixUser_103 ?_
        refine lv_i2l hx hcd dX7_mixUser_104 rfl ?_
        refine kr_Vv (As := [.long ((M (240 + 6 * a + i) : Int32).toInt64)]) (rest := []) (ws2 := wMo cI z x (g_mix (g_mix (g_mix (g_hO M a (g_hK M a (g_mix hh (M (126 + a))) 9) i) (g_st M a i)) (M (90 + 6 * a + i))) (M (240 + 6 * a + i))) M) (q := (RX7, TX7, 10)) ⟨hx, hcd, hml, hown, hts⟩ (c_X7_mix l D cI cB cW cL z x (g_mix (g_mix (g_hO M a (g_hK M a (g_mix hh (M (126 + a))) 9) i) (g_st M a i)) (M (90 + 6 * a + i))) _ M (M (240 + 6 * a + i))) (cwV 1 hts gX7_mixUser_X7_mix rfl rfl rfl (by decide +kernel) ⟨Nat.le_of_ble_eq_true rfl, Nat.le_of_ble_eq_true rfl⟩) hK hP hD hS hA [0, 1] wMo_allC (by decide) wMo_adr2 wMo_all2 0 rfl rfl rfl hl.1 rfl (Nat.le_of_ble_eq_true rfl) dX7_mixUser_105 ⟨Nat.zero_le _, Nat.zero_le _⟩ (fun H locs hP hD hS => ?_)
        refine lv_iconst (v := nI 0) hx hcd dX7_mixUser_108 (by decide) ?_
        refine lv_istore_n (lv' := [(3, .int (nI 0)), (0, .ref (z 0)), (1, .int (nI a)), (2, .int (nI i))]) hx hcd dX7_mixUser_109 rfl hl (by decide) rfl (fun ls hl => ?_)
        obtain ⟨hP, hD⟩ := kr_re (ws2 := wMo cI z x (g_hV M a i (g_mix (g_mix (g_mix (g_hO M a (g_hK M a (g_mix hh (M (126 + a))) 9) i) (g_st M a i)) (M (90 + 6 * a + i))) (M (240 + 6 * a + i))) 0) M) hP hD (congrArg (fun c9 => wMo cI z x c9 M) (show _ = g_hV M a i (g_mix (g_mix (g_mix (g_hO M a (g_hK M a (g_mix hh (M (126 + a))) 9) i) (g_st M a i)) (M (90 + 6 * a + i))) (M (240 + 6 * a + i))) 0 from rfl))
        refine kr_up (fun j => wMo cI z x (g_hV M a i (g_mix (g_mix (g_mix (g_hO M a (g_hK M a (g_mix hh (M (126 + a))) 9) i) (g_st M a i)) (M (90 + 6 * a + i))) (M (240 + 6 * a + i))) j) M) (fun j => [(0, .ref (z 0)), (1, .int (nI a)), (2, .int (nI i)), (3, .int (nI j))]) 3 (nL := 4) (fun j hj ih_110 H locs ls hP hD hS hl => ?_) (fun H locs ls hP hD hS hl => ?_) 0 (by omega) hP hD hS (lv_sub hl [1, 2, 3, 0] rfl)
        · have hl : lv_has ls 4 [(0, .ref (z 0)), (1, .int (nI a)), (2, .int (nI i)), (3, .int (nI j))] := hl
          refine lv_iload_n hx hcd dX7_mixUser_110 rfl (lv_at hl 3 rfl) ?_
          refine lv_iconst (v := nI 3) hx hcd dX7_mixUser_111 (by decide) ?_
          refine kr_cge (tgt := 137) hx hcd (by omega) (by omega) dX7_mixUser_112 (by decide) (fun (c_112 : 3 ≤ j) => absurd c_112 (by omega)) (fun (c_112 : j < 3) => ?_)
          refine lv_aload_n hx hcd dX7_mixUser_115 rfl (lv_at hl 0 rfl) ?_
          refine lv_aload_n hx hcd dX7_mixUser_116 rfl (lv_at hl 0 rfl) ?_
          refine kr_get hx hcd hts uX7 hown hK hP 0 rfl rfl 0 (by decide) (by decide +kernel) (v := .ref (z 1)) rfl dX7_mixUser_117 ?_
          refine lv_iload_n hx hcd dX7_mixUser_120 rfl (lv_at hl 1 rfl) ?_
          refine lv_iload_n hx hcd dX7_mixUser_121 rfl (lv_at hl 2 rfl) ?_
          refine lv_iload_n hx hcd dX7_mixUser_122 rfl (lv_at hl 3 rfl) ?_
          refine kr_Si (As := [.int (nI a), .int (nI i), .int (nI j)]) (rest := [.ref (z 1), .ref (z 0)]) (ws2 := wMo cI z x (g_hV M a i (g_mix (g_mix (g_mix (g_hO M a (g_hK M a (g_mix hh (M (126 + a))) 9) i) (g_st M a i)) (M (90 + 6 * a + i))) (M (240 + 6 * a + i))) j) M) ⟨hx, hcd, hml, hown, hts⟩ (c_X7_viewCell l D cI cB cW cL  _ M a i j) (va_cwS 3 hts gX7_mixUser_X7_viewCell rfl rfl rfl (by decide +kernel) ⟨Nat.le_of_ble_eq_true rfl, Nat.le_of_ble_eq_true rfl⟩) hK hP hD hS hA [] rfl (by decide) rfl rfl rfl hl.1 rfl (Nat.le_of_ble_eq_true rfl) dX7_mixUser_123 ⟨Nat.zero_le _, Nat.zero_le _⟩ (fun H locs hP hD hS => ?_)
          refine kr_iald hx hcd hK hP 1 0 rfl rfl (v := M (132 + 18 * a + 3 * i + j)) (by omega) (by decide) (congrArg M (by omega)) dX7_mixUser_126 ?_
          refine lv_i2l hx hcd dX7_mixUser_127 rfl ?_
          refine kr_Vv (As := [.long ((M (132 + 18 * a + 3 * i + j) : Int32).toInt64)]) (rest := []) (ws2 := wMo cI z x (g_mix (g_hV M a i (g_mix (g_mix (g_mix (g_hO M a (g_hK M a (g_mix hh (M (126 + a))) 9) i) (g_st M a i)) (M (90 + 6 * a + i))) (M (240 + 6 * a + i))) j) (M (132 + 18 * a + 3 * i + j))) M) (q := (RX7, TX7, 10)) ⟨hx, hcd, hml, hown, hts⟩ (c_X7_mix l D cI cB cW cL z x (g_hV M a i (g_mix (g_mix (g_mix (g_hO M a (g_hK M a (g_mix hh (M (126 + a))) 9) i) (g_st M a i)) (M (90 + 6 * a + i))) (M (240 + 6 * a + i))) j) _ M (M (132 + 18 * a + 3 * i + j))) (cwV 1 hts gX7_mixUser_X7_mix rfl rfl rfl (by decide +kernel) ⟨Nat.le_of_ble_eq_true rfl, Nat.le_of_ble_eq_true rfl⟩) hK hP hD hS hA [0, 1] wMo_allC (by decide) wMo_adr2 wMo_all2 0 rfl rfl rfl hl.1 rfl (Nat.le_of_ble_eq_true rfl) dX7_mixUser_128 ⟨Nat.zero_le _, Nat.zero_le _⟩ (fun H locs hP hD hS => ?_)
          refine kr_iinc (lv' := [(3, .int (nI (j + 1))), (0, .ref (z 0)), (1, .int (nI a)), (2, .int (nI i))]) hx hcd dX7_mixUser_131 hl (k := 3) rfl (by decide) rfl (fun ls hl => ?_)
          refine lv_goto (tgt := 110) hx hcd dX7_mixUser_134 (by decide) ?_
          exact ih_110 H locs ls hP hD hS (lv_sub hl [1, 2, 3, 0] rfl)
        · have hl : lv_has ls 4 [(0, .ref (z 0)), (1, .int (nI a)), (2, .int (nI i)), (3, .int (nI 3))] := hl
          refine lv_iload_n hx hcd dX7_mixUser_110 rfl (lv_at hl 3 rfl) ?_
          refine lv_iconst (v := nI 3) hx hcd dX7_mixUser_111 (by decide) ?_
          refine kr_cge (tgt := 137) hx hcd (by omega) (by omega) dX7_mixUser_112 (by decide) (fun (c_112 : 3 ≤ 3) => ?_) (fun (c_112 : 3 < 3) => absurd c_112 (by omega))
          refine kr_iinc (lv' := [(2, .int (nI (i + 1))), (0, .ref (z 0)), (1, .int (nI a)), (3, .int (nI 3))]) hx hcd dX7_mixUser_137 hl (k := 2) rfl (by decide) rfl (fun ls hl => ?_)
          refine lv_goto (tgt := 47) hx hcd dX7_mixUser_140 (by decide) ?_
          obtain ⟨hP, hD⟩ := kr_re (ws2 := wMo cI z x (g_hO M a (g_hK M a (g_mix hh (M (126 + a))) 9) (i + 1)) M) hP hD (congrArg (fun c9 => wMo cI z x c9 M) (by first | exact hO_eq c_55 | exact hO_ne c_55))
          exact ih_47 H locs ls hP hD hS (lv_sub hl [1, 2, 0] rfl)
    · have hl : lv_has ls 4 [(0, .ref (z 0)), (1, .int (nI a)), (2, .int (nI 6))] := hl
      refine lv_iload_n hx hcd dX7_mixUser_47 rfl (lv_at hl 2 rfl) ?_
      refine lv_bipush (v := nI 6) hx hcd dX7_mixUser_48 (by decide) ?_
      refine kr_cge (tgt := 143) hx hcd (by omega) (by omega) dX7_mixUser_50 (by decide) (fun (c_50 : 6 ≤ 6) => ?_) (fun (c_50 : 6 < 6) => absurd c_50 (by omega))
      exact kr_vret hx hcd hr hlocks hK hP hD hS rfl dX7_mixUser_143

set_option maxHeartbeats 4000000 in
set_option maxRecDepth 100000 in
theorem c_X7_digest__ok (l : Launch) (D : va_G) (cI cB cW cL : ClassId) (z : Nat → Nat) (x : Nat → Int32) (hh : Int64) (sz : Nat) (M : kM) (n : Nat) (hI : kInv M) (hn4 : x 4 = nI n) : kMl l yX7_digest wsX7_digest ({ frames := 2, cells := 0, slots := 0, locals := 46 }) D vwCl (kT cI cB cW cL) sz [.ref (z 0)] (wMo cI z x hh M) (wMo cI z (xu x 7 0) (g_digest M (x 6) (x 4)) M) (g_digest M (x 6) (x 4)) := by
  refine kr_ofl (cc := cX7_digest) (maxL := 3) (ret := (some .long)) (by decide) rfl (Nat.le_of_ble_eq_true rfl) ?_
  intro pp ee ss mm args below meth cc AA ls hx hcd hr hts hown hlocks hml hK hP hD hA hl
  have hS : va_S AA ss.heap ss.heap [] := va_S.rf
  have hown : ss.vm.findClass RX7 = some mm.cls := hown
  have hl : lv_has ls 3 [(0, .ref (z 0))] := hl
  have uX7 : ∀ w ∈ u_ws RX7 TX7 10, w ∈ wsX7_digest := by decide +kernel
  have e576 := i_hd hI
  have b576 := i_hdlt hI
  have e577 := i_wy hI
  have b577 := i_wyle hI
  refine lv_aload_n hx hcd dX7_digest_0 rfl (lv_at hl 0 rfl) ?_
  refine lv_iconst (v := nI 0) hx hcd dX7_digest_1 (by decide) ?_
  refine kr_put hx hcd hts uX7 tyX7 tyX7_ok nmX7 hown hK hP hD hS 0 rfl rfl 7 (by decide) (by decide +kernel) rfl rfl rfl (ws2 := wMo cI z (xu x 7 0) hh M) rfl dX7_digest_2 (fun H locs hP hD hS => ?_)
  refine lv_aload_n hx hcd dX7_digest_5 rfl (lv_at hl 0 rfl) ?_
  refine lv_ldc2 (v := 3191) hx hcd hown (hts (.constantLong RX7 187 3191) (by decide +kernel)) dX7_digest_6 ?_
  refine kr_putl hx hcd hts uX7 tyX7 tyX7_ok nmX7 hown hK hP hD hS 0 rfl rfl 9 (by decide) (by decide +kernel) rfl rfl rfl (ws2 := wMo cI z (xu x 7 0) 3191 M) rfl dX7_digest_9 (fun H locs hP hD hS => ?_)
  refine lv_aload_n hx hcd dX7_digest_12 rfl (lv_at hl 0 rfl) ?_
  refine lv_aload_n hx hcd dX7_digest_13 rfl (lv_at hl 0 rfl) ?_
  refine kr_get hx hcd hts uX7 hown hK hP 0 rfl rfl 6 (by decide) (by decide +kernel) (v := .int (x 6)) rfl dX7_digest_14 ?_
  refine lv_i2l hx hcd dX7_digest_17 rfl ?_
  refine kr_Vv (As := [.long ((x 6 : Int32).toInt64)]) (rest := []) (ws2 := wMo cI z (xu x 7 0) (g_mix 3191 (x 6)) M) (q := (RX7, TX7, 10)) ⟨hx, hcd, hml, hown, hts⟩ (c_X7_mix l D cI cB cW cL z (xu x 7 0) 3191 _ M (x 6)) (cwV 1 hts gX7_digest_X7_mix rfl rfl rfl (by decide +kernel) ⟨Nat.le_of_ble_eq_true rfl, Nat.le_of_ble_eq_true rfl⟩) hK hP hD hS hA [0, 1] wMo_allC (by decide) wMo_adr2 wMo_all2 0 rfl rfl rfl hl.1 rfl (Nat.le_of_ble_eq_true rfl) dX7_digest_18 ⟨Nat.zero_le _, Nat.zero_le _⟩ (fun H locs hP hD hS => ?_)
  refine lv_iconst (v := nI 0) hx hcd dX7_digest_21 (by decide) ?_
  refine lv_istore_n (lv' := [(1, .int (nI 0)), (0, .ref (z 0))]) hx hcd dX7_digest_22 rfl hl (by decide) rfl (fun ls hl => ?_)
  obtain ⟨hP, hD⟩ := kr_re (ws2 := wMo cI z (xu x 7 0) (g_hA M (g_mix 3191 (x 6)) 0) M) hP hD (congrArg (fun c9 => wMo cI z (xu x 7 0) c9 M) (show _ = g_hA M (g_mix 3191 (x 6)) 0 from rfl))
  refine kr_up (fun i => wMo cI z (xu x 7 0) (g_hA M (g_mix 3191 (x 6)) i) M) (fun i => [(0, .ref (z 0)), (1, .int (nI i))]) 6 (nL := 3) (fun i hi ih_23 H locs ls hP hD hS hl => ?_) (fun H locs ls hP hD hS hl => ?_) 0 (by omega) hP hD hS (lv_sub hl [1, 0] rfl)
  · have hl : lv_has ls 3 [(0, .ref (z 0)), (1, .int (nI i))] := hl
    refine lv_iload_n hx hcd dX7_digest_23 rfl (lv_at hl 1 rfl) ?_
    refine lv_bipush (v := nI 6) hx hcd dX7_digest_24 (by decide) ?_
    refine kr_cge (tgt := 40) hx hcd (by omega) (by omega) dX7_digest_26 (by decide) (fun (c_26 : 6 ≤ i) => absurd c_26 (by omega)) (fun (c_26 : i < 6) => ?_)
    refine lv_aload_n hx hcd dX7_digest_29 rfl (lv_at hl 0 rfl) ?_
    refine lv_iload_n hx hcd dX7_digest_30 rfl (lv_at hl 1 rfl) ?_
    refine kr_Vv (As := [.int (nI i)]) (rest := []) (ws2 := wMo cI z (xu x 7 0) (g_hU M i (g_hA M (g_mix 3191 (x 6)) i)) M) (q := (RX7, TX7, 10)) ⟨hx, hcd, hml, hown, hts⟩ (c_X7_mixUser l D cI cB cW cL z (xu x 7 0) (g_hA M (g_mix 3191 (x 6)) i) _ M i (by omega)) (cwV 1 hts gX7_digest_X7_mixUser rfl rfl rfl (by decide +kernel) ⟨Nat.le_of_ble_eq_true rfl, Nat.le_of_ble_eq_true rfl⟩) hK hP hD hS hA [0, 1] wMo_allC (by decide) wMo_adr2 wMo_all2 0 rfl rfl rfl hl.1 rfl (Nat.le_of_ble_eq_true rfl) dX7_digest_31 ⟨Nat.zero_le _, Nat.zero_le _⟩ (fun H locs hP hD hS => ?_)
    refine kr_iinc (lv' := [(1, .int (nI (i + 1))), (0, .ref (z 0))]) hx hcd dX7_digest_34 hl (k := 1) rfl (by decide) rfl (fun ls hl => ?_)
    refine lv_goto (tgt := 23) hx hcd dX7_digest_37 (by decide) ?_
    exact ih_23 H locs ls hP hD hS (lv_sub hl [1, 0] rfl)
  · have hl : lv_has ls 3 [(0, .ref (z 0)), (1, .int (nI 6))] := hl
    refine lv_iload_n hx hcd dX7_digest_23 rfl (lv_at hl 1 rfl) ?_
    refine lv_bipush (v := nI 6) hx hcd dX7_digest_24 (by decide) ?_
    refine kr_cge (tgt := 40) hx hcd (by omega) (by omega) dX7_digest_26 (by decide) (fun (c_26 : 6 ≤ 6) => ?_) (fun (c_26 : 6 < 6) => absurd c_26 (by omega))
    refine lv_iconst (v := nI 0) hx hcd dX7_digest_40 (by decide) ?_
    refine lv_istore_n (lv' := [(1, .int (nI 0)), (0, .ref (z 0))]) hx hcd dX7_digest_41 rfl hl (by decide) rfl (fun ls hl => ?_)
    obtain ⟨hP, hD⟩ := kr_re (ws2 := wMo cI z (xu x 7 0) (g_hC M (g_hA M (g_mix 3191 (x 6)) 6) 0) M) hP hD (congrArg (fun c9 => wMo cI z (xu x 7 0) c9 M) (show _ = g_hC M (g_hA M (g_mix 3191 (x 6)) 6) 0 from rfl))
    refine kr_up (fun w => wMo cI z (xu x 7 0) (g_hC M (g_hA M (g_mix 3191 (x 6)) 6) w) M) (fun w => [(0, .ref (z 0)), (1, .int (nI w))]) 3 (nL := 3) (fun w hw ih_42 H locs ls hP hD hS hl => ?_) (fun H locs ls hP hD hS hl => ?_) 0 (by omega) hP hD hS (lv_sub hl [1, 0] rfl)
    · have hl : lv_has ls 3 [(0, .ref (z 0)), (1, .int (nI w))] := hl
      refine lv_iload_n hx hcd dX7_digest_42 rfl (lv_at hl 1 rfl) ?_
      refine lv_iconst (v := nI 3) hx hcd dX7_digest_43 (by decide) ?_
      refine kr_cge (tgt := 68) hx hcd (by omega) (by omega) dX7_digest_44 (by decide) (fun (c_44 : 3 ≤ w) => absurd c_44 (by omega)) (fun (c_44 : w < 3) => ?_)
      refine lv_aload_n hx hcd dX7_digest_47 rfl (lv_at hl 0 rfl) ?_
      refine lv_aload_n hx hcd dX7_digest_48 rfl (lv_at hl 0 rfl) ?_
      refine kr_get hx hcd hts uX7 hown hK hP 0 rfl rfl 0 (by decide) (by decide +kernel) (v := .ref (z 1)) rfl dX7_digest_49 ?_
      refine lv_sipush (v := nI 578) hx hcd dX7_digest_52 (by decide) ?_
      refine lv_iload_n hx hcd dX7_digest_55 rfl (lv_at hl 1 rfl) ?_
      refine kr_add hx hcd dX7_digest_56 ?_
      refine kr_iald hx hcd hK hP 1 0 rfl rfl (v := M (578 + w)) (by omega) (by decide) (congrArg M (by omega)) dX7_digest_57 ?_
      refine lv_i2l hx hcd dX7_digest_58 rfl ?_
      refine kr_Vv (As := [.long ((M (578 + w) : Int32).toInt64)]) (rest := []) (ws2 := wMo cI z (xu x 7 0) (g_mix (g_hC M (g_hA M (g_mix 3191 (x 6)) 6) w) (M (578 + w))) M) (q := (RX7, TX7, 10)) ⟨hx, hcd, hml, hown, hts⟩ (c_X7_mix l D cI cB cW cL z (xu x 7 0) (g_hC M (g_hA M (g_mix 3191 (x 6)) 6) w) _ M (M (578 + w))) (cwV 1 hts gX7_digest_X7_mix rfl rfl rfl (by decide +kernel) ⟨Nat.le_of_ble_eq_true rfl, Nat.le_of_ble_eq_true rfl⟩) hK hP hD hS hA [0, 1] wMo_allC (by decide) wMo_adr2 wMo_all2 0 rfl rfl rfl hl.1 rfl (Nat.le_of_ble_eq_true rfl) dX7_digest_59 ⟨Nat.zero_le _, Nat.zero_le _⟩ (fun H locs hP hD hS => ?_)
      refine kr_iinc (lv' := [(1, .int (nI (w + 1))), (0, .ref (z 0))]) hx hcd dX7_digest_62 hl (k := 1) rfl (by decide) rfl (fun ls hl => ?_)
      refine lv_goto (tgt := 42) hx hcd dX7_digest_65 (by decide) ?_
      exact ih_42 H locs ls hP hD hS (lv_sub hl [1, 0] rfl)
    · have hl : lv_has ls 3 [(0, .ref (z 0)), (1, .int (nI 3))] := hl
      refine lv_iload_n hx hcd dX7_digest_42 rfl (lv_at hl 1 rfl) ?_
      refine lv_iconst (v := nI 3) hx hcd dX7_digest_43 (by decide) ?_
      refine kr_cge (tgt := 68) hx hcd (by omega) (by omega) dX7_digest_44 (by decide) (fun (c_44 : 3 ≤ 3) => ?_) (fun (c_44 : 3 < 3) => absurd c_44 (by omega))
      refine lv_aload_n hx hcd dX7_digest_68 rfl (lv_at hl 0 rfl) ?_
      refine lv_aload_n hx hcd dX7_digest_69 rfl (lv_at hl 0 rfl) ?_
      refine kr_get hx hcd hts uX7 hown hK hP 0 rfl rfl 0 (by decide) (by decide +kernel) (v := .ref (z 1)) rfl dX7_digest_70 ?_
      refine lv_sipush (v := nI 577) hx hcd dX7_digest_73 (by decide) ?_
      refine kr_iald hx hcd hK hP 1 0 rfl rfl (v := M 577) (by omega) (by decide) (congrArg M (by omega)) dX7_digest_76 ?_
      refine kr_top (w := nI (wyN M)) e577 ?_
      refine lv_i2l hx hcd dX7_digest_77 rfl ?_
      refine kr_Vv (As := [.long ((nI (wyN M) : Int32).toInt64)]) (rest := []) (ws2 := wMo cI z (xu x 7 0) (g_mix (g_hC M (g_hA M (g_mix 3191 (x 6)) 6) 3) (nI (wyN M))) M) (q := (RX7, TX7, 10)) ⟨hx, hcd, hml, hown, hts⟩ (c_X7_mix l D cI cB cW cL z (xu x 7 0) (g_hC M (g_hA M (g_mix 3191 (x 6)) 6) 3) _ M (nI (wyN M))) (cwV 1 hts gX7_digest_X7_mix rfl rfl rfl (by decide +kernel) ⟨Nat.le_of_ble_eq_true rfl, Nat.le_of_ble_eq_true rfl⟩) hK hP hD hS hA [0, 1] wMo_allC (by decide) wMo_adr2 wMo_all2 0 rfl rfl rfl hl.1 rfl (Nat.le_of_ble_eq_true rfl) dX7_digest_78 ⟨Nat.zero_le _, Nat.zero_le _⟩ (fun H locs hP hD hS => ?_)
      refine lv_iconst (v := nI 0) hx hcd dX7_digest_81 (by decide) ?_
      refine lv_istore_n (lv' := [(1, .int (nI 0)), (0, .ref (z 0))]) hx hcd dX7_digest_82 rfl hl (by decide) rfl (fun ls hl => ?_)
      obtain ⟨hP, hD⟩ := kr_re (ws2 := wMo cI z (xu x 7 0) (g_hM M (g_mix (g_hC M (g_hA M (g_mix 3191 (x 6)) 6) 3) (M 577)) 0) M) hP hD (congrArg (fun c9 => wMo cI z (xu x 7 0) c9 M) (show _ = g_hM M (g_mix (g_hC M (g_hA M (g_mix 3191 (x 6)) 6) 3) (M 577)) 0 from hM_577 hI))
      refine kr_up (fun i => wMo cI z (xu x 7 0) (g_hM M (g_mix (g_hC M (g_hA M (g_mix 3191 (x 6)) 6) 3) (M 577)) i) M) (fun i => [(0, .ref (z 0)), (1, .int (nI i))]) (wyN M) (nL := 3) (fun i hi ih_83 H locs ls hP hD hS hl => ?_) (fun H locs ls hP hD hS hl => ?_) 0 (by omega) hP hD hS (lv_sub hl [1, 0] rfl)
      · have hl : lv_has ls 3 [(0, .ref (z 0)), (1, .int (nI i))] := hl
        refine lv_iload_n hx hcd dX7_digest_83 rfl (lv_at hl 1 rfl) ?_
        refine lv_aload_n hx hcd dX7_digest_84 rfl (lv_at hl 0 rfl) ?_
        refine kr_get hx hcd hts uX7 hown hK hP 0 rfl rfl 0 (by decide) (by decide +kernel) (v := .ref (z 1)) rfl dX7_digest_85 ?_
        refine lv_sipush (v := nI 577) hx hcd dX7_digest_88 (by decide) ?_
        refine kr_iald hx hcd hK hP 1 0 rfl rfl (v := M 577) (by omega) (by decide) (congrArg M (by omega)) dX7_digest_91 ?_
        refine kr_top (w := nI (wyN M)) e577 ?_
        refine kr_cge (tgt := 125) hx hcd (by omega) (by omega) dX7_digest_92 (by decide) (fun (c_92 : wyN M ≤ i) => absurd c_92 (by omega)) (fun (c_92 : i < wyN M) => ?_)
        refine lv_iconst (v := nI 0) hx hcd dX7_digest_95 (by decide) ?_
        refine lv_istore_n (lv' := [(2, .int (nI 0)), (0, .ref (z 0)), (1, .int (nI i))]) hx hcd dX7_digest_96 rfl hl (by decide) rfl (fun ls hl => ?_)
        obtain ⟨hP, hD⟩ := kr_re (ws2 := wMo cI z (xu x 7 0) (g_hM1 M i (g_hM M (g_mix (g_hC M (g_hA M (g_mix 3191 (x 6)) 6) 3) (M 577)) i) 0) M) hP hD (congrArg (fun c9 => wMo cI z (xu x 7 0) c9 M) (show _ = g_hM1 M i (g_hM M (g_mix (g_hC M (g_hA M (g_mix 3191 (x 6)) 6) 3) (M 577)) i) 0 from rfl))
        refine kr_up (fun w => wMo cI z (xu x 7 0) (g_hM1 M i (g_hM M (g_mix (g_hC M (g_hA M (g_mix 3191 (x 6)) 6) 3) (M 577)) i) w) M) (fun w => [(0, .ref (z 0)), (1, .int (nI i)), (2, .int (nI w))]) 5 (nL := 3) (fun w hw ih_97 H locs ls hP hD hS hl => ?_) (fun H locs ls hP hD hS hl => ?_) 0 (by omega) hP hD hS (lv_sub hl [1, 2, 0] rfl)
        · have hl : lv_has ls 3 [(0, .ref (z 0)), (1, .int (nI i)), (2, .int (nI w))] := hl
          refine lv_iload_n hx hcd dX7_digest_97 rfl (lv_at hl 2 rfl) ?_
          refine lv_iconst (v := nI 5) hx hcd dX7_digest_98 (by decide) ?_
          refine kr_cge (tgt := 119) hx hcd (by omega) (by omega) dX7_digest_99 (by decide) (fun (c_99 : 5 ≤ w) => absurd c_99 (by omega)) (fun (c_99 : w < 5) => ?_)
          refine lv_aload_n hx hcd dX7_digest_102 rfl (lv_at hl 0 rfl) ?_
          refine lv_aload_n hx hcd dX7_digest_103 rfl (lv_at hl 0 rfl) ?_
          refine lv_iload_n hx hcd dX7_digest_104 rfl (lv_at hl 1 rfl) ?_
          refine lv_iload_n hx hcd dX7_digest_105 rfl (lv_at hl 2 rfl) ?_
          refine kr_Vi (As := [.int (nI i), .int (nI w)]) (rest := [.ref (z 0)]) (ws2 := wMo cI z (xu x 7 0) (g_hM1 M i (g_hM M (g_mix (g_hC M (g_hA M (g_mix 3191 (x 6)) 6) 3) (M 577)) i) w) M) (q := (RX7, TX7, 10)) ⟨hx, hcd, hml, hown, hts⟩ (c_X7_ofMessage l D cI cB cW cL z (xu x 7 0) (g_hM1 M i (g_hM M (g_mix (g_hC M (g_hA M (g_mix 3191 (x 6)) 6) 3) (M 577)) i) w) _ M i w hI (by omega) (by omega)) (cwV 2 hts gX7_digest_X7_ofMessage rfl rfl rfl (by decide +kernel) ⟨Nat.le_of_ble_eq_true rfl, Nat.le_of_ble_eq_true rfl⟩) hK hP hD hS hA [0, 1] wMo_allC (by decide) wMo_adr wMo_all 0 rfl rfl rfl hl.1 rfl (Nat.le_of_ble_eq_true rfl) dX7_digest_106 ⟨Nat.zero_le _, Nat.zero_le _⟩ (fun H locs hP hD hS => ?_)
          refine lv_i2l hx hcd dX7_digest_109 rfl ?_
          refine kr_Vv (As := [.long ((g_part (g_msg M i) w : Int32).toInt64)]) (rest := []) (ws2 := wMo cI z (xu x 7 0) (g_mix (g_hM1 M i (g_hM M (g_mix (g_hC M (g_hA M (g_mix 3191 (x 6)) 6) 3) (M 577)) i) w) (g_part (g_msg M i) w)) M) (q := (RX7, TX7, 10)) ⟨hx, hcd, hml, hown, hts⟩ (c_X7_mix l D cI cB cW cL z (xu x 7 0) (g_hM1 M i (g_hM M (g_mix (g_hC M (g_hA M (g_mix 3191 (x 6)) 6) 3) (M 577)) i) w) _ M (g_part (g_msg M i) w)) (cwV 1 hts gX7_digest_X7_mix rfl rfl rfl (by decide +kernel) ⟨Nat.le_of_ble_eq_true rfl, Nat.le_of_ble_eq_true rfl⟩) hK hP hD hS hA [0, 1] wMo_allC (by decide) wMo_adr2 wMo_all2 0 rfl rfl rfl hl.1 rfl (Nat.le_of_ble_eq_true rfl) dX7_digest_110 ⟨Nat.zero_le _, Nat.zero_le _⟩ (fun H locs hP hD hS => ?_)
          refine kr_iinc (lv' := [(2, .int (nI (w + 1))), (0, .ref (z 0)), (1, .int (nI i))]) hx hcd dX7_digest_113 hl (k := 2) rfl (by decide) rfl (fun ls hl => ?_)
          refine lv_goto (tgt := 97) hx hcd dX7_digest_116 (by decide) ?_
          exact ih_97 H locs ls hP hD hS (lv_sub hl [1, 2, 0] rfl)
        · have hl : lv_has ls 3 [(0, .ref (z 0)), (1, .int (nI i)), (2, .int (nI 5))] := hl
          refine lv_iload_n hx hcd dX7_digest_97 rfl (lv_at hl 2 rfl) ?_
          refine lv_iconst (v := nI 5) hx hcd dX7_digest_98 (by decide) ?_
          refine kr_cge (tgt := 119) hx hcd (by omega) (by omega) dX7_digest_99 (by decide) (fun (c_99 : 5 ≤ 5) => ?_) (fun (c_99 : 5 < 5) => absurd c_99 (by omega))
          refine kr_iinc (lv' := [(1, .int (nI (i + 1))), (0, .ref (z 0)), (2, .int (nI 5))]) hx hcd dX7_digest_119 hl (k := 1) rfl (by decide) rfl (fun ls hl => ?_)
          refine lv_goto (tgt := 83) hx hcd dX7_digest_122 (by decide) ?_
          exact ih_83 H locs ls hP hD hS (lv_sub hl [1, 0] rfl)
      · have hl : lv_has ls 3 [(0, .ref (z 0)), (1, .int (nI (wyN M)))] := hl
        refine lv_iload_n hx hcd dX7_digest_83 rfl (lv_at hl 1 rfl) ?_
        refine lv_aload_n hx hcd dX7_digest_84 rfl (lv_at hl 0 rfl) ?_
        refine kr_get hx hcd hts uX7 hown hK hP 0 rfl rfl 0 (by decide) (by decide +kernel) (v := .ref (z 1)) rfl dX7_digest_85 ?_
        refine lv_sipush (v := nI 577) hx hcd dX7_digest_88 (by decide) ?_
        refine kr_iald hx hcd hK hP 1 0 rfl rfl (v := M 577) (by omega) (by decide) (congrArg M (by omega)) dX7_digest_91 ?_
        refine kr_top (w := nI (wyN M)) e577 ?_
        refine kr_cge (tgt := 125) hx hcd (by omega) (by omega) dX7_digest_92 (by decide) (fun (c_92 : wyN M ≤ (wyN M)) => ?_) (fun (c_92 : (wyN M) < wyN M) => absurd c_92 (by omega))
        refine lv_aload_n hx hcd dX7_digest_125 rfl (lv_at hl 0 rfl) ?_
        refine lv_aload_n hx hcd dX7_digest_126 rfl (lv_at hl 0 rfl) ?_
        refine kr_get hx hcd hts uX7 hown hK hP 0 rfl rfl 4 (by decide) (by decide +kernel) (v := .int (x 4)) rfl dX7_digest_127 ?_
        refine lv_i2l hx hcd dX7_digest_130 rfl ?_
        refine kr_Vv (As := [.long ((x 4 : Int32).toInt64)]) (rest := []) (ws2 := wMo cI z (xu x 7 0) (g_mix (g_hM M (g_mix (g_hC M (g_hA M (g_mix 3191 (x 6)) 6) 3) (M 577)) (wyN M)) (x 4)) M) (q := (RX7, TX7, 10)) ⟨hx, hcd, hml, hown, hts⟩ (c_X7_mix l D cI cB cW cL z (xu x 7 0) (g_hM M (g_mix (g_hC M (g_hA M (g_mix 3191 (x 6)) 6) 3) (M 577)) (wyN M)) _ M (x 4)) (cwV 1 hts gX7_digest_X7_mix rfl rfl rfl (by decide +kernel) ⟨Nat.le_of_ble_eq_true rfl, Nat.le_of_ble_eq_true rfl⟩) hK hP hD hS hA [0, 1] wMo_allC (by decide) wMo_adr2 wMo_all2 0 rfl rfl rfl hl.1 rfl (Nat.le_of_ble_eq_true rfl) dX7_digest_131 ⟨Nat.zero_le _, Nat.zero_le _⟩ (fun H locs hP hD hS => ?_)
        refine lv_aload_n hx hcd dX7_digest_134 rfl (lv_at hl 0 rfl) ?_
        refine kr_get hx hcd hts uX7 hown hK hP 0 rfl rfl 9 (by decide) (by decide +kernel) (v := .long (g_mix (g_hM M (g_mix (g_hC M (g_hA M (g_mix 3191 (x 6)) 6) 3) (M 577)) (wyN M)) (x 4))) rfl dX7_digest_135 ?_
        exact kr_lret hx hcd hr hlocks hK hP hD hS rfl rfl dX7_digest_138
