set_option maxHeartbeats 4000000 in
set_option maxRecDepth 100000 in
theorem c_X7_agrees (l : Launch) (D : va_G) (cI cB cW cL : ClassId) (z : Nat → Nat) (x : Nat → Int32) (hh : Int64) (sz : Nat) (M : kM) (a : Nat) (b : Nat) (ha : a < 6) (hb : b < 6) : kMi l yX7_agrees wsX7_agrees ({ frames := 2, cells := 0, slots := 0, locals := 45 }) D vwCl (kT cI cB cW cL) sz [.ref (z 0), .int (nI a), .int (nI b)] (wMo cI z x hh M) (wMo cI z x hh M) (kI (g_agr M a b)) := by
  refine kr_ofi (cc := cX7_agrees) (maxL := 3) (ret := (some .boolean)) (by decide) rfl (Nat.le_of_ble_eq_true rfl) ?_
  intro pp ee ss mm args below meth cc AA ls hx hcd hr hts hown hlocks hml hK hP hD hA hl
  have hS : va_S AA ss.heap ss.heap [] := va_S.rf
  have hown : ss.vm.findClass RX7 = some mm.cls := hown
  have hl : lv_has ls 3 [(0, .ref (z 0)), (1, .int (nI a)), (2, .int (nI b))] := hl
  refine lv_aload_n hx hcd dX7_agrees_0 rfl (lv_at hl 0 rfl) ?_
  refine lv_iload_n hx hcd dX7_agrees_1 rfl (lv_at hl 1 rfl) ?_
  refine lv_iload_n hx hcd dX7_agrees_2 rfl (lv_at hl 2 rfl) ?_
  refine lv_iconst (v := nI 1) hx hcd dX7_agrees_3 (by decide) ?_
  refine kr_Vi (As := [.int (nI a), .int (nI b), .int (nI 1)]) (rest := []) (ws2 := wMo cI z x hh M) (q := (RX7, TX7, 10)) ⟨hx, hcd, hml, hown, hts⟩ (c_X7_has l D cI cB cW cL z x hh _ M a b 1 (by omega) (by omega)) (cwV 3 hts gX7_agrees_X7_has rfl rfl rfl (by decide +kernel) ⟨Nat.le_of_ble_eq_true rfl, Nat.le_of_ble_eq_true rfl⟩) hK hP hD hS hA [0, 1] wMo_allC (by decide) wMo_adr wMo_all 0 rfl rfl rfl hl.1 rfl (Nat.le_of_ble_eq_true rfl) dX7_agrees_4 ⟨Nat.zero_le _, Nat.zero_le _⟩ (fun H locs hP hD hS => ?_)
  refine lv_aload_n hx hcd dX7_agrees_7 rfl (lv_at hl 0 rfl) ?_
  refine lv_iload_n hx hcd dX7_agrees_8 rfl (lv_at hl 2 rfl) ?_
  refine lv_iload_n hx hcd dX7_agrees_9 rfl (lv_at hl 1 rfl) ?_
  refine lv_iconst (v := nI 2) hx hcd dX7_agrees_10 (by decide) ?_
  refine kr_Vi (As := [.int (nI b), .int (nI a), .int (nI 2)]) (rest := [.int (kI (g_has M a b 1))]) (ws2 := wMo cI z x hh M) (q := (RX7, TX7, 10)) ⟨hx, hcd, hml, hown, hts⟩ (c_X7_has l D cI cB cW cL z x hh _ M b a 2 (by omega) (by omega)) (cwV 3 hts gX7_agrees_X7_has rfl rfl rfl (by decide +kernel) ⟨Nat.le_of_ble_eq_true rfl, Nat.le_of_ble_eq_true rfl⟩) hK hP hD hS hA [0, 1] wMo_allC (by decide) wMo_adr wMo_all 0 rfl rfl rfl hl.1 rfl (Nat.le_of_ble_eq_true rfl) dX7_agrees_11 ⟨Nat.zero_le _, Nat.zero_le _⟩ (fun H locs hP hD hS => ?_)
  refine kr_bcne (tgt := 74) hx hcd dX7_agrees_14 (by decide) (fun (c_14 : ¬ g_has M a b 1 = g_has M b a 2) => ?_) (fun (c_14 : g_has M a b 1 = g_has M b a 2) => ?_)
  · refine lv_iconst (v := nI 0) hx hcd dX7_agrees_74 (by decide) ?_
    exact kr_zret hx hcd hr hlocks hK hP hD hS rfl (by simp [g_agr, kI, c_14]; rfl) rfl dX7_agrees_75
  · refine lv_aload_n hx hcd dX7_agrees_17 rfl (lv_at hl 0 rfl) ?_
    refine lv_iload_n hx hcd dX7_agrees_18 rfl (lv_at hl 2 rfl) ?_
    refine lv_iload_n hx hcd dX7_agrees_19 rfl (lv_at hl 1 rfl) ?_
    refine lv_iconst (v := nI 1) hx hcd dX7_agrees_20 (by decide) ?_
    refine kr_Vi (As := [.int (nI b), .int (nI a), .int (nI 1)]) (rest := []) (ws2 := wMo cI z x hh M) (q := (RX7, TX7, 10)) ⟨hx, hcd, hml, hown, hts⟩ (c_X7_has l D cI cB cW cL z x hh _ M b a 1 (by omega) (by omega)) (cwV 3 hts gX7_agrees_X7_has rfl rfl rfl (by decide +kernel) ⟨Nat.le_of_ble_eq_true rfl, Nat.le_of_ble_eq_true rfl⟩) hK hP hD hS hA [0, 1] wMo_allC (by decide) wMo_adr wMo_all 0 rfl rfl rfl hl.1 rfl (Nat.le_of_ble_eq_true rfl) dX7_agrees_21 ⟨Nat.zero_le _, Nat.zero_le _⟩ (fun H locs hP hD hS => ?_)
    refine lv_aload_n hx hcd dX7_agrees_24 rfl (lv_at hl 0 rfl) ?_
    refine lv_iload_n hx hcd dX7_agrees_25 rfl (lv_at hl 1 rfl) ?_
    refine lv_iload_n hx hcd dX7_agrees_26 rfl (lv_at hl 2 rfl) ?_
    refine lv_iconst (v := nI 2) hx hcd dX7_agrees_27 (by decide) ?_
    refine kr_Vi (As := [.int (nI a), .int (nI b), .int (nI 2)]) (rest := [.int (kI (g_has M b a 1))]) (ws2 := wMo cI z x hh M) (q := (RX7, TX7, 10)) ⟨hx, hcd, hml, hown, hts⟩ (c_X7_has l D cI cB cW cL z x hh _ M a b 2 (by omega) (by omega)) (cwV 3 hts gX7_agrees_X7_has rfl rfl rfl (by decide +kernel) ⟨Nat.le_of_ble_eq_true rfl, Nat.le_of_ble_eq_true rfl⟩) hK hP hD hS hA [0, 1] wMo_allC (by decide) wMo_adr wMo_all 0 rfl rfl rfl hl.1 rfl (Nat.le_of_ble_eq_true rfl) dX7_agrees_28 ⟨Nat.zero_le _, Nat.zero_le _⟩ (fun H locs hP hD hS => ?_)
    refine kr_bcne (tgt := 74) hx hcd dX7_agrees_31 (by decide) (fun (c_31 : ¬ g_has M b a 1 = g_has M a b 2) => ?_) (fun (c_31 : g_has M b a 1 = g_has M a b 2) => ?_)
    · refine lv_iconst (v := nI 0) hx hcd dX7_agrees_74 (by decide) ?_
      exact kr_zret hx hcd hr hlocks hK hP hD hS rfl (by simp [g_agr, kI, c_14, c_31]; rfl) rfl dX7_agrees_75
    · refine lv_aload_n hx hcd dX7_agrees_34 rfl (lv_at hl 0 rfl) ?_
      refine lv_iload_n hx hcd dX7_agrees_35 rfl (lv_at hl 1 rfl) ?_
      refine lv_iload_n hx hcd dX7_agrees_36 rfl (lv_at hl 2 rfl) ?_
      refine lv_iconst (v := nI 4) hx hcd dX7_agrees_37 (by decide) ?_
      refine kr_Vi (As := [.int (nI a), .int (nI b), .int (nI 4)]) (rest := []) (ws2 := wMo cI z x hh M) (q := (RX7, TX7, 10)) ⟨hx, hcd, hml, hown, hts⟩ (c_X7_has l D cI cB cW cL z x hh _ M a b 4 (by omega) (by omega)) (cwV 3 hts gX7_agrees_X7_has rfl rfl rfl (by decide +kernel) ⟨Nat.le_of_ble_eq_true rfl, Nat.le_of_ble_eq_true rfl⟩) hK hP hD hS hA [0, 1] wMo_allC (by decide) wMo_adr wMo_all 0 rfl rfl rfl hl.1 rfl (Nat.le_of_ble_eq_true rfl) dX7_agrees_38 ⟨Nat.zero_le _, Nat.zero_le _⟩ (fun H locs hP hD hS => ?_)
      refine lv_aload_n hx hcd dX7_agrees_41 rfl (lv_at hl 0 rfl) ?_
      refine lv_iload_n hx hcd dX7_agrees_42 rfl (lv_at hl 2 rfl) ?_
      refine lv_iload_n hx hcd dX7_agrees_43 rfl (lv_at hl 1 rfl) ?_
      refine lv_bipush (v := nI 8) hx hcd dX7_agrees_44 (by decide) ?_
      refine kr_Vi (As := [.int (nI b), .int (nI a), .int (nI 8)]) (rest := [.int (kI (g_has M a b 4))]) (ws2 := wMo cI z x hh M) (q := (RX7, TX7, 10)) ⟨hx, hcd, hml, hown, hts⟩ (c_X7_has l D cI cB cW cL z x hh _ M b a 8 (by omega) (by omega)) (cwV 3 hts gX7_agrees_X7_has rfl rfl rfl (by decide +kernel) ⟨Nat.le_of_ble_eq_true rfl, Nat.le_of_ble_eq_true rfl⟩) hK hP hD hS hA [0, 1] wMo_allC (by decide) wMo_adr wMo_all 0 rfl rfl rfl hl.1 rfl (Nat.le_of_ble_eq_true rfl) dX7_agrees_46 ⟨Nat.zero_le _, Nat.zero_le _⟩ (fun H locs hP hD hS => ?_)
      refine kr_bcne (tgt := 74) hx hcd dX7_agrees_49 (by decide) (fun (c_49 : ¬ g_has M a b 4 = g_has M b a 8) => ?_) (fun (c_49 : g_has M a b 4 = g_has M b a 8) => ?_)
      · refine lv_iconst (v := nI 0) hx hcd dX7_agrees_74 (by decide) ?_
        exact kr_zret hx hcd hr hlocks hK hP hD hS rfl (by simp [g_agr, kI, c_14, c_31, c_49]; rfl) rfl dX7_agrees_75
      · refine lv_aload_n hx hcd dX7_agrees_52 rfl (lv_at hl 0 rfl) ?_
        refine lv_iload_n hx hcd dX7_agrees_53 rfl (lv_at hl 2 rfl) ?_
        refine lv_iload_n hx hcd dX7_agrees_54 rfl (lv_at hl 1 rfl) ?_
        refine lv_iconst (v := nI 4) hx hcd dX7_agrees_55 (by decide) ?_
        refine kr_Vi (As := [.int (nI b), .int (nI a), .int (nI 4)]) (rest := []) (ws2 := wMo cI z x hh M) (q := (RX7, TX7, 10)) ⟨hx, hcd, hml, hown, hts⟩ (c_X7_has l D cI cB cW cL z x hh _ M b a 4 (by omega) (by omega)) (cwV 3 hts gX7_agrees_X7_has rfl rfl rfl (by decide +kernel) ⟨Nat.le_of_ble_eq_true rfl, Nat.le_of_ble_eq_true rfl⟩) hK hP hD hS hA [0, 1] wMo_allC (by decide) wMo_adr wMo_all 0 rfl rfl rfl hl.1 rfl (Nat.le_of_ble_eq_true rfl) dX7_agrees_56 ⟨Nat.zero_le _, Nat.zero_le _⟩ (fun H locs hP hD hS => ?_)
        refine lv_aload_n hx hcd dX7_agrees_59 rfl (lv_at hl 0 rfl) ?_
        refine lv_iload_n hx hcd dX7_agrees_60 rfl (lv_at hl 1 rfl) ?_
        refine lv_iload_n hx hcd dX7_agrees_61 rfl (lv_at hl 2 rfl) ?_
        refine lv_bipush (v := nI 8) hx hcd dX7_agrees_62 (by decide) ?_
        refine kr_Vi (As := [.int (nI a), .int (nI b), .int (nI 8)]) (rest := [.int (kI (g_has M b a 4))]) (ws2 := wMo cI z x hh M) (q := (RX7, TX7, 10)) ⟨hx, hcd, hml, hown, hts⟩ (c_X7_has l D cI cB cW cL z x hh _ M a b 8 (by omega) (by omega)) (cwV 3 hts gX7_agrees_X7_has rfl rfl rfl (by decide +kernel) ⟨Nat.le_of_ble_eq_true rfl, Nat.le_of_ble_eq_true rfl⟩) hK hP hD hS hA [0, 1] wMo_allC (by decide) wMo_adr wMo_all 0 rfl rfl rfl hl.1 rfl (Nat.le_of_ble_eq_true rfl) dX7_agrees_64 ⟨Nat.zero_le _, Nat.zero_le _⟩ (fun H locs hP hD hS => ?_)
        refine kr_bcne (tgt := 74) hx hcd dX7_agrees_67 (by decide) (fun (c_67 : ¬ g_has M b a 4 = g_has M a b 8) => ?_) (fun (c_67 : g_has M b a 4 = g_has M a b 8) => ?_)
        · refine lv_iconst (v := nI 0) hx hcd dX7_agrees_74 (by decide) ?_
          exact kr_zret hx hcd hr hlocks hK hP hD hS rfl (by simp [g_agr, kI, c_14, c_31, c_49, c_67]; rfl) rfl dX7_agrees_75
        · refine lv_iconst (v := nI 1) hx hcd dX7_agrees_70 (by decide) ?_
          refine lv_goto (tgt := 75) hx hcd dX7_agrees_71 (by decide) ?_
          exact kr_zret hx hcd hr hlocks hK hP hD hS rfl (by simp [g_agr, kI, c_14, c_31, c_49, c_67]; rfl) rfl dX7_agrees_75

set_option maxHeartbeats 4000000 in
set_option maxRecDepth 100000 in
theorem c_X7_pairsAgreeing (l : Launch) (D : va_G) (cI cB cW cL : ClassId) (z : Nat → Nat) (x : Nat → Int32) (hh : Int64) (sz : Nat) (M : kM)  : kMi l yX7_pairsAgreeing wsX7_pairsAgreeing ({ frames := 3, cells := 0, slots := 0, locals := 67 }) D vwCl (kT cI cB cW cL) sz [.ref (z 0)] (wMo cI z x hh M) (wMo cI z x hh M) (nI (g_pairs M)) := by
  refine kr_ofi (cc := cX7_pairsAgreeing) (maxL := 4) (ret := (some .int)) (by decide) rfl (Nat.le_of_ble_eq_true rfl) ?_
  intro pp ee ss mm args below meth cc AA ls hx hcd hr hts hown hlocks hml hK hP hD hA hl
  have hS : va_S AA ss.heap ss.heap [] := va_S.rf
  have hown : ss.vm.findClass RX7 = some mm.cls := hown
  have hl : lv_has ls 4 [(0, .ref (z 0))] := hl
  refine lv_iconst (v := nI 0) hx hcd dX7_pairsAgreeing_0 (by decide) ?_
  refine lv_istore_n (lv' := [(1, .int (nI 0)), (0, .ref (z 0))]) hx hcd dX7_pairsAgreeing_1 rfl hl (by decide) rfl (fun ls hl => ?_)
  refine lv_iconst (v := nI 0) hx hcd dX7_pairsAgreeing_2 (by decide) ?_
  refine lv_istore_n (lv' := [(2, .int (nI 0)), (1, .int (nI 0)), (0, .ref (z 0))]) hx hcd dX7_pairsAgreeing_3 rfl hl (by decide) rfl (fun ls hl => ?_)
  refine kr_up (fun i => wMo cI z x hh M) (fun i => [(0, .ref (z 0)), (1, .int (nI (g_allM M i))), (2, .int (nI i))]) 6 (nL := 4) (fun i hi ih_4 H locs ls hP hD hS hl => ?_) (fun H locs ls hP hD hS hl => ?_) 0 (by omega) hP hD hS (lv_sub hl [2, 1, 0] rfl)
  · have hl : lv_has ls 4 [(0, .ref (z 0)), (1, .int (nI (g_allM M i))), (2, .int (nI i))] := hl
    refine lv_iload_n hx hcd dX7_pairsAgreeing_4 rfl (lv_at hl 2 rfl) ?_
    refine lv_bipush (v := nI 6) hx hcd dX7_pairsAgreeing_5 (by decide) ?_
    refine kr_cge (tgt := 46) hx hcd (by omega) (by omega) dX7_pairsAgreeing_7 (by decide) (fun (c_7 : 6 ≤ i) => absurd c_7 (by omega)) (fun (c_7 : i < 6) => ?_)
    refine lv_iconst (v := nI 0) hx hcd dX7_pairsAgreeing_10 (by decide) ?_
    refine lv_istore_n (lv' := [(3, .int (nI 0)), (0, .ref (z 0)), (1, .int (nI (g_allM M i))), (2, .int (nI i))]) hx hcd dX7_pairsAgreeing_11 rfl hl (by decide) rfl (fun ls hl => ?_)
    refine kr_up (fun j => wMo cI z x hh M) (fun j => [(0, .ref (z 0)), (1, .int (nI (g_allM M i + g_rowM M i j))), (2, .int (nI i)), (3, .int (nI j))]) i (nL := 4) (fun j hj ih_12 H locs ls hP hD hS hl => ?_) (fun H locs ls hP hD hS hl => ?_) 0 (by omega) hP hD hS (lv_sub hl [1, 2, 3, 0] rfl)
    · have hl : lv_has ls 4 [(0, .ref (z 0)), (1, .int (nI (g_allM M i + g_rowM M i j))), (2, .int (nI i)), (3, .int (nI j))] := hl
      refine lv_iload_n hx hcd dX7_pairsAgreeing_12 rfl (lv_at hl 3 rfl) ?_
      refine lv_iload_n hx hcd dX7_pairsAgreeing_13 rfl (lv_at hl 2 rfl) ?_
      refine kr_cge (tgt := 40) hx hcd (by omega) (by omega) dX7_pairsAgreeing_14 (by decide) (fun (c_14 : i ≤ j) => absurd c_14 (by omega)) (fun (c_14 : j < i) => ?_)
      refine lv_iload_n hx hcd dX7_pairsAgreeing_17 rfl (lv_at hl 1 rfl) ?_
      refine lv_aload_n hx hcd dX7_pairsAgreeing_18 rfl (lv_at hl 0 rfl) ?_
      refine lv_iload_n hx hcd dX7_pairsAgreeing_19 rfl (lv_at hl 2 rfl) ?_
      refine lv_iload_n hx hcd dX7_pairsAgreeing_20 rfl (lv_at hl 3 rfl) ?_
      refine kr_Vi (As := [.int (nI i), .int (nI j)]) (rest := [.int (nI (g_allM M i + g_rowM M i j))]) (ws2 := wMo cI z x hh M) (q := (RX7, TX7, 10)) ⟨hx, hcd, hml, hown, hts⟩ (c_X7_agrees l D cI cB cW cL z x hh _ M i j (by omega) (by omega)) (cwV 2 hts gX7_pairsAgreeing_X7_agrees rfl rfl rfl (by decide +kernel) ⟨Nat.le_of_ble_eq_true rfl, Nat.le_of_ble_eq_true rfl⟩) hK hP hD hS hA [0, 1] wMo_allC (by decide) wMo_adr wMo_all 0 rfl rfl rfl hl.1 rfl (Nat.le_of_ble_eq_true rfl) dX7_pairsAgreeing_21 ⟨Nat.zero_le _, Nat.zero_le _⟩ (fun H locs hP hD hS => ?_)
      refine kr_beq (tgt := 31) hx hcd dX7_pairsAgreeing_24 (by decide) (fun (c_24 : g_agr M i j = false) => ?_) (fun (c_24 : g_agr M i j = true) => ?_)
      · refine lv_iconst (v := nI 0) hx hcd dX7_pairsAgreeing_31 (by decide) ?_
        refine kr_add hx hcd dX7_pairsAgreeing_32 ?_
        refine lv_istore_n (lv' := [(1, .int (nI ((g_allM M i + g_rowM M i j) + 0))), (0, .ref (z 0)), (2, .int (nI i)), (3, .int (nI j))]) hx hcd dX7_pairsAgreeing_33 rfl hl (by decide) rfl (fun ls hl => ?_)
        refine kr_iinc (lv' := [(3, .int (nI (j + 1))), (1, .int (nI ((g_allM M i + g_rowM M i j) + 0))), (0, .ref (z 0)), (2, .int (nI i))]) hx hcd dX7_pairsAgreeing_34 hl (k := 3) rfl (by decide) rfl (fun ls hl => ?_)
        refine lv_goto (tgt := 12) hx hcd dX7_pairsAgreeing_37 (by decide) ?_
        have hl : lv_has ls 4 [(0, .ref (z 0)), (1, .int (nI ((g_allM M i + g_rowM M i j) + 0))), (2, .int (nI i)), (3, .int (nI (j + 1)))] := lv_sub hl [2, 1, 3, 0] rfl
        have e9 : ([(0, .ref (z 0)), (1, .int (nI ((g_allM M i + g_rowM M i j) + 0))), (2, .int (nI i)), (3, .int (nI (j + 1)))] : List (Nat × Value)) = [(0, .ref (z 0)), (1, .int (nI (g_allM M i + g_rowM M i (j + 1)))), (2, .int (nI i)), (3, .int (nI (j + 1)))] := by first | (simp [g_rowM, c_7, c_14, c_24]; done) | (simp [g_rowM, c_7, c_14, c_24]; rfl)
        exact ih_12 H locs ls hP hD hS (e9 ▸ hl)
      · refine lv_iconst (v := nI 1) hx hcd dX7_pairsAgreeing_27 (by decide) ?_
        refine lv_goto (tgt := 32) hx hcd dX7_pairsAgreeing_28 (by decide) ?_
        refine kr_add hx hcd dX7_pairsAgreeing_32 ?_
        refine lv_istore_n (lv' := [(1, .int (nI ((g_allM M i + g_rowM M i j) + 1))), (0, .ref (z 0)), (2, .int (nI i)), (3, .int (nI j))]) hx hcd dX7_pairsAgreeing_33 rfl hl (by decide) rfl (fun ls hl => ?_)
        refine kr_iinc (lv' := [(3, .int (nI (j + 1))), (1, .int (nI ((g_allM M i + g_rowM M i j) + 1))), (0, .ref (z 0)), (2, .int (nI i))]) hx hcd dX7_pairsAgreeing_34 hl (k := 3) rfl (by decide) rfl (fun ls hl => ?_)
        refine lv_goto (tgt := 12) hx hcd dX7_pairsAgreeing_37 (by decide) ?_
        have hl : lv_has ls 4 [(0, .ref (z 0)), (1, .int (nI ((g_allM M i + g_rowM M i j) + 1))), (2, .int (nI i)), (3, .int (nI (j + 1)))] := lv_sub hl [2, 1, 3, 0] rfl
        have e9 : ([(0, .ref (z 0)), (1, .int (nI ((g_allM M i + g_rowM M i j) + 1))), (2, .int (nI i)), (3, .int (nI (j + 1)))] : List (Nat × Value)) = [(0, .ref (z 0)), (1, .int (nI (g_allM M i + g_rowM M i (j + 1)))), (2, .int (nI i)), (3, .int (nI (j + 1)))] := by first | (simp [g_rowM, c_7, c_14, c_24]; done) | (simp [g_rowM, c_7, c_14, c_24]; rfl)
        exact ih_12 H locs ls hP hD hS (e9 ▸ hl)
    · have hl : lv_has ls 4 [(0, .ref (z 0)), (1, .int (nI (g_allM M i + g_rowM M i i))), (2, .int (nI i)), (3, .int (nI i))] := hl
      refine lv_iload_n hx hcd dX7_pairsAgreeing_12 rfl (lv_at hl 3 rfl) ?_
      refine lv_iload_n hx hcd dX7_pairsAgreeing_13 rfl (lv_at hl 2 rfl) ?_
      refine kr_cge (tgt := 40) hx hcd (by omega) (by omega) dX7_pairsAgreeing_14 (by decide) (fun (c_14 : i ≤ i) => ?_) (fun (c_14 : i < i) => absurd c_14 (by omega))
      refine kr_iinc (lv' := [(2, .int (nI (i + 1))), (0, .ref (z 0)), (1, .int (nI (g_allM M i + g_rowM M i i))), (3, .int (nI i))]) hx hcd dX7_pairsAgreeing_40 hl (k := 2) rfl (by decide) rfl (fun ls hl => ?_)
      refine lv_goto (tgt := 4) hx hcd dX7_pairsAgreeing_43 (by decide) ?_
      exact ih_4 H locs ls hP hD hS (lv_sub hl [1, 2, 0] rfl)
  · have hl : lv_has ls 4 [(0, .ref (z 0)), (1, .int (nI (g_allM M 6))), (2, .int (nI 6))] := hl
    refine lv_iload_n hx hcd dX7_pairsAgreeing_4 rfl (lv_at hl 2 rfl) ?_
    refine lv_bipush (v := nI 6) hx hcd dX7_pairsAgreeing_5 (by decide) ?_
    refine kr_cge (tgt := 46) hx hcd (by omega) (by omega) dX7_pairsAgreeing_7 (by decide) (fun (c_7 : 6 ≤ 6) => ?_) (fun (c_7 : 6 < 6) => absurd c_7 (by omega))
    refine lv_iload_n hx hcd dX7_pairsAgreeing_46 rfl (lv_at hl 1 rfl) ?_
    exact kr_iret hx hcd hr hlocks hK hP hD hS rfl rfl dX7_pairsAgreeing_47

set_option maxHeartbeats 4000000 in
set_option maxRecDepth 100000 in
theorem c_X7_isWrong (l : Launch) (D : va_G) (cI cB cW cL : ClassId) (z : Nat → Nat) (x : Nat → Int32) (hh : Int64) (sz : Nat) (M : kM) (a : Nat) (b : Nat) (s : Nat) (ha : a < 6) (hb : b < 6) (hs : s < 3) : kMi l yX7_isWrong wsX7_isWrong ({ frames := 2, cells := 0, slots := 0, locals := 45 }) D vwCl (kT cI cB cW cL) sz [.ref (z 0), .int (nI a), .int (nI b), .int (nI s)] (wMo cI z x hh M) (wMo cI z x hh M) (kI (g_iw (M (132 + 18 * a + 3 * b + s)) (g_on M b s) (g_has M a b 1) (g_there M a) (M (2 + 9 * b + 3 * s)))) := by
  refine kr_ofi (cc := cX7_isWrong) (maxL := 7) (ret := (some .boolean)) (by decide) rfl (Nat.le_of_ble_eq_true rfl) ?_
  intro pp ee ss mm args below meth cc AA ls hx hcd hr hts hown hlocks hml hK hP hD hA hl
  have hS : va_S AA ss.heap ss.heap [] := va_S.rf
  have hown : ss.vm.findClass RX7 = some mm.cls := hown
  have hl : lv_has ls 7 [(0, .ref (z 0)), (1, .int (nI a)), (2, .int (nI b)), (3, .int (nI s))] := hl
  have uX7 : ∀ w ∈ u_ws RX7 TX7 10, w ∈ wsX7_isWrong := by decide +kernel
  refine lv_aload_n hx hcd dX7_isWrong_0 rfl (lv_at hl 0 rfl) ?_
  refine kr_get hx hcd hts uX7 hown hK hP 0 rfl rfl 0 (by decide) (by decide +kernel) (v := .ref (z 1)) rfl dX7_isWrong_1 ?_
  refine lv_iload_n hx hcd dX7_isWrong_4 rfl (lv_at hl 1 rfl) ?_
  refine lv_iload_n hx hcd dX7_isWrong_5 rfl (lv_at hl 2 rfl) ?_
  refine lv_iload_n hx hcd dX7_isWrong_6 rfl (lv_at hl 3 rfl) ?_
  refine kr_Si (As := [.int (nI a), .int (nI b), .int (nI s)]) (rest := [.ref (z 1)]) (ws2 := wMo cI z x hh M) ⟨hx, hcd, hml, hown, hts⟩ (c_X7_viewCell l D cI cB cW cL  _ M a b s) (va_cwS 3 hts gX7_isWrong_X7_viewCell rfl rfl rfl (by decide +kernel) ⟨Nat.le_of_ble_eq_true rfl, Nat.le_of_ble_eq_true rfl⟩) hK hP hD hS hA [] rfl (by decide) rfl rfl rfl hl.1 rfl (Nat.le_of_ble_eq_true rfl) dX7_isWrong_7 ⟨Nat.zero_le _, Nat.zero_le _⟩ (fun H locs hP hD hS => ?_)
  refine kr_iald hx hcd hK hP 1 0 rfl rfl (v := M (132 + 18 * a + 3 * b + s)) (by omega) (by decide) (congrArg M (by omega)) dX7_isWrong_10 ?_
  refine lv_istore (lv' := [(4, .int (M (132 + 18 * a + 3 * b + s))), (0, .ref (z 0)), (1, .int (nI a)), (2, .int (nI b)), (3, .int (nI s))]) hx hcd dX7_isWrong_11 hl (by decide) rfl (fun ls hl => ?_)
  refine lv_aload_n hx hcd dX7_isWrong_13 rfl (lv_at hl 1 rfl) ?_
  refine lv_iload_n hx hcd dX7_isWrong_14 rfl (lv_at hl 3 rfl) ?_
  refine lv_iload_n hx hcd dX7_isWrong_15 rfl (lv_at hl 4 rfl) ?_
  refine kr_Vi (As := [.int (nI b), .int (nI s)]) (rest := []) (ws2 := wMo cI z x hh M) (q := (RX7, TX7, 10)) ⟨hx, hcd, hml, hown, hts⟩ (c_X7_isOn l D cI cB cW cL z x hh _ M b s (by omega) (by omega)) (cwV 2 hts gX7_isWrong_X7_isOn rfl rfl rfl (by decide +kernel) ⟨Nat.le_of_ble_eq_true rfl, Nat.le_of_ble_eq_true rfl⟩) hK hP hD hS hA [0, 1] wMo_allC (by decide) wMo_adr wMo_all 0 rfl rfl rfl hl.1 rfl (Nat.le_of_ble_eq_true rfl) dX7_isWrong_16 ⟨Nat.zero_le _, Nat.zero_le _⟩ (fun H locs hP hD hS => ?_)
  refine lv_istore (lv' := [(5, .int (kI (g_on M b s))), (4, .int (M (132 + 18 * a + 3 * b + s))), (0, .ref (z 0)), (1, .int (nI a)), (2, .int (nI b)), (3, .int (nI s))]) hx hcd dX7_isWrong_19 hl (by decide) rfl (fun ls hl => ?_)
  refine lv_aload_n hx hcd dX7_isWrong_21 rfl (lv_at hl 2 rfl) ?_
  refine lv_iload_n hx hcd dX7_isWrong_22 rfl (lv_at hl 3 rfl) ?_
  refine lv_iload_n hx hcd dX7_isWrong_23 rfl (lv_at hl 4 rfl) ?_
  refine lv_iconst (v := nI 1) hx hcd dX7_isWrong_24 (by decide) ?_
  refine kr_Vi (As := [.int (nI a), .int (nI b), .int (nI 1)]) (rest := []) (ws2 := wMo cI z x hh M) (q := (RX7, TX7, 10)) ⟨hx, hcd, hml, hown, hts⟩ (c_X7_has l D cI cB cW cL z x hh _ M a b 1 (by omega) (by omega)) (cwV 3 hts gX7_isWrong_X7_has rfl rfl rfl (by decide +kernel) ⟨Nat.le_of_ble_eq_true rfl, Nat.le_of_ble_eq_true rfl⟩) hK hP hD hS hA [0, 1] wMo_allC (by decide) wMo_adr wMo_all 0 rfl rfl rfl hl.1 rfl (Nat.le_of_ble_eq_true rfl) dX7_isWrong_25 ⟨Nat.zero_le _, Nat.zero_le _⟩ (fun H locs hP hD hS => ?_)
  refine lv_istore (lv' := [(6, .int (kI (g_has M a b 1))), (5, .int (kI (g_on M b s))), (4, .int (M (132 + 18 * a + 3 * b + s))), (0, .ref (z 0)), (1, .int (nI a)), (2, .int (nI b)), (3, .int (nI s))]) hx hcd dX7_isWrong_28 hl (by decide) rfl (fun ls hl => ?_)
  refine lv_iload hx hcd dX7_isWrong_30 (lv_at hl 2 rfl) ?_
  refine lv_iconst (v := (-1)) hx hcd dX7_isWrong_32 (by decide) ?_
  refine lv_icmp_ne (tgt := 62) hx hcd dX7_isWrong_33 (by decide) (fun (c_33 : ¬ (M (132 + 18 * a + 3 * b + s)) = (-1)) => ?_) (fun (c_33 : (M (132 + 18 * a + 3 * b + s)) = (-1)) => ?_)
  · refine lv_iload hx hcd dX7_isWrong_62 (lv_at hl 1 rfl) ?_
    refine kr_beq (tgt := 89) hx hcd dX7_isWrong_64 (by decide) (fun (c_64 : g_on M b s = false) => ?_) (fun (c_64 : g_on M b s = true) => ?_)
    · refine lv_iconst (v := nI 1) hx hcd dX7_isWrong_89 (by decide) ?_
      refine lv_goto (tgt := 94) hx hcd dX7_isWrong_90 (by decide) ?_
      exact kr_zret hx hcd hr hlocks hK hP hD hS rfl (by first | (rw [g_iw, if_pos c_33]; simp [kI, g_there, c_33, c_64]; done) | (rw [g_iw, if_pos c_33]; simp [kI, g_there, c_33, c_64]; rfl) | (rw [g_iw, if_neg c_33]; simp [kI, eq_comm, c_33, c_64]; done) | (rw [g_iw, if_neg c_33]; simp [kI, eq_comm, c_33, c_64]; rfl)) rfl dX7_isWrong_94
    · refine lv_aload_n hx hcd dX7_isWrong_67 rfl (lv_at hl 3 rfl) ?_
      refine kr_get hx hcd hts uX7 hown hK hP 0 rfl rfl 0 (by decide) (by decide +kernel) (v := .ref (z 1)) rfl dX7_isWrong_68 ?_
      refine lv_iload_n hx hcd dX7_isWrong_71 rfl (lv_at hl 5 rfl) ?_
      refine lv_iload_n hx hcd dX7_isWrong_72 rfl (lv_at hl 6 rfl) ?_
      refine kr_Si (As := [.int (nI b), .int (nI s)]) (rest := [.ref (z 1)]) (ws2 := wMo cI z x hh M) ⟨hx, hcd, hml, hown, hts⟩ (c_X7_seatCell l D cI cB cW cL  _ M b s) (va_cwS 2 hts gX7_isWrong_X7_seatCell rfl rfl rfl (by decide +kernel) ⟨Nat.le_of_ble_eq_true rfl, Nat.le_of_ble_eq_true rfl⟩) hK hP hD hS hA [] rfl (by decide) rfl rfl rfl hl.1 rfl (Nat.le_of_ble_eq_true rfl) dX7_isWrong_73 ⟨Nat.zero_le _, Nat.zero_le _⟩ (fun H locs hP hD hS => ?_)
      refine lv_iconst (v := nI 2) hx hcd dX7_isWrong_76 (by decide) ?_
      refine kr_add hx hcd dX7_isWrong_77 ?_
      refine kr_iald hx hcd hK hP 1 0 rfl rfl (v := M (2 + 9 * b + 3 * s)) (by omega) (by decide) (congrArg M (by omega)) dX7_isWrong_78 ?_
      refine lv_iload hx hcd dX7_isWrong_79 (lv_at hl 2 rfl) ?_
      refine lv_icmp_ne (tgt := 89) hx hcd dX7_isWrong_81 (by decide) (fun (c_81 : ¬ (M (2 + 9 * b + 3 * s)) = (M (132 + 18 * a + 3 * b + s))) => ?_) (fun (c_81 : (M (2 + 9 * b + 3 * s)) = (M (132 + 18 * a + 3 * b + s))) => ?_)
      · refine lv_iconst (v := nI 1) hx hcd dX7_isWrong_89 (by decide) ?_
        refine lv_goto (tgt := 94) hx hcd dX7_isWrong_90 (by decide) ?_
        exact kr_zret hx hcd hr hlocks hK hP hD hS rfl (by first | (rw [g_iw, if_pos c_33]; simp [kI, g_there, c_33, c_64, c_81]; done) | (rw [g_iw, if_pos c_33]; simp [kI, g_there, c_33, c_64, c_81]; rfl) | (rw [g_iw, if_neg c_33]; simp [kI, eq_comm, c_33, c_64, c_81]; done) | (rw [g_iw, if_neg c_33]; simp [kI, eq_comm, c_33, c_64, c_81]; rfl)) rfl dX7_isWrong_94
      · refine lv_iload hx hcd dX7_isWrong_84 (lv_at hl 0 rfl) ?_
        refine kr_bne (tgt := 93) hx hcd dX7_isWrong_86 (by decide) (fun (c_86 : g_has M a b 1 = true) => ?_) (fun (c_86 : g_has M a b 1 = false) => ?_)
        · refine lv_iconst (v := nI 0) hx hcd dX7_isWrong_93 (by decide) ?_
          exact kr_zret hx hcd hr hlocks hK hP hD hS rfl (by first | (rw [g_iw, if_pos c_33]; simp [kI, g_there, c_33, c_64, c_81, c_86]; done) | (rw [g_iw, if_pos c_33]; simp [kI, g_there, c_33, c_64, c_81, c_86]; rfl) | (rw [g_iw, if_neg c_33]; simp [kI, eq_comm, c_33, c_64, c_81, c_86]; done) | (rw [g_iw, if_neg c_33]; simp [kI, eq_comm, c_33, c_64, c_81, c_86]; rfl)) rfl dX7_isWrong_94
        · refine lv_iconst (v := nI 1) hx hcd dX7_isWrong_89 (by decide) ?_
          refine lv_goto (tgt := 94) hx hcd dX7_isWrong_90 (by decide) ?_
          exact kr_zret hx hcd hr hlocks hK hP hD hS rfl (by first | (rw [g_iw, if_pos c_33]; simp [kI, g_there, c_33, c_64, c_81, c_86]; done) | (rw [g_iw, if_pos c_33]; simp [kI, g_there, c_33, c_64, c_81, c_86]; rfl) | (rw [g_iw, if_neg c_33]; simp [kI, eq_comm, c_33, c_64, c_81, c_86]; done) | (rw [g_iw, if_neg c_33]; simp [kI, eq_comm, c_33, c_64, c_81, c_86]; rfl)) rfl dX7_isWrong_94
  · refine lv_iload hx hcd dX7_isWrong_36 (lv_at hl 0 rfl) ?_
    refine kr_beq (tgt := 58) hx hcd dX7_isWrong_38 (by decide) (fun (c_38 : g_has M a b 1 = false) => ?_) (fun (c_38 : g_has M a b 1 = true) => ?_)
    · refine lv_iconst (v := nI 0) hx hcd dX7_isWrong_58 (by decide) ?_
      refine lv_goto (tgt := 94) hx hcd dX7_isWrong_59 (by decide) ?_
      exact kr_zret hx hcd hr hlocks hK hP hD hS rfl (by first | (rw [g_iw, if_pos c_33]; simp [kI, g_there, c_33, c_38]; done) | (rw [g_iw, if_pos c_33]; simp [kI, g_there, c_33, c_38]; rfl) | (rw [g_iw, if_neg c_33]; simp [kI, eq_comm, c_33, c_38]; done) | (rw [g_iw, if_neg c_33]; simp [kI, eq_comm, c_33, c_38]; rfl)) rfl dX7_isWrong_94
    · refine lv_aload_n hx hcd dX7_isWrong_41 rfl (lv_at hl 3 rfl) ?_
      refine lv_iload_n hx hcd dX7_isWrong_42 rfl (lv_at hl 4 rfl) ?_
      refine kr_Vi (As := [.int (nI a)]) (rest := []) (ws2 := wMo cI z x hh M) (q := (RX7, TX7, 10)) ⟨hx, hcd, hml, hown, hts⟩ (c_X7_seatsOn l D cI cB cW cL z x hh _ M a (by omega)) (cwV 1 hts gX7_isWrong_X7_seatsOn rfl rfl rfl (by decide +kernel) ⟨Nat.le_of_ble_eq_true rfl, Nat.le_of_ble_eq_true rfl⟩) hK hP hD hS hA [0, 1] wMo_allC (by decide) wMo_adr wMo_all 0 rfl rfl rfl hl.1 rfl (Nat.le_of_ble_eq_true rfl) dX7_isWrong_43 ⟨Nat.zero_le _, Nat.zero_le _⟩ (fun H locs hP hD hS => ?_)
      refine lv_if_le (tgt := 58) hx hcd dX7_isWrong_46 (by decide) (fun (c_46 : (g_cnt M a) ≤ 0) => ?_) (fun (c_46 : ¬ (g_cnt M a) ≤ 0) => ?_)
      · refine lv_iconst (v := nI 0) hx hcd dX7_isWrong_58 (by decide) ?_
        refine lv_goto (tgt := 94) hx hcd dX7_isWrong_59 (by decide) ?_
        exact kr_zret hx hcd hr hlocks hK hP hD hS rfl (by first | (rw [g_iw, if_pos c_33]; simp [kI, g_there, c_33, c_38, c_46]; done) | (rw [g_iw, if_pos c_33]; simp [kI, g_there, c_33, c_38, c_46]; rfl) | (rw [g_iw, if_neg c_33]; simp [kI, eq_comm, c_33, c_38, c_46]; done) | (rw [g_iw, if_neg c_33]; simp [kI, eq_comm, c_33, c_38, c_46]; rfl)) rfl dX7_isWrong_94
      · refine lv_iload hx hcd dX7_isWrong_49 (lv_at hl 1 rfl) ?_
        refine kr_beq (tgt := 58) hx hcd dX7_isWrong_51 (by decide) (fun (c_51 : g_on M b s = false) => ?_) (fun (c_51 : g_on M b s = true) => ?_)
        · refine lv_iconst (v := nI 0) hx hcd dX7_isWrong_58 (by decide) ?_
          refine lv_goto (tgt := 94) hx hcd dX7_isWrong_59 (by decide) ?_
          exact kr_zret hx hcd hr hlocks hK hP hD hS rfl (by first | (rw [g_iw, if_pos c_33]; simp [kI, g_there, c_33, c_38, c_46, c_51]; done) | (rw [g_iw, if_pos c_33]; simp [kI, g_there, c_33, c_38, c_46, c_51]; rfl) | (rw [g_iw, if_neg c_33]; simp [kI, eq_comm, c_33, c_38, c_46, c_51]; done) | (rw [g_iw, if_neg c_33]; simp [kI, eq_comm, c_33, c_38, c_46, c_51]; rfl)) rfl dX7_isWrong_94
        · refine lv_iconst (v := nI 1) hx hcd dX7_isWrong_54 (by decide) ?_
          refine lv_goto (tgt := 94) hx hcd dX7_isWrong_55 (by decide) ?_
          exact kr_zret hx hcd hr hlocks hK hP hD hS rfl (by first | (rw [g_iw, if_pos c_33]; simp [kI, g_there, c_33, c_38, c_46, c_51]; done) | (rw [g_iw, if_pos c_33]; simp [kI, g_there, c_33, c_38, c_46, c_51]; rfl) | (rw [g_iw, if_neg c_33]; simp [kI, eq_comm, c_33, c_38, c_46, c_51]; done) | (rw [g_iw, if_neg c_33]; simp [kI, eq_comm, c_33, c_38, c_46, c_51]; rfl)) rfl dX7_isWrong_94

set_option maxHeartbeats 4000000 in
set_option maxRecDepth 100000 in
theorem c_X7_ofMessage (l : Launch) (D : va_G) (cI cB cW cL : ClassId) (z : Nat → Nat) (x : Nat → Int32) (hh : Int64) (sz : Nat) (M : kM) (i : Nat) (wh : Nat) (hI : kInv M) (hi : i < 100000) (hw : wh < 5) : kMi l yX7_ofMessage wsX7_ofMessage ({ frames := 1, cells := 0, slots := 0, locals := 21 }) D vwCl (kT cI cB cW cL) sz [.ref (z 0), .int (nI i), .int (nI wh)] (wMo cI z x hh M) (wMo cI z x hh M) (g_part (g_msg M i) wh) := by
  refine kr_ofi (cc := cX7_ofMessage) (maxL := 6) (ret := (some .int)) (by decide) rfl (Nat.le_of_ble_eq_true rfl) ?_
  intro pp ee ss mm args below meth cc AA ls hx hcd hr hts hown hlocks hml hK hP hD hA hl
  have hS : va_S AA ss.heap ss.heap [] := va_S.rf
  have hown : ss.vm.findClass RX7 = some mm.cls := hown
  have hl : lv_has ls 6 [(0, .ref (z 0)), (1, .int (nI i)), (2, .int (nI wh))] := hl
  refine lv_aload_n hx hcd dX7_ofMessage_0 rfl (lv_at hl 0 rfl) ?_
  refine lv_iload_n hx hcd dX7_ofMessage_1 rfl (lv_at hl 1 rfl) ?_
  refine kr_Vi (As := [.int (nI i)]) (rest := []) (ws2 := wMo cI z x hh M) (q := (RX7, TX7, 10)) ⟨hx, hcd, hml, hown, hts⟩ (c_X7_messageAt l D cI cB cW cL z x hh _ M i hI (by omega)) (cwV 1 hts gX7_ofMessage_X7_messageAt rfl rfl rfl (by decide +kernel) ⟨Nat.le_of_ble_eq_true rfl, Nat.le_of_ble_eq_true rfl⟩) hK hP hD hS hA [0, 1] wMo_allC (by decide) wMo_adr wMo_all 0 rfl rfl rfl hl.1 rfl (Nat.le_of_ble_eq_true rfl) dX7_ofMessage_2 ⟨Nat.zero_le _, Nat.zero_le _⟩ (fun H locs hP hD hS => ?_)
  refine lv_istore_n (lv' := [(3, .int (nI (g_msg M i))), (0, .ref (z 0)), (1, .int (nI i)), (2, .int (nI wh))]) hx hcd dX7_ofMessage_5 rfl hl (by decide) rfl (fun ls hl => ?_)
  refine lv_iload_n hx hcd dX7_ofMessage_6 rfl (lv_at hl 0 rfl) ?_
  refine lv_iconst (v := nI 0) hx hcd dX7_ofMessage_7 (by decide) ?_
  refine kr_Si (As := [.int (nI (g_msg M i)), .int (nI 0)]) (rest := []) (ws2 := wMo cI z x hh M) ⟨hx, hcd, hml, hown, hts⟩ (c_X7_part l D cI cB cW cL  _ M (g_msg M i) 0 (by omega) (i_msglt hI i)) (va_cwS 2 hts gX7_ofMessage_X7_part rfl rfl rfl (by decide +kernel) ⟨Nat.le_of_ble_eq_true rfl, Nat.le_of_ble_eq_true rfl⟩) hK hP hD hS hA [] rfl (by decide) rfl rfl rfl hl.1 rfl (Nat.le_of_ble_eq_true rfl) dX7_ofMessage_8 ⟨Nat.zero_le _, Nat.zero_le _⟩ (fun H locs hP hD hS => ?_)
  refine kr_top (w := nI (g_msg M i % 8)) rfl ?_
  refine lv_istore (lv' := [(4, .int (nI (g_msg M i % 8))), (3, .int (nI (g_msg M i))), (0, .ref (z 0)), (1, .int (nI i)), (2, .int (nI wh))]) hx hcd dX7_ofMessage_11 hl (by decide) rfl (fun ls hl => ?_)
  refine lv_iload_n hx hcd dX7_ofMessage_13 rfl (lv_at hl 4 rfl) ?_
  refine lv_iconst (v := nI 3) hx hcd dX7_ofMessage_14 (by decide) ?_
  refine kr_cne (tgt := 30) hx hcd (by omega) (by omega) dX7_ofMessage_15 (by decide) (fun (c_15 : ¬ wh = 3) => ?_) (fun (c_15 : wh = 3) => ?_)
  · refine lv_iload_n hx hcd dX7_ofMessage_30 rfl (lv_at hl 4 rfl) ?_
    refine lv_iconst (v := nI 4) hx hcd dX7_ofMessage_31 (by decide) ?_
    refine kr_cne (tgt := 45) hx hcd (by omega) (by omega) dX7_ofMessage_32 (by decide) (fun (c_32 : ¬ wh = 4) => ?_) (fun (c_32 : wh = 4) => ?_)
    · refine lv_iconst (v := nI 0) hx hcd dX7_ofMessage_45 (by decide) ?_
      refine lv_istore (lv' := [(5, .int (nI 0)), (4, .int (nI (g_msg M i % 8))), (3, .int (nI (g_msg M i))), (0, .ref (z 0)), (1, .int (nI i)), (2, .int (nI wh))]) hx hcd dX7_ofMessage_46 hl (by decide) rfl (fun ls hl => ?_)
      refine lv_iload hx hcd dX7_ofMessage_48 (lv_at hl 0 rfl) ?_
      refine kr_zeq (tgt := 57) hx hcd (by omega) dX7_ofMessage_50 (by decide) (fun (c_50 : 0 = 0) => ?_) (fun (c_50 : 0 < 0) => absurd c_50 (by omega))
      refine lv_iload_n hx hcd dX7_ofMessage_57 rfl (lv_at hl 2 rfl) ?_
      refine lv_iload_n hx hcd dX7_ofMessage_58 rfl (lv_at hl 5 rfl) ?_
      refine kr_Si (As := [.int (nI (g_msg M i)), .int (nI wh)]) (rest := []) (ws2 := wMo cI z x hh M) ⟨hx, hcd, hml, hown, hts⟩ (c_X7_part l D cI cB cW cL  _ M (g_msg M i) wh (by omega) (i_msglt hI i)) (va_cwS 2 hts gX7_ofMessage_X7_part rfl rfl rfl (by decide +kernel) ⟨Nat.le_of_ble_eq_true rfl, Nat.le_of_ble_eq_true rfl⟩) hK hP hD hS hA [] rfl (by decide) rfl rfl rfl hl.1 rfl (Nat.le_of_ble_eq_true rfl) dX7_ofMessage_59 ⟨Nat.zero_le _, Nat.zero_le _⟩ (fun H locs hP hD hS => ?_)
      exact kr_iret hx hcd hr hlocks hK hP hD hS (by first | exact (part_none (by omega)).symm | exact part_some (by omega) (by omega)) rfl dX7_ofMessage_62
    · refine lv_iload hx hcd dX7_ofMessage_35 (lv_at hl 0 rfl) ?_
      refine lv_iconst (v := nI 4) hx hcd dX7_ofMessage_37 (by decide) ?_
      refine kr_ceq (tgt := 45) hx hcd (by omega) (by omega) dX7_ofMessage_38 (by decide) (fun (c_38 : g_msg M i % 8 = 4) => ?_) (fun (c_38 : ¬ g_msg M i % 8 = 4) => ?_)
      · refine lv_iconst (v := nI 0) hx hcd dX7_ofMessage_45 (by decide) ?_
        refine lv_istore (lv' := [(5, .int (nI 0)), (4, .int (nI (g_msg M i % 8))), (3, .int (nI (g_msg M i))), (0, .ref (z 0)), (1, .int (nI i)), (2, .int (nI wh))]) hx hcd dX7_ofMessage_46 hl (by decide) rfl (fun ls hl => ?_)
        refine lv_iload hx hcd dX7_ofMessage_48 (lv_at hl 0 rfl) ?_
        refine kr_zeq (tgt := 57) hx hcd (by omega) dX7_ofMessage_50 (by decide) (fun (c_50 : 0 = 0) => ?_) (fun (c_50 : 0 < 0) => absurd c_50 (by omega))
        refine lv_iload_n hx hcd dX7_ofMessage_57 rfl (lv_at hl 2 rfl) ?_
        refine lv_iload_n hx hcd dX7_ofMessage_58 rfl (lv_at hl 5 rfl) ?_
        refine kr_Si (As := [.int (nI (g_msg M i)), .int (nI wh)]) (rest := []) (ws2 := wMo cI z x hh M) ⟨hx, hcd, hml, hown, hts⟩ (c_X7_part l D cI cB cW cL  _ M (g_msg M i) wh (by omega) (i_msglt hI i)) (va_cwS 2 hts gX7_ofMessage_X7_part rfl rfl rfl (by decide +kernel) ⟨Nat.le_of_ble_eq_true rfl, Nat.le_of_ble_eq_true rfl⟩) hK hP hD hS hA [] rfl (by decide) rfl rfl rfl hl.1 rfl (Nat.le_of_ble_eq_true rfl) dX7_ofMessage_59 ⟨Nat.zero_le _, Nat.zero_le _⟩ (fun H locs hP hD hS => ?_)
        exact kr_iret hx hcd hr hlocks hK hP hD hS (by first | exact (part_none (by omega)).symm | exact part_some (by omega) (by omega)) rfl dX7_ofMessage_62
      · refine lv_iconst (v := nI 1) hx hcd dX7_ofMessage_41 (by decide) ?_
        refine lv_goto (tgt := 46) hx hcd dX7_ofMessage_42 (by decide) ?_
        refine lv_istore (lv' := [(5, .int (nI 1)), (4, .int (nI (g_msg M i % 8))), (3, .int (nI (g_msg M i))), (0, .ref (z 0)), (1, .int (nI i)), (2, .int (nI wh))]) hx hcd dX7_ofMessage_46 hl (by decide) rfl (fun ls hl => ?_)
        refine lv_iload hx hcd dX7_ofMessage_48 (lv_at hl 0 rfl) ?_
        refine kr_zeq (tgt := 57) hx hcd (by omega) dX7_ofMessage_50 (by decide) (fun (c_50 : 1 = 0) => absurd c_50 (by omega)) (fun (c_50 : 0 < 1) => ?_)
        refine lv_iconst (v := (-1)) hx hcd dX7_ofMessage_53 (by decide) ?_
        refine lv_goto (tgt := 62) hx hcd dX7_ofMessage_54 (by decide) ?_
        exact kr_iret hx hcd hr hlocks hK hP hD hS (by first | exact (part_none (by omega)).symm | exact part_some (by omega) (by omega)) rfl dX7_ofMessage_62
  · refine lv_iload hx hcd dX7_ofMessage_18 (lv_at hl 0 rfl) ?_
    refine lv_iconst (v := nI 4) hx hcd dX7_ofMessage_20 (by decide) ?_
    refine kr_ceq (tgt := 30) hx hcd (by omega) (by omega) dX7_ofMessage_21 (by decide) (fun (c_21 : g_msg M i % 8 = 4) => ?_) (fun (c_21 : ¬ g_msg M i % 8 = 4) => ?_)
    · refine lv_iload_n hx hcd dX7_ofMessage_30 rfl (lv_at hl 4 rfl) ?_
      refine lv_iconst (v := nI 4) hx hcd dX7_ofMessage_31 (by decide) ?_
      refine kr_cne (tgt := 45) hx hcd (by omega) (by omega) dX7_ofMessage_32 (by decide) (fun (c_32 : ¬ wh = 4) => ?_) (fun (c_32 : wh = 4) => ?_)
      · refine lv_iconst (v := nI 0) hx hcd dX7_ofMessage_45 (by decide) ?_
        refine lv_istore (lv' := [(5, .int (nI 0)), (4, .int (nI (g_msg M i % 8))), (3, .int (nI (g_msg M i))), (0, .ref (z 0)), (1, .int (nI i)), (2, .int (nI wh))]) hx hcd dX7_ofMessage_46 hl (by decide) rfl (fun ls hl => ?_)
        refine lv_iload hx hcd dX7_ofMessage_48 (lv_at hl 0 rfl) ?_
        refine kr_zeq (tgt := 57) hx hcd (by omega) dX7_ofMessage_50 (by decide) (fun (c_50 : 0 = 0) => ?_) (fun (c_50 : 0 < 0) => absurd c_50 (by omega))
        refine lv_iload_n hx hcd dX7_ofMessage_57 rfl (lv_at hl 2 rfl) ?_
        refine lv_iload_n hx hcd dX7_ofMessage_58 rfl (lv_at hl 5 rfl) ?_
        refine kr_Si (As := [.int (nI (g_msg M i)), .int (nI wh)]) (rest := []) (ws2 := wMo cI z x hh M) ⟨hx, hcd, hml, hown, hts⟩ (c_X7_part l D cI cB cW cL  _ M (g_msg M i) wh (by omega) (i_msglt hI i)) (va_cwS 2 hts gX7_ofMessage_X7_part rfl rfl rfl (by decide +kernel) ⟨Nat.le_of_ble_eq_true rfl, Nat.le_of_ble_eq_true rfl⟩) hK hP hD hS hA [] rfl (by decide) rfl rfl rfl hl.1 rfl (Nat.le_of_ble_eq_true rfl) dX7_ofMessage_59 ⟨Nat.zero_le _, Nat.zero_le _⟩ (fun H locs hP hD hS => ?_)
        exact kr_iret hx hcd hr hlocks hK hP hD hS (by first | exact (part_none (by omega)).symm | exact part_some (by omega) (by omega)) rfl dX7_ofMessage_62
      · refine lv_iload hx hcd dX7_ofMessage_35 (lv_at hl 0 rfl) ?_
        refine lv_iconst (v := nI 4) hx hcd dX7_ofMessage_37 (by decide) ?_
        refine kr_ceq (tgt := 45) hx hcd (by omega) (by omega) dX7_ofMessage_38 (by decide) (fun (c_38 : g_msg M i % 8 = 4) => ?_) (fun (c_38 : ¬ g_msg M i % 8 = 4) => ?_)
        · refine lv_iconst (v := nI 0) hx hcd dX7_ofMessage_45 (by decide) ?_
          refine lv_istore (lv' := [(5, .int (nI 0)), (4, .int (nI (g_msg M i % 8))), (3, .int (nI (g_msg M i))), (0, .ref (z 0)), (1, .int (nI i)), (2, .int (nI wh))]) hx hcd dX7_ofMessage_46 hl (by decide) rfl (fun ls hl => ?_)
          refine lv_iload hx hcd dX7_ofMessage_48 (lv_at hl 0 rfl) ?_
          refine kr_zeq (tgt := 57) hx hcd (by omega) dX7_ofMessage_50 (by decide) (fun (c_50 : 0 = 0) => ?_) (fun (c_50 : 0 < 0) => absurd c_50 (by omega))
          refine lv_iload_n hx hcd dX7_ofMessage_57 rfl (lv_at hl 2 rfl) ?_
          refine lv_iload_n hx hcd dX7_ofMessage_58 rfl (lv_at hl 5 rfl) ?_
          refine kr_Si (As := [.int (nI (g_msg M i)), .int (nI wh)]) (rest := []) (ws2 := wMo cI z x hh M) ⟨hx, hcd, hml, hown, hts⟩ (c_X7_part l D cI cB cW cL  _ M (g_msg M i) wh (by omega) (i_msglt hI i)) (va_cwS 2 hts gX7_ofMessage_X7_part rfl rfl rfl (by decide +kernel) ⟨Nat.le_of_ble_eq_true rfl, Nat.le_of_ble_eq_true rfl⟩) hK hP hD hS hA [] rfl (by decide) rfl rfl rfl hl.1 rfl (Nat.le_of_ble_eq_true rfl) dX7_ofMessage_59 ⟨Nat.zero_le _, Nat.zero_le _⟩ (fun H locs hP hD hS => ?_)
          exact kr_iret hx hcd hr hlocks hK hP hD hS (by first | exact (part_none (by omega)).symm | exact part_some (by omega) (by omega)) rfl dX7_ofMessage_62
        · refine lv_iconst (v := nI 1) hx hcd dX7_ofMessage_41 (by decide) ?_
          refine lv_goto (tgt := 46) hx hcd dX7_ofMessage_42 (by decide) ?_
          refine lv_istore (lv' := [(5, .int (nI 1)), (4, .int (nI (g_msg M i % 8))), (3, .int (nI (g_msg M i))), (0, .ref (z 0)), (1, .int (nI i)), (2, .int (nI wh))]) hx hcd dX7_ofMessage_46 hl (by decide) rfl (fun ls hl => ?_)
          refine lv_iload hx hcd dX7_ofMessage_48 (lv_at hl 0 rfl) ?_
          refine kr_zeq (tgt := 57) hx hcd (by omega) dX7_ofMessage_50 (by decide) (fun (c_50 : 1 = 0) => absurd c_50 (by omega)) (fun (c_50 : 0 < 1) => ?_)
          refine lv_iconst (v := (-1)) hx hcd dX7_ofMessage_53 (by decide) ?_
          refine lv_goto (tgt := 62) hx hcd dX7_ofMessage_54 (by decide) ?_
          exact kr_iret hx hcd hr hlocks hK hP hD hS (by first | exact (part_none (by omega)).symm | exact part_some (by omega) (by omega)) rfl dX7_ofMessage_62
    · refine lv_iload hx hcd dX7_ofMessage_24 (lv_at hl 0 rfl) ?_
      refine lv_iconst (v := nI 5) hx hcd dX7_ofMessage_26 (by decide) ?_
      refine kr_cne (tgt := 41) hx hcd (by omega) (by omega) dX7_ofMessage_27 (by decide) (fun (c_27 : ¬ g_msg M i % 8 = 5) => ?_) (fun (c_27 : g_msg M i % 8 = 5) => ?_)
      · refine lv_iconst (v := nI 1) hx hcd dX7_ofMessage_41 (by decide) ?_
        refine lv_goto (tgt := 46) hx hcd dX7_ofMessage_42 (by decide) ?_
        refine lv_istore (lv' := [(5, .int (nI 1)), (4, .int (nI (g_msg M i % 8))), (3, .int (nI (g_msg M i))), (0, .ref (z 0)), (1, .int (nI i)), (2, .int (nI wh))]) hx hcd dX7_ofMessage_46 hl (by decide) rfl (fun ls hl => ?_)
        refine lv_iload hx hcd dX7_ofMessage_48 (lv_at hl 0 rfl) ?_
        refine kr_zeq (tgt := 57) hx hcd (by omega) dX7_ofMessage_50 (by decide) (fun (c_50 : 1 = 0) => absurd c_50 (by omega)) (fun (c_50 : 0 < 1) => ?_)
        refine lv_iconst (v := (-1)) hx hcd dX7_ofMessage_53 (by decide) ?_
        refine lv_goto (tgt := 62) hx hcd dX7_ofMessage_54 (by decide) ?_
        exact kr_iret hx hcd hr hlocks hK hP hD hS (by first | exact (part_none (by omega)).symm | exact part_some (by omega) (by omega)) rfl dX7_ofMessage_62
      · refine lv_iload_n hx hcd dX7_ofMessage_30 rfl (lv_at hl 4 rfl) ?_
        refine lv_iconst (v := nI 4) hx hcd dX7_ofMessage_31 (by decide) ?_
        refine kr_cne (tgt := 45) hx hcd (by omega) (by omega) dX7_ofMessage_32 (by decide) (fun (c_32 : ¬ wh = 4) => ?_) (fun (c_32 : wh = 4) => ?_)
        · refine lv_iconst (v := nI 0) hx hcd dX7_ofMessage_45 (by decide) ?_
          refine lv_istore (lv' := [(5, .int (nI 0)), (4, .int (nI (g_msg M i % 8))), (3, .int (nI (g_msg M i))), (0, .ref (z 0)), (1, .int (nI i)), (2, .int (nI wh))]) hx hcd dX7_ofMessage_46 hl (by decide) rfl (fun ls hl => ?_)
          refine lv_iload hx hcd dX7_ofMessage_48 (lv_at hl 0 rfl) ?_
          refine kr_zeq (tgt := 57) hx hcd (by omega) dX7_ofMessage_50 (by decide) (fun (c_50 : 0 = 0) => ?_) (fun (c_50 : 0 < 0) => absurd c_50 (by omega))
          refine lv_iload_n hx hcd dX7_ofMessage_57 rfl (lv_at hl 2 rfl) ?_
          refine lv_iload_n hx hcd dX7_ofMessage_58 rfl (lv_at hl 5 rfl) ?_
          refine kr_Si (As := [.int (nI (g_msg M i)), .int (nI wh)]) (rest := []) (ws2 := wMo cI z x hh M) ⟨hx, hcd, hml, hown, hts⟩ (c_X7_part l D cI cB cW cL  _ M (g_msg M i) wh (by omega) (i_msglt hI i)) (va_cwS 2 hts gX7_ofMessage_X7_part rfl rfl rfl (by decide +kernel) ⟨Nat.le_of_ble_eq_true rfl, Nat.le_of_ble_eq_true rfl⟩) hK hP hD hS hA [] rfl (by decide) rfl rfl rfl hl.1 rfl (Nat.le_of_ble_eq_true rfl) dX7_ofMessage_59 ⟨Nat.zero_le _, Nat.zero_le _⟩ (fun H locs hP hD hS => ?_)
          exact kr_iret hx hcd hr hlocks hK hP hD hS (by first | exact (part_none (by omega)).symm | exact part_some (by omega) (by omega)) rfl dX7_ofMessage_62
        · refine lv_iload hx hcd dX7_ofMessage_35 (lv_at hl 0 rfl) ?_
          refine lv_iconst (v := nI 4) hx hcd dX7_ofMessage_37 (by decide) ?_
          refine kr_ceq (tgt := 45) hx hcd (by omega) (by omega) dX7_ofMessage_38 (by decide) (fun (c_38 : g_msg M i % 8 = 4) => ?_) (fun (c_38 : ¬ g_msg M i % 8 = 4) => ?_)
          · refine lv_iconst (v := nI 0) hx hcd dX7_ofMessage_45 (by decide) ?_
            refine lv_istore (lv' := [(5, .int (nI 0)), (4, .int (nI (g_msg M i % 8))), (3, .int (nI (g_msg M i))), (0, .ref (z 0)), (1, .int (nI i)), (2, .int (nI wh))]) hx hcd dX7_ofMessage_46 hl (by decide) rfl (fun ls hl => ?_)
            refine lv_iload hx hcd dX7_ofMessage_48 (lv_at hl 0 rfl) ?_
            refine kr_zeq (tgt := 57) hx hcd (by omega) dX7_ofMessage_50 (by decide) (fun (c_50 : 0 = 0) => ?_) (fun (c_50 : 0 < 0) => absurd c_50 (by omega))
            refine lv_iload_n hx hcd dX7_ofMessage_57 rfl (lv_at hl 2 rfl) ?_
            refine lv_iload_n hx hcd dX7_ofMessage_58 rfl (lv_at hl 5 rfl) ?_
            refine kr_Si (As := [.int (nI (g_msg M i)), .int (nI wh)]) (rest := []) (ws2 := wMo cI z x hh M) ⟨hx, hcd, hml, hown, hts⟩ (c_X7_part l D cI cB cW cL  _ M (g_msg M i) wh (by omega) (i_msglt hI i)) (va_cwS 2 hts gX7_ofMessage_X7_part rfl rfl rfl (by decide +kernel) ⟨Nat.le_of_ble_eq_true rfl, Nat.le_of_ble_eq_true rfl⟩) hK hP hD hS hA [] rfl (by decide) rfl rfl rfl hl.1 rfl (Nat.le_of_ble_eq_true rfl) dX7_ofMessage_59 ⟨Nat.zero_le _, Nat.zero_le _⟩ (fun H locs hP hD hS => ?_)
            exact kr_iret hx hcd hr hlocks hK hP hD hS (by first | exact (part_none (by omega)).symm | exact part_some (by omega) (by omega)) rfl dX7_ofMessage_62
          · refine lv_iconst (v := nI 1) hx hcd dX7_ofMessage_41 (by decide) ?_
            refine lv_goto (tgt := 46) hx hcd dX7_ofMessage_42 (by decide) ?_
            refine lv_istore (lv' := [(5, .int (nI 1)), (4, .int (nI (g_msg M i % 8))), (3, .int (nI (g_msg M i))), (0, .ref (z 0)), (1, .int (nI i)), (2, .int (nI wh))]) hx hcd dX7_ofMessage_46 hl (by decide) rfl (fun ls hl => ?_)
            refine lv_iload hx hcd dX7_ofMessage_48 (lv_at hl 0 rfl) ?_
            refine kr_zeq (tgt := 57) hx hcd (by omega) dX7_ofMessage_50 (by decide) (fun (c_50 : 1 = 0) => absurd c_50 (by omega)) (fun (c_50 : 0 < 1) => ?_)
            refine lv_iconst (v := (-1)) hx hcd dX7_ofMessage_53 (by decide) ?_
            refine lv_goto (tgt := 62) hx hcd dX7_ofMessage_54 (by decide) ?_
            exact kr_iret hx hcd hr hlocks hK hP hD hS (by first | exact (part_none (by omega)).symm | exact part_some (by omega) (by omega)) rfl dX7_ofMessage_62

set_option maxHeartbeats 4000000 in
set_option maxRecDepth 100000 in
theorem c_X7_rest (l : Launch) (D : va_G) (cI cB cW cL : ClassId) (z : Nat → Nat) (x : Nat → Int32) (hh : Int64) (sz : Nat) (M : kM) (hI : kInv M) : kMi l yX7_rest wsX7_rest ({ frames := 5, cells := 0, slots := 0, locals := 118 }) D vwCl (kT cI cB cW cL) sz [.ref (z 0)] (wMo cI z x hh M) (wMo cI z x hh (g_del 1000 M)) (if wyN (g_del 1000 M) = 0 then nI (g_delC 1000 M) else -1) := by
  refine kr_ofi (cc := cX7_rest) (maxL := 2) (ret := (some .int)) (by decide) rfl (Nat.le_of_ble_eq_true rfl) ?_
  intro pp ee ss mm args below meth cc AA ls hx hcd hr hts hown hlocks hml hK hP hD hA hl
  have hS : va_S AA ss.heap ss.heap [] := va_S.rf
  have hown : ss.vm.findClass RX7 = some mm.cls := hown
  have hl : lv_has ls 2 [(0, .ref (z 0))] := hl
  have uX7 : ∀ w ∈ u_ws RX7 TX7 10, w ∈ wsX7_rest := by decide +kernel
  refine lv_aload_n hx hcd dX7_rest_0 rfl (lv_at hl 0 rfl) ?_
  refine lv_sipush (v := nI 1000) hx hcd dX7_rest_1 (by decide) ?_
  refine kr_Vi (As := [.int (nI 1000)]) (rest := []) (ws2 := wMo cI z x hh (g_del 1000 M)) (q := (RX7, TX7, 10)) ⟨hx, hcd, hml, hown, hts⟩ (c_X7_delivers l D cI cB cW cL z x hh _ M 1000 hI (by omega)) (cwV 1 hts gX7_rest_X7_delivers rfl rfl rfl (by decide +kernel) ⟨Nat.le_of_ble_eq_true rfl, Nat.le_of_ble_eq_true rfl⟩) hK hP hD hS hA [0, 1] wMo_allC (by decide) wMo_adr wMo_all 0 rfl rfl rfl hl.1 rfl (Nat.le_of_ble_eq_true rfl) dX7_rest_4 ⟨Nat.zero_le _, Nat.zero_le _⟩ (fun H locs hP hD hS => ?_)
  have hI_1 : kInv (g_del 1000 M) := i_del _ hI
  refine lv_istore_n (lv' := [(1, .int (nI (g_delC 1000 M))), (0, .ref (z 0))]) hx hcd dX7_rest_7 rfl hl (by decide) rfl (fun ls hl => ?_)
  refine lv_aload_n hx hcd dX7_rest_8 rfl (lv_at hl 1 rfl) ?_
  refine kr_get hx hcd hts uX7 hown hK hP 0 rfl rfl 0 (by decide) (by decide +kernel) (v := .ref (z 1)) rfl dX7_rest_9 ?_
  refine lv_sipush (v := nI 577) hx hcd dX7_rest_12 (by decide) ?_
  refine kr_iald hx hcd hK hP 1 0 rfl rfl (v := (g_del 1000 M) 577) (by omega) (by decide) (congrArg (g_del 1000 M) (by omega)) dX7_rest_15 ?_
  refine kr_top (w := nI (wyN (g_del 1000 M))) (i_wy (i_del 1000 hI)) ?_
  have b577 := i_wyle (i_del 1000 hI)
  refine kr_zle (tgt := 23) hx hcd (by omega) dX7_rest_16 (by decide) (fun (c_16 : wyN (g_del 1000 M) = 0) => ?_) (fun (c_16 : 0 < wyN (g_del 1000 M)) => ?_)
  · refine lv_iload_n hx hcd dX7_rest_23 rfl (lv_at hl 0 rfl) ?_
    exact kr_iret hx hcd hr hlocks hK hP hD hS (by first | (rw [if_pos c_16]) | (rw [if_neg (by omega)])) rfl dX7_rest_24
  · refine lv_iconst (v := (-1)) hx hcd dX7_rest_19 (by decide) ?_
    refine lv_goto (tgt := 24) hx hcd dX7_rest_20 (by decide) ?_
    exact kr_iret hx hcd hr hlocks hK hP hD hS (by first | (rw [if_pos c_16]) | (rw [if_neg (by omega)])) rfl dX7_rest_24

set_option maxHeartbeats 4000000 in
set_option maxRecDepth 100000 in
theorem c_X7_isMessage (l : Launch) (D : va_G) (cI cB cW cL : ClassId) (z : Nat → Nat) (x : Nat → Int32) (hh : Int64) (sz : Nat) (M : kM) (v : Int32) (hI : kInv M) : kMi l yX7_isMessage wsX7_isMessage ({ frames := 1, cells := 0, slots := 0, locals := 22 }) D vwCl (kT cI cB cW cL) sz [.ref (z 0), .int v] (wMo cI z x hh M) (wMo cI z x hh M) (kI (g_in v 0 (M 577 - 1))) := by
  refine kr_ofi (cc := cX7_isMessage) (maxL := 2) (ret := (some .boolean)) (by decide) rfl (Nat.le_of_ble_eq_true rfl) ?_
  intro pp ee ss mm args below meth cc AA ls hx hcd hr hts hown hlocks hml hK hP hD hA hl
  have hS : va_S AA ss.heap ss.heap [] := va_S.rf
  have hown : ss.vm.findClass RX7 = some mm.cls := hown
  have hl : lv_has ls 2 [(0, .ref (z 0)), (1, .int v)] := hl
  have uX7 : ∀ w ∈ u_ws RX7 TX7 10, w ∈ wsX7_isMessage := by decide +kernel
  refine lv_iload_n hx hcd dX7_isMessage_0 rfl (lv_at hl 1 rfl) ?_
  refine lv_iconst (v := nI 0) hx hcd dX7_isMessage_1 (by decide) ?_
  refine lv_aload_n hx hcd dX7_isMessage_2 rfl (lv_at hl 0 rfl) ?_
  refine kr_get hx hcd hts uX7 hown hK hP 0 rfl rfl 0 (by decide) (by decide +kernel) (v := .ref (z 1)) rfl dX7_isMessage_3 ?_
  refine lv_sipush (v := nI 577) hx hcd dX7_isMessage_6 (by decide) ?_
  refine kr_iald hx hcd hK hP 1 0 rfl rfl (v := M 577) (by omega) (by decide) (congrArg M (by omega)) dX7_isMessage_9 ?_
  refine lv_iconst (v := nI 1) hx hcd dX7_isMessage_10 (by decide) ?_
  refine lv_isub hx hcd dX7_isMessage_11 ?_
  refine kr_Si (As := [.int v, .int (nI 0), .int ((M 577) - 1)]) (rest := []) (ws2 := wMo cI z x hh M) ⟨hx, hcd, hml, hown, hts⟩ (c_X7_in l D cI cB cW cL  _ M v 0 ((M 577) - 1)) (va_cwS 3 hts gX7_isMessage_X7_in rfl rfl rfl (by decide +kernel) ⟨Nat.le_of_ble_eq_true rfl, Nat.le_of_ble_eq_true rfl⟩) hK hP hD hS hA [] rfl (by decide) rfl rfl rfl hl.1 rfl (Nat.le_of_ble_eq_true rfl) dX7_isMessage_12 ⟨Nat.zero_le _, Nat.zero_le _⟩ (fun H locs hP hD hS => ?_)
  exact kr_zret hx hcd hr hlocks hK hP hD hS kr_nb rfl rfl dX7_isMessage_15
