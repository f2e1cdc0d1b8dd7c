set_option maxHeartbeats 4000000 in
set_option maxRecDepth 100000 in
theorem c_X5_switchOn (l : Launch) (D : va_G) (cI cB cW cL : ClassId) (q : Nat → Nat) (sz : Nat) (M : kM) (a : Nat) (s : Nat) (rk : Int32) (d : Nat) (hI : kInv M) (ha : a < 6) (hs : s < 3) (hd : d < 5) : kMi l yX5_switchOn wsX5_switchOn ({ frames := 3, cells := 0, slots := 0, locals := 75 }) D vwCl (kT cI cB cW cL) sz [.ref (q 0), .int (nI a), .int (nI s), .int rk, .int (nI d)] (wW cI q M) (wW cI q (g_turnOn M a s rk d)) (g_cnt (g_turnOn M a s rk d) a) := by
  refine kr_ofi (cc := cX5_switchOn) (maxL := 7) (ret := (some .int)) (by decide) rfl (Nat.le_of_ble_eq_true rfl) ?_
  intro pp ee ss mm args below meth cc AA ls hx hcd hr hts hown hlocks hml hK hP hD hA hl
  have hS : va_S AA ss.heap ss.heap [] := va_S.rf
  have hown : ss.vm.findClass RX5 = some mm.cls := hown
  have hl : lv_has ls 7 [(0, .ref (q 0)), (1, .int (nI a)), (2, .int (nI s)), (3, .int rk), (4, .int (nI d))] := hl
  have uX5 : ∀ w ∈ u_ws RX5 TX5 5, w ∈ wsX5_switchOn := by decide +kernel
  refine lv_aload_n hx hcd dX5_switchOn_0 rfl (lv_at hl 0 rfl) ?_
  refine kr_get hx hcd hts uX5 hown hK hP 0 rfl rfl 0 (by decide) (by decide +kernel) (v := .ref (q 1)) rfl dX5_switchOn_1 ?_
  refine lv_iload_n hx hcd dX5_switchOn_4 rfl (lv_at hl 1 rfl) ?_
  refine kr_Vi (As := [.int (nI a)]) (rest := []) (ws2 := wW cI q M) (q := (RX3, TX3, 3)) ⟨hx, hcd, hml, hown, hts⟩ (c_X3_isThere l D cI cB cW cL q _ M a (by omega)) (cwV 1 hts gX5_switchOn_X3_isThere rfl rfl rfl (by decide +kernel) ⟨Nat.le_of_ble_eq_true rfl, Nat.le_of_ble_eq_true rfl⟩) hK hP hD hS hA [1, 2, 3, 4] wW_SeC (by decide) wSe_adr wW_Se0 1 rfl rfl rfl hl.1 rfl (Nat.le_of_ble_eq_true rfl) dX5_switchOn_5 ⟨Nat.zero_le _, Nat.zero_le _⟩ (fun H locs hP hD hS => ?_)
  refine lv_istore (lv' := [(5, .int (kI (g_there M a))), (0, .ref (q 0)), (1, .int (nI a)), (2, .int (nI s)), (3, .int rk), (4, .int (nI d))]) hx hcd dX5_switchOn_8 hl (by decide) rfl (fun ls hl => ?_)
  refine lv_aload_n hx hcd dX5_switchOn_10 rfl (lv_at hl 1 rfl) ?_
  refine kr_get hx hcd hts uX5 hown hK hP 0 rfl rfl 0 (by decide) (by decide +kernel) (v := .ref (q 1)) rfl dX5_switchOn_11 ?_
  refine lv_iload_n hx hcd dX5_switchOn_14 rfl (lv_at hl 2 rfl) ?_
  refine lv_iload_n hx hcd dX5_switchOn_15 rfl (lv_at hl 3 rfl) ?_
  refine lv_iload_n hx hcd dX5_switchOn_16 rfl (lv_at hl 4 rfl) ?_
  refine lv_iload hx hcd dX5_switchOn_17 (lv_at hl 5 rfl) ?_
  refine kr_Vv (As := [.int (nI a), .int (nI s), .int rk, .int (nI d)]) (rest := []) (ws2 := wW cI q (g_set M a s rk (nI d))) (q := (RX3, TX3, 3)) ⟨hx, hcd, hml, hown, hts⟩ (c_X3_set l D cI cB cW cL q _ M a s rk (nI d) (by omega) (by omega)) (cwV 4 hts gX5_switchOn_X3_set rfl rfl rfl (by decide +kernel) ⟨Nat.le_of_ble_eq_true rfl, Nat.le_of_ble_eq_true rfl⟩) hK hP hD hS hA [1, 2, 3, 4] wW_SeC (by decide) wSe_adr (wW_se (fun k hk => o_set (by omega) (by omega) hk)) 1 rfl rfl rfl hl.1 rfl (Nat.le_of_ble_eq_true rfl) dX5_switchOn_19 ⟨Nat.zero_le _, Nat.zero_le _⟩ (fun H locs hP hD hS => ?_)
  have hI_1 : kInv (g_set M a s rk (nI d)) := i_set hI (by omega) (by omega) hd
  refine lv_iload hx hcd dX5_switchOn_22 (lv_at hl 0 rfl) ?_
  refine kr_bne (tgt := 74) hx hcd dX5_switchOn_24 (by decide) (fun (c_24 : g_there M a = true) => ?_) (fun (c_24 : g_there M a = false) => ?_)
  · refine lv_aload_n hx hcd dX5_switchOn_74 rfl (lv_at hl 1 rfl) ?_
    refine lv_iconst (v := nI 4) hx hcd dX5_switchOn_75 (by decide) ?_
    refine lv_iload_n hx hcd dX5_switchOn_76 rfl (lv_at hl 2 rfl) ?_
    refine lv_iload_n hx hcd dX5_switchOn_77 rfl (lv_at hl 3 rfl) ?_
    refine lv_iload hx hcd dX5_switchOn_78 (lv_at hl 5 rfl) ?_
    refine kr_Vv (As := [.int (nI 4), .int (nI a), .int (nI s), .int (nI d)]) (rest := []) (ws2 := wW cI q (g_seers (g_set M a s rk (nI d)) 2 4 a s d)) (q := (RX5, TX5, 5)) ⟨hx, hcd, hml, hown, hts⟩ (c_X5_sendToSeers l D cI cB cW cL q _ (g_set M a s rk (nI d)) 4 a s (nI d) d hI_1 (by omega) (by omega) (by omega) (by omega) (by omega) (by rw [if_pos (by omega)]; exact e_one)) (cwV 4 hts gX5_switchOn_X5_sendToSeers rfl rfl rfl (by decide +kernel) ⟨Nat.le_of_ble_eq_true rfl, Nat.le_of_ble_eq_true rfl⟩) hK hP hD hS hA [0, 1, 2, 3, 4, 5, 6, 7, 8, 9, 10, 11, 12, 13, 14] wW_allC (by decide) wW_adr wW_all 0 rfl rfl rfl hl.1 rfl (Nat.le_of_ble_eq_true rfl) dX5_switchOn_80 ⟨Nat.zero_le _, Nat.zero_le _⟩ (fun H locs hP hD hS => ?_)
    have hI_2 : kInv (g_seers (g_set M a s rk (nI d)) 2 4 a s d) := i_seers hI_1 (by omega) (by omega) (by omega) (by omega) (by omega) (by omega)
    refine lv_aload_n hx hcd dX5_switchOn_83 rfl (lv_at hl 1 rfl) ?_
    refine kr_get hx hcd hts uX5 hown hK hP 0 rfl rfl 0 (by decide) (by decide +kernel) (v := .ref (q 1)) rfl dX5_switchOn_84 ?_
    refine lv_iload_n hx hcd dX5_switchOn_87 rfl (lv_at hl 2 rfl) ?_
    refine kr_Vi (As := [.int (nI a)]) (rest := []) (ws2 := wW cI q (g_seers (g_set M a s rk (nI d)) 2 4 a s d)) (q := (RX3, TX3, 3)) ⟨hx, hcd, hml, hown, hts⟩ (c_X3_onCount l D cI cB cW cL q _ (g_seers (g_set M a s rk (nI d)) 2 4 a s d) a (by omega)) (cwV 1 hts gX5_switchOn_X3_onCount rfl rfl rfl (by decide +kernel) ⟨Nat.le_of_ble_eq_true rfl, Nat.le_of_ble_eq_true rfl⟩) hK hP hD hS hA [1, 2, 3, 4] wW_SeC (by decide) wSe_adr wW_Se0 1 rfl rfl rfl hl.1 rfl (Nat.le_of_ble_eq_true rfl) dX5_switchOn_88 ⟨Nat.zero_le _, Nat.zero_le _⟩ (fun H locs hP hD hS => ?_)
    exact kr_iret hx hcd hr hlocks hK hP hD hS (by first | (rw [g_turnOn, if_pos c_24]) | (rw [g_turnOn, if_neg (by simp [c_24])]; rfl)) (congrArg (fun M9 => wW cI q M9) (by first | (rw [g_turnOn, if_pos c_24]) | (rw [g_turnOn, if_neg (by simp [c_24])]; rfl))) dX5_switchOn_91
  · refine lv_aload_n hx hcd dX5_switchOn_27 rfl (lv_at hl 1 rfl) ?_
    refine kr_get hx hcd hts uX5 hown hK hP 0 rfl rfl 2 (by decide) (by decide +kernel) (v := .ref (q 9)) rfl dX5_switchOn_28 ?_
    refine lv_iload_n hx hcd dX5_switchOn_31 rfl (lv_at hl 2 rfl) ?_
    refine kr_Vv (As := [.int (nI a)]) (rest := []) (ws2 := wW cI q (g_forgetAll (g_set M a s rk (nI d)) a)) (q := (RX4, TX4, 1)) ⟨hx, hcd, hml, hown, hts⟩ (c_X4_forgetAll l D cI cB cW cL q _ (g_set M a s rk (nI d)) a (by omega)) (cwV 1 hts gX5_switchOn_X4_forgetAll rfl rfl rfl (by decide +kernel) ⟨Nat.le_of_ble_eq_true rfl, Nat.le_of_ble_eq_true rfl⟩) hK hP hD hS hA [9, 10] wW_ViC (by decide) wVi_adr (wW_vi (fun k hk => o_forgetAll (by omega) hk)) 9 rfl rfl rfl hl.1 rfl (Nat.le_of_ble_eq_true rfl) dX5_switchOn_32 ⟨Nat.zero_le _, Nat.zero_le _⟩ (fun H locs hP hD hS => ?_)
    have hI_3 : kInv (g_forgetAll (g_set M a s rk (nI d)) a) := i_forgetAll hI_1 (by omega)
    refine lv_iconst (v := nI 0) hx hcd dX5_switchOn_35 (by decide) ?_
    refine lv_istore (lv' := [(6, .int (nI 0)), (5, .int (kI (g_there M a))), (0, .ref (q 0)), (1, .int (nI a)), (2, .int (nI s)), (3, .int rk), (4, .int (nI d))]) hx hcd dX5_switchOn_36 hl (by decide) rfl (fun ls hl => ?_)
    refine kr_up (fun i => wW cI q (g_seersN (g_forgetAll (g_set M a s rk (nI d)) a) 1 6 a 0 0 i)) (fun i => [(0, .ref (q 0)), (1, .int (nI a)), (2, .int (nI s)), (3, .int rk), (4, .int (nI d)), (5, .int (kI (g_there M a))), (6, .int (nI i))]) 6 (nL := 7) (fun i hi ih_38 H locs ls hP hD hS hl => ?_) (fun H locs ls hP hD hS hl => ?_) 0 (by omega) hP hD hS (lv_sub hl [2, 3, 4, 5, 6, 1, 0] rfl)
    · have hl : lv_has ls 7 [(0, .ref (q 0)), (1, .int (nI a)), (2, .int (nI s)), (3, .int rk), (4, .int (nI d)), (5, .int (kI (g_there M a))), (6, .int (nI i))] := hl
      have hJ := i_seersN (i_forgetAll (i_set hI (rk := rk) ha hs hd) ha) (mk := 1) (k := 6) (a := a) (s := 0) (d := 0) (by omega) ha (by omega) (by omega) (by omega) (by omega) i (by omega)
      refine lv_iload hx hcd dX5_switchOn_38 (lv_at hl 6 rfl) ?_
      refine lv_bipush (v := nI 6) hx hcd dX5_switchOn_40 (by decide) ?_
      refine kr_cge (tgt := 74) hx hcd (by omega) (by omega) dX5_switchOn_42 (by decide) (fun (c_42 : 6 ≤ i) => absurd c_42 (by omega)) (fun (c_42 : i < 6) => ?_)
      refine lv_aload_n hx hcd dX5_switchOn_45 rfl (lv_at hl 0 rfl) ?_
      refine kr_get hx hcd hts uX5 hown hK hP 0 rfl rfl 1 (by decide) (by decide +kernel) (v := .ref (q 5)) rfl dX5_switchOn_46 ?_
      refine lv_iload_n hx hcd dX5_switchOn_49 rfl (lv_at hl 1 rfl) ?_
      refine lv_iload hx hcd dX5_switchOn_50 (lv_at hl 6 rfl) ?_
      refine lv_iconst (v := nI 1) hx hcd dX5_switchOn_52 (by decide) ?_
      refine kr_Vi (As := [.int (nI a), .int (nI i), .int (nI 1)]) (rest := []) (ws2 := wW cI q (g_seersN (g_forgetAll (g_set M a s rk (nI d)) a) 1 6 a 0 0 i)) (q := (RX1, TX1, 3)) ⟨hx, hcd, hml, hown, hts⟩ (c_X1_hasAny l D cI cB cW cL q _ (g_seersN (g_forgetAll (g_set M a s rk (nI d)) a) 1 6 a 0 0 i) a i 1 (by omega) (by omega)) (cwV 3 hts gX5_switchOn_X1_hasAny rfl rfl rfl (by decide +kernel) ⟨Nat.le_of_ble_eq_true rfl, Nat.le_of_ble_eq_true rfl⟩) hK hP hD hS hA [5, 6, 7, 8] wW_RoC (by decide) wRo_adr wW_Ro0 5 rfl rfl rfl hl.1 rfl (Nat.le_of_ble_eq_true rfl) dX5_switchOn_53 ⟨Nat.zero_le _, Nat.zero_le _⟩ (fun H locs hP hD hS => ?_)
      refine kr_beq (tgt := 68) hx hcd dX5_switchOn_56 (by decide) (fun (c_56 : g_has (g_seersN (g_forgetAll (g_set M a s rk (nI d)) a) 1 6 a 0 0 i) a i 1 = false) => ?_) (fun (c_56 : g_has (g_seersN (g_forgetAll (g_set M a s rk (nI d)) a) 1 6 a 0 0 i) a i 1 = true) => ?_)
      · refine kr_iinc (lv' := [(6, .int (nI (i + 1))), (0, .ref (q 0)), (1, .int (nI a)), (2, .int (nI s)), (3, .int rk), (4, .int (nI d)), (5, .int (kI (g_there M a)))]) hx hcd dX5_switchOn_68 hl (k := 6) rfl (by decide) rfl (fun ls hl => ?_)
        refine lv_goto (tgt := 38) hx hcd dX5_switchOn_71 (by decide) ?_
        obtain ⟨hP, hD⟩ := kr_re (ws2 := wW cI q (g_seersN (g_forgetAll (g_set M a s rk (nI d)) a) 1 6 a 0 0 (i + 1))) hP hD (congrArg (fun M9 => wW cI q M9) (by simp [g_seersN, c_24, c_42, c_56]))
        exact ih_38 H locs ls hP hD hS (lv_sub hl [1, 2, 3, 4, 5, 6, 0] rfl)
      · refine lv_aload_n hx hcd dX5_switchOn_59 rfl (lv_at hl 0 rfl) ?_
        refine lv_bipush (v := nI 6) hx hcd dX5_switchOn_60 (by decide) ?_
        refine lv_iload_n hx hcd dX5_switchOn_62 rfl (lv_at hl 1 rfl) ?_
        refine lv_iload hx hcd dX5_switchOn_63 (lv_at hl 6 rfl) ?_
        refine kr_Vv (As := [.int (nI 6), .int (nI a), .int (nI i)]) (rest := []) (ws2 := wW cI q (g_send (g_seersN (g_forgetAll (g_set M a s rk (nI d)) a) 1 6 a 0 0 i) 6 a i 0 0)) (q := (RX5, TX5, 5)) ⟨hx, hcd, hml, hown, hts⟩ (c_X5_send l D cI cB cW cL q _ (g_seersN (g_forgetAll (g_set M a s rk (nI d)) a) 1 6 a 0 0 i) 6 a i hJ (by omega) (by omega) (by omega) (by omega) (by omega)) (cwV 3 hts gX5_switchOn_X5_send rfl rfl rfl (by decide +kernel) ⟨Nat.le_of_ble_eq_true rfl, Nat.le_of_ble_eq_true rfl⟩) hK hP hD hS hA [0, 1, 2, 3, 4, 5, 6, 7, 8, 9, 10, 11, 12, 13, 14] wW_allC (by decide) wW_adr wW_all 0 rfl rfl rfl hl.1 rfl (Nat.le_of_ble_eq_true rfl) dX5_switchOn_65 ⟨Nat.zero_le _, Nat.zero_le _⟩ (fun H locs hP hD hS => ?_)
        have hI_4 : kInv (g_send (g_seersN (g_forgetAll (g_set M a s rk (nI d)) a) 1 6 a 0 0 i) 6 a i 0 0) := i_send hJ (by omega) (by omega) (by omega) (by omega) (by omega) (by omega) (by omega)
        refine kr_iinc (lv' := [(6, .int (nI (i + 1))), (0, .ref (q 0)), (1, .int (nI a)), (2, .int (nI s)), (3, .int rk), (4, .int (nI d)), (5, .int (kI (g_there M a)))]) hx hcd dX5_switchOn_68 hl (k := 6) rfl (by decide) rfl (fun ls hl => ?_)
        refine lv_goto (tgt := 38) hx hcd dX5_switchOn_71 (by decide) ?_
        obtain ⟨hP, hD⟩ := kr_re (ws2 := wW cI q (g_seersN (g_forgetAll (g_set M a s rk (nI d)) a) 1 6 a 0 0 (i + 1))) hP hD (congrArg (fun M9 => wW cI q M9) (by simp [g_seersN, c_24, c_42, c_56]))
        exact ih_38 H locs ls hP hD hS (lv_sub hl [1, 2, 3, 4, 5, 6, 0] rfl)
    · have hl : lv_has ls 7 [(0, .ref (q 0)), (1, .int (nI a)), (2, .int (nI s)), (3, .int rk), (4, .int (nI d)), (5, .int (kI (g_there M a))), (6, .int (nI 6))] := hl
      have hJ := i_seersN (i_forgetAll (i_set hI (rk := rk) ha hs hd) ha) (mk := 1) (k := 6) (a := a) (s := 0) (d := 0) (by omega) ha (by omega) (by omega) (by omega) (by omega) 6 (by omega)
      refine lv_iload hx hcd dX5_switchOn_38 (lv_at hl 6 rfl) ?_
      refine lv_bipush (v := nI 6) hx hcd dX5_switchOn_40 (by decide) ?_
      refine kr_cge (tgt := 74) hx hcd (by omega) (by omega) dX5_switchOn_42 (by decide) (fun (c_42 : 6 ≤ 6) => ?_) (fun (c_42 : 6 < 6) => absurd c_42 (by omega))
      refine lv_aload_n hx hcd dX5_switchOn_74 rfl (lv_at hl 0 rfl) ?_
      refine lv_iconst (v := nI 4) hx hcd dX5_switchOn_75 (by decide) ?_
      refine lv_iload_n hx hcd dX5_switchOn_76 rfl (lv_at hl 1 rfl) ?_
      refine lv_iload_n hx hcd dX5_switchOn_77 rfl (lv_at hl 2 rfl) ?_
      refine lv_iload hx hcd dX5_switchOn_78 (lv_at hl 4 rfl) ?_
      refine kr_Vv (As := [.int (nI 4), .int (nI a), .int (nI s), .int (nI d)]) (rest := []) (ws2 := wW cI q (g_seers (g_seersN (g_forgetAll (g_set M a s rk (nI d)) a) 1 6 a 0 0 6) 2 4 a s d)) (q := (RX5, TX5, 5)) ⟨hx, hcd, hml, hown, hts⟩ (c_X5_sendToSeers l D cI cB cW cL q _ (g_seersN (g_forgetAll (g_set M a s rk (nI d)) a) 1 6 a 0 0 6) 4 a s (nI d) d hJ (by omega) (by omega) (by omega) (by omega) (by omega) (by rw [if_pos (by omega)]; exact e_one)) (cwV 4 hts gX5_switchOn_X5_sendToSeers rfl rfl rfl (by decide +kernel) ⟨Nat.le_of_ble_eq_true rfl, Nat.le_of_ble_eq_true rfl⟩) hK hP hD hS hA [0, 1, 2, 3, 4, 5, 6, 7, 8, 9, 10, 11, 12, 13, 14] wW_allC (by decide) wW_adr wW_all 0 rfl rfl rfl hl.1 rfl (Nat.le_of_ble_eq_true rfl) dX5_switchOn_80 ⟨Nat.zero_le _, Nat.zero_le _⟩ (fun H locs hP hD hS => ?_)
      have hI_5 : kInv (g_seers (g_seersN (g_forgetAll (g_set M a s rk (nI d)) a) 1 6 a 0 0 6) 2 4 a s d) := i_seers hJ (by omega) (by omega) (by omega) (by omega) (by omega) (by omega)
      refine lv_aload_n hx hcd dX5_switchOn_83 rfl (lv_at hl 0 rfl) ?_
      refine kr_get hx hcd hts uX5 hown hK hP 0 rfl rfl 0 (by decide) (by decide +kernel) (v := .ref (q 1)) rfl dX5_switchOn_84 ?_
      refine lv_iload_n hx hcd dX5_switchOn_87 rfl (lv_at hl 1 rfl) ?_
      refine kr_Vi (As := [.int (nI a)]) (rest := []) (ws2 := wW cI q (g_seers (g_seersN (g_forgetAll (g_set M a s rk (nI d)) a) 1 6 a 0 0 6) 2 4 a s d)) (q := (RX3, TX3, 3)) ⟨hx, hcd, hml, hown, hts⟩ (c_X3_onCount l D cI cB cW cL q _ (g_seers (g_seersN (g_forgetAll (g_set M a s rk (nI d)) a) 1 6 a 0 0 6) 2 4 a s d) a (by omega)) (cwV 1 hts gX5_switchOn_X3_onCount rfl rfl rfl (by decide +kernel) ⟨Nat.le_of_ble_eq_true rfl, Nat.le_of_ble_eq_true rfl⟩) hK hP hD hS hA [1, 2, 3, 4] wW_SeC (by decide) wSe_adr wW_Se0 1 rfl rfl rfl hl.1 rfl (Nat.le_of_ble_eq_true rfl) dX5_switchOn_88 ⟨Nat.zero_le _, Nat.zero_le _⟩ (fun H locs hP hD hS => ?_)
      exact kr_iret hx hcd hr hlocks hK hP hD hS (by first | (rw [g_turnOn, if_pos c_24]) | (rw [g_turnOn, if_neg (by simp [c_24])]; rfl)) (congrArg (fun M9 => wW cI q M9) (by first | (rw [g_turnOn, if_pos c_24]) | (rw [g_turnOn, if_neg (by simp [c_24])]; rfl))) dX5_switchOn_91

set_option maxHeartbeats 4000000 in
set_option maxRecDepth 100000 in
theorem c_X5_switchOff (l : Launch) (D : va_G) (cI cB cW cL : ClassId) (q : Nat → Nat) (sz : Nat) (M : kM) (a : Nat) (s : Nat) (hI : kInv M) (ha : a < 6) (hs : s < 3) : kMi l yX5_switchOff wsX5_switchOff ({ frames := 3, cells := 0, slots := 0, locals := 75 }) D vwCl (kT cI cB cW cL) sz [.ref (q 0), .int (nI a), .int (nI s)] (wW cI q M) (wW cI q (if g_on M a s = true then g_turnOff M a s else M)) (if g_on M a s = true then g_cnt (g_turnOff M a s) a else -1) := by
  refine kr_ofi (cc := cX5_switchOff) (maxL := 3) (ret := (some .int)) (by decide) rfl (Nat.le_of_ble_eq_true rfl) ?_
  intro pp ee ss mm args below meth cc AA ls hx hcd hr hts hown hlocks hml hK hP hD hA hl
  have hS : va_S AA ss.heap ss.heap [] := va_S.rf
  have hown : ss.vm.findClass RX5 = some mm.cls := hown
  have hl : lv_has ls 3 [(0, .ref (q 0)), (1, .int (nI a)), (2, .int (nI s))] := hl
  have uX5 : ∀ w ∈ u_ws RX5 TX5 5, w ∈ wsX5_switchOff := by decide +kernel
  refine lv_aload_n hx hcd dX5_switchOff_0 rfl (lv_at hl 0 rfl) ?_
  refine kr_get hx hcd hts uX5 hown hK hP 0 rfl rfl 0 (by decide) (by decide +kernel) (v := .ref (q 1)) rfl dX5_switchOff_1 ?_
  refine lv_iload_n hx hcd dX5_switchOff_4 rfl (lv_at hl 1 rfl) ?_
  refine lv_iload_n hx hcd dX5_switchOff_5 rfl (lv_at hl 2 rfl) ?_
  refine kr_Vi (As := [.int (nI a), .int (nI s)]) (rest := []) (ws2 := wW cI q M) (q := (RX3, TX3, 3)) ⟨hx, hcd, hml, hown, hts⟩ (c_X3_isOn l D cI cB cW cL q _ M a s (by omega) (by omega)) (cwV 2 hts gX5_switchOff_X3_isOn rfl rfl rfl (by decide +kernel) ⟨Nat.le_of_ble_eq_true rfl, Nat.le_of_ble_eq_true rfl⟩) hK hP hD hS hA [1, 2, 3, 4] wW_SeC (by decide) wSe_adr wW_Se0 1 rfl rfl rfl hl.1 rfl (Nat.le_of_ble_eq_true rfl) dX5_switchOff_6 ⟨Nat.zero_le _, Nat.zero_le _⟩ (fun H locs hP hD hS => ?_)
  refine kr_bne (tgt := 14) hx hcd dX5_switchOff_9 (by decide) (fun (c_9 : g_on M a s = true) => ?_) (fun (c_9 : g_on M a s = false) => ?_)
  · refine lv_aload_n hx hcd dX5_switchOff_14 rfl (lv_at hl 0 rfl) ?_
    refine kr_get hx hcd hts uX5 hown hK hP 0 rfl rfl 0 (by decide) (by decide +kernel) (v := .ref (q 1)) rfl dX5_switchOff_15 ?_
    refine lv_iload_n hx hcd dX5_switchOff_18 rfl (lv_at hl 1 rfl) ?_
    refine lv_iload_n hx hcd dX5_switchOff_19 rfl (lv_at hl 2 rfl) ?_
    refine kr_Vv (As := [.int (nI a), .int (nI s)]) (rest := []) (ws2 := wW cI q (upd M (9 * a + 3 * s) 0)) (q := (RX3, TX3, 3)) ⟨hx, hcd, hml, hown, hts⟩ (c_X3_clear l D cI cB cW cL q _ M a s (by omega) (by omega)) (cwV 2 hts gX5_switchOff_X3_clear rfl rfl rfl (by decide +kernel) ⟨Nat.le_of_ble_eq_true rfl, Nat.le_of_ble_eq_true rfl⟩) hK hP hD hS hA [1, 2, 3, 4] wW_SeC (by decide) wSe_adr (wW_se (fun k hk => upd_ne (by omega))) 1 rfl rfl rfl hl.1 rfl (Nat.le_of_ble_eq_true rfl) dX5_switchOff_20 ⟨Nat.zero_le _, Nat.zero_le _⟩ (fun H locs hP hD hS => ?_)
    have hI_1 : kInv (upd M (9 * a + 3 * s) 0) := i_onupd (b := false) hI (by omega)
    refine lv_aload_n hx hcd dX5_switchOff_23 rfl (lv_at hl 0 rfl) ?_
    refine lv_iconst (v := nI 5) hx hcd dX5_switchOff_24 (by decide) ?_
    refine lv_iload_n hx hcd dX5_switchOff_25 rfl (lv_at hl 1 rfl) ?_
    refine lv_iload_n hx hcd dX5_switchOff_26 rfl (lv_at hl 2 rfl) ?_
    refine lv_iconst (v := (-1)) hx hcd dX5_switchOff_27 (by decide) ?_
    refine kr_Vv (As := [.int (nI 5), .int (nI a), .int (nI s), .int (-1)]) (rest := []) (ws2 := wW cI q (g_seers (upd M (9 * a + 3 * s) 0) 2 5 a s 0)) (q := (RX5, TX5, 5)) ⟨hx, hcd, hml, hown, hts⟩ (c_X5_sendToSeers l D cI cB cW cL q _ (upd M (9 * a + 3 * s) 0) 5 a s (-1) 0 hI_1 (by omega) (by omega) (by omega) (by omega) (by omega) (by rw [if_neg (by omega)]; exact e_none)) (cwV 4 hts gX5_switchOff_X5_sendToSeers rfl rfl rfl (by decide +kernel) ⟨Nat.le_of_ble_eq_true rfl, Nat.le_of_ble_eq_true rfl⟩) hK hP hD hS hA [0, 1, 2, 3, 4, 5, 6, 7, 8, 9, 10, 11, 12, 13, 14] wW_allC (by decide) wW_adr wW_all 0 rfl rfl rfl hl.1 rfl (Nat.le_of_ble_eq_true rfl) dX5_switchOff_28 ⟨Nat.zero_le _, Nat.zero_le _⟩ (fun H locs hP hD hS => ?_)
    have hI_2 : kInv (g_seers (upd M (9 * a + 3 * s) 0) 2 5 a s 0) := i_seers hI_1 (by omega) (by omega) (by omega) (by omega) (by omega) (by omega)
    refine lv_aload_n hx hcd dX5_switchOff_31 rfl (lv_at hl 0 rfl) ?_
    refine kr_get hx hcd hts uX5 hown hK hP 0 rfl rfl 0 (by decide) (by decide +kernel) (v := .ref (q 1)) rfl dX5_switchOff_32 ?_
    refine lv_iload_n hx hcd dX5_switchOff_35 rfl (lv_at hl 1 rfl) ?_
    refine kr_Vi (As := [.int (nI a)]) (rest := []) (ws2 := wW cI q (g_seers (upd M (9 * a + 3 * s) 0) 2 5 a s 0)) (q := (RX3, TX3, 3)) ⟨hx, hcd, hml, hown, hts⟩ (c_X3_isThere l D cI cB cW cL q _ (g_seers (upd M (9 * a + 3 * s) 0) 2 5 a s 0) a (by omega)) (cwV 1 hts gX5_switchOff_X3_isThere rfl rfl rfl (by decide +kernel) ⟨Nat.le_of_ble_eq_true rfl, Nat.le_of_ble_eq_true rfl⟩) hK hP hD hS hA [1, 2, 3, 4] wW_SeC (by decide) wSe_adr wW_Se0 1 rfl rfl rfl hl.1 rfl (Nat.le_of_ble_eq_true rfl) dX5_switchOff_36 ⟨Nat.zero_le _, Nat.zero_le _⟩ (fun H locs hP hD hS => ?_)
    refine kr_bne (tgt := 50) hx hcd dX5_switchOff_39 (by decide) (fun (c_39 : g_there (g_seers (upd M (9 * a + 3 * s) 0) 2 5 a s 0) a = true) => ?_) (fun (c_39 : g_there (g_seers (upd M (9 * a + 3 * s) 0) 2 5 a s 0) a = false) => ?_)
    · refine lv_aload_n hx hcd dX5_switchOff_50 rfl (lv_at hl 0 rfl) ?_
      refine kr_get hx hcd hts uX5 hown hK hP 0 rfl rfl 0 (by decide) (by decide +kernel) (v := .ref (q 1)) rfl dX5_switchOff_51 ?_
      refine lv_iload_n hx hcd dX5_switchOff_54 rfl (lv_at hl 1 rfl) ?_
      refine kr_Vi (As := [.int (nI a)]) (rest := []) (ws2 := wW cI q (g_seers (upd M (9 * a + 3 * s) 0) 2 5 a s 0)) (q := (RX3, TX3, 3)) ⟨hx, hcd, hml, hown, hts⟩ (c_X3_onCount l D cI cB cW cL q _ (g_seers (upd M (9 * a + 3 * s) 0) 2 5 a s 0) a (by omega)) (cwV 1 hts gX5_switchOff_X3_onCount rfl rfl rfl (by decide +kernel) ⟨Nat.le_of_ble_eq_true rfl, Nat.le_of_ble_eq_true rfl⟩) hK hP hD hS hA [1, 2, 3, 4] wW_SeC (by decide) wSe_adr wW_Se0 1 rfl rfl rfl hl.1 rfl (Nat.le_of_ble_eq_true rfl) dX5_switchOff_55 ⟨Nat.zero_le _, Nat.zero_le _⟩ (fun H locs hP hD hS => ?_)
      exact kr_iret hx hcd hr hlocks hK hP hD hS (by first | (rw [if_pos c_9, g_turnOff, if_pos c_39]) | (rw [if_pos c_9, g_turnOff, if_neg (by simp [c_39])])) (congrArg (fun M9 => wW cI q M9) (by first | (rw [if_pos c_9, g_turnOff, if_pos c_39]) | (rw [if_pos c_9, g_turnOff, if_neg (by simp [c_39])]))) dX5_switchOff_58
    · refine lv_aload_n hx hcd dX5_switchOff_42 rfl (lv_at hl 0 rfl) ?_
      refine kr_get hx hcd hts uX5 hown hK hP 0 rfl rfl 2 (by decide) (by decide +kernel) (v := .ref (q 9)) rfl dX5_switchOff_43 ?_
      refine lv_iload_n hx hcd dX5_switchOff_46 rfl (lv_at hl 1 rfl) ?_
      refine kr_Vv (As := [.int (nI a)]) (rest := []) (ws2 := wW cI q (g_forgetAll (g_seers (upd M (9 * a + 3 * s) 0) 2 5 a s 0) a)) (q := (RX4, TX4, 1)) ⟨hx, hcd, hml, hown, hts⟩ (c_X4_forgetAll l D cI cB cW cL q _ (g_seers (upd M (9 * a + 3 * s) 0) 2 5 a s 0) a (by omega)) (cwV 1 hts gX5_switchOff_X4_forgetAll rfl rfl rfl (by decide +kernel) ⟨Nat.le_of_ble_eq_true rfl, Nat.le_of_ble_eq_true rfl⟩) hK hP hD hS hA [9, 10] wW_ViC (by decide) wVi_adr (wW_vi (fun k hk => o_forgetAll (by omega) hk)) 9 rfl rfl rfl hl.1 rfl (Nat.le_of_ble_eq_true rfl) dX5_switchOff_47 ⟨Nat.zero_le _, Nat.zero_le _⟩ (fun H locs hP hD hS => ?_)
      have hI_3 : kInv (g_forgetAll (g_seers (upd M (9 * a + 3 * s) 0) 2 5 a s 0) a) := i_forgetAll hI_2 (by omega)
      refine lv_aload_n hx hcd dX5_switchOff_50 rfl (lv_at hl 0 rfl) ?_
      refine kr_get hx hcd hts uX5 hown hK hP 0 rfl rfl 0 (by decide) (by decide +kernel) (v := .ref (q 1)) rfl dX5_switchOff_51 ?_
      refine lv_iload_n hx hcd dX5_switchOff_54 rfl (lv_at hl 1 rfl) ?_
      refine kr_Vi (As := [.int (nI a)]) (rest := []) (ws2 := wW cI q (g_forgetAll (g_seers (upd M (9 * a + 3 * s) 0) 2 5 a s 0) a)) (q := (RX3, TX3, 3)) ⟨hx, hcd, hml, hown, hts⟩ (c_X3_onCount l D cI cB cW cL q _ (g_forgetAll (g_seers (upd M (9 * a + 3 * s) 0) 2 5 a s 0) a) a (by omega)) (cwV 1 hts gX5_switchOff_X3_onCount rfl rfl rfl (by decide +kernel) ⟨Nat.le_of_ble_eq_true rfl, Nat.le_of_ble_eq_true rfl⟩) hK hP hD hS hA [1, 2, 3, 4] wW_SeC (by decide) wSe_adr wW_Se0 1 rfl rfl rfl hl.1 rfl (Nat.le_of_ble_eq_true rfl) dX5_switchOff_55 ⟨Nat.zero_le _, Nat.zero_le _⟩ (fun H locs hP hD hS => ?_)
      exact kr_iret hx hcd hr hlocks hK hP hD hS (by first | (rw [if_pos c_9, g_turnOff, if_pos c_39]) | (rw [if_pos c_9, g_turnOff, if_neg (by simp [c_39])])) (congrArg (fun M9 => wW cI q M9) (by first | (rw [if_pos c_9, g_turnOff, if_pos c_39]) | (rw [if_pos c_9, g_turnOff, if_neg (by simp [c_39])]))) dX5_switchOff_58
  · refine lv_iconst (v := (-1)) hx hcd dX5_switchOff_12 (by decide) ?_
    exact kr_iret hx hcd hr hlocks hK hP hD hS (by rw [if_neg (by simp [c_9])]) (congrArg (fun M9 => wW cI q M9) (by rw [if_neg (by simp [c_9])])) dX5_switchOff_13

set_option maxHeartbeats 4000000 in
set_option maxRecDepth 100000 in
theorem c_X5_arrive (l : Launch) (D : va_G) (cI cB cW cL : ClassId) (q : Nat → Nat) (sz : Nat) (M : kM) (mc : Nat) (c : Nat) (hI : kInv M) (hmc : mc = cvN c) (hm : kMsg (nI c)) (hlt : c < 2 ^ 31) : kMv l yX5_arrive wsX5_arrive ({ frames := 3, cells := 0, slots := 0, locals := 73 }) D vwCl (kT cI cB cW cL) sz [.ref (q 0), .int (nI mc)] (wW cI q M) (wW cI q (g_arrive M c)) := by
  refine kr_ofv (cc := cX5_arrive) (maxL := 4) (ret := none) (by decide) rfl (Nat.le_of_ble_eq_true rfl) ?_
  intro pp ee ss mm args below meth cc AA ls hx hcd hr hts hown hlocks hml hK hP hD hA hl
  have hS : va_S AA ss.heap ss.heap [] := va_S.rf
  have hown : ss.vm.findClass RX5 = some mm.cls := hown
  have hl : lv_has ls 4 [(0, .ref (q 0)), (1, .int (nI mc))] := hl
  have uX5 : ∀ w ∈ u_ws RX5 TX5 5, w ∈ wsX5_arrive := by decide +kernel
  obtain ⟨hk0, ha, hb, hs, hd, h6, h7, -⟩ := i_codes hm hlt
  refine lv_iload_n hx hcd dX5_arrive_0 rfl (lv_at hl 1 rfl) ?_
  refine lv_iconst (v := nI 1) hx hcd dX5_arrive_1 (by decide) ?_
  refine kr_Si (As := [.int (nI mc), .int (nI 1)]) (rest := []) (ws2 := wW cI q M) ⟨hx, hcd, hml, hown, hts⟩ (c_X0_part l D cI cB cW cL  _ M mc 1 c (by omega) hmc hm hlt) (va_cwS 2 hts gX5_arrive_X0_part rfl rfl rfl (by decide +kernel) ⟨Nat.le_of_ble_eq_true rfl, Nat.le_of_ble_eq_true rfl⟩) hK hP hD hS hA [] rfl (by decide) rfl rfl rfl hl.1 rfl (Nat.le_of_ble_eq_true rfl) dX5_arrive_2 ⟨Nat.zero_le _, Nat.zero_le _⟩ (fun H locs hP hD hS => ?_)
  refine kr_top (w := nI (c / 8 % 8)) rfl ?_
  refine lv_istore_n (lv' := [(2, .int (nI (c / 8 % 8))), (0, .ref (q 0)), (1, .int (nI mc))]) hx hcd dX5_arrive_5 rfl hl (by decide) rfl (fun ls hl => ?_)
  refine lv_iload_n hx hcd dX5_arrive_6 rfl (lv_at hl 2 rfl) ?_
  refine lv_iconst (v := nI 2) hx hcd dX5_arrive_7 (by decide) ?_
  refine kr_Si (As := [.int (nI mc), .int (nI 2)]) (rest := []) (ws2 := wW cI q M) ⟨hx, hcd, hml, hown, hts⟩ (c_X0_part l D cI cB cW cL  _ M mc 2 c (by omega) hmc hm hlt) (va_cwS 2 hts gX5_arrive_X0_part rfl rfl rfl (by decide +kernel) ⟨Nat.le_of_ble_eq_true rfl, Nat.le_of_ble_eq_true rfl⟩) hK hP hD hS hA [] rfl (by decide) rfl rfl rfl hl.1 rfl (Nat.le_of_ble_eq_true rfl) dX5_arrive_8 ⟨Nat.zero_le _, Nat.zero_le _⟩ (fun H locs hP hD hS => ?_)
  refine kr_top (w := nI (c / 64 % 8)) rfl ?_
  refine lv_istore_n (lv' := [(3, .int (nI (c / 64 % 8))), (2, .int (nI (c / 8 % 8))), (0, .ref (q 0)), (1, .int (nI mc))]) hx hcd dX5_arrive_11 rfl hl (by decide) rfl (fun ls hl => ?_)
  refine lv_aload_n hx hcd dX5_arrive_12 rfl (lv_at hl 2 rfl) ?_
  refine lv_iload_n hx hcd dX5_arrive_13 rfl (lv_at hl 1 rfl) ?_
  refine lv_iload_n hx hcd dX5_arrive_14 rfl (lv_at hl 0 rfl) ?_
  refine kr_Vi (As := [.int (nI (c / 8 % 8)), .int (nI (c / 64 % 8))]) (rest := []) (ws2 := wW cI q M) (q := (RX5, TX5, 5)) ⟨hx, hcd, hml, hown, hts⟩ (c_X5_apart l D cI cB cW cL q _ M (c / 8 % 8) (c / 64 % 8) (by omega) (by omega)) (cwV 2 hts gX5_arrive_X5_apart rfl rfl rfl (by decide +kernel) ⟨Nat.le_of_ble_eq_true rfl, Nat.le_of_ble_eq_true rfl⟩) hK hP hD hS hA [0, 1, 2, 3, 4, 5, 6, 7, 8, 9, 10, 11, 12, 13, 14] wW_allC (by decide) wW_adr wW_all 0 rfl rfl rfl hl.1 rfl (Nat.le_of_ble_eq_true rfl) dX5_arrive_15 ⟨Nat.zero_le _, Nat.zero_le _⟩ (fun H locs hP hD hS => ?_)
  refine kr_beq (tgt := 22) hx hcd dX5_arrive_18 (by decide) (fun (c_18 : g_apart M (c / 8 % 8) (c / 64 % 8) = false) => ?_) (fun (c_18 : g_apart M (c / 8 % 8) (c / 64 % 8) = true) => ?_)
  · refine lv_iload_n hx hcd dX5_arrive_22 rfl (lv_at hl 3 rfl) ?_
    refine lv_iconst (v := nI 0) hx hcd dX5_arrive_23 (by decide) ?_
    refine kr_Si (As := [.int (nI mc), .int (nI 0)]) (rest := []) (ws2 := wW cI q M) ⟨hx, hcd, hml, hown, hts⟩ (c_X0_part l D cI cB cW cL  _ M mc 0 c (by omega) hmc hm hlt) (va_cwS 2 hts gX5_arrive_X0_part rfl rfl rfl (by decide +kernel) ⟨Nat.le_of_ble_eq_true rfl, Nat.le_of_ble_eq_true rfl⟩) hK hP hD hS hA [] rfl (by decide) rfl rfl rfl hl.1 rfl (Nat.le_of_ble_eq_true rfl) dX5_arrive_24 ⟨Nat.zero_le _, Nat.zero_le _⟩ (fun H locs hP hD hS => ?_)
    refine kr_top (w := nI (c % 8)) rfl ?_
    rcases (show c % 8 = 0 ∨ c % 8 = 1 ∨ c % 8 = 2 ∨ c % 8 = 3 ∨ c % 8 = 4 ∨ c % 8 = 5 ∨ c % 8 = 6 by omega) with hk | hk | hk | hk | hk | hk | hk
    · refine kr_top (w := nI 0) (congrArg nI hk) ?_
      refine lv_tableIn (x := nI 0) (off := 37) (tgt := 64) hx hcd dX5_arrive_27 (by decide) (by decide) (by decide) (by decide) ?_
      refine lv_aload_n hx hcd dX5_arrive_64 rfl (lv_at hl 2 rfl) ?_
      refine kr_get hx hcd hts uX5 hown hK hP 0 rfl rfl 1 (by decide) (by decide +kernel) (v := .ref (q 5)) rfl dX5_arrive_65 ?_
      refine lv_iload_n hx hcd dX5_arrive_68 rfl (lv_at hl 0 rfl) ?_
      refine lv_iload_n hx hcd dX5_arrive_69 rfl (lv_at hl 1 rfl) ?_
      refine lv_iconst (v := nI 2) hx hcd dX5_arrive_70 (by decide) ?_
      refine kr_Vi (As := [.int (nI (c / 64 % 8)), .int (nI (c / 8 % 8)), .int (nI 2)]) (rest := []) (ws2 := wW cI q M) (q := (RX1, TX1, 3)) ⟨hx, hcd, hml, hown, hts⟩ (c_X1_hasAny l D cI cB cW cL q _ M (c / 64 % 8) (c / 8 % 8) 2 (by omega) (by omega)) (cwV 3 hts gX5_arrive_X1_hasAny rfl rfl rfl (by decide +kernel) ⟨Nat.le_of_ble_eq_true rfl, Nat.le_of_ble_eq_true rfl⟩) hK hP hD hS hA [5, 6, 7, 8] wW_RoC (by decide) wRo_adr wW_Ro0 5 rfl rfl rfl hl.1 rfl (Nat.le_of_ble_eq_true rfl) dX5_arrive_71 ⟨Nat.zero_le _, Nat.zero_le _⟩ (fun H locs hP hD hS => ?_)
      refine kr_beq (tgt := 93) hx hcd dX5_arrive_74 (by decide) (fun (c_74 : g_has M (c / 64 % 8) (c / 8 % 8) 2 = false) => ?_) (fun (c_74 : g_has M (c / 64 % 8) (c / 8 % 8) 2 = true) => ?_)
      · refine lv_aload_n hx hcd dX5_arrive_93 rfl (lv_at hl 2 rfl) ?_
        refine kr_get hx hcd hts uX5 hown hK hP 0 rfl rfl 1 (by decide) (by decide +kernel) (v := .ref (q 5)) rfl dX5_arrive_94 ?_
        refine lv_iload_n hx hcd dX5_arrive_97 rfl (lv_at hl 0 rfl) ?_
        refine lv_iload_n hx hcd dX5_arrive_98 rfl (lv_at hl 1 rfl) ?_
        refine lv_iconst (v := nI 0) hx hcd dX5_arrive_99 (by decide) ?_
        refine lv_bipush (v := nI 8) hx hcd dX5_arrive_100 (by decide) ?_
        refine kr_Vv (As := [.int (nI (c / 64 % 8)), .int (nI (c / 8 % 8)), .int (nI 0), .int (nI 8)]) (rest := []) (ws2 := wW cI q (g_become M (c / 64 % 8) (c / 8 % 8) ((g_st M (c / 64 % 8) (c / 8 % 8) &&& (0 ^^^ (-1))) ||| 8))) (q := (RX1, TX1, 3)) ⟨hx, hcd, hml, hown, hts⟩ (c_X1_change l D cI cB cW cL q _ M (c / 64 % 8) (c / 8 % 8) 0 8 (by omega) (by omega)) (cwV 4 hts gX5_arrive_X1_change rfl rfl rfl (by decide +kernel) ⟨Nat.le_of_ble_eq_true rfl, Nat.le_of_ble_eq_true rfl⟩) hK hP hD hS hA [5, 6, 7, 8] wW_RoC (by decide) wRo_adr (wW_ro (fun k hk => o_become (by omega) (by omega) hk)) 5 rfl rfl rfl hl.1 rfl (Nat.le_of_ble_eq_true rfl) dX5_arrive_102 ⟨Nat.zero_le _, Nat.zero_le _⟩ (fun H locs hP hD hS => ?_)
        have hI_1 : kInv (g_become M (c / 64 % 8) (c / 8 % 8) ((g_st M (c / 64 % 8) (c / 8 % 8) &&& (0 ^^^ (-1))) ||| 8)) := i_become hI (by omega) (by omega) (i_s hI (by omega) (by omega) (F := fun x => (x &&& (0 ^^^ (-1))) ||| 8) (by decide))
        refine lv_goto (tgt := 286) hx hcd dX5_arrive_105 (by decide) ?_
        exact kr_vret hx hcd hr hlocks hK hP hD hS (congrArg (fun M9 => wW cI q M9) (by (try simp only [b_0, b_z, b_4, b_5, b_8, b_10]); simp [g_arrive, c_18, hk, c_74])) dX5_arrive_286
      · refine lv_aload_n hx hcd dX5_arrive_77 rfl (lv_at hl 2 rfl) ?_
        refine lv_iconst (v := nI 1) hx hcd dX5_arrive_78 (by decide) ?_
        refine lv_iload_n hx hcd dX5_arrive_79 rfl (lv_at hl 0 rfl) ?_
        refine lv_iload_n hx hcd dX5_arrive_80 rfl (lv_at hl 1 rfl) ?_
        refine kr_Vv (As := [.int (nI 1), .int (nI (c / 64 % 8)), .int (nI (c / 8 % 8))]) (rest := []) (ws2 := wW cI q (g_send M 1 (c / 64 % 8) (c / 8 % 8) 0 0)) (q := (RX5, TX5, 5)) ⟨hx, hcd, hml, hown, hts⟩ (c_X5_send l D cI cB cW cL q _ M 1 (c / 64 % 8) (c / 8 % 8) hI (by omega) (by omega) (by omega) (by omega) (by omega)) (cwV 3 hts gX5_arrive_X5_send rfl rfl rfl (by decide +kernel) ⟨Nat.le_of_ble_eq_true rfl, Nat.le_of_ble_eq_true rfl⟩) hK hP hD hS hA [0, 1, 2, 3, 4, 5, 6, 7, 8, 9, 10, 11, 12, 13, 14] wW_allC (by decide) wW_adr wW_all 0 rfl rfl rfl hl.1 rfl (Nat.le_of_ble_eq_true rfl) dX5_arrive_81 ⟨Nat.zero_le _, Nat.zero_le _⟩ (fun H locs hP hD hS => ?_)
        have hI_2 : kInv (g_send M 1 (c / 64 % 8) (c / 8 % 8) 0 0) := i_send hI (by omega) (by omega) (by omega) (by omega) (by omega) (by omega) (by omega)
        refine lv_aload_n hx hcd dX5_arrive_84 rfl (lv_at hl 2 rfl) ?_
        refine lv_iload_n hx hcd dX5_arrive_85 rfl (lv_at hl 0 rfl) ?_
        refine lv_iload_n hx hcd dX5_arrive_86 rfl (lv_at hl 1 rfl) ?_
        refine kr_Vv (As := [.int (nI (c / 64 % 8)), .int (nI (c / 8 % 8))]) (rest := []) (ws2 := wW cI q (g_show (g_send M 1 (c / 64 % 8) (c / 8 % 8) 0 0) (c / 64 % 8) (c / 8 % 8))) (q := (RX5, TX5, 5)) ⟨hx, hcd, hml, hown, hts⟩ (c_X5_show l D cI cB cW cL q _ (g_send M 1 (c / 64 % 8) (c / 8 % 8) 0 0) (c / 64 % 8) (c / 8 % 8) hI_2 (by omega) (by omega)) (cwV 2 hts gX5_arrive_X5_show rfl rfl rfl (by decide +kernel) ⟨Nat.le_of_ble_eq_true rfl, Nat.le_of_ble_eq_true rfl⟩) hK hP hD hS hA [0, 1, 2, 3, 4, 5, 6, 7, 8, 9, 10, 11, 12, 13, 14] wW_allC (by decide) wW_adr wW_all 0 rfl rfl rfl hl.1 rfl (Nat.le_of_ble_eq_true rfl) dX5_arrive_87 ⟨Nat.zero_le _, Nat.zero_le _⟩ (fun H locs hP hD hS => ?_)
        have hI_3 : kInv (g_show (g_send M 1 (c / 64 % 8) (c / 8 % 8) 0 0) (c / 64 % 8) (c / 8 % 8)) := i_show hI_2 (by omega) (by omega)
        refine lv_goto (tgt := 286) hx hcd dX5_arrive_90 (by decide) ?_
        exact kr_vret hx hcd hr hlocks hK hP hD hS (congrArg (fun M9 => wW cI q M9) (by (try simp only [b_0, b_z, b_4, b_5, b_8, b_10]); simp [g_arrive, c_18, hk, c_74])) dX5_arrive_286
    · refine kr_top (w := nI 1) (congrArg nI hk) ?_
      refine lv_tableIn (x := nI 1) (off := 81) (tgt := 108) hx hcd dX5_arrive_27 (by decide) (by decide) (by decide) (by decide) ?_
      refine lv_aload_n hx hcd dX5_arrive_108 rfl (lv_at hl 2 rfl) ?_
      refine kr_get hx hcd hts uX5 hown hK hP 0 rfl rfl 1 (by decide) (by decide +kernel) (v := .ref (q 5)) rfl dX5_arrive_109 ?_
      refine lv_iload_n hx hcd dX5_arrive_112 rfl (lv_at hl 0 rfl) ?_
      refine lv_iload_n hx hcd dX5_arrive_113 rfl (lv_at hl 1 rfl) ?_
      refine lv_iconst (v := nI 4) hx hcd dX5_arrive_114 (by decide) ?_
      refine kr_Vi (As := [.int (nI (c / 64 % 8)), .int (nI (c / 8 % 8)), .int (nI 4)]) (rest := []) (ws2 := wW cI q M) (q := (RX1, TX1, 3)) ⟨hx, hcd, hml, hown, hts⟩ (c_X1_hasAny l D cI cB cW cL q _ M (c / 64 % 8) (c / 8 % 8) 4 (by omega) (by omega)) (cwV 3 hts gX5_arrive_X1_hasAny rfl rfl rfl (by decide +kernel) ⟨Nat.le_of_ble_eq_true rfl, Nat.le_of_ble_eq_true rfl⟩) hK hP hD hS hA [5, 6, 7, 8] wW_RoC (by decide) wRo_adr wW_Ro0 5 rfl rfl rfl hl.1 rfl (Nat.le_of_ble_eq_true rfl) dX5_arrive_115 ⟨Nat.zero_le _, Nat.zero_le _⟩ (fun H locs hP hD hS => ?_)
      refine kr_beq (tgt := 286) hx hcd dX5_arrive_118 (by decide) (fun (c_118 : g_has M (c / 64 % 8) (c / 8 % 8) 4 = false) => ?_) (fun (c_118 : g_has M (c / 64 % 8) (c / 8 % 8) 4 = true) => ?_)
      · exact kr_vret hx hcd hr hlocks hK hP hD hS (congrArg (fun M9 => wW cI q M9) (by (try simp only [b_0, b_z, b_4, b_5, b_8, b_10]); simp [g_arrive, c_18, hk, c_118])) dX5_arrive_286
      · refine lv_aload_n hx hcd dX5_arrive_121 rfl (lv_at hl 2 rfl) ?_
        refine kr_get hx hcd hts uX5 hown hK hP 0 rfl rfl 1 (by decide) (by decide +kernel) (v := .ref (q 5)) rfl dX5_arrive_122 ?_
        refine lv_iload_n hx hcd dX5_arrive_125 rfl (lv_at hl 0 rfl) ?_
        refine lv_iload_n hx hcd dX5_arrive_126 rfl (lv_at hl 1 rfl) ?_
        refine lv_iconst (v := nI 4) hx hcd dX5_arrive_127 (by decide) ?_
        refine lv_iconst (v := nI 1) hx hcd dX5_arrive_128 (by decide) ?_
        refine kr_Vv (As := [.int (nI (c / 64 % 8)), .int (nI (c / 8 % 8)), .int (nI 4), .int (nI 1)]) (rest := []) (ws2 := wW cI q (g_become M (c / 64 % 8) (c / 8 % 8) ((g_st M (c / 64 % 8) (c / 8 % 8) &&& (4 ^^^ (-1))) ||| 1))) (q := (RX1, TX1, 3)) ⟨hx, hcd, hml, hown, hts⟩ (c_X1_change l D cI cB cW cL q _ M (c / 64 % 8) (c / 8 % 8) 4 1 (by omega) (by omega)) (cwV 4 hts gX5_arrive_X1_change rfl rfl rfl (by decide +kernel) ⟨Nat.le_of_ble_eq_true rfl, Nat.le_of_ble_eq_true rfl⟩) hK hP hD hS hA [5, 6, 7, 8] wW_RoC (by decide) wRo_adr (wW_ro (fun k hk => o_become (by omega) (by omega) hk)) 5 rfl rfl rfl hl.1 rfl (Nat.le_of_ble_eq_true rfl) dX5_arrive_129 ⟨Nat.zero_le _, Nat.zero_le _⟩ (fun H locs hP hD hS => ?_)
        have hI_4 : kInv (g_become M (c / 64 % 8) (c / 8 % 8) ((g_st M (c / 64 % 8) (c / 8 % 8) &&& (4 ^^^ (-1))) ||| 1)) := i_become hI (by omega) (by omega) (i_s hI (by omega) (by omega) (F := fun x => (x &&& (4 ^^^ (-1))) ||| 1) (by decide))
        refine lv_goto (tgt := 286) hx hcd dX5_arrive_132 (by decide) ?_
        exact kr_vret hx hcd hr hlocks hK hP hD hS (congrArg (fun M9 => wW cI q M9) (by (try simp only [b_0, b_z, b_4, b_5, b_8, b_10]); simp [g_arrive, c_18, hk, c_118])) dX5_arrive_286
    · refine kr_top (w := nI 2) (congrArg nI hk) ?_
      refine lv_tableIn (x := nI 2) (off := 108) (tgt := 135) hx hcd dX5_arrive_27 (by decide) (by decide) (by decide) (by decide) ?_
      refine lv_aload_n hx hcd dX5_arrive_135 rfl (lv_at hl 2 rfl) ?_
      refine kr_get hx hcd hts uX5 hown hK hP 0 rfl rfl 1 (by decide) (by decide +kernel) (v := .ref (q 5)) rfl dX5_arrive_136 ?_
      refine lv_iload_n hx hcd dX5_arrive_139 rfl (lv_at hl 0 rfl) ?_
      refine lv_iload_n hx hcd dX5_arrive_140 rfl (lv_at hl 1 rfl) ?_
      refine lv_bipush (v := nI 10) hx hcd dX5_arrive_141 (by decide) ?_
      refine kr_Vi (As := [.int (nI (c / 64 % 8)), .int (nI (c / 8 % 8)), .int (nI 10)]) (rest := []) (ws2 := wW cI q M) (q := (RX1, TX1, 3)) ⟨hx, hcd, hml, hown, hts⟩ (c_X1_hasAny l D cI cB cW cL q _ M (c / 64 % 8) (c / 8 % 8) 10 (by omega) (by omega)) (cwV 3 hts gX5_arrive_X1_hasAny rfl rfl rfl (by decide +kernel) ⟨Nat.le_of_ble_eq_true rfl, Nat.le_of_ble_eq_true rfl⟩) hK hP hD hS hA [5, 6, 7, 8] wW_RoC (by decide) wRo_adr wW_Ro0 5 rfl rfl rfl hl.1 rfl (Nat.le_of_ble_eq_true rfl) dX5_arrive_143 ⟨Nat.zero_le _, Nat.zero_le _⟩ (fun H locs hP hD hS => ?_)
      refine kr_beq (tgt := 286) hx hcd dX5_arrive_146 (by decide) (fun (c_146 : g_has M (c / 64 % 8) (c / 8 % 8) 10 = false) => ?_) (fun (c_146 : g_has M (c / 64 % 8) (c / 8 % 8) 10 = true) => ?_)
      · exact kr_vret hx hcd hr hlocks hK hP hD hS (congrArg (fun M9 => wW cI q M9) (by (try simp only [b_0, b_z, b_4, b_5, b_8, b_10]); simp [g_arrive, c_18, hk, c_146])) dX5_arrive_286
      · refine lv_aload_n hx hcd dX5_arrive_149 rfl (lv_at hl 2 rfl) ?_
        refine kr_get hx hcd hts uX5 hown hK hP 0 rfl rfl 1 (by decide) (by decide +kernel) (v := .ref (q 5)) rfl dX5_arrive_150 ?_
        refine lv_iload_n hx hcd dX5_arrive_153 rfl (lv_at hl 0 rfl) ?_
        refine lv_iload_n hx hcd dX5_arrive_154 rfl (lv_at hl 1 rfl) ?_
        refine lv_bipush (v := nI 10) hx hcd dX5_arrive_155 (by decide) ?_
        refine lv_iconst (v := nI 0) hx hcd dX5_arrive_157 (by decide) ?_
        refine kr_Vv (As := [.int (nI (c / 64 % 8)), .int (nI (c / 8 % 8)), .int (nI 10), .int (nI 0)]) (rest := []) (ws2 := wW cI q (g_become M (c / 64 % 8) (c / 8 % 8) ((g_st M (c / 64 % 8) (c / 8 % 8) &&& (10 ^^^ (-1))) ||| 0))) (q := (RX1, TX1, 3)) ⟨hx, hcd, hml, hown, hts⟩ (c_X1_change l D cI cB cW cL q _ M (c / 64 % 8) (c / 8 % 8) 10 0 (by omega) (by omega)) (cwV 4 hts gX5_arrive_X1_change rfl rfl rfl (by decide +kernel) ⟨Nat.le_of_ble_eq_true rfl, Nat.le_of_ble_eq_true rfl⟩) hK hP hD hS hA [5, 6, 7, 8] wW_RoC (by decide) wRo_adr (wW_ro (fun k hk => o_become (by omega) (by omega) hk)) 5 rfl rfl rfl hl.1 rfl (Nat.le_of_ble_eq_true rfl) dX5_arrive_158 ⟨Nat.zero_le _, Nat.zero_le _⟩ (fun H locs hP hD hS => ?_)
        have hI_5 : kInv (g_become M (c / 64 % 8) (c / 8 % 8) ((g_st M (c / 64 % 8) (c / 8 % 8) &&& (10 ^^^ (-1))) ||| 0)) := i_become hI (by omega) (by omega) (i_s hI (by omega) (by omega) (F := fun x => (x &&& (10 ^^^ (-1))) ||| 0) (by decide))
        refine lv_aload_n hx hcd dX5_arrive_161 rfl (lv_at hl 2 rfl) ?_
        refine lv_iload_n hx hcd dX5_arrive_162 rfl (lv_at hl 0 rfl) ?_
        refine lv_iload_n hx hcd dX5_arrive_163 rfl (lv_at hl 1 rfl) ?_
        refine kr_Vv (As := [.int (nI (c / 64 % 8)), .int (nI (c / 8 % 8))]) (rest := []) (ws2 := wW cI q (g_hide (g_become M (c / 64 % 8) (c / 8 % 8) ((g_st M (c / 64 % 8) (c / 8 % 8) &&& (10 ^^^ (-1))) ||| 0)) (c / 64 % 8) (c / 8 % 8))) (q := (RX5, TX5, 5)) ⟨hx, hcd, hml, hown, hts⟩ (c_X5_hide l D cI cB cW cL q _ (g_become M (c / 64 % 8) (c / 8 % 8) ((g_st M (c / 64 % 8) (c / 8 % 8) &&& (10 ^^^ (-1))) ||| 0)) (c / 64 % 8) (c / 8 % 8) hI_5 (by omega) (by omega)) (cwV 2 hts gX5_arrive_X5_hide rfl rfl rfl (by decide +kernel) ⟨Nat.le_of_ble_eq_true rfl, Nat.le_of_ble_eq_true rfl⟩) hK hP hD hS hA [0, 1, 2, 3, 4, 5, 6, 7, 8, 9, 10, 11, 12, 13, 14] wW_allC (by decide) wW_adr wW_all 0 rfl rfl rfl hl.1 rfl (Nat.le_of_ble_eq_true rfl) dX5_arrive_164 ⟨Nat.zero_le _, Nat.zero_le _⟩ (fun H locs hP hD hS => ?_)
        have hI_6 : kInv (g_hide (g_become M (c / 64 % 8) (c / 8 % 8) ((g_st M (c / 64 % 8) (c / 8 % 8) &&& (10 ^^^ (-1))) ||| 0)) (c / 64 % 8) (c / 8 % 8)) := i_hide hI_5 (by omega) (by omega)
        refine lv_goto (tgt := 286) hx hcd dX5_arrive_167 (by decide) ?_
        exact kr_vret hx hcd hr hlocks hK hP hD hS (congrArg (fun M9 => wW cI q M9) (by (try simp only [b_0, b_z, b_4, b_5, b_8, b_10]); simp [g_arrive, c_18, hk, c_146])) dX5_arrive_286
    · refine kr_top (w := nI 3) (congrArg nI hk) ?_
      refine lv_tableIn (x := nI 3) (off := 143) (tgt := 170) hx hcd dX5_arrive_27 (by decide) (by decide) (by decide) (by decide) ?_
      refine lv_aload_n hx hcd dX5_arrive_170 rfl (lv_at hl 2 rfl) ?_
      refine kr_get hx hcd hts uX5 hown hK hP 0 rfl rfl 1 (by decide) (by decide +kernel) (v := .ref (q 5)) rfl dX5_arrive_171 ?_
      refine lv_iload_n hx hcd dX5_arrive_174 rfl (lv_at hl 0 rfl) ?_
      refine lv_iload_n hx hcd dX5_arrive_175 rfl (lv_at hl 1 rfl) ?_
      refine lv_iconst (v := nI 5) hx hcd dX5_arrive_176 (by decide) ?_
      refine lv_iconst (v := nI 0) hx hcd dX5_arrive_177 (by decide) ?_
      refine kr_Vv (As := [.int (nI (c / 64 % 8)), .int (nI (c / 8 % 8)), .int (nI 5), .int (nI 0)]) (rest := []) (ws2 := wW cI q (g_become M (c / 64 % 8) (c / 8 % 8) ((g_st M (c / 64 % 8) (c / 8 % 8) &&& (5 ^^^ (-1))) ||| 0))) (q := (RX1, TX1, 3)) ⟨hx, hcd, hml, hown, hts⟩ (c_X1_change l D cI cB cW cL q _ M (c / 64 % 8) (c / 8 % 8) 5 0 (by omega) (by omega)) (cwV 4 hts gX5_arrive_X1_change rfl rfl rfl (by decide +kernel) ⟨Nat.le_of_ble_eq_true rfl, Nat.le_of_ble_eq_true rfl⟩) hK hP hD hS hA [5, 6, 7, 8] wW_RoC (by decide) wRo_adr (wW_ro (fun k hk => o_become (by omega) (by omega) hk)) 5 rfl rfl rfl hl.1 rfl (Nat.le_of_ble_eq_true rfl) dX5_arrive_178 ⟨Nat.zero_le _, Nat.zero_le _⟩ (fun H locs hP hD hS => ?_)
      have hI_7 : kInv (g_become M (c / 64 % 8) (c / 8 % 8) ((g_st M (c / 64 % 8) (c / 8 % 8) &&& (5 ^^^ (-1))) ||| 0)) := i_become hI (by omega) (by omega) (i_s hI (by omega) (by omega) (F := fun x => (x &&& (5 ^^^ (-1))) ||| 0) (by decide))
      refine lv_aload_n hx hcd dX5_arrive_181 rfl (lv_at hl 2 rfl) ?_
      refine kr_get hx hcd hts uX5 hown hK hP 0 rfl rfl 2 (by decide) (by decide +kernel) (v := .ref (q 9)) rfl dX5_arrive_182 ?_
      refine lv_iload_n hx hcd dX5_arrive_185 rfl (lv_at hl 0 rfl) ?_
      refine lv_iload_n hx hcd dX5_arrive_186 rfl (lv_at hl 1 rfl) ?_
      refine kr_Vv (As := [.int (nI (c / 64 % 8)), .int (nI (c / 8 % 8))]) (rest := []) (ws2 := wW cI q (g_forget (g_become M (c / 64 % 8) (c / 8 % 8) ((g_st M (c / 64 % 8) (c / 8 % 8) &&& (5 ^^^ (-1))) ||| 0)) (c / 64 % 8) (c / 8 % 8))) (q := (RX4, TX4, 1)) ⟨hx, hcd, hml, hown, hts⟩ (c_X4_forget l D cI cB cW cL q _ (g_become M (c / 64 % 8) (c / 8 % 8) ((g_st M (c / 64 % 8) (c / 8 % 8) &&& (5 ^^^ (-1))) ||| 0)) (c / 64 % 8) (c / 8 % 8) (by omega) (by omega)) (cwV 2 hts gX5_arrive_X4_forget rfl rfl rfl (by decide +kernel) ⟨Nat.le_of_ble_eq_true rfl, Nat.le_of_ble_eq_true rfl⟩) hK hP hD hS hA [9, 10] wW_ViC (by decide) wVi_adr (wW_vi (fun k hk => o_forget (by omega) (by omega) hk)) 9 rfl rfl rfl hl.1 rfl (Nat.le_of_ble_eq_true rfl) dX5_arrive_187 ⟨Nat.zero_le _, Nat.zero_le _⟩ (fun H locs hP hD hS => ?_)
      have hI_8 : kInv (g_forget (g_become M (c / 64 % 8) (c / 8 % 8) ((g_st M (c / 64 % 8) (c / 8 % 8) &&& (5 ^^^ (-1))) ||| 0)) (c / 64 % 8) (c / 8 % 8)) := i_forget hI_7 (by omega) (by omega)
      refine lv_goto (tgt := 286) hx hcd dX5_arrive_190 (by decide) ?_
      exact kr_vret hx hcd hr hlocks hK hP hD hS (congrArg (fun M9 => wW cI q M9) (by (try simp only [b_0, b_z, b_4, b_5, b_8, b_10]); simp [g_arrive, c_18, hk])) dX5_arrive_286
    · refine kr_top (w := nI 4) (congrArg nI hk) ?_
      refine lv_tableIn (x := nI 4) (off := 166) (tgt := 193) hx hcd dX5_arrive_27 (by decide) (by decide) (by decide) (by decide) ?_
      refine lv_aload_n hx hcd dX5_arrive_193 rfl (lv_at hl 2 rfl) ?_
      refine kr_get hx hcd hts uX5 hown hK hP 0 rfl rfl 1 (by decide) (by decide +kernel) (v := .ref (q 5)) rfl dX5_arrive_194 ?_
      refine lv_iload_n hx hcd dX5_arrive_197 rfl (lv_at hl 0 rfl) ?_
      refine lv_iload_n hx hcd dX5_arrive_198 rfl (lv_at hl 1 rfl) ?_
      refine lv_iconst (v := nI 1) hx hcd dX5_arrive_199 (by decide) ?_
      refine kr_Vi (As := [.int (nI (c / 64 % 8)), .int (nI (c / 8 % 8)), .int (nI 1)]) (rest := []) (ws2 := wW cI q M) (q := (RX1, TX1, 3)) ⟨hx, hcd, hml, hown, hts⟩ (c_X1_hasAny l D cI cB cW cL q _ M (c / 64 % 8) (c / 8 % 8) 1 (by omega) (by omega)) (cwV 3 hts gX5_arrive_X1_hasAny rfl rfl rfl (by decide +kernel) ⟨Nat.le_of_ble_eq_true rfl, Nat.le_of_ble_eq_true rfl⟩) hK hP hD hS hA [5, 6, 7, 8] wW_RoC (by decide) wRo_adr wW_Ro0 5 rfl rfl rfl hl.1 rfl (Nat.le_of_ble_eq_true rfl) dX5_arrive_200 ⟨Nat.zero_le _, Nat.zero_le _⟩ (fun H locs hP hD hS => ?_)
      refine kr_beq (tgt := 286) hx hcd dX5_arrive_203 (by decide) (fun (c_203 : g_has M (c / 64 % 8) (c / 8 % 8) 1 = false) => ?_) (fun (c_203 : g_has M (c / 64 % 8) (c / 8 % 8) 1 = true) => ?_)
      · exact kr_vret hx hcd hr hlocks hK hP hD hS (congrArg (fun M9 => wW cI q M9) (by (try simp only [b_0, b_z, b_4, b_5, b_8, b_10]); simp [g_arrive, c_18, hk, c_203])) dX5_arrive_286
      · refine lv_aload_n hx hcd dX5_arrive_206 rfl (lv_at hl 2 rfl) ?_
        refine kr_get hx hcd hts uX5 hown hK hP 0 rfl rfl 0 (by decide) (by decide +kernel) (v := .ref (q 1)) rfl dX5_arrive_207 ?_
        refine lv_iload_n hx hcd dX5_arrive_210 rfl (lv_at hl 0 rfl) ?_
        refine kr_Vi (As := [.int (nI (c / 64 % 8))]) (rest := []) (ws2 := wW cI q M) (q := (RX3, TX3, 3)) ⟨hx, hcd, hml, hown, hts⟩ (c_X3_isThere l D cI cB cW cL q _ M (c / 64 % 8) (by omega)) (cwV 1 hts gX5_arrive_X3_isThere rfl rfl rfl (by decide +kernel) ⟨Nat.le_of_ble_eq_true rfl, Nat.le_of_ble_eq_true rfl⟩) hK hP hD hS hA [1, 2, 3, 4] wW_SeC (by decide) wSe_adr wW_Se0 1 rfl rfl rfl hl.1 rfl (Nat.le_of_ble_eq_true rfl) dX5_arrive_211 ⟨Nat.zero_le _, Nat.zero_le _⟩ (fun H locs hP hD hS => ?_)
        refine kr_beq (tgt := 286) hx hcd dX5_arrive_214 (by decide) (fun (c_214 : g_there M (c / 64 % 8) = false) => ?_) (fun (c_214 : g_there M (c / 64 % 8) = true) => ?_)
        · exact kr_vret hx hcd hr hlocks hK hP hD hS (congrArg (fun M9 => wW cI q M9) (by (try simp only [b_0, b_z, b_4, b_5, b_8, b_10]); simp [g_arrive, c_18, hk, c_203, c_214])) dX5_arrive_286
        · refine lv_aload_n hx hcd dX5_arrive_217 rfl (lv_at hl 2 rfl) ?_
          refine kr_get hx hcd hts uX5 hown hK hP 0 rfl rfl 2 (by decide) (by decide +kernel) (v := .ref (q 9)) rfl dX5_arrive_218 ?_
          refine lv_iload_n hx hcd dX5_arrive_221 rfl (lv_at hl 0 rfl) ?_
          refine lv_iload_n hx hcd dX5_arrive_222 rfl (lv_at hl 1 rfl) ?_
          refine lv_iload_n hx hcd dX5_arrive_223 rfl (lv_at hl 3 rfl) ?_
          refine lv_iconst (v := nI 3) hx hcd dX5_arrive_224 (by decide) ?_
          refine kr_Si (As := [.int (nI mc), .int (nI 3)]) (rest := [.int (nI (c / 8 % 8)), .int (nI (c / 64 % 8)), .ref (q 9)]) (ws2 := wW cI q M) ⟨hx, hcd, hml, hown, hts⟩ (c_X0_part l D cI cB cW cL  _ M mc 3 c (by omega) hmc hm hlt) (va_cwS 2 hts gX5_arrive_X0_part rfl rfl rfl (by decide +kernel) ⟨Nat.le_of_ble_eq_true rfl, Nat.le_of_ble_eq_true rfl⟩) hK hP hD hS hA [] rfl (by decide) rfl rfl rfl hl.1 rfl (Nat.le_of_ble_eq_true rfl) dX5_arrive_225 ⟨Nat.zero_le _, Nat.zero_le _⟩ (fun H locs hP hD hS => ?_)
          refine kr_top (w := nI (c / 512 % 4)) (g3 (by omega)) ?_
          refine lv_iload_n hx hcd dX5_arrive_228 rfl (lv_at hl 3 rfl) ?_
          refine lv_iconst (v := nI 4) hx hcd dX5_arrive_229 (by decide) ?_
          refine kr_Si (As := [.int (nI mc), .int (nI 4)]) (rest := [.int (nI (c / 512 % 4)), .int (nI (c / 8 % 8)), .int (nI (c / 64 % 8)), .ref (q 9)]) (ws2 := wW cI q M) ⟨hx, hcd, hml, hown, hts⟩ (c_X0_part l D cI cB cW cL  _ M mc 4 c (by omega) hmc hm hlt) (va_cwS 2 hts gX5_arrive_X0_part rfl rfl rfl (by decide +kernel) ⟨Nat.le_of_ble_eq_true rfl, Nat.le_of_ble_eq_true rfl⟩) hK hP hD hS hA [] rfl (by decide) rfl rfl rfl hl.1 rfl (Nat.le_of_ble_eq_true rfl) dX5_arrive_230 ⟨Nat.zero_le _, Nat.zero_le _⟩ (fun H locs hP hD hS => ?_)
          refine kr_top (w := nI (c / 2048)) (g4 (by omega)) ?_
          refine kr_Vv (As := [.int (nI (c / 64 % 8)), .int (nI (c / 8 % 8)), .int (nI (c / 512 % 4)), .int (nI (c / 2048))]) (rest := []) (ws2 := wW cI q (upd M (132 + 18 * (c / 64 % 8) + 3 * (c / 8 % 8) + (c / 512 % 4)) (nI (c / 2048)))) (q := (RX4, TX4, 1)) ⟨hx, hcd, hml, hown, hts⟩ (c_X4_set l D cI cB cW cL q _ M (c / 64 % 8) (c / 8 % 8) (c / 512 % 4) (nI (c / 2048)) (by omega) (by omega) (by omega)) (cwV 4 hts gX5_arrive_X4_set rfl rfl rfl (by decide +kernel) ⟨Nat.le_of_ble_eq_true rfl, Nat.le_of_ble_eq_true rfl⟩) hK hP hD hS hA [9, 10] wW_ViC (by decide) wVi_adr (wW_vi (fun k hk => upd_ne (by omega))) 9 rfl rfl rfl hl.1 rfl (Nat.le_of_ble_eq_true rfl) dX5_arrive_233 ⟨Nat.zero_le _, Nat.zero_le _⟩ (fun H locs hP hD hS => ?_)
          refine lv_goto (tgt := 286) hx hcd dX5_arrive_236 (by decide) ?_
          exact kr_vret hx hcd hr hlocks hK hP hD hS (congrArg (fun M9 => wW cI q M9) (by (try simp only [b_0, b_z, b_4, b_5, b_8, b_10]); simp [g_arrive, c_18, hk, c_203, c_214])) dX5_arrive_286
    · refine kr_top (w := nI 5) (congrArg nI hk) ?_
      refine lv_tableIn (x := nI 5) (off := 212) (tgt := 239) hx hcd dX5_arrive_27 (by decide) (by decide) (by decide) (by decide) ?_
      refine lv_aload_n hx hcd dX5_arrive_239 rfl (lv_at hl 2 rfl) ?_
      refine kr_get hx hcd hts uX5 hown hK hP 0 rfl rfl 2 (by decide) (by decide +kernel) (v := .ref (q 9)) rfl dX5_arrive_240 ?_
      refine lv_iload_n hx hcd dX5_arrive_243 rfl (lv_at hl 0 rfl) ?_
      refine lv_iload_n hx hcd dX5_arrive_244 rfl (lv_at hl 1 rfl) ?_
      refine lv_iload_n hx hcd dX5_arrive_245 rfl (lv_at hl 3 rfl) ?_
      refine lv_iconst (v := nI 3) hx hcd dX5_arrive_246 (by decide) ?_
      refine kr_Si (As := [.int (nI mc), .int (nI 3)]) (rest := [.int (nI (c / 8 % 8)), .int (nI (c / 64 % 8)), .ref (q 9)]) (ws2 := wW cI q M) ⟨hx, hcd, hml, hown, hts⟩ (c_X0_part l D cI cB cW cL  _ M mc 3 c (by omega) hmc hm hlt) (va_cwS 2 hts gX5_arrive_X0_part rfl rfl rfl (by decide +kernel) ⟨Nat.le_of_ble_eq_true rfl, Nat.le_of_ble_eq_true rfl⟩) hK hP hD hS hA [] rfl (by decide) rfl rfl rfl hl.1 rfl (Nat.le_of_ble_eq_true rfl) dX5_arrive_247 ⟨Nat.zero_le _, Nat.zero_le _⟩ (fun H locs hP hD hS => ?_)
      refine kr_top (w := nI (c / 512 % 4)) (g3 (by omega)) ?_
      refine lv_iconst (v := (-1)) hx hcd dX5_arrive_250 (by decide) ?_
      refine kr_Vv (As := [.int (nI (c / 64 % 8)), .int (nI (c / 8 % 8)), .int (nI (c / 512 % 4)), .int (-1)]) (rest := []) (ws2 := wW cI q (upd M (132 + 18 * (c / 64 % 8) + 3 * (c / 8 % 8) + (c / 512 % 4)) (-1))) (q := (RX4, TX4, 1)) ⟨hx, hcd, hml, hown, hts⟩ (c_X4_set l D cI cB cW cL q _ M (c / 64 % 8) (c / 8 % 8) (c / 512 % 4) (-1) (by omega) (by omega) (by omega)) (cwV 4 hts gX5_arrive_X4_set rfl rfl rfl (by decide +kernel) ⟨Nat.le_of_ble_eq_true rfl, Nat.le_of_ble_eq_true rfl⟩) hK hP hD hS hA [9, 10] wW_ViC (by decide) wVi_adr (wW_vi (fun k hk => upd_ne (by omega))) 9 rfl rfl rfl hl.1 rfl (Nat.le_of_ble_eq_true rfl) dX5_arrive_251 ⟨Nat.zero_le _, Nat.zero_le _⟩ (fun H locs hP hD hS => ?_)
      refine lv_goto (tgt := 286) hx hcd dX5_arrive_254 (by decide) ?_
      exact kr_vret hx hcd hr hlocks hK hP hD hS (congrArg (fun M9 => wW cI q M9) (by (try simp only [b_0, b_z, b_4, b_5, b_8, b_10]); simp [g_arrive, c_18, hk])) dX5_arrive_286
    · refine kr_top (w := nI 6) (congrArg nI hk) ?_
      refine lv_tableOut (x := nI 6) (tgt := 257) hx hcd dX5_arrive_27 (by decide) (by decide) ?_
      refine lv_aload_n hx hcd dX5_arrive_257 rfl (lv_at hl 2 rfl) ?_
      refine kr_get hx hcd hts uX5 hown hK hP 0 rfl rfl 1 (by decide) (by decide +kernel) (v := .ref (q 5)) rfl dX5_arrive_258 ?_
      refine lv_iload_n hx hcd dX5_arrive_261 rfl (lv_at hl 0 rfl) ?_
      refine lv_iload_n hx hcd dX5_arrive_262 rfl (lv_at hl 1 rfl) ?_
      refine lv_iconst (v := nI 2) hx hcd dX5_arrive_263 (by decide) ?_
      refine kr_Vi (As := [.int (nI (c / 64 % 8)), .int (nI (c / 8 % 8)), .int (nI 2)]) (rest := []) (ws2 := wW cI q M) (q := (RX1, TX1, 3)) ⟨hx, hcd, hml, hown, hts⟩ (c_X1_hasAny l D cI cB cW cL q _ M (c / 64 % 8) (c / 8 % 8) 2 (by omega) (by omega)) (cwV 3 hts gX5_arrive_X1_hasAny rfl rfl rfl (by decide +kernel) ⟨Nat.le_of_ble_eq_true rfl, Nat.le_of_ble_eq_true rfl⟩) hK hP hD hS hA [5, 6, 7, 8] wW_RoC (by decide) wRo_adr wW_Ro0 5 rfl rfl rfl hl.1 rfl (Nat.le_of_ble_eq_true rfl) dX5_arrive_264 ⟨Nat.zero_le _, Nat.zero_le _⟩ (fun H locs hP hD hS => ?_)
      refine kr_beq (tgt := 279) hx hcd dX5_arrive_267 (by decide) (fun (c_267 : g_has M (c / 64 % 8) (c / 8 % 8) 2 = false) => ?_) (fun (c_267 : g_has M (c / 64 % 8) (c / 8 % 8) 2 = true) => ?_)
      · refine lv_aload_n hx hcd dX5_arrive_279 rfl (lv_at hl 2 rfl) ?_
        refine lv_iconst (v := nI 3) hx hcd dX5_arrive_280 (by decide) ?_
        refine lv_iload_n hx hcd dX5_arrive_281 rfl (lv_at hl 0 rfl) ?_
        refine lv_iload_n hx hcd dX5_arrive_282 rfl (lv_at hl 1 rfl) ?_
        refine kr_Vv (As := [.int (nI 3), .int (nI (c / 64 % 8)), .int (nI (c / 8 % 8))]) (rest := []) (ws2 := wW cI q (g_send M 3 (c / 64 % 8) (c / 8 % 8) 0 0)) (q := (RX5, TX5, 5)) ⟨hx, hcd, hml, hown, hts⟩ (c_X5_send l D cI cB cW cL q _ M 3 (c / 64 % 8) (c / 8 % 8) hI (by omega) (by omega) (by omega) (by omega) (by omega)) (cwV 3 hts gX5_arrive_X5_send rfl rfl rfl (by decide +kernel) ⟨Nat.le_of_ble_eq_true rfl, Nat.le_of_ble_eq_true rfl⟩) hK hP hD hS hA [0, 1, 2, 3, 4, 5, 6, 7, 8, 9, 10, 11, 12, 13, 14] wW_allC (by decide) wW_adr wW_all 0 rfl rfl rfl hl.1 rfl (Nat.le_of_ble_eq_true rfl) dX5_arrive_283 ⟨Nat.zero_le _, Nat.zero_le _⟩ (fun H locs hP hD hS => ?_)
        have hI_9 : kInv (g_send M 3 (c / 64 % 8) (c / 8 % 8) 0 0) := i_send hI (by omega) (by omega) (by omega) (by omega) (by omega) (by omega) (by omega)
        exact kr_vret hx hcd hr hlocks hK hP hD hS (congrArg (fun M9 => wW cI q M9) (by (try simp only [b_0, b_z, b_4, b_5, b_8, b_10]); simp [g_arrive, c_18, hk, c_267])) dX5_arrive_286
      · refine lv_aload_n hx hcd dX5_arrive_270 rfl (lv_at hl 2 rfl) ?_
        refine lv_iload_n hx hcd dX5_arrive_271 rfl (lv_at hl 0 rfl) ?_
        refine lv_iload_n hx hcd dX5_arrive_272 rfl (lv_at hl 1 rfl) ?_
        refine kr_Vv (As := [.int (nI (c / 64 % 8)), .int (nI (c / 8 % 8))]) (rest := []) (ws2 := wW cI q (g_show M (c / 64 % 8) (c / 8 % 8))) (q := (RX5, TX5, 5)) ⟨hx, hcd, hml, hown, hts⟩ (c_X5_show l D cI cB cW cL q _ M (c / 64 % 8) (c / 8 % 8) hI (by omega) (by omega)) (cwV 2 hts gX5_arrive_X5_show rfl rfl rfl (by decide +kernel) ⟨Nat.le_of_ble_eq_true rfl, Nat.le_of_ble_eq_true rfl⟩) hK hP hD hS hA [0, 1, 2, 3, 4, 5, 6, 7, 8, 9, 10, 11, 12, 13, 14] wW_allC (by decide) wW_adr wW_all 0 rfl rfl rfl hl.1 rfl (Nat.le_of_ble_eq_true rfl) dX5_arrive_273 ⟨Nat.zero_le _, Nat.zero_le _⟩ (fun H locs hP hD hS => ?_)
        have hI_10 : kInv (g_show M (c / 64 % 8) (c / 8 % 8)) := i_show hI (by omega) (by omega)
        refine lv_goto (tgt := 286) hx hcd dX5_arrive_276 (by decide) ?_
        exact kr_vret hx hcd hr hlocks hK hP hD hS (congrArg (fun M9 => wW cI q M9) (by (try simp only [b_0, b_z, b_4, b_5, b_8, b_10]); simp [g_arrive, c_18, hk, c_267])) dX5_arrive_286
  · exact kr_vret hx hcd hr hlocks hK hP hD hS (congrArg (fun M9 => wW cI q M9) (by (try simp only [b_0, b_z, b_4, b_5, b_8, b_10]); simp [g_arrive, c_18])) dX5_arrive_21

set_option maxHeartbeats 4000000 in
set_option maxRecDepth 100000 in
theorem c_X5_letArrive (l : Launch) (D : va_G) (cI cB cW cL : ClassId) (q : Nat → Nat) (sz : Nat) (M : kM) (n : Nat) (hI : kInv M) (hn : n < 100000) : kMi l yX5_letArrive wsX5_letArrive ({ frames := 4, cells := 0, slots := 0, locals := 96 }) D vwCl (kT cI cB cW cL) sz [.ref (q 0), .int (nI n)] (wW cI q M) (wW cI q (g_del n M)) (nI (g_delC n M)) := by
  refine kr_ofi (cc := cX5_letArrive) (maxL := 3) (ret := (some .int)) (by decide) rfl (Nat.le_of_ble_eq_true rfl) ?_
  intro pp ee ss mm args below meth cc AA ls hx hcd hr hts hown hlocks hml hK hP hD hA hl
  have hS : va_S AA ss.heap ss.heap [] := va_S.rf
  have hown : ss.vm.findClass RX5 = some mm.cls := hown
  have hl : lv_has ls 3 [(0, .ref (q 0)), (1, .int (nI n))] := hl
  have uX0 : ∀ w ∈ u_ws RX0 TX0 4, w ∈ wsX5_letArrive := by decide +kernel
  have uX5 : ∀ w ∈ u_ws RX5 TX5 5, w ∈ wsX5_letArrive := by decide +kernel
  refine lv_iconst (v := nI 0) hx hcd dX5_letArrive_0 (by decide) ?_
  refine lv_istore_n (lv' := [(2, .int (nI 0)), (0, .ref (q 0)), (1, .int (nI n))]) hx hcd dX5_letArrive_1 rfl hl (by decide) rfl (fun ls hl => ?_)
  refine kr_rec (σ := kM × Nat) (fun y9 => wW cI q y9.1) (fun y9 => [(0, .ref (q 0)), (1, .int (nI n)), (2, .int (nI y9.2))]) (fun y9 => y9.2 ≤ n ∧ kInv y9.1 ∧ g_del (n - y9.2) y9.1 = g_del n M ∧ y9.2 + g_delC (n - y9.2) y9.1 = g_delC n M) (fun y9 => n - y9.2) (nL := 3) (fun y9 hX ih_2 H locs ls hP hD hS hl => ?_) (M, 0) ⟨Nat.zero_le _, hI, rfl, Nat.zero_add _⟩ hP hD hS (lv_sub hl [1, 2, 0] rfl)
  obtain ⟨M1, j⟩ := y9
  obtain ⟨hj, hJ, h1, h2⟩ := hX
  have hl : lv_has ls 3 [(0, .ref (q 0)), (1, .int (nI n)), (2, .int (nI j))] := hl
  dsimp only at hj hJ h1 h2
  have e577 := i_wy hJ
  have b577 := i_wyle hJ
  refine lv_iload_n hx hcd dX5_letArrive_2 rfl (lv_at hl 2 rfl) ?_
  refine lv_iload_n hx hcd dX5_letArrive_3 rfl (lv_at hl 1 rfl) ?_
  refine kr_cge (tgt := 34) hx hcd (by omega) (by omega) dX5_letArrive_4 (by decide) (fun (c_4 : n ≤ j) => ?_) (fun (c_4 : j < n) => ?_)
  · refine lv_iload_n hx hcd dX5_letArrive_34 rfl (lv_at hl 2 rfl) ?_
    exact kr_iret hx hcd hr hlocks hK hP hD hS (by first | (rw [← h2, g_delC_stop (by omega)]; rfl) | (rw [← h2, show n - j = 0 by omega]; rfl)) (congrArg (fun M9 => wW cI q M9) (by first | (rw [← h1, g_del_stop (by omega)]) | (rw [← h1, show n - j = 0 by omega]; rfl))) dX5_letArrive_35
  · refine lv_aload_n hx hcd dX5_letArrive_7 rfl (lv_at hl 0 rfl) ?_
    refine kr_get hx hcd hts uX5 hown hK hP 0 rfl rfl 3 (by decide) (by decide +kernel) (v := .ref (q 11)) rfl dX5_letArrive_8 ?_
    refine kr_get hx hcd hts uX0 hown hK hP 11 rfl rfl 2 (by decide) (by decide +kernel) (v := .int (M1 577)) rfl dX5_letArrive_11 ?_
    refine kr_top (w := nI (wyN M1)) e577 ?_
    refine kr_zle (tgt := 34) hx hcd (by omega) dX5_letArrive_14 (by decide) (fun (c_14 : wyN M1 = 0) => ?_) (fun (c_14 : 0 < wyN M1) => ?_)
    · refine lv_iload_n hx hcd dX5_letArrive_34 rfl (lv_at hl 2 rfl) ?_
      exact kr_iret hx hcd hr hlocks hK hP hD hS (by first | (rw [← h2, g_delC_stop (by omega)]; rfl) | (rw [← h2, show n - j = 0 by omega]; rfl)) (congrArg (fun M9 => wW cI q M9) (by first | (rw [← h1, g_del_stop (by omega)]) | (rw [← h1, show n - j = 0 by omega]; rfl))) dX5_letArrive_35
    · refine lv_aload_n hx hcd dX5_letArrive_17 rfl (lv_at hl 0 rfl) ?_
      refine lv_aload_n hx hcd dX5_letArrive_18 rfl (lv_at hl 0 rfl) ?_
      refine kr_get hx hcd hts uX5 hown hK hP 0 rfl rfl 3 (by decide) (by decide +kernel) (v := .ref (q 11)) rfl dX5_letArrive_19 ?_
      refine kr_Vi (As := []) (rest := [.ref (q 0)]) (ws2 := wW cI q (g_take M1)) (q := (RX0, TX0, 4)) ⟨hx, hcd, hml, hown, hts⟩ (c_X0_takeOldest l D cI cB cW cL q _ M1 hJ (by omega)) (cwV 0 hts gX5_letArrive_X0_takeOldest rfl rfl rfl (by decide +kernel) ⟨Nat.le_of_ble_eq_true rfl, Nat.le_of_ble_eq_true rfl⟩) hK hP hD hS hA [11, 12, 13] wW_PoC (by decide) wPo_adr (wW_po (fun k hk => o_take (by omega))) 11 rfl rfl rfl hl.1 rfl (Nat.le_of_ble_eq_true rfl) dX5_letArrive_22 ⟨Nat.zero_le _, Nat.zero_le _⟩ (fun H locs hP hD hS => ?_)
      have hI_1 : kInv (g_take M1) := i_take hJ (by omega)
      refine kr_Vv (As := [.int (nI (cvN (g_msg M1 0)))]) (rest := []) (ws2 := wW cI q (g_arrive (g_take M1) (g_msg M1 0))) (q := (RX5, TX5, 5)) ⟨hx, hcd, hml, hown, hts⟩ (c_X5_arrive l D cI cB cW cL q _ (g_take M1) (cvN (g_msg M1 0)) (g_msg M1 0) hI_1 rfl (i_msg hJ 0).1 (i_msglt hJ 0)) (cwV 1 hts gX5_letArrive_X5_arrive rfl rfl rfl (by decide +kernel) ⟨Nat.le_of_ble_eq_true rfl, Nat.le_of_ble_eq_true rfl⟩) hK hP hD hS hA [0, 1, 2, 3, 4, 5, 6, 7, 8, 9, 10, 11, 12, 13, 14] wW_allC (by decide) wW_adr wW_all 0 rfl rfl rfl hl.1 rfl (Nat.le_of_ble_eq_true rfl) dX5_letArrive_25 ⟨Nat.zero_le _, Nat.zero_le _⟩ (fun H locs hP hD hS => ?_)
      have hI_2 : kInv (g_arrive (g_take M1) (g_msg M1 0)) := i_arrive hI_1 (i_msg hJ 0).1 (i_msglt hJ 0)
      refine kr_iinc (lv' := [(2, .int (nI (j + 1))), (0, .ref (q 0)), (1, .int (nI n))]) hx hcd dX5_letArrive_28 hl (k := 2) rfl (by decide) rfl (fun ls hl => ?_)
      refine lv_goto (tgt := 2) hx hcd dX5_letArrive_31 (by decide) ?_
      exact ih_2 ((g_arrive (g_take M1) (g_msg M1 0)), j + 1) ⟨by omega, hI_2, by rw [← h1, g_del_go (by omega) (show 0 < n - j by omega)]; congr 1, by have h9 := g_delC_go (M := M1) (by omega) (show 0 < n - j by omega); show j + 1 + g_delC (n - (j + 1)) (g_arrive (g_take M1) (g_msg M1 0)) = g_delC n M; rw [← h2, h9, show n - (j + 1) = n - j - 1 by omega]; omega⟩ (by show n - (j + 1) < n - j; omega) H locs ls hP hD hS (lv_sub hl [1, 2, 0] rfl)
