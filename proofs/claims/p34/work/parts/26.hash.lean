set_option maxHeartbeats 4000000 in
set_option maxRecDepth 100000 in
theorem c_X0_hashMessages (l : Launch) (D : va_G) (cI cB cW cL : ClassId) (q : Nat → Nat) (sz : Nat) (M : kM) (h : Int64) (hI : kInv M) : kMl l yX0_hashMessages wsX0_hashMessages ({ frames := 3, cells := 0, slots := 0, locals := 64 }) D vwCl (kT cI cB cW cL) sz [.ref (q 11), .long h] (wPo cI q M) (wPo cI q M) (g_hPost M h) := by
  refine kr_ofl (cc := cX0_hashMessages) (maxL := 8) (ret := (some .long)) (by decide) rfl (Nat.le_of_ble_eq_true rfl) ?_
  intro pp ee ss mm args below meth cc AA ls hx hcd hr hts hown hlocks hml hK hP hD hA hl
  have hS : va_S AA ss.heap ss.heap [] := va_S.rf
  have hown : ss.vm.findClass RX0 = some mm.cls := hown
  have hl : lv_has ls 8 [(0, .ref (q 11)), (1, .long h)] := hl
  have uX0 : ∀ w ∈ u_ws RX0 TX0 4, w ∈ wsX0_hashMessages := by decide +kernel
  have e576 := i_hd hI
  have b576 := i_hdlt hI
  have e577 := i_wy hI
  have b577 := i_wyle hI
  refine lv_lload_n hx hcd dX0_hashMessages_0 rfl (lv_at hl 1 rfl) ?_
  refine lv_lstore_n (lv' := [(3, .long h), (0, .ref (q 11)), (1, .long h)]) hx hcd dX0_hashMessages_1 rfl hl (by decide) rfl (fun ls hl => ?_)
  refine lv_iconst (v := nI 0) hx hcd dX0_hashMessages_2 (by decide) ?_
  refine lv_istore (lv' := [(5, .int (nI 0)), (3, .long h), (0, .ref (q 11)), (1, .long h)]) hx hcd dX0_hashMessages_3 hl (by decide) rfl (fun ls hl => ?_)
  refine kr_up (fun w => wPo cI q M) (fun w => [(0, .ref (q 11)), (1, .long h), (3, .long (g_hC M h w)), (5, .int (nI w))]) 3 (nL := 8) (fun w hw ih_5 H locs ls hP hD hS hl => ?_) (fun H locs ls hP hD hS hl => ?_) 0 (by omega) hP hD hS (lv_sub hl [2, 3, 1, 0] rfl)
  · have hl : lv_has ls 8 [(0, .ref (q 11)), (1, .long h), (3, .long (g_hC M h w)), (5, .int (nI w))] := hl
    refine lv_iload hx hcd dX0_hashMessages_5 (lv_at hl 3 rfl) ?_
    refine lv_iconst (v := nI 3) hx hcd dX0_hashMessages_7 (by decide) ?_
    refine kr_cge (tgt := 32) hx hcd (by omega) (by omega) dX0_hashMessages_8 (by decide) (fun (c_8 : 3 ≤ w) => absurd c_8 (by omega)) (fun (c_8 : w < 3) => ?_)
    refine lv_ldc2 (v := 31) hx hcd hown (hts (.constantLong RX0 47 31) (by decide +kernel)) dX0_hashMessages_11 ?_
    refine lv_lload_n hx hcd dX0_hashMessages_14 rfl (lv_at hl 2 rfl) ?_
    refine lv_lmul hx hcd dX0_hashMessages_15 ?_
    refine lv_aload_n hx hcd dX0_hashMessages_16 rfl (lv_at hl 0 rfl) ?_
    refine kr_get hx hcd hts uX0 hown hK hP 0 rfl rfl 3 (by decide) (by decide +kernel) (v := .ref (q 13)) rfl dX0_hashMessages_17 ?_
    refine lv_iload hx hcd dX0_hashMessages_20 (lv_at hl 3 rfl) ?_
    refine kr_iald hx hcd hK hP 2 0 rfl rfl (v := M (578 + w)) (by omega) (by decide) (vw_at (by omega) (by omega)) dX0_hashMessages_22 ?_
    refine lv_i2l hx hcd dX0_hashMessages_23 rfl ?_
    refine lv_ladd hx hcd dX0_hashMessages_24 ?_
    refine kr_topl (w := g_mix (g_hC M h w) (M (578 + w))) rfl ?_
    refine lv_lstore_n (lv' := [(3, .long (g_mix (g_hC M h w) (M (578 + w)))), (0, .ref (q 11)), (1, .long h), (5, .int (nI w))]) hx hcd dX0_hashMessages_25 rfl hl (by decide) rfl (fun ls hl => ?_)
    refine kr_iinc (lv' := [(5, .int (nI (w + 1))), (3, .long (g_mix (g_hC M h w) (M (578 + w)))), (0, .ref (q 11)), (1, .long h)]) hx hcd dX0_hashMessages_26 hl (k := 3) rfl (by decide) rfl (fun ls hl => ?_)
    refine lv_goto (tgt := 5) hx hcd dX0_hashMessages_29 (by decide) ?_
    exact ih_5 H locs ls hP hD hS (lv_sub hl [2, 3, 1, 0] rfl)
  · have hl : lv_has ls 8 [(0, .ref (q 11)), (1, .long h), (3, .long (g_hC M h 3)), (5, .int (nI 3))] := hl
    refine lv_iload hx hcd dX0_hashMessages_5 (lv_at hl 3 rfl) ?_
    refine lv_iconst (v := nI 3) hx hcd dX0_hashMessages_7 (by decide) ?_
    refine kr_cge (tgt := 32) hx hcd (by omega) (by omega) dX0_hashMessages_8 (by decide) (fun (c_8 : 3 ≤ 3) => ?_) (fun (c_8 : 3 < 3) => absurd c_8 (by omega))
    refine lv_ldc2 (v := 31) hx hcd hown (hts (.constantLong RX0 47 31) (by decide +kernel)) dX0_hashMessages_32 ?_
    refine lv_lload_n hx hcd dX0_hashMessages_35 rfl (lv_at hl 2 rfl) ?_
    refine lv_lmul hx hcd dX0_hashMessages_36 ?_
    refine lv_aload_n hx hcd dX0_hashMessages_37 rfl (lv_at hl 0 rfl) ?_
    refine kr_get hx hcd hts uX0 hown hK hP 0 rfl rfl 2 (by decide) (by decide +kernel) (v := .int (M 577)) rfl dX0_hashMessages_38 ?_
    refine kr_top (w := nI (wyN M)) e577 ?_
    refine lv_i2l hx hcd dX0_hashMessages_41 rfl ?_
    refine lv_ladd hx hcd dX0_hashMessages_42 ?_
    refine kr_topl (w := g_mix (g_hC M h 3) (nI (wyN M))) rfl ?_
    refine lv_lstore_n (lv' := [(3, .long (g_mix (g_hC M h 3) (nI (wyN M)))), (0, .ref (q 11)), (1, .long h), (5, .int (nI 3))]) hx hcd dX0_hashMessages_43 rfl hl (by decide) rfl (fun ls hl => ?_)
    refine lv_iconst (v := nI 0) hx hcd dX0_hashMessages_44 (by decide) ?_
    refine lv_istore (lv' := [(5, .int (nI 0)), (3, .long (g_mix (g_hC M h 3) (nI (wyN M)))), (0, .ref (q 11)), (1, .long h)]) hx hcd dX0_hashMessages_45 hl (by decide) rfl (fun ls hl => ?_)
    refine kr_up (fun i => wPo cI q M) (fun i => [(0, .ref (q 11)), (1, .long h), (3, .long (g_hM M (g_mix (g_hC M h 3) (M 577)) i)), (5, .int (nI i))]) (wyN M) (nL := 8) (fun i hi ih_47 H locs ls hP hD hS hl => ?_) (fun H locs ls hP hD hS hl => ?_) 0 (by omega) hP hD hS (by have h9 := (lv_sub hl [2, 3, 1, 0] rfl); rw [hM_577 hI] at h9; exact h9)
    · have hl : lv_has ls 8 [(0, .ref (q 11)), (1, .long h), (3, .long (g_hM M (g_mix (g_hC M h 3) (M 577)) i)), (5, .int (nI i))] := hl
      refine lv_iload hx hcd dX0_hashMessages_47 (lv_at hl 3 rfl) ?_
      refine lv_aload_n hx hcd dX0_hashMessages_49 rfl (lv_at hl 0 rfl) ?_
      refine kr_get hx hcd hts uX0 hown hK hP 0 rfl rfl 2 (by decide) (by decide +kernel) (v := .int (M 577)) rfl dX0_hashMessages_50 ?_
      refine kr_top (w := nI (wyN M)) e577 ?_
      refine kr_cge (tgt := 100) hx hcd (by omega) (by omega) dX0_hashMessages_53 (by decide) (fun (c_53 : wyN M ≤ i) => absurd c_53 (by omega)) (fun (c_53 : i < wyN M) => ?_)
      refine lv_aload_n hx hcd dX0_hashMessages_56 rfl (lv_at hl 0 rfl) ?_
      refine lv_iload hx hcd dX0_hashMessages_57 (lv_at hl 3 rfl) ?_
      refine kr_Vi (As := [.int (nI i)]) (rest := []) (ws2 := wPo cI q M) (q := (RX0, TX0, 4)) ⟨hx, hcd, hml, hown, hts⟩ (c_X0_messageAt l D cI cB cW cL q _ M i hI (by omega)) (cwV 1 hts gX0_hashMessages_X0_messageAt rfl rfl rfl (by decide +kernel) ⟨Nat.le_of_ble_eq_true rfl, Nat.le_of_ble_eq_true rfl⟩) hK hP hD hS hA [0, 1, 2] wPo_allC (by decide) wPo_adr wPo_all 0 rfl rfl rfl hl.1 rfl (Nat.le_of_ble_eq_true rfl) dX0_hashMessages_59 ⟨Nat.zero_le _, Nat.zero_le _⟩ (fun H locs hP hD hS => ?_)
      refine lv_istore (lv' := [(6, .int (nI (cvN (g_msg M i)))), (0, .ref (q 11)), (1, .long h), (3, .long (g_hM M (g_mix (g_hC M h 3) (M 577)) i)), (5, .int (nI i))]) hx hcd dX0_hashMessages_62 hl (by decide) rfl (fun ls hl => ?_)
      refine lv_iconst (v := nI 0) hx hcd dX0_hashMessages_64 (by decide) ?_
      refine lv_istore (lv' := [(7, .int (nI 0)), (6, .int (nI (cvN (g_msg M i)))), (0, .ref (q 11)), (1, .long h), (3, .long (g_hM M (g_mix (g_hC M h 3) (M 577)) i)), (5, .int (nI i))]) hx hcd dX0_hashMessages_65 hl (by decide) rfl (fun ls hl => ?_)
      refine kr_up (fun w => wPo cI q M) (fun w => [(0, .ref (q 11)), (1, .long h), (3, .long (g_hM1 M i (g_hM M (g_mix (g_hC M h 3) (M 577)) i) w)), (5, .int (nI i)), (6, .int (nI (cvN (g_msg M i)))), (7, .int (nI w))]) 5 (nL := 8) (fun w hw ih_67 H locs ls hP hD hS hl => ?_) (fun H locs ls hP hD hS hl => ?_) 0 (by omega) hP hD hS (lv_sub hl [2, 3, 4, 5, 1, 0] rfl)
      · have hl : lv_has ls 8 [(0, .ref (q 11)), (1, .long h), (3, .long (g_hM1 M i (g_hM M (g_mix (g_hC M h 3) (M 577)) i) w)), (5, .int (nI i)), (6, .int (nI (cvN (g_msg M i)))), (7, .int (nI w))] := hl
        refine lv_iload hx hcd dX0_hashMessages_67 (lv_at hl 5 rfl) ?_
        refine lv_iconst (v := nI 5) hx hcd dX0_hashMessages_69 (by decide) ?_
        refine kr_cge (tgt := 94) hx hcd (by omega) (by omega) dX0_hashMessages_70 (by decide) (fun (c_70 : 5 ≤ w) => absurd c_70 (by omega)) (fun (c_70 : w < 5) => ?_)
        refine lv_ldc2 (v := 31) hx hcd hown (hts (.constantLong RX0 47 31) (by decide +kernel)) dX0_hashMessages_73 ?_
        refine lv_lload_n hx hcd dX0_hashMessages_76 rfl (lv_at hl 2 rfl) ?_
        refine lv_lmul hx hcd dX0_hashMessages_77 ?_
        refine lv_iload hx hcd dX0_hashMessages_78 (lv_at hl 4 rfl) ?_
        refine lv_iload hx hcd dX0_hashMessages_80 (lv_at hl 5 rfl) ?_
        refine kr_Si (As := [.int (nI (cvN (g_msg M i))), .int (nI w)]) (rest := [.long (31 * (g_hM1 M i (g_hM M (g_mix (g_hC M h 3) (M 577)) i) w))]) (ws2 := wPo cI q M) ⟨hx, hcd, hml, hown, hts⟩ (c_X0_part l D cI cB cW cL  _ M (cvN (g_msg M i)) w (g_msg M i) (by omega) rfl (i_msg hI i).1 (i_msglt hI i)) (va_cwS 2 hts gX0_hashMessages_X0_part rfl rfl rfl (by decide +kernel) ⟨Nat.le_of_ble_eq_true rfl, Nat.le_of_ble_eq_true rfl⟩) hK hP hD hS hA [] rfl (by decide) rfl rfl rfl hl.1 rfl (Nat.le_of_ble_eq_true rfl) dX0_hashMessages_82 ⟨Nat.zero_le _, Nat.zero_le _⟩ (fun H locs hP hD hS => ?_)
        refine lv_i2l hx hcd dX0_hashMessages_85 rfl ?_
        refine lv_ladd hx hcd dX0_hashMessages_86 ?_
        refine kr_topl (w := g_mix (g_hM1 M i (g_hM M (g_mix (g_hC M h 3) (M 577)) i) w) (g_part (g_msg M i) w)) rfl ?_
        refine lv_lstore_n (lv' := [(3, .long (g_mix (g_hM1 M i (g_hM M (g_mix (g_hC M h 3) (M 577)) i) w) (g_part (g_msg M i) w))), (0, .ref (q 11)), (1, .long h), (5, .int (nI i)), (6, .int (nI (cvN (g_msg M i)))), (7, .int (nI w))]) hx hcd dX0_hashMessages_87 rfl hl (by decide) rfl (fun ls hl => ?_)
        refine kr_iinc (lv' := [(7, .int (nI (w + 1))), (3, .long (g_mix (g_hM1 M i (g_hM M (g_mix (g_hC M h 3) (M 577)) i) w) (g_part (g_msg M i) w))), (0, .ref (q 11)), (1, .long h), (5, .int (nI i)), (6, .int (nI (cvN (g_msg M i))))]) hx hcd dX0_hashMessages_88 hl (k := 5) rfl (by decide) rfl (fun ls hl => ?_)
        refine lv_goto (tgt := 67) hx hcd dX0_hashMessages_91 (by decide) ?_
        exact ih_67 H locs ls hP hD hS (lv_sub hl [2, 3, 1, 4, 5, 0] rfl)
      · have hl : lv_has ls 8 [(0, .ref (q 11)), (1, .long h), (3, .long (g_hM1 M i (g_hM M (g_mix (g_hC M h 3) (M 577)) i) 5)), (5, .int (nI i)), (6, .int (nI (cvN (g_msg M i)))), (7, .int (nI 5))] := hl
        refine lv_iload hx hcd dX0_hashMessages_67 (lv_at hl 5 rfl) ?_
        refine lv_iconst (v := nI 5) hx hcd dX0_hashMessages_69 (by decide) ?_
        refine kr_cge (tgt := 94) hx hcd (by omega) (by omega) dX0_hashMessages_70 (by decide) (fun (c_70 : 5 ≤ 5) => ?_) (fun (c_70 : 5 < 5) => absurd c_70 (by omega))
        refine kr_iinc (lv' := [(5, .int (nI (i + 1))), (0, .ref (q 11)), (1, .long h), (3, .long (g_hM1 M i (g_hM M (g_mix (g_hC M h 3) (M 577)) i) 5)), (6, .int (nI (cvN (g_msg M i)))), (7, .int (nI 5))]) hx hcd dX0_hashMessages_94 hl (k := 3) rfl (by decide) rfl (fun ls hl => ?_)
        refine lv_goto (tgt := 47) hx hcd dX0_hashMessages_97 (by decide) ?_
        exact ih_47 H locs ls hP hD hS (lv_sub hl [1, 2, 3, 0] rfl)
    · have hl : lv_has ls 8 [(0, .ref (q 11)), (1, .long h), (3, .long (g_hM M (g_mix (g_hC M h 3) (M 577)) (wyN M))), (5, .int (nI (wyN M)))] := hl
      refine lv_iload hx hcd dX0_hashMessages_47 (lv_at hl 3 rfl) ?_
      refine lv_aload_n hx hcd dX0_hashMessages_49 rfl (lv_at hl 0 rfl) ?_
      refine kr_get hx hcd hts uX0 hown hK hP 0 rfl rfl 2 (by decide) (by decide +kernel) (v := .int (M 577)) rfl dX0_hashMessages_50 ?_
      refine kr_top (w := nI (wyN M)) e577 ?_
      refine kr_cge (tgt := 100) hx hcd (by omega) (by omega) dX0_hashMessages_53 (by decide) (fun (c_53 : wyN M ≤ (wyN M)) => ?_) (fun (c_53 : (wyN M) < wyN M) => absurd c_53 (by omega))
      refine lv_lload_n hx hcd dX0_hashMessages_100 rfl (lv_at hl 2 rfl) ?_
      exact kr_lret hx hcd hr hlocks hK hP hD hS rfl rfl dX0_hashMessages_101

set_option maxHeartbeats 4000000 in
set_option maxRecDepth 100000 in
theorem c_X5_hashPair (l : Launch) (D : va_G) (cI cB cW cL : ClassId) (q : Nat → Nat) (sz : Nat) (M : kM) (h : Int64) (a : Nat) (b : Nat) (ha : a < 6) (hb : b < 6) : kMl l yX5_hashPair wsX5_hashPair ({ frames := 1, cells := 0, slots := 0, locals := 23 }) D vwCl (kT cI cB cW cL) sz [.ref (q 0), .long h, .int (nI a), .int (nI b)] (wW cI q M) (wW cI q M) (g_hP M a b h) := by
  refine kr_ofl (cc := cX5_hashPair) (maxL := 8) (ret := (some .long)) (by decide) rfl (Nat.le_of_ble_eq_true rfl) ?_
  intro pp ee ss mm args below meth cc AA ls hx hcd hr hts hown hlocks hml hK hP hD hA hl
  have hS : va_S AA ss.heap ss.heap [] := va_S.rf
  have hown : ss.vm.findClass RX5 = some mm.cls := hown
  have hl : lv_has ls 8 [(0, .ref (q 0)), (1, .long h), (3, .int (nI a)), (4, .int (nI b))] := hl
  have uX5 : ∀ w ∈ u_ws RX5 TX5 5, w ∈ wsX5_hashPair := by decide +kernel
  refine lv_ldc2 (v := 31) hx hcd hown (hts (.constantLong RX5 159 31) (by decide +kernel)) dX5_hashPair_0 ?_
  refine lv_lload_n hx hcd dX5_hashPair_3 rfl (lv_at hl 1 rfl) ?_
  refine lv_lmul hx hcd dX5_hashPair_4 ?_
  refine lv_aload_n hx hcd dX5_hashPair_5 rfl (lv_at hl 0 rfl) ?_
  refine kr_get hx hcd hts uX5 hown hK hP 0 rfl rfl 1 (by decide) (by decide +kernel) (v := .ref (q 5)) rfl dX5_hashPair_6 ?_
  refine lv_iload_n hx hcd dX5_hashPair_9 rfl (lv_at hl 2 rfl) ?_
  refine lv_iload hx hcd dX5_hashPair_10 (lv_at hl 3 rfl) ?_
  refine kr_Vi (As := [.int (nI a), .int (nI b)]) (rest := [.long (31 * h)]) (ws2 := wW cI q M) (q := (RX1, TX1, 3)) ⟨hx, hcd, hml, hown, hts⟩ (c_X1_state l D cI cB cW cL q _ M a b (by omega) (by omega)) (cwV 2 hts gX5_hashPair_X1_state rfl rfl rfl (by decide +kernel) ⟨Nat.le_of_ble_eq_true rfl, Nat.le_of_ble_eq_true rfl⟩) hK hP hD hS hA [5, 6, 7, 8] wW_RoC (by decide) wRo_adr wW_Ro0 5 rfl rfl rfl hl.1 rfl (Nat.le_of_ble_eq_true rfl) dX5_hashPair_12 ⟨Nat.zero_le _, Nat.zero_le _⟩ (fun H locs hP hD hS => ?_)
  refine lv_i2l hx hcd dX5_hashPair_15 rfl ?_
  refine lv_ladd hx hcd dX5_hashPair_16 ?_
  refine kr_topl (w := g_mix h (g_st M a b)) rfl ?_
  refine lv_lstore (lv' := [(5, .long (g_mix h (g_st M a b))), (0, .ref (q 0)), (1, .long h), (3, .int (nI a)), (4, .int (nI b))]) hx hcd dX5_hashPair_17 hl (by decide) rfl (fun ls hl => ?_)
  refine lv_ldc2 (v := 31) hx hcd hown (hts (.constantLong RX5 159 31) (by decide +kernel)) dX5_hashPair_19 ?_
  refine lv_lload hx hcd dX5_hashPair_22 (lv_at hl 0 rfl) ?_
  refine lv_lmul hx hcd dX5_hashPair_24 ?_
  refine lv_aload_n hx hcd dX5_hashPair_25 rfl (lv_at hl 1 rfl) ?_
  refine kr_get hx hcd hts uX5 hown hK hP 0 rfl rfl 1 (by decide) (by decide +kernel) (v := .ref (q 5)) rfl dX5_hashPair_26 ?_
  refine lv_iload_n hx hcd dX5_hashPair_29 rfl (lv_at hl 3 rfl) ?_
  refine lv_iload hx hcd dX5_hashPair_30 (lv_at hl 4 rfl) ?_
  refine kr_Vi (As := [.int (nI a), .int (nI b)]) (rest := [.long (31 * (g_mix h (g_st M a b)))]) (ws2 := wW cI q M) (q := (RX1, TX1, 3)) ⟨hx, hcd, hml, hown, hts⟩ (c_X1_entryVersion l D cI cB cW cL q _ M a b (by omega) (by omega)) (cwV 2 hts gX5_hashPair_X1_entryVersion rfl rfl rfl (by decide +kernel) ⟨Nat.le_of_ble_eq_true rfl, Nat.le_of_ble_eq_true rfl⟩) hK hP hD hS hA [5, 6, 7, 8] wW_RoC (by decide) wRo_adr wW_Ro0 5 rfl rfl rfl hl.1 rfl (Nat.le_of_ble_eq_true rfl) dX5_hashPair_32 ⟨Nat.zero_le _, Nat.zero_le _⟩ (fun H locs hP hD hS => ?_)
  refine lv_i2l hx hcd dX5_hashPair_35 rfl ?_
  refine lv_ladd hx hcd dX5_hashPair_36 ?_
  refine kr_topl (w := g_mix (g_mix h (g_st M a b)) (M (90 + 6 * a + b))) rfl ?_
  refine lv_lstore (lv' := [(5, .long (g_mix (g_mix h (g_st M a b)) (M (90 + 6 * a + b)))), (0, .ref (q 0)), (1, .long h), (3, .int (nI a)), (4, .int (nI b))]) hx hcd dX5_hashPair_37 hl (by decide) rfl (fun ls hl => ?_)
  refine lv_ldc2 (v := 31) hx hcd hown (hts (.constantLong RX5 159 31) (by decide +kernel)) dX5_hashPair_39 ?_
  refine lv_lload hx hcd dX5_hashPair_42 (lv_at hl 0 rfl) ?_
  refine lv_lmul hx hcd dX5_hashPair_44 ?_
  refine lv_aload_n hx hcd dX5_hashPair_45 rfl (lv_at hl 1 rfl) ?_
  refine kr_get hx hcd hts uX5 hown hK hP 0 rfl rfl 4 (by decide) (by decide +kernel) (v := .ref (q 14)) rfl dX5_hashPair_46 ?_
  refine lv_iload_n hx hcd dX5_hashPair_49 rfl (lv_at hl 3 rfl) ?_
  refine lv_bipush (v := nI 6) hx hcd dX5_hashPair_50 (by decide) ?_
  refine kr_mul hx hcd dX5_hashPair_52 ?_
  refine lv_iload hx hcd dX5_hashPair_53 (lv_at hl 4 rfl) ?_
  refine kr_add hx hcd dX5_hashPair_55 ?_
  refine kr_iald hx hcd hK hP 14 0 rfl rfl (v := M (240 + 6 * a + b)) (by omega) (by decide) (vw_at (by omega) (by omega)) dX5_hashPair_56 ?_
  refine lv_i2l hx hcd dX5_hashPair_57 rfl ?_
  refine lv_ladd hx hcd dX5_hashPair_58 ?_
  refine kr_topl (w := g_mix (g_mix (g_mix h (g_st M a b)) (M (90 + 6 * a + b))) (M (240 + 6 * a + b))) rfl ?_
  refine lv_lstore (lv' := [(5, .long (g_mix (g_mix (g_mix h (g_st M a b)) (M (90 + 6 * a + b))) (M (240 + 6 * a + b)))), (0, .ref (q 0)), (1, .long h), (3, .int (nI a)), (4, .int (nI b))]) hx hcd dX5_hashPair_59 hl (by decide) rfl (fun ls hl => ?_)
  refine lv_iconst (v := nI 0) hx hcd dX5_hashPair_61 (by decide) ?_
  refine lv_istore (lv' := [(7, .int (nI 0)), (5, .long (g_mix (g_mix (g_mix h (g_st M a b)) (M (90 + 6 * a + b))) (M (240 + 6 * a + b)))), (0, .ref (q 0)), (1, .long h), (3, .int (nI a)), (4, .int (nI b))]) hx hcd dX5_hashPair_62 hl (by decide) rfl (fun ls hl => ?_)
  refine kr_up (fun i => wW cI q M) (fun i => [(0, .ref (q 0)), (1, .long h), (3, .int (nI a)), (4, .int (nI b)), (5, .long (g_hV M a b (g_mix (g_mix (g_mix h (g_st M a b)) (M (90 + 6 * a + b))) (M (240 + 6 * a + b))) i)), (7, .int (nI i))]) 3 (nL := 8) (fun i hi ih_64 H locs ls hP hD hS hl => ?_) (fun H locs ls hP hD hS hl => ?_) 0 (by omega) hP hD hS (lv_sub hl [2, 3, 4, 5, 1, 0] rfl)
  · have hl : lv_has ls 8 [(0, .ref (q 0)), (1, .long h), (3, .int (nI a)), (4, .int (nI b)), (5, .long (g_hV M a b (g_mix (g_mix (g_mix h (g_st M a b)) (M (90 + 6 * a + b))) (M (240 + 6 * a + b))) i)), (7, .int (nI i))] := hl
    refine lv_iload hx hcd dX5_hashPair_64 (lv_at hl 5 rfl) ?_
    refine lv_iconst (v := nI 3) hx hcd dX5_hashPair_66 (by decide) ?_
    refine kr_cge (tgt := 98) hx hcd (by omega) (by omega) dX5_hashPair_67 (by decide) (fun (c_67 : 3 ≤ i) => absurd c_67 (by omega)) (fun (c_67 : i < 3) => ?_)
    refine lv_ldc2 (v := 31) hx hcd hown (hts (.constantLong RX5 159 31) (by decide +kernel)) dX5_hashPair_70 ?_
    refine lv_lload hx hcd dX5_hashPair_73 (lv_at hl 4 rfl) ?_
    refine lv_lmul hx hcd dX5_hashPair_75 ?_
    refine lv_aload_n hx hcd dX5_hashPair_76 rfl (lv_at hl 0 rfl) ?_
    refine kr_get hx hcd hts uX5 hown hK hP 0 rfl rfl 2 (by decide) (by decide +kernel) (v := .ref (q 9)) rfl dX5_hashPair_77 ?_
    refine lv_iload_n hx hcd dX5_hashPair_80 rfl (lv_at hl 2 rfl) ?_
    refine lv_iload hx hcd dX5_hashPair_81 (lv_at hl 3 rfl) ?_
    refine lv_iload hx hcd dX5_hashPair_83 (lv_at hl 5 rfl) ?_
    refine kr_Vi (As := [.int (nI a), .int (nI b), .int (nI i)]) (rest := [.long (31 * (g_hV M a b (g_mix (g_mix (g_mix h (g_st M a b)) (M (90 + 6 * a + b))) (M (240 + 6 * a + b))) i))]) (ws2 := wW cI q M) (q := (RX4, TX4, 1)) ⟨hx, hcd, hml, hown, hts⟩ (c_X4_mood l D cI cB cW cL q _ M a b i (by omega) (by omega) (by omega)) (cwV 3 hts gX5_hashPair_X4_mood rfl rfl rfl (by decide +kernel) ⟨Nat.le_of_ble_eq_true rfl, Nat.le_of_ble_eq_true rfl⟩) hK hP hD hS hA [9, 10] wW_ViC (by decide) wVi_adr wW_Vi0 9 rfl rfl rfl hl.1 rfl (Nat.le_of_ble_eq_true rfl) dX5_hashPair_85 ⟨Nat.zero_le _, Nat.zero_le _⟩ (fun H locs hP hD hS => ?_)
    refine lv_i2l hx hcd dX5_hashPair_88 rfl ?_
    refine lv_ladd hx hcd dX5_hashPair_89 ?_
    refine kr_topl (w := g_mix (g_hV M a b (g_mix (g_mix (g_mix h (g_st M a b)) (M (90 + 6 * a + b))) (M (240 + 6 * a + b))) i) (M (132 + 18 * a + 3 * b + i))) rfl ?_
    refine lv_lstore (lv' := [(5, .long (g_mix (g_hV M a b (g_mix (g_mix (g_mix h (g_st M a b)) (M (90 + 6 * a + b))) (M (240 + 6 * a + b))) i) (M (132 + 18 * a + 3 * b + i)))), (0, .ref (q 0)), (1, .long h), (3, .int (nI a)), (4, .int (nI b)), (7, .int (nI i))]) hx hcd dX5_hashPair_90 hl (by decide) rfl (fun ls hl => ?_)
    refine kr_iinc (lv' := [(7, .int (nI (i + 1))), (5, .long (g_mix (g_hV M a b (g_mix (g_mix (g_mix h (g_st M a b)) (M (90 + 6 * a + b))) (M (240 + 6 * a + b))) i) (M (132 + 18 * a + 3 * b + i)))), (0, .ref (q 0)), (1, .long h), (3, .int (nI a)), (4, .int (nI b))]) hx hcd dX5_hashPair_92 hl (k := 5) rfl (by decide) rfl (fun ls hl => ?_)
    refine lv_goto (tgt := 64) hx hcd dX5_hashPair_95 (by decide) ?_
    exact ih_64 H locs ls hP hD hS (lv_sub hl [2, 3, 4, 5, 1, 0] rfl)
  · have hl : lv_has ls 8 [(0, .ref (q 0)), (1, .long h), (3, .int (nI a)), (4, .int (nI b)), (5, .long (g_hV M a b (g_mix (g_mix (g_mix h (g_st M a b)) (M (90 + 6 * a + b))) (M (240 + 6 * a + b))) 3)), (7, .int (nI 3))] := hl
    refine lv_iload hx hcd dX5_hashPair_64 (lv_at hl 5 rfl) ?_
    refine lv_iconst (v := nI 3) hx hcd dX5_hashPair_66 (by decide) ?_
    refine kr_cge (tgt := 98) hx hcd (by omega) (by omega) dX5_hashPair_67 (by decide) (fun (c_67 : 3 ≤ 3) => ?_) (fun (c_67 : 3 < 3) => absurd c_67 (by omega))
    refine lv_lload hx hcd dX5_hashPair_98 (lv_at hl 4 rfl) ?_
    exact kr_lret hx hcd hr hlocks hK hP hD hS rfl rfl dX5_hashPair_100

set_option maxHeartbeats 4000000 in
set_option maxRecDepth 100000 in
theorem c_X5_hashUser (l : Launch) (D : va_G) (cI cB cW cL : ClassId) (q : Nat → Nat) (sz : Nat) (M : kM) (h : Int64) (a : Nat) (ha : a < 6) : kMl l yX5_hashUser wsX5_hashUser ({ frames := 2, cells := 0, slots := 0, locals := 50 }) D vwCl (kT cI cB cW cL) sz [.ref (q 0), .long h, .int (nI a)] (wW cI q M) (wW cI q M) (g_hU M a h) := by
  refine kr_ofl (cc := cX5_hashUser) (maxL := 8) (ret := (some .long)) (by decide) rfl (Nat.le_of_ble_eq_true rfl) ?_
  intro pp ee ss mm args below meth cc AA ls hx hcd hr hts hown hlocks hml hK hP hD hA hl
  have hS : va_S AA ss.heap ss.heap [] := va_S.rf
  have hown : ss.vm.findClass RX5 = some mm.cls := hown
  have hl : lv_has ls 8 [(0, .ref (q 0)), (1, .long h), (3, .int (nI a))] := hl
  have uX5 : ∀ w ∈ u_ws RX5 TX5 5, w ∈ wsX5_hashUser := by decide +kernel
  refine lv_ldc2 (v := 31) hx hcd hown (hts (.constantLong RX5 159 31) (by decide +kernel)) dX5_hashUser_0 ?_
  refine lv_lload_n hx hcd dX5_hashUser_3 rfl (lv_at hl 1 rfl) ?_
  refine lv_lmul hx hcd dX5_hashUser_4 ?_
  refine lv_aload_n hx hcd dX5_hashUser_5 rfl (lv_at hl 0 rfl) ?_
  refine kr_get hx hcd hts uX5 hown hK hP 0 rfl rfl 1 (by decide) (by decide +kernel) (v := .ref (q 5)) rfl dX5_hashUser_6 ?_
  refine lv_iload_n hx hcd dX5_hashUser_9 rfl (lv_at hl 2 rfl) ?_
  refine kr_Vi (As := [.int (nI a)]) (rest := [.long (31 * h)]) (ws2 := wW cI q M) (q := (RX1, TX1, 3)) ⟨hx, hcd, hml, hown, hts⟩ (c_X1_rosterVersion l D cI cB cW cL q _ M a (by omega)) (cwV 1 hts gX5_hashUser_X1_rosterVersion rfl rfl rfl (by decide +kernel) ⟨Nat.le_of_ble_eq_true rfl, Nat.le_of_ble_eq_true rfl⟩) hK hP hD hS hA [5, 6, 7, 8] wW_RoC (by decide) wRo_adr wW_Ro0 5 rfl rfl rfl hl.1 rfl (Nat.le_of_ble_eq_true rfl) dX5_hashUser_10 ⟨Nat.zero_le _, Nat.zero_le _⟩ (fun H locs hP hD hS => ?_)
  refine lv_i2l hx hcd dX5_hashUser_13 rfl ?_
  refine lv_ladd hx hcd dX5_hashUser_14 ?_
  refine kr_topl (w := g_mix h (M (126 + a))) rfl ?_
  refine lv_lstore (lv' := [(4, .long (g_mix h (M (126 + a)))), (0, .ref (q 0)), (1, .long h), (3, .int (nI a))]) hx hcd dX5_hashUser_15 hl (by decide) rfl (fun ls hl => ?_)
  refine lv_iconst (v := nI 0) hx hcd dX5_hashUser_17 (by decide) ?_
  refine lv_istore (lv' := [(6, .int (nI 0)), (4, .long (g_mix h (M (126 + a)))), (0, .ref (q 0)), (1, .long h), (3, .int (nI a))]) hx hcd dX5_hashUser_18 hl (by decide) rfl (fun ls hl => ?_)
  refine kr_up (fun i => wW cI q M) (fun i => [(0, .ref (q 0)), (1, .long h), (3, .int (nI a)), (4, .long (g_hK M a (g_mix h (M (126 + a))) (3 * i))), (6, .int (nI i))]) 3 (nL := 8) (fun i hi ih_20 H locs ls hP hD hS hl => ?_) (fun H locs ls hP hD hS hl => ?_) 0 (by omega) hP hD hS (lv_sub hl [2, 3, 4, 1, 0] rfl)
  · have hl : lv_has ls 8 [(0, .ref (q 0)), (1, .long h), (3, .int (nI a)), (4, .long (g_hK M a (g_mix h (M (126 + a))) (3 * i))), (6, .int (nI i))] := hl
    refine lv_iload hx hcd dX5_hashUser_20 (lv_at hl 4 rfl) ?_
    refine lv_iconst (v := nI 3) hx hcd dX5_hashUser_22 (by decide) ?_
    refine kr_cge (tgt := 69) hx hcd (by omega) (by omega) dX5_hashUser_23 (by decide) (fun (c_23 : 3 ≤ i) => absurd c_23 (by omega)) (fun (c_23 : i < 3) => ?_)
    refine lv_iconst (v := nI 0) hx hcd dX5_hashUser_26 (by decide) ?_
    refine lv_istore (lv' := [(7, .int (nI 0)), (0, .ref (q 0)), (1, .long h), (3, .int (nI a)), (4, .long (g_hK M a (g_mix h (M (126 + a))) (3 * i))), (6, .int (nI i))]) hx hcd dX5_hashUser_27 hl (by decide) rfl (fun ls hl => ?_)
    refine kr_up (fun j => wW cI q M) (fun j => [(0, .ref (q 0)), (1, .long h), (3, .int (nI a)), (4, .long (g_hK M a (g_mix h (M (126 + a))) (3 * i + j))), (6, .int (nI i)), (7, .int (nI j))]) 3 (nL := 8) (fun j hj ih_29 H locs ls hP hD hS hl => ?_) (fun H locs ls hP hD hS hl => ?_) 0 (by omega) hP hD hS (lv_sub hl [1, 2, 3, 4, 5, 0] rfl)
    · have hl : lv_has ls 8 [(0, .ref (q 0)), (1, .long h), (3, .int (nI a)), (4, .long (g_hK M a (g_mix h (M (126 + a))) (3 * i + j))), (6, .int (nI i)), (7, .int (nI j))] := hl
      refine lv_iload hx hcd dX5_hashUser_29 (lv_at hl 5 rfl) ?_
      refine lv_iconst (v := nI 3) hx hcd dX5_hashUser_31 (by decide) ?_
      refine kr_cge (tgt := 63) hx hcd (by omega) (by omega) dX5_hashUser_32 (by decide) (fun (c_32 : 3 ≤ j) => absurd c_32 (by omega)) (fun (c_32 : j < 3) => ?_)
      refine lv_ldc2 (v := 31) hx hcd hown (hts (.constantLong RX5 159 31) (by decide +kernel)) dX5_hashUser_35 ?_
      refine lv_lload hx hcd dX5_hashUser_38 (lv_at hl 3 rfl) ?_
      refine lv_lmul hx hcd dX5_hashUser_40 ?_
      refine lv_aload_n hx hcd dX5_hashUser_41 rfl (lv_at hl 0 rfl) ?_
      refine kr_get hx hcd hts uX5 hown hK hP 0 rfl rfl 0 (by decide) (by decide +kernel) (v := .ref (q 1)) rfl dX5_hashUser_42 ?_
      refine lv_iload_n hx hcd dX5_hashUser_45 rfl (lv_at hl 2 rfl) ?_
      refine lv_iload hx hcd dX5_hashUser_46 (lv_at hl 4 rfl) ?_
      refine lv_iload hx hcd dX5_hashUser_48 (lv_at hl 5 rfl) ?_
      refine kr_Vi (As := [.int (nI a), .int (nI i), .int (nI j)]) (rest := [.long (31 * (g_hK M a (g_mix h (M (126 + a))) (3 * i + j)))]) (ws2 := wW cI q M) (q := (RX3, TX3, 3)) ⟨hx, hcd, hml, hown, hts⟩ (c_X3_value l D cI cB cW cL q _ M a i j (by omega) (by omega) (by omega)) (cwV 3 hts gX5_hashUser_X3_value rfl rfl rfl (by decide +kernel) ⟨Nat.le_of_ble_eq_true rfl, Nat.le_of_ble_eq_true rfl⟩) hK hP hD hS hA [1, 2, 3, 4] wW_SeC (by decide) wSe_adr wW_Se0 1 rfl rfl rfl hl.1 rfl (Nat.le_of_ble_eq_true rfl) dX5_hashUser_50 ⟨Nat.zero_le _, Nat.zero_le _⟩ (fun H locs hP hD hS => ?_)
      refine lv_i2l hx hcd dX5_hashUser_53 rfl ?_
      refine lv_ladd hx hcd dX5_hashUser_54 ?_
      refine kr_topl (w := g_mix (g_hK M a (g_mix h (M (126 + a))) (3 * i + j)) (M (9 * a + 3 * i + j))) rfl ?_
      refine lv_lstore (lv' := [(4, .long (g_mix (g_hK M a (g_mix h (M (126 + a))) (3 * i + j)) (M (9 * a + 3 * i + j)))), (0, .ref (q 0)), (1, .long h), (3, .int (nI a)), (6, .int (nI i)), (7, .int (nI j))]) hx hcd dX5_hashUser_55 hl (by decide) rfl (fun ls hl => ?_)
      refine kr_iinc (lv' := [(7, .int (nI (j + 1))), (4, .long (g_mix (g_hK M a (g_mix h (M (126 + a))) (3 * i + j)) (M (9 * a + 3 * i + j)))), (0, .ref (q 0)), (1, .long h), (3, .int (nI a)), (6, .int (nI i))]) hx hcd dX5_hashUser_57 hl (k := 5) rfl (by decide) rfl (fun ls hl => ?_)
      refine lv_goto (tgt := 29) hx hcd dX5_hashUser_60 (by decide) ?_
      have hl : lv_has ls 8 [(0, .ref (q 0)), (1, .long h), (3, .int (nI a)), (4, .long (g_mix (g_hK M a (g_mix h (M (126 + a))) (3 * i + j)) (M (9 * a + 3 * i + j)))), (6, .int (nI i)), (7, .int (nI (j + 1)))] := lv_sub hl [2, 3, 4, 1, 5, 0] rfl
      have e9 : ([(0, .ref (q 0)), (1, .long h), (3, .int (nI a)), (4, .long (g_mix (g_hK M a (g_mix h (M (126 + a))) (3 * i + j)) (M (9 * a + 3 * i + j)))), (6, .int (nI i)), (7, .int (nI (j + 1)))] : List (Nat × Value)) = [(0, .ref (q 0)), (1, .long h), (3, .int (nI a)), (4, .long (g_hK M a (g_mix h (M (126 + a))) (3 * i + (j + 1)))), (6, .int (nI i)), (7, .int (nI (j + 1)))] := by rw [hK_up (by omega)]; rfl
      exact ih_29 H locs ls hP hD hS (e9 ▸ hl)
    · have hl : lv_has ls 8 [(0, .ref (q 0)), (1, .long h), (3, .int (nI a)), (4, .long (g_hK M a (g_mix h (M (126 + a))) (3 * i + 3))), (6, .int (nI i)), (7, .int (nI 3))] := hl
      refine lv_iload hx hcd dX5_hashUser_29 (lv_at hl 5 rfl) ?_
      refine lv_iconst (v := nI 3) hx hcd dX5_hashUser_31 (by decide) ?_
      refine kr_cge (tgt := 63) hx hcd (by omega) (by omega) dX5_hashUser_32 (by decide) (fun (c_32 : 3 ≤ 3) => ?_) (fun (c_32 : 3 < 3) => absurd c_32 (by omega))
      refine kr_iinc (lv' := [(6, .int (nI (i + 1))), (0, .ref (q 0)), (1, .long h), (3, .int (nI a)), (4, .long (g_hK M a (g_mix h (M (126 + a))) (3 * i + 3))), (7, .int (nI 3))]) hx hcd dX5_hashUser_63 hl (k := 4) rfl (by decide) rfl (fun ls hl => ?_)
      refine lv_goto (tgt := 20) hx hcd dX5_hashUser_66 (by decide) ?_
      exact ih_20 H locs ls hP hD hS (lv_sub hl [1, 2, 3, 4, 0] rfl)
  · have hl : lv_has ls 8 [(0, .ref (q 0)), (1, .long h), (3, .int (nI a)), (4, .long (g_hK M a (g_mix h (M (126 + a))) (3 * 3))), (6, .int (nI 3))] := hl
    refine lv_iload hx hcd dX5_hashUser_20 (lv_at hl 4 rfl) ?_
    refine lv_iconst (v := nI 3) hx hcd dX5_hashUser_22 (by decide) ?_
    refine kr_cge (tgt := 69) hx hcd (by omega) (by omega) dX5_hashUser_23 (by decide) (fun (c_23 : 3 ≤ 3) => ?_) (fun (c_23 : 3 < 3) => absurd c_23 (by omega))
    refine lv_iconst (v := nI 0) hx hcd dX5_hashUser_69 (by decide) ?_
    refine lv_istore (lv' := [(6, .int (nI 0)), (0, .ref (q 0)), (1, .long h), (3, .int (nI a)), (4, .long (g_hK M a (g_mix h (M (126 + a))) (3 * 3)))]) hx hcd dX5_hashUser_70 hl (by decide) rfl (fun ls hl => ?_)
    refine kr_up (fun i => wW cI q M) (fun i => [(0, .ref (q 0)), (1, .long h), (3, .int (nI a)), (4, .long (g_hO M a (g_hK M a (g_mix h (M (126 + a))) 9) i)), (6, .int (nI i))]) 6 (nL := 8) (fun i hi ih_72 H locs ls hP hD hS hl => ?_) (fun H locs ls hP hD hS hl => ?_) 0 (by omega) hP hD hS (lv_sub hl [1, 2, 3, 4, 0] rfl)
    · have hl : lv_has ls 8 [(0, .ref (q 0)), (1, .long h), (3, .int (nI a)), (4, .long (g_hO M a (g_hK M a (g_mix h (M (126 + a))) 9) i)), (6, .int (nI i))] := hl
      refine lv_iload hx hcd dX5_hashUser_72 (lv_at hl 4 rfl) ?_
      refine lv_bipush (v := nI 6) hx hcd dX5_hashUser_74 (by decide) ?_
      refine kr_cge (tgt := 102) hx hcd (by omega) (by omega) dX5_hashUser_76 (by decide) (fun (c_76 : 6 ≤ i) => absurd c_76 (by omega)) (fun (c_76 : i < 6) => ?_)
      refine lv_iload hx hcd dX5_hashUser_79 (lv_at hl 4 rfl) ?_
      refine lv_iload_n hx hcd dX5_hashUser_81 rfl (lv_at hl 2 rfl) ?_
      refine kr_ceq (tgt := 96) hx hcd (by omega) (by omega) dX5_hashUser_82 (by decide) (fun (c_82 : i = a) => ?_) (fun (c_82 : ¬ i = a) => ?_)
      · refine kr_iinc (lv' := [(6, .int (nI (i + 1))), (0, .ref (q 0)), (1, .long h), (3, .int (nI a)), (4, .long (g_hO M a (g_hK M a (g_mix h (M (126 + a))) 9) i))]) hx hcd dX5_hashUser_96 hl (k := 4) rfl (by decide) rfl (fun ls hl => ?_)
        refine lv_goto (tgt := 72) hx hcd dX5_hashUser_99 (by decide) ?_
        have hl : lv_has ls 8 [(0, .ref (q 0)), (1, .long h), (3, .int (nI a)), (4, .long (g_hO M a (g_hK M a (g_mix h (M (126 + a))) 9) i)), (6, .int (nI (i + 1)))] := lv_sub hl [1, 2, 3, 4, 0] rfl
        have e9 : ([(0, .ref (q 0)), (1, .long h), (3, .int (nI a)), (4, .long (g_hO M a (g_hK M a (g_mix h (M (126 + a))) 9) i)), (6, .int (nI (i + 1)))] : List (Nat × Value)) = [(0, .ref (q 0)), (1, .long h), (3, .int (nI a)), (4, .long (g_hO M a (g_hK M a (g_mix h (M (126 + a))) 9) (i + 1))), (6, .int (nI (i + 1)))] := by first | (rw [hO_eq c_82]; done) | (rw [hO_ne c_82]; done)
        exact ih_72 H locs ls hP hD hS (e9 ▸ hl)
      · refine lv_aload_n hx hcd dX5_hashUser_85 rfl (lv_at hl 0 rfl) ?_
        refine lv_lload hx hcd dX5_hashUser_86 (lv_at hl 3 rfl) ?_
        refine lv_iload_n hx hcd dX5_hashUser_88 rfl (lv_at hl 2 rfl) ?_
        refine lv_iload hx hcd dX5_hashUser_89 (lv_at hl 4 rfl) ?_
        refine kr_Vl (As := [.long (g_hO M a (g_hK M a (g_mix h (M (126 + a))) 9) i), .int (nI a), .int (nI i)]) (rest := []) (ws2 := wW cI q M) (q := (RX5, TX5, 5)) ⟨hx, hcd, hml, hown, hts⟩ (c_X5_hashPair l D cI cB cW cL q _ M (g_hO M a (g_hK M a (g_mix h (M (126 + a))) 9) i) a i (by omega) (by omega)) (cwV 3 hts gX5_hashUser_X5_hashPair rfl rfl rfl (by decide +kernel) ⟨Nat.le_of_ble_eq_true rfl, Nat.le_of_ble_eq_true rfl⟩) hK hP hD hS hA [0, 1, 2, 3, 4, 5, 6, 7, 8, 9, 10, 11, 12, 13, 14] wW_allC (by decide) wW_adr wW_all 0 rfl rfl rfl hl.1 rfl (Nat.le_of_ble_eq_true rfl) dX5_hashUser_91 ⟨Nat.zero_le _, Nat.zero_le _⟩ (fun H locs hP hD hS => ?_)
        refine lv_lstore (lv' := [(4, .long (g_hP M a i (g_hO M a (g_hK M a (g_mix h (M (126 + a))) 9) i))), (0, .ref (q 0)), (1, .long h), (3, .int (nI a)), (6, .int (nI i))]) hx hcd dX5_hashUser_94 hl (by decide) rfl (fun ls hl => ?_)
        refine kr_iinc (lv' := [(6, .int (nI (i + 1))), (4, .long (g_hP M a i (g_hO M a (g_hK M a (g_mix h (M (126 + a))) 9) i))), (0, .ref (q 0)), (1, .long h), (3, .int (nI a))]) hx hcd dX5_hashUser_96 hl (k := 4) rfl (by decide) rfl (fun ls hl => ?_)
        refine lv_goto (tgt := 72) hx hcd dX5_hashUser_99 (by decide) ?_
        have hl : lv_has ls 8 [(0, .ref (q 0)), (1, .long h), (3, .int (nI a)), (4, .long (g_hP M a i (g_hO M a (g_hK M a (g_mix h (M (126 + a))) 9) i))), (6, .int (nI (i + 1)))] := lv_sub hl [2, 3, 4, 1, 0] rfl
        have e9 : ([(0, .ref (q 0)), (1, .long h), (3, .int (nI a)), (4, .long (g_hP M a i (g_hO M a (g_hK M a (g_mix h (M (126 + a))) 9) i))), (6, .int (nI (i + 1)))] : List (Nat × Value)) = [(0, .ref (q 0)), (1, .long h), (3, .int (nI a)), (4, .long (g_hO M a (g_hK M a (g_mix h (M (126 + a))) 9) (i + 1))), (6, .int (nI (i + 1)))] := by first | (rw [hO_eq c_82]; done) | (rw [hO_ne c_82]; done)
        exact ih_72 H locs ls hP hD hS (e9 ▸ hl)
    · have hl : lv_has ls 8 [(0, .ref (q 0)), (1, .long h), (3, .int (nI a)), (4, .long (g_hO M a (g_hK M a (g_mix h (M (126 + a))) 9) 6)), (6, .int (nI 6))] := hl
      refine lv_iload hx hcd dX5_hashUser_72 (lv_at hl 4 rfl) ?_
      refine lv_bipush (v := nI 6) hx hcd dX5_hashUser_74 (by decide) ?_
      refine kr_cge (tgt := 102) hx hcd (by omega) (by omega) dX5_hashUser_76 (by decide) (fun (c_76 : 6 ≤ 6) => ?_) (fun (c_76 : 6 < 6) => absurd c_76 (by omega))
      refine lv_lload hx hcd dX5_hashUser_102 (lv_at hl 3 rfl) ?_
      exact kr_lret hx hcd hr hlocks hK hP hD hS rfl rfl dX5_hashUser_104
