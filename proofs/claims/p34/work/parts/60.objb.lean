set_option maxHeartbeats 4000000 in
set_option maxRecDepth 100000 in
theorem c_X6_mostNeeded__ok (l : Launch) (D : va_G) (cI cB cW cL : ClassId) (ob nw tr : Nat → Nat) (qs : Nat → Nat → Nat) (sc : Nat → Nat) (G : Nat → Option Nat) (N : kM) (S : Nat → kM) (n L : Nat) (T : Nat → Int32) (sz : Nat) (M : kM) (hI : kInv M) : kMi l yX6_mostNeeded wsX6_mostNeeded ({ frames := 6, cells := 0, slots := 0, locals := 138 }) D vwCl (kT cI cB cW cL) sz [.ref (ob 0)] (wX cI cB cW ob nw tr qs sc G M N S n L T) (wX cI cB cW ob nw tr qs sc G M (g_ndT M (wyN M)) S n L T) (g_need M) := by
  refine kr_ofi (cc := cX6_mostNeeded) (maxL := 7) (ret := (some .int)) (by decide) rfl (Nat.le_of_ble_eq_true rfl) ?_
  intro pp ee ss mm args below meth cc AA ls hx hcd hr hts hown hlocks hml hK hP hD hA hl
  have hS : va_S AA ss.heap ss.heap [] := va_S.rf
  have hown : ss.vm.findClass RX6 = some mm.cls := hown
  have hl : lv_has ls 7 [(0, .ref (ob 0))] := hl
  have uX0 : ∀ w ∈ u_ws RX0 TX0 4, w ∈ wsX6_mostNeeded := by decide +kernel
  have uX5 : ∀ w ∈ u_ws RX5 TX5 5, w ∈ wsX6_mostNeeded := by decide +kernel
  have uX6 : ∀ w ∈ u_ws RX6 TX6 5, w ∈ wsX6_mostNeeded := by decide +kernel
  have b577 := i_wyle hI
  refine lv_aload_n hx hcd dX6_mostNeeded_0 rfl (lv_at hl 0 rfl) ?_
  refine kr_get hx hcd hts uX6 hown hK hP 0 rfl rfl 1 (by decide) (by decide +kernel) (v := .ref (tr 0)) rfl dX6_mostNeeded_1 ?_
  refine lv_aload_n hx hcd dX6_mostNeeded_4 rfl (lv_at hl 0 rfl) ?_
  refine kr_get hx hcd hts uX6 hown hK hP 0 rfl rfl 0 (by decide) (by decide +kernel) (v := .ref (nw 0)) rfl dX6_mostNeeded_5 ?_
  refine kr_Vv (As := [.ref (nw 0)]) (rest := []) (ws2 := wX cI cB cW ob nw tr qs sc G M M S n L T) (q := (RX5, TX5, 5)) ⟨hx, hcd, hml, hown, hts⟩ (c_X5_copyFrom l D cI cB cW cL tr nw N _ M ) (cwV 1 hts gX6_mostNeeded_X5_copyFrom rfl rfl rfl (by decide +kernel) ⟨Nat.le_of_ble_eq_true rfl, Nat.le_of_ble_eq_true rfl⟩) hK hP hD hS hA [17, 18, 19, 20, 21, 22, 23, 24, 25, 26, 27, 28, 29, 30, 31, 2, 3, 4, 5, 6, 7, 8, 9, 10, 11, 12, 13, 14, 15, 16] wX_cp_tr_nwC (by decide) w2W_adr wX_cp_tr_nw 17 rfl rfl rfl hl.1 rfl (Nat.le_of_ble_eq_true rfl) dX6_mostNeeded_8 ⟨Nat.zero_le _, Nat.zero_le _⟩ (fun H locs hP hD hS => ?_)
  refine lv_aload_n hx hcd dX6_mostNeeded_11 rfl (lv_at hl 0 rfl) ?_
  refine kr_get hx hcd hts uX6 hown hK hP 0 rfl rfl 1 (by decide) (by decide +kernel) (v := .ref (tr 0)) rfl dX6_mostNeeded_12 ?_
  refine kr_Vi (As := []) (rest := []) (ws2 := wX cI cB cW ob nw tr qs sc G M (g_del 1000 M) S n L T) (q := (RX5, TX5, 5)) ⟨hx, hcd, hml, hown, hts⟩ (c_X5_matchingPairsAtRest l D cI cB cW cL tr _ M hI) (cwV 0 hts gX6_mostNeeded_X5_matchingPairsAtRest rfl rfl rfl (by decide +kernel) ⟨Nat.le_of_ble_eq_true rfl, Nat.le_of_ble_eq_true rfl⟩) hK hP hD hS hA [17, 18, 19, 20, 21, 22, 23, 24, 25, 26, 27, 28, 29, 30, 31] wX_tr_WC (by decide) wW_adr wX_tr_W 17 rfl rfl rfl hl.1 rfl (Nat.le_of_ble_eq_true rfl) dX6_mostNeeded_15 ⟨Nat.zero_le _, Nat.zero_le _⟩ (fun H locs hP hD hS => ?_)
  refine kr_top (w := nI (g_pairs (g_del 1000 M))) (if_pos (rest_ok hI)) ?_
  refine lv_istore_n (lv' := [(1, .int (nI (g_pairs (g_del 1000 M)))), (0, .ref (ob 0))]) hx hcd dX6_mostNeeded_18 rfl hl (by decide) rfl (fun ls hl => ?_)
  refine lv_iconst (v := (-1)) hx hcd dX6_mostNeeded_19 (by decide) ?_
  refine lv_istore_n (lv' := [(2, .int (-1)), (1, .int (nI (g_pairs (g_del 1000 M)))), (0, .ref (ob 0))]) hx hcd dX6_mostNeeded_20 rfl hl (by decide) rfl (fun ls hl => ?_)
  refine lv_bipush (v := nI 36) hx hcd dX6_mostNeeded_21 (by decide) ?_
  refine lv_istore_n (lv' := [(3, .int (nI 36)), (2, .int (-1)), (1, .int (nI (g_pairs (g_del 1000 M)))), (0, .ref (ob 0))]) hx hcd dX6_mostNeeded_23 rfl hl (by decide) rfl (fun ls hl => ?_)
  refine lv_aload_n hx hcd dX6_mostNeeded_24 rfl (lv_at hl 3 rfl) ?_
  refine kr_get hx hcd hts uX6 hown hK hP 0 rfl rfl 0 (by decide) (by decide +kernel) (v := .ref (nw 0)) rfl dX6_mostNeeded_25 ?_
  refine kr_get hx hcd hts uX5 hown hK hP 2 rfl rfl 3 (by decide) (by decide +kernel) (v := .ref (nw 11)) rfl dX6_mostNeeded_28 ?_
  refine kr_get hx hcd hts uX0 hown hK hP 13 rfl rfl 2 (by decide) (by decide +kernel) (v := .int (M 577)) rfl dX6_mostNeeded_31 ?_
  refine kr_top (w := nI (wyN M)) (i_wy hI) ?_
  refine lv_istore (lv' := [(4, .int (nI (wyN M))), (3, .int (nI 36)), (2, .int (-1)), (1, .int (nI (g_pairs (g_del 1000 M)))), (0, .ref (ob 0))]) hx hcd dX6_mostNeeded_34 hl (by decide) rfl (fun ls hl => ?_)
  refine lv_iconst (v := nI 0) hx hcd dX6_mostNeeded_36 (by decide) ?_
  refine lv_istore (lv' := [(5, .int (nI 0)), (4, .int (nI (wyN M))), (3, .int (nI 36)), (2, .int (-1)), (1, .int (nI (g_pairs (g_del 1000 M)))), (0, .ref (ob 0))]) hx hcd dX6_mostNeeded_37 hl (by decide) rfl (fun ls hl => ?_)
  obtain ⟨hP, hD⟩ := kr_re (ws2 := wX cI cB cW ob nw tr qs sc G M (g_ndT M 0) S n L T) hP hD (congrArg (fun c9 => wX cI cB cW ob nw tr qs sc G M c9 S n L T) (show g_del 1000 M = g_ndT M 0 from rfl))
  refine kr_up (fun i => wX cI cB cW ob nw tr qs sc G M (g_ndT M i) S n L T) (fun i => [(0, .ref (ob 0)), (1, .int (nI (g_pairs (g_del 1000 M)))), (2, .int ((g_nd M i).1)), (3, .int (nI ((g_nd M i).2))), (4, .int (nI (wyN M))), (5, .int (nI i))]) (wyN M) (nL := 7) (fun i hi ih_39 H locs ls hP hD hS hl => ?_) (fun H locs ls hP hD hS hl => ?_) 0 (by omega) hP hD hS (lv_sub hl [5, 4, 3, 2, 1, 0] rfl)
  · have hl : lv_has ls 7 [(0, .ref (ob 0)), (1, .int (nI (g_pairs (g_del 1000 M)))), (2, .int ((g_nd M i).1)), (3, .int (nI ((g_nd M i).2))), (4, .int (nI (wyN M))), (5, .int (nI i))] := hl
    have bp := pairs_le (M := g_del 1000 (g_drop M i))
    have bq := pairs_le (M := g_del 1000 M)
    have bl := nd_2 (M := M) i
    refine lv_iload hx hcd dX6_mostNeeded_39 (lv_at hl 5 rfl) ?_
    refine lv_iload hx hcd dX6_mostNeeded_41 (lv_at hl 4 rfl) ?_
    refine kr_cge (tgt := 123) hx hcd (by omega) (by omega) dX6_mostNeeded_43 (by decide) (fun (c_43 : wyN M ≤ i) => absurd c_43 (by omega)) (fun (c_43 : i < wyN M) => ?_)
    refine lv_iload_n hx hcd dX6_mostNeeded_46 rfl (lv_at hl 1 rfl) ?_
    refine lv_istore (lv' := [(6, .int (nI (g_pairs (g_del 1000 M)))), (0, .ref (ob 0)), (1, .int (nI (g_pairs (g_del 1000 M)))), (2, .int ((g_nd M i).1)), (3, .int (nI ((g_nd M i).2))), (4, .int (nI (wyN M))), (5, .int (nI i))]) hx hcd dX6_mostNeeded_47 hl (by decide) rfl (fun ls hl => ?_)
    refine lv_aload_n hx hcd dX6_mostNeeded_49 rfl (lv_at hl 1 rfl) ?_
    refine kr_get hx hcd hts uX6 hown hK hP 0 rfl rfl 0 (by decide) (by decide +kernel) (v := .ref (nw 0)) rfl dX6_mostNeeded_50 ?_
    refine kr_get hx hcd hts uX5 hown hK hP 2 rfl rfl 3 (by decide) (by decide +kernel) (v := .ref (nw 11)) rfl dX6_mostNeeded_53 ?_
    refine lv_iload hx hcd dX6_mostNeeded_56 (lv_at hl 6 rfl) ?_
    refine kr_Vi (As := [.int (nI i)]) (rest := []) (ws2 := wX cI cB cW ob nw tr qs sc G M (g_ndT M i) S n L T) (q := (RX0, TX0, 4)) ⟨hx, hcd, hml, hown, hts⟩ (c_X0_isOfSeat l D cI cB cW cL nw _ M i hI (by omega)) (cwV 1 hts gX6_mostNeeded_X0_isOfSeat rfl rfl rfl (by decide +kernel) ⟨Nat.le_of_ble_eq_true rfl, Nat.le_of_ble_eq_true rfl⟩) hK hP hD hS hA [13, 14, 15] wX_nw_PoC (by decide) wPo_adr (kset_same _ _ _ wX_nw_PoC) 13 rfl rfl rfl hl.1 rfl (Nat.le_of_ble_eq_true rfl) dX6_mostNeeded_58 ⟨Nat.zero_le _, Nat.zero_le _⟩ (fun H locs hP hD hS => ?_)
    refine kr_bne (tgt := 97) hx hcd dX6_mostNeeded_61 (by decide) (fun (c_61 : g_ofSeat (g_msg M i) = true) => ?_) (fun (c_61 : g_ofSeat (g_msg M i) = false) => ?_)
    · refine lv_iload hx hcd dX6_mostNeeded_97 (lv_at hl 0 rfl) ?_
      refine lv_iconst (v := (-1)) hx hcd dX6_mostNeeded_99 (by decide) ?_
      refine lv_icmp_ne (tgt := 105) hx hcd dX6_mostNeeded_100 (by decide) (fun (c_100 : ¬ (nI (g_pairs (g_del 1000 M))) = (-1)) => ?_) (fun (c_100 : (nI (g_pairs (g_del 1000 M))) = (-1)) => absurd c_100 (nI_m1 (Nat.lt_of_le_of_lt pairs_le (by omega))))
      refine lv_iload hx hcd dX6_mostNeeded_105 (lv_at hl 0 rfl) ?_
      refine lv_iload_n hx hcd dX6_mostNeeded_107 rfl (lv_at hl 4 rfl) ?_
      refine kr_cge (tgt := 117) hx hcd (by omega) (by omega) dX6_mostNeeded_108 (by decide) (fun (c_108 : (g_nd M i).2 ≤ g_pairs (g_del 1000 M)) => ?_) (fun (c_108 : g_pairs (g_del 1000 M) < (g_nd M i).2) => ?_)
      · refine kr_iinc (lv' := [(5, .int (nI (i + 1))), (6, .int (nI (g_pairs (g_del 1000 M)))), (0, .ref (ob 0)), (1, .int (nI (g_pairs (g_del 1000 M)))), (2, .int ((g_nd M i).1)), (3, .int (nI ((g_nd M i).2))), (4, .int (nI (wyN M)))]) hx hcd dX6_mostNeeded_117 hl (k := 6) rfl (by decide) rfl (fun ls hl => ?_)
        refine lv_goto (tgt := 39) hx hcd dX6_mostNeeded_120 (by decide) ?_
        obtain ⟨hP, hD⟩ := kr_re (ws2 := wX cI cB cW ob nw tr qs sc G M (g_ndT M (i + 1)) S n L T) hP hD (congrArg (fun c9 => wX cI cB cW ob nw tr qs sc G M c9 S n L T) (by first | exact ndT_seat c_61 | exact ndT_mark c_61))
        have hl : lv_has ls 7 [(0, .ref (ob 0)), (1, .int (nI (g_pairs (g_del 1000 M)))), (2, .int ((g_nd M i).1)), (3, .int (nI ((g_nd M i).2))), (4, .int (nI (wyN M))), (5, .int (nI (i + 1)))] := lv_sub hl [2, 3, 4, 5, 6, 0] rfl
        have e9 : ([(0, .ref (ob 0)), (1, .int (nI (g_pairs (g_del 1000 M)))), (2, .int ((g_nd M i).1)), (3, .int (nI ((g_nd M i).2))), (4, .int (nI (wyN M))), (5, .int (nI (i + 1)))] : List (Nat × Value)) = [(0, .ref (ob 0)), (1, .int (nI (g_pairs (g_del 1000 M)))), (2, .int ((g_nd M (i + 1)).1)), (3, .int (nI ((g_nd M (i + 1)).2))), (4, .int (nI (wyN M))), (5, .int (nI (i + 1)))] := by first | (rw [ndX (p := g_pairs (g_del 1000 M)) (drop_seat hI hi c_61).symm c_108]) | (rw [ndX (p := g_pairs (g_del 1000 (g_drop M i))) rfl c_108]) | (rw [ndY (p := g_pairs (g_del 1000 M)) (drop_seat hI hi c_61).symm c_108]) | (rw [ndY (p := g_pairs (g_del 1000 (g_drop M i))) rfl c_108])
        exact ih_39 H locs ls hP hD hS (e9 ▸ hl)
      · refine lv_iload hx hcd dX6_mostNeeded_111 (lv_at hl 0 rfl) ?_
        refine lv_istore_n (lv' := [(3, .int (nI (g_pairs (g_del 1000 M)))), (6, .int (nI (g_pairs (g_del 1000 M)))), (0, .ref (ob 0)), (1, .int (nI (g_pairs (g_del 1000 M)))), (2, .int ((g_nd M i).1)), (4, .int (nI (wyN M))), (5, .int (nI i))]) hx hcd dX6_mostNeeded_113 rfl hl (by decide) rfl (fun ls hl => ?_)
        refine lv_iload hx hcd dX6_mostNeeded_114 (lv_at hl 6 rfl) ?_
        refine lv_istore_n (lv' := [(2, .int (nI i)), (3, .int (nI (g_pairs (g_del 1000 M)))), (6, .int (nI (g_pairs (g_del 1000 M)))), (0, .ref (ob 0)), (1, .int (nI (g_pairs (g_del 1000 M)))), (4, .int (nI (wyN M))), (5, .int (nI i))]) hx hcd dX6_mostNeeded_116 rfl hl (by decide) rfl (fun ls hl => ?_)
        refine kr_iinc (lv' := [(5, .int (nI (i + 1))), (2, .int (nI i)), (3, .int (nI (g_pairs (g_del 1000 M)))), (6, .int (nI (g_pairs (g_del 1000 M)))), (0, .ref (ob 0)), (1, .int (nI (g_pairs (g_del 1000 M)))), (4, .int (nI (wyN M)))]) hx hcd dX6_mostNeeded_117 hl (k := 6) rfl (by decide) rfl (fun ls hl => ?_)
        refine lv_goto (tgt := 39) hx hcd dX6_mostNeeded_120 (by decide) ?_
        obtain ⟨hP, hD⟩ := kr_re (ws2 := wX cI cB cW ob nw tr qs sc G M (g_ndT M (i + 1)) S n L T) hP hD (congrArg (fun c9 => wX cI cB cW ob nw tr qs sc G M c9 S n L T) (by first | exact ndT_seat c_61 | exact ndT_mark c_61))
        have hl : lv_has ls 7 [(0, .ref (ob 0)), (1, .int (nI (g_pairs (g_del 1000 M)))), (2, .int (nI i)), (3, .int (nI (g_pairs (g_del 1000 M)))), (4, .int (nI (wyN M))), (5, .int (nI (i + 1)))] := lv_sub hl [4, 5, 1, 2, 6, 0] rfl
        have e9 : ([(0, .ref (ob 0)), (1, .int (nI (g_pairs (g_del 1000 M)))), (2, .int (nI i)), (3, .int (nI (g_pairs (g_del 1000 M)))), (4, .int (nI (wyN M))), (5, .int (nI (i + 1)))] : List (Nat × Value)) = [(0, .ref (ob 0)), (1, .int (nI (g_pairs (g_del 1000 M)))), (2, .int ((g_nd M (i + 1)).1)), (3, .int (nI ((g_nd M (i + 1)).2))), (4, .int (nI (wyN M))), (5, .int (nI (i + 1)))] := by first | (rw [ndX (p := g_pairs (g_del 1000 M)) (drop_seat hI hi c_61).symm c_108]) | (rw [ndX (p := g_pairs (g_del 1000 (g_drop M i))) rfl c_108]) | (rw [ndY (p := g_pairs (g_del 1000 M)) (drop_seat hI hi c_61).symm c_108]) | (rw [ndY (p := g_pairs (g_del 1000 (g_drop M i))) rfl c_108])
        exact ih_39 H locs ls hP hD hS (e9 ▸ hl)
    · refine lv_aload_n hx hcd dX6_mostNeeded_64 rfl (lv_at hl 1 rfl) ?_
      refine kr_get hx hcd hts uX6 hown hK hP 0 rfl rfl 1 (by decide) (by decide +kernel) (v := .ref (tr 0)) rfl dX6_mostNeeded_65 ?_
      refine lv_aload_n hx hcd dX6_mostNeeded_68 rfl (lv_at hl 1 rfl) ?_
      refine kr_get hx hcd hts uX6 hown hK hP 0 rfl rfl 0 (by decide) (by decide +kernel) (v := .ref (nw 0)) rfl dX6_mostNeeded_69 ?_
      refine kr_Vv (As := [.ref (nw 0)]) (rest := []) (ws2 := wX cI cB cW ob nw tr qs sc G M M S n L T) (q := (RX5, TX5, 5)) ⟨hx, hcd, hml, hown, hts⟩ (c_X5_copyFrom l D cI cB cW cL tr nw (g_ndT M i) _ M ) (cwV 1 hts gX6_mostNeeded_X5_copyFrom rfl rfl rfl (by decide +kernel) ⟨Nat.le_of_ble_eq_true rfl, Nat.le_of_ble_eq_true rfl⟩) hK hP hD hS hA [17, 18, 19, 20, 21, 22, 23, 24, 25, 26, 27, 28, 29, 30, 31, 2, 3, 4, 5, 6, 7, 8, 9, 10, 11, 12, 13, 14, 15, 16] wX_cp_tr_nwC (by decide) w2W_adr wX_cp_tr_nw 17 rfl rfl rfl hl.1 rfl (Nat.le_of_ble_eq_true rfl) dX6_mostNeeded_72 ⟨Nat.zero_le _, Nat.zero_le _⟩ (fun H locs hP hD hS => ?_)
      refine lv_aload_n hx hcd dX6_mostNeeded_75 rfl (lv_at hl 1 rfl) ?_
      refine kr_get hx hcd hts uX6 hown hK hP 0 rfl rfl 1 (by decide) (by decide +kernel) (v := .ref (tr 0)) rfl dX6_mostNeeded_76 ?_
      refine kr_get hx hcd hts uX5 hown hK hP 17 rfl rfl 3 (by decide) (by decide +kernel) (v := .ref (tr 11)) rfl dX6_mostNeeded_79 ?_
      refine lv_iload hx hcd dX6_mostNeeded_82 (lv_at hl 6 rfl) ?_
      refine kr_Vi (As := [.int (nI i)]) (rest := []) (ws2 := wX cI cB cW ob nw tr qs sc G M (g_drop M i) S n L T) (q := (RX0, TX0, 4)) ⟨hx, hcd, hml, hown, hts⟩ (c_X0_loseAt l D cI cB cW cL tr _ M i hI (by omega)) (cwV 1 hts gX6_mostNeeded_X0_loseAt rfl rfl rfl (by decide +kernel) ⟨Nat.le_of_ble_eq_true rfl, Nat.le_of_ble_eq_true rfl⟩) hK hP hD hS hA [28, 29, 30] wX_tr_PoC (by decide) wPo_adr (wX_tr_Po (fun k hk => o_drop hk)) 28 rfl rfl rfl hl.1 rfl (Nat.le_of_ble_eq_true rfl) dX6_mostNeeded_84 ⟨Nat.zero_le _, Nat.zero_le _⟩ (fun H locs hP hD hS => ?_)
      have hI_1 : kInv (g_drop M i) := i_drop hI (by omega)
      refine lv_pop hx hcd dX6_mostNeeded_87 rfl ?_
      refine lv_aload_n hx hcd dX6_mostNeeded_88 rfl (lv_at hl 1 rfl) ?_
      refine kr_get hx hcd hts uX6 hown hK hP 0 rfl rfl 1 (by decide) (by decide +kernel) (v := .ref (tr 0)) rfl dX6_mostNeeded_89 ?_
      refine kr_Vi (As := []) (rest := []) (ws2 := wX cI cB cW ob nw tr qs sc G M (g_del 1000 (g_drop M i)) S n L T) (q := (RX5, TX5, 5)) ⟨hx, hcd, hml, hown, hts⟩ (c_X5_matchingPairsAtRest l D cI cB cW cL tr _ (g_drop M i) hI_1) (cwV 0 hts gX6_mostNeeded_X5_matchingPairsAtRest rfl rfl rfl (by decide +kernel) ⟨Nat.le_of_ble_eq_true rfl, Nat.le_of_ble_eq_true rfl⟩) hK hP hD hS hA [17, 18, 19, 20, 21, 22, 23, 24, 25, 26, 27, 28, 29, 30, 31] wX_tr_WC (by decide) wW_adr wX_tr_W 17 rfl rfl rfl hl.1 rfl (Nat.le_of_ble_eq_true rfl) dX6_mostNeeded_92 ⟨Nat.zero_le _, Nat.zero_le _⟩ (fun H locs hP hD hS => ?_)
      refine kr_top (w := nI (g_pairs (g_del 1000 (g_drop M i)))) (if_pos (rest_ok (i_drop hI (by omega)))) ?_
      refine lv_istore (lv' := [(6, .int (nI (g_pairs (g_del 1000 (g_drop M i))))), (0, .ref (ob 0)), (1, .int (nI (g_pairs (g_del 1000 M)))), (2, .int ((g_nd M i).1)), (3, .int (nI ((g_nd M i).2))), (4, .int (nI (wyN M))), (5, .int (nI i))]) hx hcd dX6_mostNeeded_95 hl (by decide) rfl (fun ls hl => ?_)
      refine lv_iload hx hcd dX6_mostNeeded_97 (lv_at hl 0 rfl) ?_
      refine lv_iconst (v := (-1)) hx hcd dX6_mostNeeded_99 (by decide) ?_
      refine lv_icmp_ne (tgt := 105) hx hcd dX6_mostNeeded_100 (by decide) (fun (c_100 : ¬ (nI (g_pairs (g_del 1000 (g_drop M i)))) = (-1)) => ?_) (fun (c_100 : (nI (g_pairs (g_del 1000 (g_drop M i)))) = (-1)) => absurd c_100 (nI_m1 (Nat.lt_of_le_of_lt pairs_le (by omega))))
      refine lv_iload hx hcd dX6_mostNeeded_105 (lv_at hl 0 rfl) ?_
      refine lv_iload_n hx hcd dX6_mostNeeded_107 rfl (lv_at hl 4 rfl) ?_
      refine kr_cge (tgt := 117) hx hcd (by omega) (by omega) dX6_mostNeeded_108 (by decide) (fun (c_108 : (g_nd M i).2 ≤ g_pairs (g_del 1000 (g_drop M i))) => ?_) (fun (c_108 : g_pairs (g_del 1000 (g_drop M i)) < (g_nd M i).2) => ?_)
      · refine kr_iinc (lv' := [(5, .int (nI (i + 1))), (6, .int (nI (g_pairs (g_del 1000 (g_drop M i))))), (0, .ref (ob 0)), (1, .int (nI (g_pairs (g_del 1000 M)))), (2, .int ((g_nd M i).1)), (3, .int (nI ((g_nd M i).2))), (4, .int (nI (wyN M)))]) hx hcd dX6_mostNeeded_117 hl (k := 6) rfl (by decide) rfl (fun ls hl => ?_)
        refine lv_goto (tgt := 39) hx hcd dX6_mostNeeded_120 (by decide) ?_
        obtain ⟨hP, hD⟩ := kr_re (ws2 := wX cI cB cW ob nw tr qs sc G M (g_ndT M (i + 1)) S n L T) hP hD (congrArg (fun c9 => wX cI cB cW ob nw tr qs sc G M c9 S n L T) (by first | exact ndT_seat c_61 | exact ndT_mark c_61))
        have hl : lv_has ls 7 [(0, .ref (ob 0)), (1, .int (nI (g_pairs (g_del 1000 M)))), (2, .int ((g_nd M i).1)), (3, .int (nI ((g_nd M i).2))), (4, .int (nI (wyN M))), (5, .int (nI (i + 1)))] := lv_sub hl [2, 3, 4, 5, 6, 0] rfl
        have e9 : ([(0, .ref (ob 0)), (1, .int (nI (g_pairs (g_del 1000 M)))), (2, .int ((g_nd M i).1)), (3, .int (nI ((g_nd M i).2))), (4, .int (nI (wyN M))), (5, .int (nI (i + 1)))] : List (Nat × Value)) = [(0, .ref (ob 0)), (1, .int (nI (g_pairs (g_del 1000 M)))), (2, .int ((g_nd M (i + 1)).1)), (3, .int (nI ((g_nd M (i + 1)).2))), (4, .int (nI (wyN M))), (5, .int (nI (i + 1)))] := by first | (rw [ndX (p := g_pairs (g_del 1000 M)) (drop_seat hI hi c_61).symm c_108]) | (rw [ndX (p := g_pairs (g_del 1000 (g_drop M i))) rfl c_108]) | (rw [ndY (p := g_pairs (g_del 1000 M)) (drop_seat hI hi c_61).symm c_108]) | (rw [ndY (p := g_pairs (g_del 1000 (g_drop M i))) rfl c_108])
        exact ih_39 H locs ls hP hD hS (e9 ▸ hl)
      · refine lv_iload hx hcd dX6_mostNeeded_111 (lv_at hl 0 rfl) ?_
        refine lv_istore_n (lv' := [(3, .int (nI (g_pairs (g_del 1000 (g_drop M i))))), (6, .int (nI (g_pairs (g_del 1000 (g_drop M i))))), (0, .ref (ob 0)), (1, .int (nI (g_pairs (g_del 1000 M)))), (2, .int ((g_nd M i).1)), (4, .int (nI (wyN M))), (5, .int (nI i))]) hx hcd dX6_mostNeeded_113 rfl hl (by decide) rfl (fun ls hl => ?_)
        refine lv_iload hx hcd dX6_mostNeeded_114 (lv_at hl 6 rfl) ?_
        refine lv_istore_n (lv' := [(2, .int (nI i)), (3, .int (nI (g_pairs (g_del 1000 (g_drop M i))))), (6, .int (nI (g_pairs (g_del 1000 (g_drop M i))))), (0, .ref (ob 0)), (1, .int (nI (g_pairs (g_del 1000 M)))), (4, .int (nI (wyN M))), (5, .int (nI i))]) hx hcd dX6_mostNeeded_116 rfl hl (by decide) rfl (fun ls hl => ?_)
        refine kr_iinc (lv' := [(5, .int (nI (i + 1))), (2, .int (nI i)), (3, .int (nI (g_pairs (g_del 1000 (g_drop M i))))), (6, .int (nI (g_pairs (g_del 1000 (g_drop M i))))), (0, .ref (ob 0)), (1, .int (nI (g_pairs (g_del 1000 M)))), (4, .int (nI (wyN M)))]) hx hcd dX6_mostNeeded_117 hl (k := 6) rfl (by decide) rfl (fun ls hl => ?_)
        refine lv_goto (tgt := 39) hx hcd dX6_mostNeeded_120 (by decide) ?_
        obtain ⟨hP, hD⟩ := kr_re (ws2 := wX cI cB cW ob nw tr qs sc G M (g_ndT M (i + 1)) S n L T) hP hD (congrArg (fun c9 => wX cI cB cW ob nw tr qs sc G M c9 S n L T) (by first | exact ndT_seat c_61 | exact ndT_mark c_61))
        have hl : lv_has ls 7 [(0, .ref (ob 0)), (1, .int (nI (g_pairs (g_del 1000 M)))), (2, .int (nI i)), (3, .int (nI (g_pairs (g_del 1000 (g_drop M i))))), (4, .int (nI (wyN M))), (5, .int (nI (i + 1)))] := lv_sub hl [4, 5, 1, 2, 6, 0] rfl
        have e9 : ([(0, .ref (ob 0)), (1, .int (nI (g_pairs (g_del 1000 M)))), (2, .int (nI i)), (3, .int (nI (g_pairs (g_del 1000 (g_drop M i))))), (4, .int (nI (wyN M))), (5, .int (nI (i + 1)))] : List (Nat × Value)) = [(0, .ref (ob 0)), (1, .int (nI (g_pairs (g_del 1000 M)))), (2, .int ((g_nd M (i + 1)).1)), (3, .int (nI ((g_nd M (i + 1)).2))), (4, .int (nI (wyN M))), (5, .int (nI (i + 1)))] := by first | (rw [ndX (p := g_pairs (g_del 1000 M)) (drop_seat hI hi c_61).symm c_108]) | (rw [ndX (p := g_pairs (g_del 1000 (g_drop M i))) rfl c_108]) | (rw [ndY (p := g_pairs (g_del 1000 M)) (drop_seat hI hi c_61).symm c_108]) | (rw [ndY (p := g_pairs (g_del 1000 (g_drop M i))) rfl c_108])
        exact ih_39 H locs ls hP hD hS (e9 ▸ hl)
  · have hl : lv_has ls 7 [(0, .ref (ob 0)), (1, .int (nI (g_pairs (g_del 1000 M)))), (2, .int ((g_nd M (wyN M)).1)), (3, .int (nI ((g_nd M (wyN M)).2))), (4, .int (nI (wyN M))), (5, .int (nI (wyN M)))] := hl
    refine lv_iload hx hcd dX6_mostNeeded_39 (lv_at hl 5 rfl) ?_
    refine lv_iload hx hcd dX6_mostNeeded_41 (lv_at hl 4 rfl) ?_
    refine kr_cge (tgt := 123) hx hcd (by omega) (by omega) dX6_mostNeeded_43 (by decide) (fun (c_43 : wyN M ≤ (wyN M)) => ?_) (fun (c_43 : (wyN M) < wyN M) => absurd c_43 (by omega))
    refine lv_iload_n hx hcd dX6_mostNeeded_123 rfl (lv_at hl 2 rfl) ?_
    exact kr_iret hx hcd hr hlocks hK hP hD hS rfl rfl dX6_mostNeeded_124
