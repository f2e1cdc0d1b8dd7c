set_option maxHeartbeats 4000000 in
set_option maxRecDepth 100000 in
theorem c_X6_mostNeeded__ok (l : Launch) (D : va_G) (cI cB cW cL : ClassId) (ob nw tr : Nat → Nat) (qs : Nat → Nat → Nat) (sc : Nat → Nat) (G : Nat → Option Nat) (N : kM) (S : Nat → kM) (n L : Nat) (T : Nat → Int32) (sz : Nat) (M : kM) (hI : kInv M) : kMi l yX6_mostNeeded wsX6_mostNeeded ({ frames := 6, cells := 0, slots := 0, locals := 138 }) D vwCl (kT cI cB cW cL) sz [.ref (ob 0)] (wX cI cB cW ob nw tr qs sc G M N S n L T) (wX cI cB cW ob nw tr qs sc G M (g_ndT M (wyN M)) S n L T) (g_need M) := by
  refine kr_ofi (cc := cX6_mostNeeded) (maxL := 7) (ret := (some .int)) (by decide) rfl (Nat.le_of_ble_eq_true rfl) ?_
  intro pp ee ss mm args below meth cc AA ls hx hcd hr hts hown hlocks hml hK hP hD hA hl
  have hS : va_S AA ss.heap ss.heap [] := va_S.rf
  have hown : ss.vm.findClass RX6 = some mm.cls := hown
  have hl : lv_has ls 7 [(0, .ref (ob 0))] := hl
  have uX0 : ∀ w ∈ u_ws RX0 TX0 4, w ∈ wsX6_mostNeeded := by decide +kernel
  have uX5 : ∀ w ∈ u_ws RX5 TX5 5, w ∈ wsX6_mostNeeded := by decide +kernel
  have uX6 : ∀ w ∈ u_ws RX6 TX6 5, w ∈ wsX6_mostNeeded := by decide +kernel
  have b577 := i_wyle hI
  refine lv_aload_n hx hcd dX6_mostNeeded_0 rfl (lv_at hl 0 rfl) ?_
  refine kr_get hx hcd hts uX6 hown hK hP 0 rfl rfl 1 (by decide) (by decide +kernel) (v := .ref (tr 0)) rfl dX6_mostNeeded_1 ?_
  refine lv_aload_n hx hcd dX6_mostNeeded_4 rfl (lv_at hl 0 rfl) ?_
  refine kr_get hx hcd hts uX6 hown hK hP 0 rfl rfl 0 (by decide) (by decide +kernel) (v := .ref (nw 0)) rfl dX6_mostNeeded_5 ?_
  refine kr_Vv (As := [.ref (nw 0)]) (rest := []) (ws2 := wX cI cB cW ob nw tr qs sc G M M S n L T) (q := (RX5, TX5, 5)) ⟨hx, hcd, hml, hown, hts⟩ (c_X5_copyFrom l D cI cB cW cL tr nw N _ M ) (cwV 1 hts gX6_mostNeeded_X5_copyFrom rfl rfl rfl (by decide +kernel) ⟨Nat.le_of_ble_eq_true rfl, Nat.le_of_ble_eq_true rfl⟩) hK hP hD hS hA [17, 18, 19, 20, 21, 22, 23, 24, 25, 26, 27, 28, 29, 30, 31, 2, 3, 4, 5, 6, 7, 8, 9, 10, 11, 12, 13, 14, 15, 16] wX_cp_tr_nwC (by decide) w2W_adr wX_cp_tr_nw 17 rfl rfl rfl hl.1 rfl (Nat.le_of_ble_eq_true rfl) dX6_mostNeeded_8 ⟨Nat.zero_le _, Nat.zero_le _⟩ (fun H locs hP hD hS => ?_)
  refine lv_aload_n hx hcd dX6_mostNeeded_11 rfl (lv_at hl 0 rfl) ?_
  refine kr_get hx hcd hts uX6 hown hK hP 0 rfl rfl 1 (by decide) (by decide +kernel) (v := .ref (tr 0)) rfl dX6_mostNeeded_12 ?_
  refine kr_Vi (As := []) (rest := []) (ws2 := wX cI cB cW ob nw tr qs sc G M (g_del 1000 M) S n L T) (q := (RX5, TX5, 5)) ⟨hx, hcd, hml, hown, hts⟩ (c_X5_matchingPairsAtRest l D cI cB cW cL tr _ M hI) (cwV 0 hts gX6_mostNeeded_X5_matchingPairsAtRest rfl rfl rfl (by decide +kernel) ⟨Nat.le_of_ble_eq_true rfl, Nat.le_of_ble_eq_true rfl⟩) hK hP hD hS hA [17, 18, 19, 20, 21, 22, 23, 24, 25, 26, 27, 28, 29, 30, 31] wX_tr_WC (by decide) wW_adr wX_tr_W 17 rfl rfl rfl hl.1 rfl (Nat.le_of_ble_eq_true rfl) dX6_mostNeeded_15 ⟨Nat.zero_le _, Nat.zero_le _⟩ (fun H locs hP hD hS => ?_)
  refine kr_top (w := nI (g_pairs (g_del 1000 M))) (if_pos (rest_ok hI)) ?_
  refine lv_istore_n (lv' := [(1, .int (nI (g_pairs (g_del 1000 M)))), (0, .ref (ob 0))]) hx hcd dX6_mostNeeded_18 rfl hl (by decide) rfl (fun ls hl => ?_)
  refine lv_iconst (v := (-1)) hx hcd dX6_mostNeeded_19 (by decide) ?_
  refine lv_istore_n (lv' := [(2, .int (-1)), (1, .int (nI (g_pairs (g_del 1000 M)))), (0, .ref (ob 0))]) hx hcd dX6_mostNeeded_20 rfl hl (by decide) rfl (fun ls hl => ?_)
  refine lv_bipush (v := nI 36) hx hcd dX6_mostNeeded_21 (by decide) ?_
  refine lv_istore_n (lv' := [(3, .int (nI 36)), (2, .int (-1)), (1, .int (nI (g_pairs (g_del 1000 M)))), (0, .ref (ob 0))]) hx hcd dX6_mostNeeded_23 rfl hl (by decide) rfl (fun ls hl => ?_)
  refine lv_aload_n hx hcd dX6_mostNeeded_24 rfl (lv_at hl 3 rfl) ?_
  refine kr_get hx hcd hts uX6 hown hK hP 0 rfl rfl 0 (by decide) (by decide +kernel) (v := .ref (nw 0)) rfl dX6_mostNeeded_25 ?_
  refine kr_get hx hcd hts uX5 hown hK hP 2 rfl rfl 3 (by decide) (by decide +kernel) (v := .ref (nw 11)) rfl dX6_mostNeeded_28 ?_
  refine kr_get hx hcd hts uX0 hown hK hP 13 rfl rfl 2 (by decide) (by decide +kernel) (v := .int (M 577)) rfl dX6_mostNeeded_31 ?_
  refine kr_top (w := nI (wyN M)) (i_wy hI) ?_
  refine lv_istore (lv' := [(4, .int (nI (wyN M))), (3, .int (nI 36)), (2, .int (-1)), (1, .int (nI (g_pairs (g_del 1000 M)))), (0, .ref (ob 0))]) hx hcd dX6_mostNeeded_34 hl (by decide) rfl (fun ls hl => ?_)
  refine lv_iconst (v := nI 0) hx hcd dX6_mostNeeded_36 (by decide) ?_
  refine lv_istore (lv' := [(5, .int (nI 0)), (4, .int (nI (wyN M))), (3, .int (nI 36)), (2, .int (-1)), (1, .int (nI (g_pairs (g_del 1000 M)))), (0, .ref (ob 0))]) hx hcd dX6_mostNeeded_37 hl (by decide) rfl (fun ls hl => ?_)
  obtain ⟨hP, hD⟩ := kr_re (ws2 := wX cI cB cW ob nw tr qs sc G M (g_ndT M 0) S n L T) hP hD (congrArg (fun c9 => wX cI cB cW ob nw tr qs sc G M c9 S n L T) (show g_del 1000 M = g_ndT M 0 from rfl))
  refine kr_up (fun i => wX cI cB cW ob nw tr qs sc G M (g_ndT M i) S n L T) (fun i => [(0, .ref (ob 0)), (1, .int (nI (g_pairs (g_del 1000 M)))), (2, .int ((g_nd M i).1)), (3, .int (nI ((g_nd M i).2))), (4, .int (nI (wyN M))), (5, .int (nI i))]) (wyN M) (nL := 7) (fun i hi ih_39 H locs ls hP hD hS hl => ?_) (fun H locs ls hP hD hS hl => ?_) 0 (by omega) hP hD hS (lv_sub hl [5, 4, 3, 2, 1, 0] rfl)
  · have hl : lv_has ls 7 [(0, .ref (ob 0)), (1, .int (nI (g_pairs (g_del 1000 M)))), (2, .int ((g_nd M i).1)), (3, .int (nI ((g_nd M i).2))), (4, .int (nI (wyN M))), (5, .int (nI i))] := hl
    have bp := pairs_le (M := g_del 1000 (g_drop M i))
    have bq := pairs_le (M := g_del 1000 M)
    have bl := nd_2 (M := M) i
    refine lv_iload hx hcd dX6_mostNeeded_39 (lv_at hl 5 rfl) ?_
    refine lv_iload hx hcd dX6_mostNeeded_41 (lv_at hl 4 rfl) ?_
    refine kr_cge (tgt := 123) hx hcd (by omega) (by omega) dX6_mostNeeded_43 (by decide) (fun (c_43 : wyN M ≤ i) => absurd c_43 (by omega)) (fun (c_43 : i < wyN M) => ?_)
    refine lv_iload_n hx hcd dX6_mostNeeded_46 rfl (lv_at hl 1 rfl) ?_
    refine lv_istore (lv' := [(6, .int (nI (g_pairs (g_del 1000 M)))), (0, .ref (ob 0)), (1, .int (nI (g_pairs (g_del 1000 M)))), (2, .int ((g_nd M i).1)), (3, .int (nI ((g_nd M i).2))), (4, .int (nI (wyN M))), (5, .int (nI i))]) hx hcd dX6_mostNeeded_47 hl (by decide) rfl (fun ls hl => ?_)
    refine lv_aload_n hx hcd dX6_mostNeeded_49 rfl (lv_at hl 1 rfl) ?_
    refine kr_get hx hcd hts uX6 hown hK hP 0 rfl rfl 0 (by decide) (by decide +kernel) (v := .ref (nw 0)) rfl dX6_mostNeeded_50 ?_
    refine kr_get hx hcd hts uX5 hown hK hP 2 rfl rfl 3 (by decide) (by decide +kernel) (v := .ref (nw 11)) rfl dX6_mostNeeded_53 ?_
    refine lv_iload hx hcd dX6_mostNeeded_56 (lv_at hl 6 rfl) ?_
    refine kr_Vi (As := [.int (nI i)]) (rest := []) (ws2 := wX cI cB cW ob nw tr qs sc G M (g_ndT M i) S n L T) (q := (RX0, TX0, 4)) ⟨hx, hcd, hml, hown, hts⟩ (c_X0_isOfSeat l D cI cB cW cL nw _ M i hI (by omega)) (cwV 1 hts gX6_mostNeeded_X0_isOfSeat rfl rfl rfl (by decide +kernel) ⟨Nat.le_of_ble_eq_true rfl, Nat.le_of_ble_eq_true rfl⟩) hK hP hD hS hA [13, 14, 15] wX_nw_PoC (by decide) wPo_adr (kset_same _ _ _ wX_nw_PoC) 13 rfl rfl rfl hl.1 rfl (Nat.le_of_ble_eq_true rfl) dX6_mostNeeded_58 ⟨Nat.zero_le _, Nat.zero_le _⟩ (fun H locs hP hD hS => ?_)
    refine kr_bne (tgt := 97) hx hcd dX6_mostNeeded_61 (by decide) (fun (c_61 : g_ofSeat (g_msg M i) = true) => ?_) (fun (c_61 : g_ofSeat (g_msg M i) = false) => ?_)
    · refine lv_iload hx hcd dX6_mostNeeded_97 (lv_at hl 0 rfl) ?_
      refine lv_iconst (v := (-1)) hx hcd dX6_mostNeeded_99 (by decide) ?_
      refine lv_icmp_ne (tgt := 105) hx hcd dX6_mostNeeded_100 (by decide) (fun (c_100 : ¬ (nI (g_pairs (g_del 1000 M))) = (-1)) => ?_) (fun (c_100 : (nI (g_pairs (g_del 1000 M))) = (-1)) => absurd c_100 (nI_m1 (Nat.lt_of_le_of_lt pairs_le (by omega))))
      refine lv_iload hx hcd dX6_mostNeeded_105 (lv_at hl 0 rfl) ?_
      refine lv_iload_n hx hcd dX6_mostNeeded_107 rfl (lv_at hl 4 rfl) ?_
      refine kr_cge (tgt := 117) hx hcd (by omega) (by omega) dX6_mostNeeded_108 (by decide) (fun (c_108 : (g_nd M i).2 ≤ g_pairs (g_del 1000 M)) => ?_) (fun (c_108 : g_pairs (g_del 1000 M) < (g_nd M i).2) => ?_)
      · refine kr_iinc (lv' := [(5, .int (nI (i + 1))), (6, .int (nI (g_pairs (g_del 1000 M)))), (0, .ref (ob 0)), (1, .int (nI (g_pairs (g_del 1000 M)))), (2, .int ((g_nd M i).1)), (3, .int (nI ((g_nd M i).2))), (4, .int (nI (wyN M)))]) hx hcd dX6_mostNeeded_117 hl (k := 6) rfl (by decide) rfl (fun ls hl => ?_)
        refine lv_goto (tgt := 39) hx hcd dX6_mostNeeded_120 (by decide) ?_
        obtain ⟨hP, hD⟩ := kr_re (ws2 := wX cI cB cW ob nw tr qs sc G M (g_ndT M (i + 1)) S n L T) hP hD (congrArg (fun c9 => wX cI cB cW ob nw tr qs sc G M c9 S n L T) (by first | exact ndT_seat c_61 | exact ndT_mark c_61))
        have hl : lv_has ls 7 [(0, .ref (ob 0)), (1, .int (nI (g_pairs (g_del 1000 M)))), (2, .int ((g_nd M i).1)), (3, .int (nI ((g_nd M i).2))), (4, .int (nI (wyN M))), (5, .int (nI (i + 1)))] := lv_sub hl [2, 3, 4, 5, 6, 0] rfl
        have e9 : ([(0, .ref (ob 0)), (1, .int (nI (g_pairs (g_del 1000 M)))), (2, .int ((g_nd M i).1)), (3, .int (nI ((g_nd M i).2))), (4, .int (nI (wyN M))), (5, .int (nI (i + 1)))] : List (Nat × Value)) = [(0, .ref (ob 0)), (1, .int (nI (g_pairs (g_del 1000 M)))), (2, .int ((g_nd M (i + 1)).1)), (3, .int (nI ((g_nd M (i + 1)).2))), (4, .int (nI (wyN M))), (5, .int (nI (i + 1)))] := by first | (rw [ndX (p := g_pairs (g_del 1000 M)) (drop_seat hI hi c_61).symm c_108]) | (rw [ndX (p := g_pairs (g_del 1000 (g_drop M i))) rfl c_108]) | (rw [ndY (p := g_pairs (g_del 1000 M)) (drop_seat hI hi c_61).symm c_108]) | (rw [ndY (p := g_pairs (g_del 1000 (g_drop M i))) rfl c_108])
        exact ih_39 H locs ls hP hD hS (e9 ▸ hl)
      · refine lv_iload hx hcd dX6_mostNeeded_111 (lv_at hl 0 rfl) ?_
        refine lv_istore_n (lv' := [(3, .int (nI (g_pairs (g_del 1000 M)))), (6, .int (nI (g_pairs (g_del 1000 M)))), (0, .ref (ob 0)), (1, .int (nI (g_pairs (g_del 1000 M)))), (2, .int ((g_nd M i).1)), (4, .int (nI (wyN M))), (5, .int (nI i))]) hx hcd dX6_mostNeeded_113 rfl hl (by decide) rfl (fun ls hl => ?_)
        refine lv_iload hx hcd dX6_mostNeeded_114 (lv_at hl 6 rfl) ?_
        refine lv_istore_n (lv' := [(2, .int (nI i)), (3, .int (nI (g_pairs (g_del 1000 M)))), (6, .int (nI (g_pairs (g_del 1000 M)))), (0, .ref (ob 0)), (1, .int (nI (g_pairs (g_del 1000 M)))), (4, .int (nI (wyN M))), (5, .int (nI i))]) hx hcd dX6_mostNeeded_116 rfl hl (by decide) rfl (fun ls hl => ?_)
        refine kr_iinc (lv' := [(5, .int (nI (i + 1))), (2, .int (nI i)), (3, .int (nI (g_pairs (g_del 1000 M)))), (6, .int (nI (g_pairs (g_del 1000 M)))), (0, .ref (ob 0)), (1, .int (nI (g_pairs (g_del 1000 M)))), (4, .int (nI (wyN M)))]) hx hcd dX6_mostNeeded_117 hl (k := 6) rfl (by decide) rfl (fun ls hl => ?_)
        refine lv_goto (tgt := 39) hx hcd dX6_mostNeeded_120 (by decide) ?_
        obtain ⟨hP, hD⟩ := kr_re (ws2 := wX cI cB cW ob nw tr qs sc G M (g_ndT M (i + 1)) S n L T) hP hD (congrArg (fun c9 => wX cI cB cW ob nw tr qs sc G M c9 S n L T) (by first | exact ndT_seat c_61 | exact ndT_mark c_61))
        have hl : lv_has ls 7 [(0, .ref (ob 0)), (1, .int (nI (g_pairs (g_del 1000 M)))), (2, .int (nI i)), (3, .int (nI (g_pairs (g_del 1000 M)))), (4, .int (nI (wyN M))), (5, .int (nI (i + 1)))] := lv_sub hl [4, 5, 1, 2, 6, 0] rfl
        have e9 : ([(0, .ref (ob 0)), (1, .int (nI (g_pairs (g_del 1000 M)))), (2, .int (nI i)), (3, .int (nI (g_pairs (g_del 1000 M)))), (4, .int (nI (wyN M))), (5, .int (nI (i + 1)))] : List (Nat × Value)) = [(0, .ref (ob 0)), (1, .int (nI (g_pairs (g_del 1000 M)))), (2, .int ((g_nd M (i + 1)).1)), (3, .int (nI ((g_nd M (i + 1)).2))), (4, .int (nI (wyN M))), (5, .int (nI (i + 1)))] := by first | (rw [ndX (p := g_pairs (g_del 1000 M)) (drop_seat hI hi c_61).symm c_108]) | (rw [ndX (p := g_pairs (g_del 1000 (g_drop M i))) rfl c_108]) | (rw [ndY (p := g_pairs (g_del 1000 M)) (drop_seat hI hi c_61).symm c_108]) | (rw [ndY (p := g_pairs (g_del 1000 (g_drop M i))) rfl c_108])
        exact ih_39 H locs ls hP hD hS (e9 ▸ hl)
    · refine lv_aload_n hx hcd dX6_mostNeeded_64 rfl (lv_at hl 1 rfl) ?_
      refine kr_get hx hcd hts uX6 hown hK hP 0 rfl rfl 1 (by decide) (by decide +kernel) (v := .ref (tr 0)) rfl dX6_mostNeeded_65 ?_
      refine lv_aload_n hx hcd dX6_mostNeeded_68 rfl (lv_at hl 1 rfl) ?_
      refine kr_get hx hcd hts uX6 hown hK hP 0 rfl rfl 0 (by decide) (by decide +kernel) (v := .ref (nw 0)) rfl dX6_mostNeeded_69 ?_
      refine kr_Vv (As := [.ref (nw 0)]) (rest := []) (ws2 := wX cI cB cW ob nw tr qs sc G M M S n L T) (q := (RX5, TX5, 5)) ⟨hx, hcd, hml, hown, hts⟩ (c_X5_copyFrom l D cI cB cW cL tr nw (g_ndT M i) _ M ) (cwV 1 hts gX6_mostNeeded_X5_copyFrom rfl rfl rfl (by decide +kernel) ⟨Nat.le_of_ble_eq_true rfl, Nat.le_of_ble_eq_true rfl⟩) hK hP hD hS hA [17, 18, 19, 20, 21, 22, 23, 24, 25, 26, 27, 28, 29, 30, 31, 2, 3, 4, 5, 6, 7, 8, 9, 10, 11, 12, 13, 14, 15, 16] wX_cp_tr_nwC (by decide) w2W_adr wX_cp_tr_nw 17 rfl rfl rfl hl.1 rfl (Nat.le_of_ble_eq_true rfl) dX6_mostNeeded_72 ⟨Nat.zero_le _, Nat.zero_le _⟩ (fun H locs hP hD hS => ?_)
      refine lv_aload_n hx hcd dX6_mostNeeded_75 rfl (lv_at hl 1 rfl) ?_
      refine kr_get hx hcd hts uX6 hown hK hP 0 rfl rfl 1 (by decide) (by decide +kernel) (v := .ref (tr 0)) rfl dX6_mostNeeded_76 ?_
      refine kr_get hx hcd hts uX5 hown hK hP 17 rfl rfl 3 (by decide) (by decide +kernel) (v := .ref (tr 11)) rfl dX6_mostNeeded_79 ?_
      refine lv_iload hx hcd dX6_mostNeeded_82 (lv_at hl 6 rfl) ?_
      refine kr_Vi (As := [.int (nI i)]) (rest := []) (ws2 := wX cI cB cW ob nw tr qs sc G M (g_drop M i) S n L T) (q := (RX0, TX0, 4)) ⟨hx, hcd, hml, hown, hts⟩ (c_X0_loseAt l D cI cB cW cL tr _ M i hI (by omega)) (cwV 1 hts gX6_mostNeeded_X0_loseAt rfl rfl rfl (by decide +kernel) ⟨Nat.le_of_ble_eq_true rfl, Nat.le_of_ble_eq_true rfl⟩) hK hP hD hS hA [28, 29, 30] wX_tr_PoC (by decide) wPo_adr (wX_tr_Po (fun k hk => o_drop hk)) 28 rfl rfl rfl hl.1 rfl (Nat.le_of_ble_eq_true rfl) dX6_mostNeeded_84 ⟨Nat.zero_le _, Nat.zero_le _⟩ (fun H locs hP hD hS => ?_)
      have hI_1 : kInv (g_drop M i) := i_drop hI (by omega)
      refine lv_pop hx hcd dX6_mostNeeded_87 rfl ?_
      refine lv_aload_n hx hcd dX6_mostNeeded_88 rfl (lv_at hl 1 rfl) ?_
      refine kr_get hx hcd hts uX6 hown hK hP 0 rfl rfl 1 (by decide) (by decide +kernel) (v := .ref (tr 0)) rfl dX6_mostNeeded_89 ?_
      refine kr_Vi (As := []) (rest := []) (ws2 := wX cI cB cW ob nw tr qs sc G M (g_del 1000 (g_drop M i)) S n L T) (q := (RX5, TX5, 5)) ⟨hx, hcd, hml, hown, hts⟩ (c_X5_matchingPairsAtRest l D cI cB cW cL tr _ (g_drop M i) hI_1) (cwV 0 hts gX6_mostNeeded_X5_matchingPairsAtRest rfl rfl rfl (by decide +kernel) ⟨Nat.le_of_ble_eq_true rfl, Nat.le_of_ble_eq_true rfl⟩) hK hP hD hS hA [17, 18, 19, 20, 21, 22, 23, 24, 25, 26, 27, 28, 29, 30, 31] wX_tr_WC (by decide) wW_adr wX_tr_W 17 rfl rfl rfl hl.1 rfl (Nat.le_of_ble_eq_true rfl) dX6_mostNeeded_92 ⟨Nat.zero_le _, Nat.zero_le _⟩ (fun H locs hP hD hS => ?_)
      refine kr_top (w := nI (g_pairs (g_del 1000 (g_drop M i)))) (if_pos (rest_ok (i_drop hI (by omega)))) ?_
      refine lv_istore (lv' := [(6, .int (nI (g_pairs (g_del 1000 (g_drop M i))))), (0, .ref (ob 0)), (1, .int (nI (g_pairs (g_del 1000 M)))), (2, .int ((g_nd M i).1)), (3, .int (nI ((g_nd M i).2))), (4, .int (nI (wyN M))), (5, .int (nI i))]) hx hcd dX6_mostNeeded_95 hl (by decide) rfl (fun ls hl => ?_)
      refine lv_iload hx hcd dX6_mostNeeded_97 (lv_at hl 0 rfl) ?_
      refine lv_iconst (v := (-1)) hx hcd dX6_mostNeeded_99 (by decide) ?_
      refine lv_icmp_ne (tgt := 105) hx hcd dX6_mostNeeded_100 (by decide) (fun (c_100 : ¬ (nI (g_pairs (g_del 1000 (g_drop M i)))) = (-1)) => ?_) (fun (c_100 : (nI (g_pairs (g_del 1000 (g_drop M i)))) = (-1)) => absurd c_100 (nI_m1 (Nat.lt_of_le_of_lt pairs_le (by omega))))
      refine lv_iload hx hcd dX6_mostNeeded_105 (lv_at hl 0 rfl) ?_
      refine lv_iload_n hx hcd dX6_mostNeeded_107 rfl (lv_at hl 4 rfl) ?_
      refine kr_cge (tgt := 117) hx hcd (by omega) (by omega) dX6_mostNeeded_108 (by decide) (fun (c_108 : (g_nd M i).2 ≤ g_pairs (g_del 1000 (g_drop M i))) => ?_) (fun (c_108 : g_pairs (g_del 1000 (g_drop M i)) < (g_nd M i).2) => ?_)
      · refine kr_iinc (lv' := [(5, .int (nI (i + 1))), (6, .int (nI (g_pairs (g_del 1000 (g_drop M i))))), (0, .ref (ob 0)), (1, .int (nI (g_pairs (g_del 1000 M)))), (2, .int ((g_nd M i).1)), (3, .int (nI ((g_nd M i).2))), (4, .int (nI (wyN M)))]) hx hcd dX6_mostNeeded_117 hl (k := 6) rfl (by decide) rfl (fun ls hl => ?_)
        refine lv_goto (tgt := 39) hx hcd dX6_mostNeeded_120 (by decide) ?_
        obtain ⟨hP, hD⟩ := kr_re (ws2 := wX cI cB cW ob nw tr qs sc G M (g_ndT M (i + 1)) S n L T) hP hD (congrArg (fun c9 => wX cI cB cW ob nw tr qs sc G M c9 S n L T) (by first | exact ndT_seat c_61 | exact ndT_mark c_61))
        have hl : lv_has ls 7 [(0, .ref (ob 0)), (1, .int (nI (g_pairs (g_del 1000 M)))), (2, .int ((g_nd M i).1)), (3, .int (nI ((g_nd M i).2))), (4, .int (nI (wyN M))), (5, .int (nI (i + 1)))] := lv_sub hl [2, 3, 4, 5, 6, 0] rfl
        have e9 : ([(0, .ref (ob 0)), (1, .int (nI (g_pairs (g_del 1000 M)))), (2, .int ((g_nd M i).1)), (3, .int (nI ((g_nd M i).2))), (4, .int (nI (wyN M))), (5, .int (nI (i + 1)))] : List (Nat × Value)) = [(0, .ref (ob 0)), (1, .int (nI (g_pairs (g_del 1000 M)))), (2, .int ((g_nd M (i + 1)).1)), (3, .int (nI ((g_nd M (i + 1)).2))), (4, .int (nI (wyN M))), (5, .int (nI (i + 1)))] := by first | (rw [ndX (p := g_pairs (g_del 1000 M)) (drop_seat hI hi c_61).symm c_108]) | (rw [ndX (p := g_pairs (g_del 1000 (g_drop M i))) rfl c_108]) | (rw [ndY (p := g_pairs (g_del 1000 M)) (drop_seat hI hi c_61).symm c_108]) | (rw [ndY (p := g_pairs (g_del 1000 (g_drop M i))) rfl c_108])
        exact ih_39 H locs ls hP hD hS (e9 ▸ hl)
      · refine lv_iload hx hcd dX6_mostNeeded_111 (lv_at hl 0 rfl) ?_
        refine lv_istore_n (lv' := [(3, .int (nI (g_pairs (g_del 1000 (g_drop M i))))), (6, .int (nI (g_pairs (g_del 1000 (g_drop M i))))), (0, .ref (ob 0)), (1, .int (nI (g_pairs (g_del 1000 M)))), (2, .int ((g_nd M i).1)), (4, .int (nI (wyN M))), (5, .int (nI i))]) hx hcd dX6_mostNeeded_113 rfl hl (by decide) rfl (fun ls hl => ?_)
        refine lv_iload hx hcd dX6_mostNeeded_114 (lv_at hl 6 rfl) ?_
        refine lv_istore_n (lv' := [(2, .int (nI i)), (3, .int (nI (g_pairs (g_del 1000 (g_drop M i))))), (6, .int (nI (g_pairs (g_del 1000 (g_drop M i))))), (0, .ref (ob 0)), (1, .int (nI (g_pairs (g_del 1000 M)))), (4, .int (nI (wyN M))), (5, .int (nI i))]) hx hcd dX6_mostNeeded_116 rfl hl (by decide) rfl (fun ls hl => ?_)
        refine kr_iinc (lv' := [(5, .int (nI (i + 1))), (2, .int (nI i)), (3, .int (nI (g_pairs (g_del 1000 (g_drop M i))))), (6, .int (nI (g_pairs (g_del 1000 (g_drop M i))))), (0, .ref (ob 0)), (1, .int (nI (g_pairs (g_del 1000 M)))), (4, .int (nI (wyN M)))]) hx hcd dX6_mostNeeded_117 hl (k := 6) rfl (by decide) rfl (fun ls hl => ?_)
        refine lv_goto (tgt := 39) hx hcd dX6_mostNeeded_120 (by decide) ?_
        obtain ⟨hP, hD⟩ := kr_re (ws2 := wX cI cB cW ob nw tr qs sc G M (g_ndT M (i + 1)) S n L T) hP hD (congrArg (fun c9 => wX cI cB cW ob nw tr qs sc G M c9 S n L T) (by first | exact ndT_seat c_61 | exact ndT_mark c_61))
        have hl : lv_has ls 7 [(0, .ref (ob 0)), (1, .int (nI (g_pairs (g_del 1000 M)))), (2, .int (nI i)), (3, .int (nI (g_pairs (g_del 1000 (g_drop M i))))), (4, .int (nI (wyN M))), (5, .int (nI (i + 1)))] := lv_sub hl [4, 5, 1, 2, 6, 0] rfl
        have e9 : ([(0, .ref (ob 0)), (1, .int (nI (g_pairs (g_del 1000 M)))), (2, .int (nI i)), (3, .int (nI (g_pairs (g_del 1000 (g_drop M i))))), (4, .int (nI (wyN M))), (5, .int (nI (i + 1)))] : List (Nat × Value)) = [(0, .ref (ob 0)), (1, .int (nI (g_pairs (g_del 1000 M)))), (2, .int ((g_nd M (i + 1)).1)), (3, .int (nI ((g_nd M (i + 1)).2))), (4, .int (nI (wyN M))), (5, .int (nI (i + 1)))] := by first | (rw [ndX (p := g_pairs (g_del 1000 M)) (drop_seat hI hi c_61).symm c_108]) | (rw [ndX (p := g_pairs (g_del 1000 (g_drop M i))) rfl c_108]) | (rw [ndY (p := g_pairs (g_del 1000 M)) (drop_seat hI hi c_61).symm c_108]) | (rw [ndY (p := g_pairs (g_del 1000 (g_drop M i))) rfl c_108])
        exact ih_39 H locs ls hP hD hS (e9 ▸ hl)
  · have hl : lv_has ls 7 [(0, .ref (ob 0)), (1, .int (nI (g_pairs (g_del 1000 M)))), (2, .int ((g_nd M (wyN M)).1)), (3, .int (nI ((g_nd M (wyN M)).2))), (4, .int (nI (wyN M))), (5, .int (nI (wyN M)))] := hl
    refine lv_iload hx hcd dX6_mostNeeded_39 (lv_at hl 5 rfl) ?_
    refine lv_iload hx hcd dX6_mostNeeded_41 (lv_at hl 4 rfl) ?_
    refine kr_cge (tgt := 123) hx hcd (by omega) (by omega) dX6_mostNeeded_43 (by decide) (fun (c_43 : wyN M ≤ (wyN M)) => ?_) (fun (c_43 : (wyN M) < wyN M) => absurd c_43 (by omega))
    refine lv_iload_n hx hcd dX6_mostNeeded_123 rfl (lv_at hl 2 rfl) ?_
    exact kr_iret hx hcd hr hlocks hK hP hD hS rfl rfl dX6_mostNeeded_124

set_option maxHeartbeats 4000000 in
set_option maxRecDepth 100000 in
theorem c_X6_tryOrder__c97 (l : Launch) (D : va_G) (cI cB cW cL : ClassId) (ob nw tr : Nat → Nat) (qs : Nat → Nat → Nat) (sc : Nat → Nat) (G : Nat → Option Nat) (N : kM) (S : Nat → kM) (n L : Nat) (T : Nat → Int32) (sz : Nat) (M : kM) (o : Nat) (a b : Nat) (hN : kInv N) (hT : kTx T) (ho : o < 25) (hlc : ch T (4 * o) = 97) (e1 : nI (ch T (4 * o + 1)) - 48 = nI a) (e2 : nI (ch T (4 * o + 2)) - 48 = nI b) (ha : a < 6) (hb : b < 6) (hne : a ≠ b) : kMi l yX6_tryOrder wsX6_tryOrder ({ frames := 5, cells := 0, slots := 0, locals := 118 }) D vwCl (kT cI cB cW cL) sz [.ref (ob 0), .int (nI o)] (wX cI cB cW ob nw tr qs sc G M N S n L T) (wX cI cB cW ob nw tr qs sc G M (g_ask N a b) S n L T) 1 := by
  refine kr_ofi (cc := cX6_tryOrder) (maxL := 4) (ret := (some .boolean)) (by decide) rfl (Nat.le_of_ble_eq_true rfl) ?_
  intro pp ee ss mm args below meth cc AA ls hx hcd hr hts hown hlocks hml hK hP hD hA hl
  have hS : va_S AA ss.heap ss.heap [] := va_S.rf
  have hown : ss.vm.findClass RX6 = some mm.cls := hown
  have hl : lv_has ls 4 [(0, .ref (ob 0)), (1, .int (nI o))] := hl
  have uX6 : ∀ w ∈ u_ws RX6 TX6 5, w ∈ wsX6_tryOrder := by decide +kernel
  refine lv_aload_n hx hcd dX6_tryOrder_0 rfl (lv_at hl 0 rfl) ?_
  refine kr_get hx hcd hts uX6 hown hK hP 0 rfl rfl 3 (by decide) (by decide +kernel) (v := .ref (sc 0)) rfl dX6_tryOrder_1 ?_
  refine lv_iload_n hx hcd dX6_tryOrder_4 rfl (lv_at hl 1 rfl) ?_
  refine lv_iconst (v := nI 1) hx hcd dX6_tryOrder_5 (by decide) ?_
  refine kr_Vi (As := [.int (nI o), .int (nI 1)]) (rest := []) (ws2 := wX cI cB cW ob nw tr qs sc G M N S n L T) (q := (RX2, TX2, 2)) ⟨hx, hcd, hml, hown, hts⟩ (c_X2_digit l D cI cB cW cL sc L T _ M o 1 hT (by omega) (by omega)) (cwV 2 hts gX6_tryOrder_X2_digit rfl rfl rfl (by decide +kernel) ⟨Nat.le_of_ble_eq_true rfl, Nat.le_of_ble_eq_true rfl⟩) hK hP hD hS hA [92, 93] wX_scC (by decide) wSc_adr (kset_same _ _ _ wX_scC) 92 rfl rfl rfl hl.1 rfl (Nat.le_of_ble_eq_true rfl) dX6_tryOrder_6 ⟨Nat.zero_le _, Nat.zero_le _⟩ (fun H locs hP hD hS => ?_)
  refine kr_top (w := nI a) e1 ?_
  refine lv_istore_n (lv' := [(2, .int (nI a)), (0, .ref (ob 0)), (1, .int (nI o))]) hx hcd dX6_tryOrder_9 rfl hl (by decide) rfl (fun ls hl => ?_)
  refine lv_aload_n hx hcd dX6_tryOrder_10 rfl (lv_at hl 1 rfl) ?_
  refine kr_get hx hcd hts uX6 hown hK hP 0 rfl rfl 3 (by decide) (by decide +kernel) (v := .ref (sc 0)) rfl dX6_tryOrder_11 ?_
  refine lv_iload_n hx hcd dX6_tryOrder_14 rfl (lv_at hl 2 rfl) ?_
  refine lv_iconst (v := nI 2) hx hcd dX6_tryOrder_15 (by decide) ?_
  refine kr_Vi (As := [.int (nI o), .int (nI 2)]) (rest := []) (ws2 := wX cI cB cW ob nw tr qs sc G M N S n L T) (q := (RX2, TX2, 2)) ⟨hx, hcd, hml, hown, hts⟩ (c_X2_digit l D cI cB cW cL sc L T _ M o 2 hT (by omega) (by omega)) (cwV 2 hts gX6_tryOrder_X2_digit rfl rfl rfl (by decide +kernel) ⟨Nat.le_of_ble_eq_true rfl, Nat.le_of_ble_eq_true rfl⟩) hK hP hD hS hA [92, 93] wX_scC (by decide) wSc_adr (kset_same _ _ _ wX_scC) 92 rfl rfl rfl hl.1 rfl (Nat.le_of_ble_eq_true rfl) dX6_tryOrder_16 ⟨Nat.zero_le _, Nat.zero_le _⟩ (fun H locs hP hD hS => ?_)
  refine kr_top (w := nI b) e2 ?_
  refine lv_istore_n (lv' := [(3, .int (nI b)), (2, .int (nI a)), (0, .ref (ob 0)), (1, .int (nI o))]) hx hcd dX6_tryOrder_19 rfl hl (by decide) rfl (fun ls hl => ?_)
  refine lv_aload_n hx hcd dX6_tryOrder_20 rfl (lv_at hl 2 rfl) ?_
  refine kr_get hx hcd hts uX6 hown hK hP 0 rfl rfl 3 (by decide) (by decide +kernel) (v := .ref (sc 0)) rfl dX6_tryOrder_21 ?_
  refine lv_iload_n hx hcd dX6_tryOrder_24 rfl (lv_at hl 3 rfl) ?_
  refine kr_Vi (As := [.int (nI o)]) (rest := []) (ws2 := wX cI cB cW ob nw tr qs sc G M N S n L T) (q := (RX2, TX2, 2)) ⟨hx, hcd, hml, hown, hts⟩ (c_X2_letter l D cI cB cW cL sc L T _ M o hT (by omega)) (cwV 1 hts gX6_tryOrder_X2_letter rfl rfl rfl (by decide +kernel) ⟨Nat.le_of_ble_eq_true rfl, Nat.le_of_ble_eq_true rfl⟩) hK hP hD hS hA [92, 93] wX_scC (by decide) wSc_adr (kset_same _ _ _ wX_scC) 92 rfl rfl rfl hl.1 rfl (Nat.le_of_ble_eq_true rfl) dX6_tryOrder_25 ⟨Nat.zero_le _, Nat.zero_le _⟩ (fun H locs hP hD hS => ?_)
  skip
  · refine kr_top (w := nI 97) (congrArg nI hlc) ?_
    refine lv_tableIn (x := nI 97) (off := 92) (tgt := 120) hx hcd dX6_tryOrder_28 (by decide) (by decide) (by decide) (by decide) ?_
    refine lv_aload_n hx hcd dX6_tryOrder_120 rfl (lv_at hl 2 rfl) ?_
    refine kr_get hx hcd hts uX6 hown hK hP 0 rfl rfl 1 (by decide) (by decide +kernel) (v := .ref (tr 0)) rfl dX6_tryOrder_121 ?_
    refine lv_iload_n hx hcd dX6_tryOrder_124 rfl (lv_at hl 1 rfl) ?_
    refine lv_iload_n hx hcd dX6_tryOrder_125 rfl (lv_at hl 0 rfl) ?_
    refine kr_Vi (As := [.int (nI a), .int (nI b)]) (rest := []) (ws2 := wX cI cB cW ob nw tr qs sc G M (g_ask N a b) S n L T) (q := (RX5, TX5, 5)) ⟨hx, hcd, hml, hown, hts⟩ (c_X5_askFor l D cI cB cW cL tr _ N a b hN (by omega) (by omega)) (cwV 2 hts gX6_tryOrder_X5_askFor rfl rfl rfl (by decide +kernel) ⟨Nat.le_of_ble_eq_true rfl, Nat.le_of_ble_eq_true rfl⟩) hK hP hD hS hA [17, 18, 19, 20, 21, 22, 23, 24, 25, 26, 27, 28, 29, 30, 31] wX_tr_WC (by decide) wW_adr wX_tr_W 17 rfl rfl rfl hl.1 rfl (Nat.le_of_ble_eq_true rfl) dX6_tryOrder_126 ⟨Nat.zero_le _, Nat.zero_le _⟩ (fun H locs hP hD hS => ?_)
    have hI_1 : kInv (g_ask N a b) := i_ask hN (by omega) (by omega)
    refine lv_pop hx hcd dX6_tryOrder_129 rfl ?_
    refine lv_iconst (v := nI 1) hx hcd dX6_tryOrder_130 (by decide) ?_
    exact kr_zret hx hcd hr hlocks hK hP hD hS rfl rfl rfl dX6_tryOrder_131

set_option maxHeartbeats 4000000 in
set_option maxRecDepth 100000 in
theorem c_X6_tryOrder__c103 (l : Launch) (D : va_G) (cI cB cW cL : ClassId) (ob nw tr : Nat → Nat) (qs : Nat → Nat → Nat) (sc : Nat → Nat) (G : Nat → Option Nat) (N : kM) (S : Nat → kM) (n L : Nat) (T : Nat → Int32) (sz : Nat) (M : kM) (o : Nat) (a b : Nat) (hN : kInv N) (hT : kTx T) (ho : o < 25) (hlc : ch T (4 * o) = 103) (e1 : nI (ch T (4 * o + 1)) - 48 = nI a) (e2 : nI (ch T (4 * o + 2)) - 48 = nI b) (ha : a < 6) (hb : b < 6) (hne : a ≠ b) : kMi l yX6_tryOrder wsX6_tryOrder ({ frames := 5, cells := 0, slots := 0, locals := 118 }) D vwCl (kT cI cB cW cL) sz [.ref (ob 0), .int (nI o)] (wX cI cB cW ob nw tr qs sc G M N S n L T) (wX cI cB cW ob nw tr qs sc G M (g_grant N a b) S n L T) 1 := by
  refine kr_ofi (cc := cX6_tryOrder) (maxL := 4) (ret := (some .boolean)) (by decide) rfl (Nat.le_of_ble_eq_true rfl) ?_
  intro pp ee ss mm args below meth cc AA ls hx hcd hr hts hown hlocks hml hK hP hD hA hl
  have hS : va_S AA ss.heap ss.heap [] := va_S.rf
  have hown : ss.vm.findClass RX6 = some mm.cls := hown
  have hl : lv_has ls 4 [(0, .ref (ob 0)), (1, .int (nI o))] := hl
  have uX6 : ∀ w ∈ u_ws RX6 TX6 5, w ∈ wsX6_tryOrder := by decide +kernel
  refine lv_aload_n hx hcd dX6_tryOrder_0 rfl (lv_at hl 0 rfl) ?_
  refine kr_get hx hcd hts uX6 hown hK hP 0 rfl rfl 3 (by decide) (by decide +kernel) (v := .ref (sc 0)) rfl dX6_tryOrder_1 ?_
  refine lv_iload_n hx hcd dX6_tryOrder_4 rfl (lv_at hl 1 rfl) ?_
  refine lv_iconst (v := nI 1) hx hcd dX6_tryOrder_5 (by decide) ?_
  refine kr_Vi (As := [.int (nI o), .int (nI 1)]) (rest := []) (ws2 := wX cI cB cW ob nw tr qs sc G M N S n L T) (q := (RX2, TX2, 2)) ⟨hx, hcd, hml, hown, hts⟩ (c_X2_digit l D cI cB cW cL sc L T _ M o 1 hT (by omega) (by omega)) (cwV 2 hts gX6_tryOrder_X2_digit rfl rfl rfl (by decide +kernel) ⟨Nat.le_of_ble_eq_true rfl, Nat.le_of_ble_eq_true rfl⟩) hK hP hD hS hA [92, 93] wX_scC (by decide) wSc_adr (kset_same _ _ _ wX_scC) 92 rfl rfl rfl hl.1 rfl (Nat.le_of_ble_eq_true rfl) dX6_tryOrder_6 ⟨Nat.zero_le _, Nat.zero_le _⟩ (fun H locs hP hD hS => ?_)
  refine kr_top (w := nI a) e1 ?_
  refine lv_istore_n (lv' := [(2, .int (nI a)), (0, .ref (ob 0)), (1, .int (nI o))]) hx hcd dX6_tryOrder_9 rfl hl (by decide) rfl (fun ls hl => ?_)
  refine lv_aload_n hx hcd dX6_tryOrder_10 rfl (lv_at hl 1 rfl) ?_
  refine kr_get hx hcd hts uX6 hown hK hP 0 rfl rfl 3 (by decide) (by decide +kernel) (v := .ref (sc 0)) rfl dX6_tryOrder_11 ?_
  refine lv_iload_n hx hcd dX6_tryOrder_14 rfl (lv_at hl 2 rfl) ?_
  refine lv_iconst (v := nI 2) hx hcd dX6_tryOrder_15 (by decide) ?_
  refine kr_Vi (As := [.int (nI o), .int (nI 2)]) (rest := []) (ws2 := wX cI cB cW ob nw tr qs sc G M N S n L T) (q := (RX2, TX2, 2)) ⟨hx, hcd, hml, hown, hts⟩ (c_X2_digit l D cI cB cW cL sc L T _ M o 2 hT (by omega) (by omega)) (cwV 2 hts gX6_tryOrder_X2_digit rfl rfl rfl (by decide +kernel) ⟨Nat.le_of_ble_eq_true rfl, Nat.le_of_ble_eq_true rfl⟩) hK hP hD hS hA [92, 93] wX_scC (by decide) wSc_adr (kset_same _ _ _ wX_scC) 92 rfl rfl rfl hl.1 rfl (Nat.le_of_ble_eq_true rfl) dX6_tryOrder_16 ⟨Nat.zero_le _, Nat.zero_le _⟩ (fun H locs hP hD hS => ?_)
  refine kr_top (w := nI b) e2 ?_
  refine lv_istore_n (lv' := [(3, .int (nI b)), (2, .int (nI a)), (0, .ref (ob 0)), (1, .int (nI o))]) hx hcd dX6_tryOrder_19 rfl hl (by decide) rfl (fun ls hl => ?_)
  refine lv_aload_n hx hcd dX6_tryOrder_20 rfl (lv_at hl 2 rfl) ?_
  refine kr_get hx hcd hts uX6 hown hK hP 0 rfl rfl 3 (by decide) (by decide +kernel) (v := .ref (sc 0)) rfl dX6_tryOrder_21 ?_
  refine lv_iload_n hx hcd dX6_tryOrder_24 rfl (lv_at hl 3 rfl) ?_
  refine kr_Vi (As := [.int (nI o)]) (rest := []) (ws2 := wX cI cB cW ob nw tr qs sc G M N S n L T) (q := (RX2, TX2, 2)) ⟨hx, hcd, hml, hown, hts⟩ (c_X2_letter l D cI cB cW cL sc L T _ M o hT (by omega)) (cwV 1 hts gX6_tryOrder_X2_letter rfl rfl rfl (by decide +kernel) ⟨Nat.le_of_ble_eq_true rfl, Nat.le_of_ble_eq_true rfl⟩) hK hP hD hS hA [92, 93] wX_scC (by decide) wSc_adr (kset_same _ _ _ wX_scC) 92 rfl rfl rfl hl.1 rfl (Nat.le_of_ble_eq_true rfl) dX6_tryOrder_25 ⟨Nat.zero_le _, Nat.zero_le _⟩ (fun H locs hP hD hS => ?_)
  skip
  · refine kr_top (w := nI 103) (congrArg nI hlc) ?_
    refine lv_tableIn (x := nI 103) (off := 104) (tgt := 132) hx hcd dX6_tryOrder_28 (by decide) (by decide) (by decide) (by decide) ?_
    refine lv_aload_n hx hcd dX6_tryOrder_132 rfl (lv_at hl 2 rfl) ?_
    refine kr_get hx hcd hts uX6 hown hK hP 0 rfl rfl 1 (by decide) (by decide +kernel) (v := .ref (tr 0)) rfl dX6_tryOrder_133 ?_
    refine lv_iload_n hx hcd dX6_tryOrder_136 rfl (lv_at hl 1 rfl) ?_
    refine lv_iload_n hx hcd dX6_tryOrder_137 rfl (lv_at hl 0 rfl) ?_
    refine kr_Vi (As := [.int (nI a), .int (nI b)]) (rest := []) (ws2 := wX cI cB cW ob nw tr qs sc G M (g_grant N a b) S n L T) (q := (RX5, TX5, 5)) ⟨hx, hcd, hml, hown, hts⟩ (c_X5_grantTo l D cI cB cW cL tr _ N a b hN (by omega) (by omega)) (cwV 2 hts gX6_tryOrder_X5_grantTo rfl rfl rfl (by decide +kernel) ⟨Nat.le_of_ble_eq_true rfl, Nat.le_of_ble_eq_true rfl⟩) hK hP hD hS hA [17, 18, 19, 20, 21, 22, 23, 24, 25, 26, 27, 28, 29, 30, 31] wX_tr_WC (by decide) wW_adr wX_tr_W 17 rfl rfl rfl hl.1 rfl (Nat.le_of_ble_eq_true rfl) dX6_tryOrder_138 ⟨Nat.zero_le _, Nat.zero_le _⟩ (fun H locs hP hD hS => ?_)
    have hI_1 : kInv (g_grant N a b) := i_grant hN (by omega) (by omega)
    refine lv_pop hx hcd dX6_tryOrder_141 rfl ?_
    refine lv_iconst (v := nI 1) hx hcd dX6_tryOrder_142 (by decide) ?_
    exact kr_zret hx hcd hr hlocks hK hP hD hS rfl rfl rfl dX6_tryOrder_143

set_option maxHeartbeats 4000000 in
set_option maxRecDepth 100000 in
theorem c_X6_tryOrder__c114 (l : Launch) (D : va_G) (cI cB cW cL : ClassId) (ob nw tr : Nat → Nat) (qs : Nat → Nat → Nat) (sc : Nat → Nat) (G : Nat → Option Nat) (N : kM) (S : Nat → kM) (n L : Nat) (T : Nat → Int32) (sz : Nat) (M : kM) (o : Nat) (a b : Nat) (hN : kInv N) (hT : kTx T) (ho : o < 25) (hlc : ch T (4 * o) = 114) (e1 : nI (ch T (4 * o + 1)) - 48 = nI a) (e2 : nI (ch T (4 * o + 2)) - 48 = nI b) (ha : a < 6) (hb : b < 6) (hne : a ≠ b) : kMi l yX6_tryOrder wsX6_tryOrder ({ frames := 5, cells := 0, slots := 0, locals := 118 }) D vwCl (kT cI cB cW cL) sz [.ref (ob 0), .int (nI o)] (wX cI cB cW ob nw tr qs sc G M N S n L T) (wX cI cB cW ob nw tr qs sc G M (g_refuse N a b) S n L T) 1 := by
  refine kr_ofi (cc := cX6_tryOrder) (maxL := 4) (ret := (some .boolean)) (by decide) rfl (Nat.le_of_ble_eq_true rfl) ?_
  intro pp ee ss mm args below meth cc AA ls hx hcd hr hts hown hlocks hml hK hP hD hA hl
  have hS : va_S AA ss.heap ss.heap [] := va_S.rf
  have hown : ss.vm.findClass RX6 = some mm.cls := hown
  have hl : lv_has ls 4 [(0, .ref (ob 0)), (1, .int (nI o))] := hl
  have uX6 : ∀ w ∈ u_ws RX6 TX6 5, w ∈ wsX6_tryOrder := by decide +kernel
  refine lv_aload_n hx hcd dX6_tryOrder_0 rfl (lv_at hl 0 rfl) ?_
  refine kr_get hx hcd hts uX6 hown hK hP 0 rfl rfl 3 (by decide) (by decide +kernel) (v := .ref (sc 0)) rfl dX6_tryOrder_1 ?_
  refine lv_iload_n hx hcd dX6_tryOrder_4 rfl (lv_at hl 1 rfl) ?_
  refine lv_iconst (v := nI 1) hx hcd dX6_tryOrder_5 (by decide) ?_
  refine kr_Vi (As := [.int (nI o), .int (nI 1)]) (rest := []) (ws2 := wX cI cB cW ob nw tr qs sc G M N S n L T) (q := (RX2, TX2, 2)) ⟨hx, hcd, hml, hown, hts⟩ (c_X2_digit l D cI cB cW cL sc L T _ M o 1 hT (by omega) (by omega)) (cwV 2 hts gX6_tryOrder_X2_digit rfl rfl rfl (by decide +kernel) ⟨Nat.le_of_ble_eq_true rfl, Nat.le_of_ble_eq_true rfl⟩) hK hP hD hS hA [92, 93] wX_scC (by decide) wSc_adr (kset_same _ _ _ wX_scC) 92 rfl rfl rfl hl.1 rfl (Nat.le_of_ble_eq_true rfl) dX6_tryOrder_6 ⟨Nat.zero_le _, Nat.zero_le _⟩ (fun H locs hP hD hS => ?_)
  refine kr_top (w := nI a) e1 ?_
  refine lv_istore_n (lv' := [(2, .int (nI a)), (0, .ref (ob 0)), (1, .int (nI o))]) hx hcd dX6_tryOrder_9 rfl hl (by decide) rfl (fun ls hl => ?_)
  refine lv_aload_n hx hcd dX6_tryOrder_10 rfl (lv_at hl 1 rfl) ?_
  refine kr_get hx hcd hts uX6 hown hK hP 0 rfl rfl 3 (by decide) (by decide +kernel) (v := .ref (sc 0)) rfl dX6_tryOrder_11 ?_
  refine lv_iload_n hx hcd dX6_tryOrder_14 rfl (lv_at hl 2 rfl) ?_
  refine lv_iconst (v := nI 2) hx hcd dX6_tryOrder_15 (by decide) ?_
  refine kr_Vi (As := [.int (nI o), .int (nI 2)]) (rest := []) (ws2 := wX cI cB cW ob nw tr qs sc G M N S n L T) (q := (RX2, TX2, 2)) ⟨hx, hcd, hml, hown, hts⟩ (c_X2_digit l D cI cB cW cL sc L T _ M o 2 hT (by omega) (by omega)) (cwV 2 hts gX6_tryOrder_X2_digit rfl rfl rfl (by decide +kernel) ⟨Nat.le_of_ble_eq_true rfl, Nat.le_of_ble_eq_true rfl⟩) hK hP hD hS hA [92, 93] wX_scC (by decide) wSc_adr (kset_same _ _ _ wX_scC) 92 rfl rfl rfl hl.1 rfl (Nat.le_of_ble_eq_true rfl) dX6_tryOrder_16 ⟨Nat.zero_le _, Nat.zero_le _⟩ (fun H locs hP hD hS => ?_)
  refine kr_top (w := nI b) e2 ?_
  refine lv_istore_n (lv' := [(3, .int (nI b)), (2, .int (nI a)), (0, .ref (ob 0)), (1, .int (nI o))]) hx hcd dX6_tryOrder_19 rfl hl (by decide) rfl (fun ls hl => ?_)
  refine lv_aload_n hx hcd dX6_tryOrder_20 rfl (lv_at hl 2 rfl) ?_
  refine kr_get hx hcd hts uX6 hown hK hP 0 rfl rfl 3 (by decide) (by decide +kernel) (v := .ref (sc 0)) rfl dX6_tryOrder_21 ?_
  refine lv_iload_n hx hcd dX6_tryOrder_24 rfl (lv_at hl 3 rfl) ?_
  refine kr_Vi (As := [.int (nI o)]) (rest := []) (ws2 := wX cI cB cW ob nw tr qs sc G M N S n L T) (q := (RX2, TX2, 2)) ⟨hx, hcd, hml, hown, hts⟩ (c_X2_letter l D cI cB cW cL sc L T _ M o hT (by omega)) (cwV 1 hts gX6_tryOrder_X2_letter rfl rfl rfl (by decide +kernel) ⟨Nat.le_of_ble_eq_true rfl, Nat.le_of_ble_eq_true rfl⟩) hK hP hD hS hA [92, 93] wX_scC (by decide) wSc_adr (kset_same _ _ _ wX_scC) 92 rfl rfl rfl hl.1 rfl (Nat.le_of_ble_eq_true rfl) dX6_tryOrder_25 ⟨Nat.zero_le _, Nat.zero_le _⟩ (fun H locs hP hD hS => ?_)
  skip
  · refine kr_top (w := nI 114) (congrArg nI hlc) ?_
    refine lv_tableIn (x := nI 114) (off := 116) (tgt := 144) hx hcd dX6_tryOrder_28 (by decide) (by decide) (by decide) (by decide) ?_
    refine lv_aload_n hx hcd dX6_tryOrder_144 rfl (lv_at hl 2 rfl) ?_
    refine kr_get hx hcd hts uX6 hown hK hP 0 rfl rfl 1 (by decide) (by decide +kernel) (v := .ref (tr 0)) rfl dX6_tryOrder_145 ?_
    refine lv_iload_n hx hcd dX6_tryOrder_148 rfl (lv_at hl 1 rfl) ?_
    refine lv_iload_n hx hcd dX6_tryOrder_149 rfl (lv_at hl 0 rfl) ?_
    refine kr_Vi (As := [.int (nI a), .int (nI b)]) (rest := []) (ws2 := wX cI cB cW ob nw tr qs sc G M (g_refuse N a b) S n L T) (q := (RX5, TX5, 5)) ⟨hx, hcd, hml, hown, hts⟩ (c_X5_refuseTo l D cI cB cW cL tr _ N a b hN (by omega) (by omega)) (cwV 2 hts gX6_tryOrder_X5_refuseTo rfl rfl rfl (by decide +kernel) ⟨Nat.le_of_ble_eq_true rfl, Nat.le_of_ble_eq_true rfl⟩) hK hP hD hS hA [17, 18, 19, 20, 21, 22, 23, 24, 25, 26, 27, 28, 29, 30, 31] wX_tr_WC (by decide) wW_adr wX_tr_W 17 rfl rfl rfl hl.1 rfl (Nat.le_of_ble_eq_true rfl) dX6_tryOrder_150 ⟨Nat.zero_le _, Nat.zero_le _⟩ (fun H locs hP hD hS => ?_)
    have hI_1 : kInv (g_refuse N a b) := i_refuse hN (by omega) (by omega)
    refine lv_pop hx hcd dX6_tryOrder_153 rfl ?_
    refine lv_iconst (v := nI 1) hx hcd dX6_tryOrder_154 (by decide) ?_
    exact kr_zret hx hcd hr hlocks hK hP hD hS rfl rfl rfl dX6_tryOrder_155

set_option maxHeartbeats 4000000 in
set_option maxRecDepth 100000 in
theorem c_X6_tryOrder__c115 (l : Launch) (D : va_G) (cI cB cW cL : ClassId) (ob nw tr : Nat → Nat) (qs : Nat → Nat → Nat) (sc : Nat → Nat) (G : Nat → Option Nat) (N : kM) (S : Nat → kM) (n L : Nat) (T : Nat → Int32) (sz : Nat) (M : kM) (o : Nat) (a b : Nat) (hN : kInv N) (hT : kTx T) (ho : o < 25) (hlc : ch T (4 * o) = 115) (e1 : nI (ch T (4 * o + 1)) - 48 = nI a) (e2 : nI (ch T (4 * o + 2)) - 48 = nI b) (ha : a < 6) (hb : b < 6) (hne : a ≠ b) : kMi l yX6_tryOrder wsX6_tryOrder ({ frames := 5, cells := 0, slots := 0, locals := 118 }) D vwCl (kT cI cB cW cL) sz [.ref (ob 0), .int (nI o)] (wX cI cB cW ob nw tr qs sc G M N S n L T) (wX cI cB cW ob nw tr qs sc G M (g_stop N a b) S n L T) 1 := by
  refine kr_ofi (cc := cX6_tryOrder) (maxL := 4) (ret := (some .boolean)) (by decide) rfl (Nat.le_of_ble_eq_true rfl) ?_
  intro pp ee ss mm args below meth cc AA ls hx hcd hr hts hown hlocks hml hK hP hD hA hl
  have hS : va_S AA ss.heap ss.heap [] := va_S.rf
  have hown : ss.vm.findClass RX6 = some mm.cls := hown
  have hl : lv_has ls 4 [(0, .ref (ob 0)), (1, .int (nI o))] := hl
  have uX6 : ∀ w ∈ u_ws RX6 TX6 5, w ∈ wsX6_tryOrder := by decide +kernel
  refine lv_aload_n hx hcd dX6_tryOrder_0 rfl (lv_at hl 0 rfl) ?_
  refine kr_get hx hcd hts uX6 hown hK hP 0 rfl rfl 3 (by decide) (by decide +kernel) (v := .ref (sc 0)) rfl dX6_tryOrder_1 ?_
  refine lv_iload_n hx hcd dX6_tryOrder_4 rfl (lv_at hl 1 rfl) ?_
  refine lv_iconst (v := nI 1) hx hcd dX6_tryOrder_5 (by decide) ?_
  refine kr_Vi (As := [.int (nI o), .int (nI 1)]) (rest := []) (ws2 := wX cI cB cW ob nw tr qs sc G M N S n L T) (q := (RX2, TX2, 2)) ⟨hx, hcd, hml, hown, hts⟩ (c_X2_digit l D cI cB cW cL sc L T _ M o 1 hT (by omega) (by omega)) (cwV 2 hts gX6_tryOrder_X2_digit rfl rfl rfl (by decide +kernel) ⟨Nat.le_of_ble_eq_true rfl, Nat.le_of_ble_eq_true rfl⟩) hK hP hD hS hA [92, 93] wX_scC (by decide) wSc_adr (kset_same _ _ _ wX_scC) 92 rfl rfl rfl hl.1 rfl (Nat.le_of_ble_eq_true rfl) dX6_tryOrder_6 ⟨Nat.zero_le _, Nat.zero_le _⟩ (fun H locs hP hD hS => ?_)
  refine kr_top (w := nI a) e1 ?_
  refine lv_istore_n (lv' := [(2, .int (nI a)), (0, .ref (ob 0)), (1, .int (nI o))]) hx hcd dX6_tryOrder_9 rfl hl (by decide) rfl (fun ls hl => ?_)
  refine lv_aload_n hx hcd dX6_tryOrder_10 rfl (lv_at hl 1 rfl) ?_
  refine kr_get hx hcd hts uX6 hown hK hP 0 rfl rfl 3 (by decide) (by decide +kernel) (v := .ref (sc 0)) rfl dX6_tryOrder_11 ?_
  refine lv_iload_n hx hcd dX6_tryOrder_14 rfl (lv_at hl 2 rfl) ?_
  refine lv_iconst (v := nI 2) hx hcd dX6_tryOrder_15 (by decide) ?_
  refine kr_Vi (As := [.int (nI o), .int (nI 2)]) (rest := []) (ws2 := wX cI cB cW ob nw tr qs sc G M N S n L T) (q := (RX2, TX2, 2)) ⟨hx, hcd, hml, hown, hts⟩ (c_X2_digit l D cI cB cW cL sc L T _ M o 2 hT (by omega) (by omega)) (cwV 2 hts gX6_tryOrder_X2_digit rfl rfl rfl (by decide +kernel) ⟨Nat.le_of_ble_eq_true rfl, Nat.le_of_ble_eq_true rfl⟩) hK hP hD hS hA [92, 93] wX_scC (by decide) wSc_adr (kset_same _ _ _ wX_scC) 92 rfl rfl rfl hl.1 rfl (Nat.le_of_ble_eq_true rfl) dX6_tryOrder_16 ⟨Nat.zero_le _, Nat.zero_le _⟩ (fun H locs hP hD hS => ?_)
  refine kr_top (w := nI b) e2 ?_
  refine lv_istore_n (lv' := [(3, .int (nI b)), (2, .int (nI a)), (0, .ref (ob 0)), (1, .int (nI o))]) hx hcd dX6_tryOrder_19 rfl hl (by decide) rfl (fun ls hl => ?_)
  refine lv_aload_n hx hcd dX6_tryOrder_20 rfl (lv_at hl 2 rfl) ?_
  refine kr_get hx hcd hts uX6 hown hK hP 0 rfl rfl 3 (by decide) (by decide +kernel) (v := .ref (sc 0)) rfl dX6_tryOrder_21 ?_
  refine lv_iload_n hx hcd dX6_tryOrder_24 rfl (lv_at hl 3 rfl) ?_
  refine kr_Vi (As := [.int (nI o)]) (rest := []) (ws2 := wX cI cB cW ob nw tr qs sc G M N S n L T) (q := (RX2, TX2, 2)) ⟨hx, hcd, hml, hown, hts⟩ (c_X2_letter l D cI cB cW cL sc L T _ M o hT (by omega)) (cwV 1 hts gX6_tryOrder_X2_letter rfl rfl rfl (by decide +kernel) ⟨Nat.le_of_ble_eq_true rfl, Nat.le_of_ble_eq_true rfl⟩) hK hP hD hS hA [92, 93] wX_scC (by decide) wSc_adr (kset_same _ _ _ wX_scC) 92 rfl rfl rfl hl.1 rfl (Nat.le_of_ble_eq_true rfl) dX6_tryOrder_25 ⟨Nat.zero_le _, Nat.zero_le _⟩ (fun H locs hP hD hS => ?_)
  skip
  · refine kr_top (w := nI 115) (congrArg nI hlc) ?_
    refine lv_tableIn (x := nI 115) (off := 128) (tgt := 156) hx hcd dX6_tryOrder_28 (by decide) (by decide) (by decide) (by decide) ?_
    refine lv_aload_n hx hcd dX6_tryOrder_156 rfl (lv_at hl 2 rfl) ?_
    refine kr_get hx hcd hts uX6 hown hK hP 0 rfl rfl 1 (by decide) (by decide +kernel) (v := .ref (tr 0)) rfl dX6_tryOrder_157 ?_
    refine lv_iload_n hx hcd dX6_tryOrder_160 rfl (lv_at hl 1 rfl) ?_
    refine lv_iload_n hx hcd dX6_tryOrder_161 rfl (lv_at hl 0 rfl) ?_
    refine kr_Vi (As := [.int (nI a), .int (nI b)]) (rest := []) (ws2 := wX cI cB cW ob nw tr qs sc G M (g_stop N a b) S n L T) (q := (RX5, TX5, 5)) ⟨hx, hcd, hml, hown, hts⟩ (c_X5_stopSeeing l D cI cB cW cL tr _ N a b hN (by omega) (by omega)) (cwV 2 hts gX6_tryOrder_X5_stopSeeing rfl rfl rfl (by decide +kernel) ⟨Nat.le_of_ble_eq_true rfl, Nat.le_of_ble_eq_true rfl⟩) hK hP hD hS hA [17, 18, 19, 20, 21, 22, 23, 24, 25, 26, 27, 28, 29, 30, 31] wX_tr_WC (by decide) wW_adr wX_tr_W 17 rfl rfl rfl hl.1 rfl (Nat.le_of_ble_eq_true rfl) dX6_tryOrder_162 ⟨Nat.zero_le _, Nat.zero_le _⟩ (fun H locs hP hD hS => ?_)
    have hI_1 : kInv (g_stop N a b) := i_stop hN (by omega) (by omega)
    refine lv_pop hx hcd dX6_tryOrder_165 rfl ?_
    refine lv_iconst (v := nI 1) hx hcd dX6_tryOrder_166 (by decide) ?_
    exact kr_zret hx hcd hr hlocks hK hP hD hS rfl rfl rfl dX6_tryOrder_167

set_option maxHeartbeats 4000000 in
set_option maxRecDepth 100000 in
theorem c_X6_tryOrder__c105 (l : Launch) (D : va_G) (cI cB cW cL : ClassId) (ob nw tr : Nat → Nat) (qs : Nat → Nat → Nat) (sc : Nat → Nat) (G : Nat → Option Nat) (N : kM) (S : Nat → kM) (n L : Nat) (T : Nat → Int32) (sz : Nat) (M : kM) (o : Nat) (a b : Nat) (hN : kInv N) (hT : kTx T) (ho : o < 25) (hlc : ch T (4 * o) = 105) (e1 : nI (ch T (4 * o + 1)) - 48 = nI a) (e2 : nI (ch T (4 * o + 2)) - 48 = nI b) (ha : a < 6) (hb : b < 3) : kMi l yX6_tryOrder wsX6_tryOrder ({ frames := 5, cells := 0, slots := 0, locals := 118 }) D vwCl (kT cI cB cW cL) sz [.ref (ob 0), .int (nI o)] (wX cI cB cW ob nw tr qs sc G M N S n L T) (wX cI cB cW ob nw tr qs sc G M (g_turnOn N a b (nI 0) 0) S n L T) 1 := by
  refine kr_ofi (cc := cX6_tryOrder) (maxL := 4) (ret := (some .boolean)) (by decide) rfl (Nat.le_of_ble_eq_true rfl) ?_
  intro pp ee ss mm args below meth cc AA ls hx hcd hr hts hown hlocks hml hK hP hD hA hl
  have hS : va_S AA ss.heap ss.heap [] := va_S.rf
  have hown : ss.vm.findClass RX6 = some mm.cls := hown
  have hl : lv_has ls 4 [(0, .ref (ob 0)), (1, .int (nI o))] := hl
  have uX6 : ∀ w ∈ u_ws RX6 TX6 5, w ∈ wsX6_tryOrder := by decide +kernel
  refine lv_aload_n hx hcd dX6_tryOrder_0 rfl (lv_at hl 0 rfl) ?_
  refine kr_get hx hcd hts uX6 hown hK hP 0 rfl rfl 3 (by decide) (by decide +kernel) (v := .ref (sc 0)) rfl dX6_tryOrder_1 ?_
  refine lv_iload_n hx hcd dX6_tryOrder_4 rfl (lv_at hl 1 rfl) ?_
  refine lv_iconst (v := nI 1) hx hcd dX6_tryOrder_5 (by decide) ?_
  refine kr_Vi (As := [.int (nI o), .int (nI 1)]) (rest := []) (ws2 := wX cI cB cW ob nw tr qs sc G M N S n L T) (q := (RX2, TX2, 2)) ⟨hx, hcd, hml, hown, hts⟩ (c_X2_digit l D cI cB cW cL sc L T _ M o 1 hT (by omega) (by omega)) (cwV 2 hts gX6_tryOrder_X2_digit rfl rfl rfl (by decide +kernel) ⟨Nat.le_of_ble_eq_true rfl, Nat.le_of_ble_eq_true rfl⟩) hK hP hD hS hA [92, 93] wX_scC (by decide) wSc_adr (kset_same _ _ _ wX_scC) 92 rfl rfl rfl hl.1 rfl (Nat.le_of_ble_eq_true rfl) dX6_tryOrder_6 ⟨Nat.zero_le _, Nat.zero_le _⟩ (fun H locs hP hD hS => ?_)
  refine kr_top (w := nI a) e1 ?_
  refine lv_istore_n (lv' := [(2, .int (nI a)), (0, .ref (ob 0)), (1, .int (nI o))]) hx hcd dX6_tryOrder_9 rfl hl (by decide) rfl (fun ls hl => ?_)
  refine lv_aload_n hx hcd dX6_tryOrder_10 rfl (lv_at hl 1 rfl) ?_
  refine kr_get hx hcd hts uX6 hown hK hP 0 rfl rfl 3 (by decide) (by decide +kernel) (v := .ref (sc 0)) rfl dX6_tryOrder_11 ?_
  refine lv_iload_n hx hcd dX6_tryOrder_14 rfl (lv_at hl 2 rfl) ?_
  refine lv_iconst (v := nI 2) hx hcd dX6_tryOrder_15 (by decide) ?_
  refine kr_Vi (As := [.int (nI o), .int (nI 2)]) (rest := []) (ws2 := wX cI cB cW ob nw tr qs sc G M N S n L T) (q := (RX2, TX2, 2)) ⟨hx, hcd, hml, hown, hts⟩ (c_X2_digit l D cI cB cW cL sc L T _ M o 2 hT (by omega) (by omega)) (cwV 2 hts gX6_tryOrder_X2_digit rfl rfl rfl (by decide +kernel) ⟨Nat.le_of_ble_eq_true rfl, Nat.le_of_ble_eq_true rfl⟩) hK hP hD hS hA [92, 93] wX_scC (by decide) wSc_adr (kset_same _ _ _ wX_scC) 92 rfl rfl rfl hl.1 rfl (Nat.le_of_ble_eq_true rfl) dX6_tryOrder_16 ⟨Nat.zero_le _, Nat.zero_le _⟩ (fun H locs hP hD hS => ?_)
  refine kr_top (w := nI b) e2 ?_
  refine lv_istore_n (lv' := [(3, .int (nI b)), (2, .int (nI a)), (0, .ref (ob 0)), (1, .int (nI o))]) hx hcd dX6_tryOrder_19 rfl hl (by decide) rfl (fun ls hl => ?_)
  refine lv_aload_n hx hcd dX6_tryOrder_20 rfl (lv_at hl 2 rfl) ?_
  refine kr_get hx hcd hts uX6 hown hK hP 0 rfl rfl 3 (by decide) (by decide +kernel) (v := .ref (sc 0)) rfl dX6_tryOrder_21 ?_
  refine lv_iload_n hx hcd dX6_tryOrder_24 rfl (lv_at hl 3 rfl) ?_
  refine kr_Vi (As := [.int (nI o)]) (rest := []) (ws2 := wX cI cB cW ob nw tr qs sc G M N S n L T) (q := (RX2, TX2, 2)) ⟨hx, hcd, hml, hown, hts⟩ (c_X2_letter l D cI cB cW cL sc L T _ M o hT (by omega)) (cwV 1 hts gX6_tryOrder_X2_letter rfl rfl rfl (by decide +kernel) ⟨Nat.le_of_ble_eq_true rfl, Nat.le_of_ble_eq_true rfl⟩) hK hP hD hS hA [92, 93] wX_scC (by decide) wSc_adr (kset_same _ _ _ wX_scC) 92 rfl rfl rfl hl.1 rfl (Nat.le_of_ble_eq_true rfl) dX6_tryOrder_25 ⟨Nat.zero_le _, Nat.zero_le _⟩ (fun H locs hP hD hS => ?_)
  skip
  · refine kr_top (w := nI 105) (congrArg nI hlc) ?_
    refine lv_tableIn (x := nI 105) (off := 140) (tgt := 168) hx hcd dX6_tryOrder_28 (by decide) (by decide) (by decide) (by decide) ?_
    refine lv_aload_n hx hcd dX6_tryOrder_168 rfl (lv_at hl 2 rfl) ?_
    refine kr_get hx hcd hts uX6 hown hK hP 0 rfl rfl 1 (by decide) (by decide +kernel) (v := .ref (tr 0)) rfl dX6_tryOrder_169 ?_
    refine lv_iload_n hx hcd dX6_tryOrder_172 rfl (lv_at hl 1 rfl) ?_
    refine lv_iload_n hx hcd dX6_tryOrder_173 rfl (lv_at hl 0 rfl) ?_
    refine lv_iconst (v := nI 0) hx hcd dX6_tryOrder_174 (by decide) ?_
    refine lv_iconst (v := nI 0) hx hcd dX6_tryOrder_175 (by decide) ?_
    refine kr_Vi (As := [.int (nI a), .int (nI b), .int (nI 0), .int (nI 0)]) (rest := []) (ws2 := wX cI cB cW ob nw tr qs sc G M (g_turnOn N a b (nI 0) 0) S n L T) (q := (RX5, TX5, 5)) ⟨hx, hcd, hml, hown, hts⟩ (c_X5_switchOn l D cI cB cW cL tr _ N a b (nI 0) 0 hN (by omega) (by omega) (by omega)) (cwV 4 hts gX6_tryOrder_X5_switchOn rfl rfl rfl (by decide +kernel) ⟨Nat.le_of_ble_eq_true rfl, Nat.le_of_ble_eq_true rfl⟩) hK hP hD hS hA [17, 18, 19, 20, 21, 22, 23, 24, 25, 26, 27, 28, 29, 30, 31] wX_tr_WC (by decide) wW_adr wX_tr_W 17 rfl rfl rfl hl.1 rfl (Nat.le_of_ble_eq_true rfl) dX6_tryOrder_176 ⟨Nat.zero_le _, Nat.zero_le _⟩ (fun H locs hP hD hS => ?_)
    have hI_1 : kInv (g_turnOn N a b (nI 0) 0) := i_turnOn hN (by omega) (by omega) (by omega)
    refine lv_pop hx hcd dX6_tryOrder_179 rfl ?_
    refine lv_iconst (v := nI 1) hx hcd dX6_tryOrder_180 (by decide) ?_
    exact kr_zret hx hcd hr hlocks hK hP hD hS rfl rfl rfl dX6_tryOrder_181

set_option maxHeartbeats 4000000 in
set_option maxRecDepth 100000 in
theorem c_X6_tryOrder__c111 (l : Launch) (D : va_G) (cI cB cW cL : ClassId) (ob nw tr : Nat → Nat) (qs : Nat → Nat → Nat) (sc : Nat → Nat) (G : Nat → Option Nat) (N : kM) (S : Nat → kM) (n L : Nat) (T : Nat → Int32) (sz : Nat) (M : kM) (o : Nat) (a b : Nat) (hN : kInv N) (hT : kTx T) (ho : o < 25) (hlc : ch T (4 * o) = 111) (e1 : nI (ch T (4 * o + 1)) - 48 = nI a) (e2 : nI (ch T (4 * o + 2)) - 48 = nI b) (ha : a < 6) (hb : b < 3) (hon : g_on N a b = true) : kMi l yX6_tryOrder wsX6_tryOrder ({ frames := 5, cells := 0, slots := 0, locals := 118 }) D vwCl (kT cI cB cW cL) sz [.ref (ob 0), .int (nI o)] (wX cI cB cW ob nw tr qs sc G M N S n L T) (wX cI cB cW ob nw tr qs sc G M (g_turnOff N a b) S n L T) 1 := by
  refine kr_ofi (cc := cX6_tryOrder) (maxL := 4) (ret := (some .boolean)) (by decide) rfl (Nat.le_of_ble_eq_true rfl) ?_
  intro pp ee ss mm args below meth cc AA ls hx hcd hr hts hown hlocks hml hK hP hD hA hl
  have hS : va_S AA ss.heap ss.heap [] := va_S.rf
  have hown : ss.vm.findClass RX6 = some mm.cls := hown
  have hl : lv_has ls 4 [(0, .ref (ob 0)), (1, .int (nI o))] := hl
  have uX6 : ∀ w ∈ u_ws RX6 TX6 5, w ∈ wsX6_tryOrder := by decide +kernel
  refine lv_aload_n hx hcd dX6_tryOrder_0 rfl (lv_at hl 0 rfl) ?_
  refine kr_get hx hcd hts uX6 hown hK hP 0 rfl rfl 3 (by decide) (by decide +kernel) (v := .ref (sc 0)) rfl dX6_tryOrder_1 ?_
  refine lv_iload_n hx hcd dX6_tryOrder_4 rfl (lv_at hl 1 rfl) ?_
  refine lv_iconst (v := nI 1) hx hcd dX6_tryOrder_5 (by decide) ?_
  refine kr_Vi (As := [.int (nI o), .int (nI 1)]) (rest := []) (ws2 := wX cI cB cW ob nw tr qs sc G M N S n L T) (q := (RX2, TX2, 2)) ⟨hx, hcd, hml, hown, hts⟩ (c_X2_digit l D cI cB cW cL sc L T _ M o 1 hT (by omega) (by omega)) (cwV 2 hts gX6_tryOrder_X2_digit rfl rfl rfl (by decide +kernel) ⟨Nat.le_of_ble_eq_true rfl, Nat.le_of_ble_eq_true rfl⟩) hK hP hD hS hA [92, 93] wX_scC (by decide) wSc_adr (kset_same _ _ _ wX_scC) 92 rfl rfl rfl hl.1 rfl (Nat.le_of_ble_eq_true rfl) dX6_tryOrder_6 ⟨Nat.zero_le _, Nat.zero_le _⟩ (fun H locs hP hD hS => ?_)
  refine kr_top (w := nI a) e1 ?_
  refine lv_istore_n (lv' := [(2, .int (nI a)), (0, .ref (ob 0)), (1, .int (nI o))]) hx hcd dX6_tryOrder_9 rfl hl (by decide) rfl (fun ls hl => ?_)
  refine lv_aload_n hx hcd dX6_tryOrder_10 rfl (lv_at hl 1 rfl) ?_
  refine kr_get hx hcd hts uX6 hown hK hP 0 rfl rfl 3 (by decide) (by decide +kernel) (v := .ref (sc 0)) rfl dX6_tryOrder_11 ?_
  refine lv_iload_n hx hcd dX6_tryOrder_14 rfl (lv_at hl 2 rfl) ?_
  refine lv_iconst (v := nI 2) hx hcd dX6_tryOrder_15 (by decide) ?_
  refine kr_Vi (As := [.int (nI o), .int (nI 2)]) (rest := []) (ws2 := wX cI cB cW ob nw tr qs sc G M N S n L T) (q := (RX2, TX2, 2)) ⟨hx, hcd, hml, hown, hts⟩ (c_X2_digit l D cI cB cW cL sc L T _ M o 2 hT (by omega) (by omega)) (cwV 2 hts gX6_tryOrder_X2_digit rfl rfl rfl (by decide +kernel) ⟨Nat.le_of_ble_eq_true rfl, Nat.le_of_ble_eq_true rfl⟩) hK hP hD hS hA [92, 93] wX_scC (by decide) wSc_adr (kset_same _ _ _ wX_scC) 92 rfl rfl rfl hl.1 rfl (Nat.le_of_ble_eq_true rfl) dX6_tryOrder_16 ⟨Nat.zero_le _, Nat.zero_le _⟩ (fun H locs hP hD hS => ?_)
  refine kr_top (w := nI b) e2 ?_
  refine lv_istore_n (lv' := [(3, .int (nI b)), (2, .int (nI a)), (0, .ref (ob 0)), (1, .int (nI o))]) hx hcd dX6_tryOrder_19 rfl hl (by decide) rfl (fun ls hl => ?_)
  refine lv_aload_n hx hcd dX6_tryOrder_20 rfl (lv_at hl 2 rfl) ?_
  refine kr_get hx hcd hts uX6 hown hK hP 0 rfl rfl 3 (by decide) (by decide +kernel) (v := .ref (sc 0)) rfl dX6_tryOrder_21 ?_
  refine lv_iload_n hx hcd dX6_tryOrder_24 rfl (lv_at hl 3 rfl) ?_
  refine kr_Vi (As := [.int (nI o)]) (rest := []) (ws2 := wX cI cB cW ob nw tr qs sc G M N S n L T) (q := (RX2, TX2, 2)) ⟨hx, hcd, hml, hown, hts⟩ (c_X2_letter l D cI cB cW cL sc L T _ M o hT (by omega)) (cwV 1 hts gX6_tryOrder_X2_letter rfl rfl rfl (by decide +kernel) ⟨Nat.le_of_ble_eq_true rfl, Nat.le_of_ble_eq_true rfl⟩) hK hP hD hS hA [92, 93] wX_scC (by decide) wSc_adr (kset_same _ _ _ wX_scC) 92 rfl rfl rfl hl.1 rfl (Nat.le_of_ble_eq_true rfl) dX6_tryOrder_25 ⟨Nat.zero_le _, Nat.zero_le _⟩ (fun H locs hP hD hS => ?_)
  skip
  · refine kr_top (w := nI 111) (congrArg nI hlc) ?_
    refine lv_tableIn (x := nI 111) (off := 154) (tgt := 182) hx hcd dX6_tryOrder_28 (by decide) (by decide) (by decide) (by decide) ?_
    refine lv_aload_n hx hcd dX6_tryOrder_182 rfl (lv_at hl 2 rfl) ?_
    refine kr_get hx hcd hts uX6 hown hK hP 0 rfl rfl 1 (by decide) (by decide +kernel) (v := .ref (tr 0)) rfl dX6_tryOrder_183 ?_
    refine lv_iload_n hx hcd dX6_tryOrder_186 rfl (lv_at hl 1 rfl) ?_
    refine lv_iload_n hx hcd dX6_tryOrder_187 rfl (lv_at hl 0 rfl) ?_
    refine kr_Vi (As := [.int (nI a), .int (nI b)]) (rest := []) (ws2 := wX cI cB cW ob nw tr qs sc G M (if g_on N a b = true then g_turnOff N a b else N) S n L T) (q := (RX5, TX5, 5)) ⟨hx, hcd, hml, hown, hts⟩ (c_X5_switchOff l D cI cB cW cL tr _ N a b hN (by omega) (by omega)) (cwV 2 hts gX6_tryOrder_X5_switchOff rfl rfl rfl (by decide +kernel) ⟨Nat.le_of_ble_eq_true rfl, Nat.le_of_ble_eq_true rfl⟩) hK hP hD hS hA [17, 18, 19, 20, 21, 22, 23, 24, 25, 26, 27, 28, 29, 30, 31] wX_tr_WC (by decide) wW_adr wX_tr_W 17 rfl rfl rfl hl.1 rfl (Nat.le_of_ble_eq_true rfl) dX6_tryOrder_188 ⟨Nat.zero_le _, Nat.zero_le _⟩ (fun H locs hP hD hS => ?_)
    refine kr_top (w := g_cnt (g_turnOff N a b) a) (if_pos hon) ?_
    refine lv_iconst (v := (-1)) hx hcd dX6_tryOrder_191 (by decide) ?_
    refine lv_icmp_eq (tgt := 199) hx hcd dX6_tryOrder_192 (by decide) (fun (c_192 : (g_cnt (g_turnOff N a b) a) = (-1)) => absurd c_192 (cnt_m1 (i_turnOff hN ha hb) ha)) (fun (c_192 : ¬ (g_cnt (g_turnOff N a b) a) = (-1)) => ?_)
    refine lv_iconst (v := nI 1) hx hcd dX6_tryOrder_195 (by decide) ?_
    refine lv_goto (tgt := 200) hx hcd dX6_tryOrder_196 (by decide) ?_
    exact kr_zret hx hcd hr hlocks hK hP hD hS rfl rfl (by rw [if_pos hon]) dX6_tryOrder_200

set_option maxHeartbeats 4000000 in
set_option maxRecDepth 100000 in
theorem c_X6_tryOrder__c100 (l : Launch) (D : va_G) (cI cB cW cL : ClassId) (ob nw tr : Nat → Nat) (qs : Nat → Nat → Nat) (sc : Nat → Nat) (G : Nat → Option Nat) (N : kM) (S : Nat → kM) (n L : Nat) (T : Nat → Int32) (sz : Nat) (M : kM) (o : Nat) (a b : Nat) (hN : kInv N) (hT : kTx T) (ho : o < 25) (hlc : ch T (4 * o) = 100) (e1 : nI (ch T (4 * o + 1)) - 48 = nI a) (e2 : nI (ch T (4 * o + 2)) - 48 = nI b) (ha : a < 10) (hb : b < 10) : kMi l yX6_tryOrder wsX6_tryOrder ({ frames := 5, cells := 0, slots := 0, locals := 118 }) D vwCl (kT cI cB cW cL) sz [.ref (ob 0), .int (nI o)] (wX cI cB cW ob nw tr qs sc G M N S n L T) (wX cI cB cW ob nw tr qs sc G M (g_del (10 * a + b) N) S n L T) 1 := by
  refine kr_ofi (cc := cX6_tryOrder) (maxL := 4) (ret := (some .boolean)) (by decide) rfl (Nat.le_of_ble_eq_true rfl) ?_
  intro pp ee ss mm args below meth cc AA ls hx hcd hr hts hown hlocks hml hK hP hD hA hl
  have hS : va_S AA ss.heap ss.heap [] := va_S.rf
  have hown : ss.vm.findClass RX6 = some mm.cls := hown
  have hl : lv_has ls 4 [(0, .ref (ob 0)), (1, .int (nI o))] := hl
  have uX6 : ∀ w ∈ u_ws RX6 TX6 5, w ∈ wsX6_tryOrder := by decide +kernel
  refine lv_aload_n hx hcd dX6_tryOrder_0 rfl (lv_at hl 0 rfl) ?_
  refine kr_get hx hcd hts uX6 hown hK hP 0 rfl rfl 3 (by decide) (by decide +kernel) (v := .ref (sc 0)) rfl dX6_tryOrder_1 ?_
  refine lv_iload_n hx hcd dX6_tryOrder_4 rfl (lv_at hl 1 rfl) ?_
  refine lv_iconst (v := nI 1) hx hcd dX6_tryOrder_5 (by decide) ?_
  refine kr_Vi (As := [.int (nI o), .int (nI 1)]) (rest := []) (ws2 := wX cI cB cW ob nw tr qs sc G M N S n L T) (q := (RX2, TX2, 2)) ⟨hx, hcd, hml, hown, hts⟩ (c_X2_digit l D cI cB cW cL sc L T _ M o 1 hT (by omega) (by omega)) (cwV 2 hts gX6_tryOrder_X2_digit rfl rfl rfl (by decide +kernel) ⟨Nat.le_of_ble_eq_true rfl, Nat.le_of_ble_eq_true rfl⟩) hK hP hD hS hA [92, 93] wX_scC (by decide) wSc_adr (kset_same _ _ _ wX_scC) 92 rfl rfl rfl hl.1 rfl (Nat.le_of_ble_eq_true rfl) dX6_tryOrder_6 ⟨Nat.zero_le _, Nat.zero_le _⟩ (fun H locs hP hD hS => ?_)
  refine kr_top (w := nI a) e1 ?_
  refine lv_istore_n (lv' := [(2, .int (nI a)), (0, .ref (ob 0)), (1, .int (nI o))]) hx hcd dX6_tryOrder_9 rfl hl (by decide) rfl (fun ls hl => ?_)
  refine lv_aload_n hx hcd dX6_tryOrder_10 rfl (lv_at hl 1 rfl) ?_
  refine kr_get hx hcd hts uX6 hown hK hP 0 rfl rfl 3 (by decide) (by decide +kernel) (v := .ref (sc 0)) rfl dX6_tryOrder_11 ?_
  refine lv_iload_n hx hcd dX6_tryOrder_14 rfl (lv_at hl 2 rfl) ?_
  refine lv_iconst (v := nI 2) hx hcd dX6_tryOrder_15 (by decide) ?_
  refine kr_Vi (As := [.int (nI o), .int (nI 2)]) (rest := []) (ws2 := wX cI cB cW ob nw tr qs sc G M N S n L T) (q := (RX2, TX2, 2)) ⟨hx, hcd, hml, hown, hts⟩ (c_X2_digit l D cI cB cW cL sc L T _ M o 2 hT (by omega) (by omega)) (cwV 2 hts gX6_tryOrder_X2_digit rfl rfl rfl (by decide +kernel) ⟨Nat.le_of_ble_eq_true rfl, Nat.le_of_ble_eq_true rfl⟩) hK hP hD hS hA [92, 93] wX_scC (by decide) wSc_adr (kset_same _ _ _ wX_scC) 92 rfl rfl rfl hl.1 rfl (Nat.le_of_ble_eq_true rfl) dX6_tryOrder_16 ⟨Nat.zero_le _, Nat.zero_le _⟩ (fun H locs hP hD hS => ?_)
  refine kr_top (w := nI b) e2 ?_
  refine lv_istore_n (lv' := [(3, .int (nI b)), (2, .int (nI a)), (0, .ref (ob 0)), (1, .int (nI o))]) hx hcd dX6_tryOrder_19 rfl hl (by decide) rfl (fun ls hl => ?_)
  refine lv_aload_n hx hcd dX6_tryOrder_20 rfl (lv_at hl 2 rfl) ?_
  refine kr_get hx hcd hts uX6 hown hK hP 0 rfl rfl 3 (by decide) (by decide +kernel) (v := .ref (sc 0)) rfl dX6_tryOrder_21 ?_
  refine lv_iload_n hx hcd dX6_tryOrder_24 rfl (lv_at hl 3 rfl) ?_
  refine kr_Vi (As := [.int (nI o)]) (rest := []) (ws2 := wX cI cB cW ob nw tr qs sc G M N S n L T) (q := (RX2, TX2, 2)) ⟨hx, hcd, hml, hown, hts⟩ (c_X2_letter l D cI cB cW cL sc L T _ M o hT (by omega)) (cwV 1 hts gX6_tryOrder_X2_letter rfl rfl rfl (by decide +kernel) ⟨Nat.le_of_ble_eq_true rfl, Nat.le_of_ble_eq_true rfl⟩) hK hP hD hS hA [92, 93] wX_scC (by decide) wSc_adr (kset_same _ _ _ wX_scC) 92 rfl rfl rfl hl.1 rfl (Nat.le_of_ble_eq_true rfl) dX6_tryOrder_25 ⟨Nat.zero_le _, Nat.zero_le _⟩ (fun H locs hP hD hS => ?_)
  skip
  · refine kr_top (w := nI 100) (congrArg nI hlc) ?_
    refine lv_tableIn (x := nI 100) (off := 173) (tgt := 201) hx hcd dX6_tryOrder_28 (by decide) (by decide) (by decide) (by decide) ?_
    refine lv_aload_n hx hcd dX6_tryOrder_201 rfl (lv_at hl 2 rfl) ?_
    refine kr_get hx hcd hts uX6 hown hK hP 0 rfl rfl 1 (by decide) (by decide +kernel) (v := .ref (tr 0)) rfl dX6_tryOrder_202 ?_
    refine lv_bipush (v := nI 10) hx hcd dX6_tryOrder_205 (by decide) ?_
    refine lv_iload_n hx hcd dX6_tryOrder_207 rfl (lv_at hl 1 rfl) ?_
    refine kr_mul hx hcd dX6_tryOrder_208 ?_
    refine lv_iload_n hx hcd dX6_tryOrder_209 rfl (lv_at hl 0 rfl) ?_
    refine kr_add hx hcd dX6_tryOrder_210 ?_
    refine kr_Vi (As := [.int (nI ((10 * a) + b))]) (rest := []) (ws2 := wX cI cB cW ob nw tr qs sc G M (g_del ((10 * a) + b) N) S n L T) (q := (RX5, TX5, 5)) ⟨hx, hcd, hml, hown, hts⟩ (c_X5_letArrive l D cI cB cW cL tr _ N ((10 * a) + b) hN (by omega)) (cwV 1 hts gX6_tryOrder_X5_letArrive rfl rfl rfl (by decide +kernel) ⟨Nat.le_of_ble_eq_true rfl, Nat.le_of_ble_eq_true rfl⟩) hK hP hD hS hA [17, 18, 19, 20, 21, 22, 23, 24, 25, 26, 27, 28, 29, 30, 31] wX_tr_WC (by decide) wW_adr wX_tr_W 17 rfl rfl rfl hl.1 rfl (Nat.le_of_ble_eq_true rfl) dX6_tryOrder_211 ⟨Nat.zero_le _, Nat.zero_le _⟩ (fun H locs hP hD hS => ?_)
    have hI_1 : kInv (g_del ((10 * a) + b) N) := i_del _ hN
    refine lv_pop hx hcd dX6_tryOrder_214 rfl ?_
    refine lv_iconst (v := nI 1) hx hcd dX6_tryOrder_215 (by decide) ?_
    exact kr_zret hx hcd hr hlocks hK hP hD hS rfl rfl rfl dX6_tryOrder_216

set_option maxHeartbeats 4000000 in
set_option maxRecDepth 100000 in
theorem c_X6_tryOrder__c111n (l : Launch) (D : va_G) (cI cB cW cL : ClassId) (ob nw tr : Nat → Nat) (qs : Nat → Nat → Nat) (sc : Nat → Nat) (G : Nat → Option Nat) (N : kM) (S : Nat → kM) (n L : Nat) (T : Nat → Int32) (sz : Nat) (M : kM) (o : Nat) (a b : Nat) (hN : kInv N) (hT : kTx T) (ho : o < 25) (hlc : ch T (4 * o) = 111) (e1 : nI (ch T (4 * o + 1)) - 48 = nI a) (e2 : nI (ch T (4 * o + 2)) - 48 = nI b) (ha : a < 6) (hb : b < 3) (hon : g_on N a b = false) : kMi l yX6_tryOrder wsX6_tryOrder ({ frames := 5, cells := 0, slots := 0, locals := 118 }) D vwCl (kT cI cB cW cL) sz [.ref (ob 0), .int (nI o)] (wX cI cB cW ob nw tr qs sc G M N S n L T) (wX cI cB cW ob nw tr qs sc G M N S n L T) 0 := by
  refine kr_ofi (cc := cX6_tryOrder) (maxL := 4) (ret := (some .boolean)) (by decide) rfl (Nat.le_of_ble_eq_true rfl) ?_
  intro pp ee ss mm args below meth cc AA ls hx hcd hr hts hown hlocks hml hK hP hD hA hl
  have hS : va_S AA ss.heap ss.heap [] := va_S.rf
  have hown : ss.vm.findClass RX6 = some mm.cls := hown
  have hl : lv_has ls 4 [(0, .ref (ob 0)), (1, .int (nI o))] := hl
  have uX6 : ∀ w ∈ u_ws RX6 TX6 5, w ∈ wsX6_tryOrder := by decide +kernel
  refine lv_aload_n hx hcd dX6_tryOrder_0 rfl (lv_at hl 0 rfl) ?_
  refine kr_get hx hcd hts uX6 hown hK hP 0 rfl rfl 3 (by decide) (by decide +kernel) (v := .ref (sc 0)) rfl dX6_tryOrder_1 ?_
  refine lv_iload_n hx hcd dX6_tryOrder_4 rfl (lv_at hl 1 rfl) ?_
  refine lv_iconst (v := nI 1) hx hcd dX6_tryOrder_5 (by decide) ?_
  refine kr_Vi (As := [.int (nI o), .int (nI 1)]) (rest := []) (ws2 := wX cI cB cW ob nw tr qs sc G M N S n L T) (q := (RX2, TX2, 2)) ⟨hx, hcd, hml, hown, hts⟩ (c_X2_digit l D cI cB cW cL sc L T _ M o 1 hT (by omega) (by omega)) (cwV 2 hts gX6_tryOrder_X2_digit rfl rfl rfl (by decide +kernel) ⟨Nat.le_of_ble_eq_true rfl, Nat.le_of_ble_eq_true rfl⟩) hK hP hD hS hA [92, 93] wX_scC (by decide) wSc_adr (kset_same _ _ _ wX_scC) 92 rfl rfl rfl hl.1 rfl (Nat.le_of_ble_eq_true rfl) dX6_tryOrder_6 ⟨Nat.zero_le _, Nat.zero_le _⟩ (fun H locs hP hD hS => ?_)
  refine kr_top (w := nI a) e1 ?_
  refine lv_istore_n (lv' := [(2, .int (nI a)), (0, .ref (ob 0)), (1, .int (nI o))]) hx hcd dX6_tryOrder_9 rfl hl (by decide) rfl (fun ls hl => ?_)
  refine lv_aload_n hx hcd dX6_tryOrder_10 rfl (lv_at hl 1 rfl) ?_
  refine kr_get hx hcd hts uX6 hown hK hP 0 rfl rfl 3 (by decide) (by decide +kernel) (v := .ref (sc 0)) rfl dX6_tryOrder_11 ?_
  refine lv_iload_n hx hcd dX6_tryOrder_14 rfl (lv_at hl 2 rfl) ?_
  refine lv_iconst (v := nI 2) hx hcd dX6_tryOrder_15 (by decide) ?_
  refine kr_Vi (As := [.int (nI o), .int (nI 2)]) (rest := []) (ws2 := wX cI cB cW ob nw tr qs sc G M N S n L T) (q := (RX2, TX2, 2)) ⟨hx, hcd, hml, hown, hts⟩ (c_X2_digit l D cI cB cW cL sc L T _ M o 2 hT (by omega) (by omega)) (cwV 2 hts gX6_tryOrder_X2_digit rfl rfl rfl (by decide +kernel) ⟨Nat.le_of_ble_eq_true rfl, Nat.le_of_ble_eq_true rfl⟩) hK hP hD hS hA [92, 93] wX_scC (by decide) wSc_adr (kset_same _ _ _ wX_scC) 92 rfl rfl rfl hl.1 rfl (Nat.le_of_ble_eq_true rfl) dX6_tryOrder_16 ⟨Nat.zero_le _, Nat.zero_le _⟩ (fun H locs hP hD hS => ?_)
  refine kr_top (w := nI b) e2 ?_
  refine lv_istore_n (lv' := [(3, .int (nI b)), (2, .int (nI a)), (0, .ref (ob 0)), (1, .int (nI o))]) hx hcd dX6_tryOrder_19 rfl hl (by decide) rfl (fun ls hl => ?_)
  refine lv_aload_n hx hcd dX6_tryOrder_20 rfl (lv_at hl 2 rfl) ?_
  refine kr_get hx hcd hts uX6 hown hK hP 0 rfl rfl 3 (by decide) (by decide +kernel) (v := .ref (sc 0)) rfl dX6_tryOrder_21 ?_
  refine lv_iload_n hx hcd dX6_tryOrder_24 rfl (lv_at hl 3 rfl) ?_
  refine kr_Vi (As := [.int (nI o)]) (rest := []) (ws2 := wX cI cB cW ob nw tr qs sc G M N S n L T) (q := (RX2, TX2, 2)) ⟨hx, hcd, hml, hown, hts⟩ (c_X2_letter l D cI cB cW cL sc L T _ M o hT (by omega)) (cwV 1 hts gX6_tryOrder_X2_letter rfl rfl rfl (by decide +kernel) ⟨Nat.le_of_ble_eq_true rfl, Nat.le_of_ble_eq_true rfl⟩) hK hP hD hS hA [92, 93] wX_scC (by decide) wSc_adr (kset_same _ _ _ wX_scC) 92 rfl rfl rfl hl.1 rfl (Nat.le_of_ble_eq_true rfl) dX6_tryOrder_25 ⟨Nat.zero_le _, Nat.zero_le _⟩ (fun H locs hP hD hS => ?_)
  skip
  · refine kr_top (w := nI 111) (congrArg nI hlc) ?_
    refine lv_tableIn (x := nI 111) (off := 154) (tgt := 182) hx hcd dX6_tryOrder_28 (by decide) (by decide) (by decide) (by decide) ?_
    refine lv_aload_n hx hcd dX6_tryOrder_182 rfl (lv_at hl 2 rfl) ?_
    refine kr_get hx hcd hts uX6 hown hK hP 0 rfl rfl 1 (by decide) (by decide +kernel) (v := .ref (tr 0)) rfl dX6_tryOrder_183 ?_
    refine lv_iload_n hx hcd dX6_tryOrder_186 rfl (lv_at hl 1 rfl) ?_
    refine lv_iload_n hx hcd dX6_tryOrder_187 rfl (lv_at hl 0 rfl) ?_
    refine kr_Vi (As := [.int (nI a), .int (nI b)]) (rest := []) (ws2 := wX cI cB cW ob nw tr qs sc G M (if g_on N a b = true then g_turnOff N a b else N) S n L T) (q := (RX5, TX5, 5)) ⟨hx, hcd, hml, hown, hts⟩ (c_X5_switchOff l D cI cB cW cL tr _ N a b hN (by omega) (by omega)) (cwV 2 hts gX6_tryOrder_X5_switchOff rfl rfl rfl (by decide +kernel) ⟨Nat.le_of_ble_eq_true rfl, Nat.le_of_ble_eq_true rfl⟩) hK hP hD hS hA [17, 18, 19, 20, 21, 22, 23, 24, 25, 26, 27, 28, 29, 30, 31] wX_tr_WC (by decide) wW_adr wX_tr_W 17 rfl rfl rfl hl.1 rfl (Nat.le_of_ble_eq_true rfl) dX6_tryOrder_188 ⟨Nat.zero_le _, Nat.zero_le _⟩ (fun H locs hP hD hS => ?_)
    refine kr_top (w := (-1)) (if_neg (by rw [hon]; decide)) ?_
    refine lv_iconst (v := (-1)) hx hcd dX6_tryOrder_191 (by decide) ?_
    refine lv_icmp_eq (tgt := 199) hx hcd dX6_tryOrder_192 (by decide) (fun (c_192 : (-1) = (-1)) => ?_) (fun (c_192 : ¬ (-1) = (-1)) => absurd c_192 (not_not_intro rfl))
    refine lv_iconst (v := nI 0) hx hcd dX6_tryOrder_199 (by decide) ?_
    exact kr_zret hx hcd hr hlocks hK hP hD hS rfl rfl (by rw [if_neg (by rw [hon]; decide)]) dX6_tryOrder_200
theorem c_X6_tryOrder__t (l : Launch) (D : va_G) (cI cB cW cL : ClassId) (ob nw tr : Nat → Nat) (qs : Nat → Nat → Nat) (sc : Nat → Nat) (G : Nat → Option Nat) (N : kM) (S : Nat → kM) (n L : Nat) (T : Nat → Int32) (sz : Nat) (M : kM) (o : Nat) (a b : Nat) (hN : kInv N) (hT : kTx T) (ho : o < 25) (hO : kOrd (ch T (4 * o)) a b) (e1 : nI (ch T (4 * o + 1)) - 48 = nI a) (e2 : nI (ch T (4 * o + 2)) - 48 = nI b) (hk : g_ok (ch T (4 * o)) a b N = true) : kMi l yX6_tryOrder wsX6_tryOrder ({ frames := 5, cells := 0, slots := 0, locals := 118 }) D vwCl (kT cI cB cW cL) sz [.ref (ob 0), .int (nI o)] (wX cI cB cW ob nw tr qs sc G M N S n L T) (wX cI cB cW ob nw tr qs sc G M (g_do (ch T (4 * o)) a b N) S n L T) (nI 1) := by
  rcases hO with ⟨q, ha, hb, hne⟩ | ⟨q, ha, hb⟩ | ⟨q, ha, hb⟩
  · rcases q with q | q | q | q
    · rw [show g_do (ch T (4 * o)) a b N = g_ask N a b by rw [q]; rfl]
      exact c_X6_tryOrder__c97 l D cI cB cW cL ob nw tr qs sc G N S n L T sz M o a b hN hT ho q e1 e2 ha hb hne
    · rw [show g_do (ch T (4 * o)) a b N = g_grant N a b by rw [q]; rfl]
      exact c_X6_tryOrder__c103 l D cI cB cW cL ob nw tr qs sc G N S n L T sz M o a b hN hT ho q e1 e2 ha hb hne
    · rw [show g_do (ch T (4 * o)) a b N = g_refuse N a b by rw [q]; rfl]
      exact c_X6_tryOrder__c114 l D cI cB cW cL ob nw tr qs sc G N S n L T sz M o a b hN hT ho q e1 e2 ha hb hne
    · rw [show g_do (ch T (4 * o)) a b N = g_stop N a b by rw [q]; rfl]
      exact c_X6_tryOrder__c115 l D cI cB cW cL ob nw tr qs sc G N S n L T sz M o a b hN hT ho q e1 e2 ha hb hne
  · rcases q with q | q
    · rw [show g_do (ch T (4 * o)) a b N = g_turnOn N a b (nI 0) 0 by rw [q]; rfl]
      exact c_X6_tryOrder__c105 l D cI cB cW cL ob nw tr qs sc G N S n L T sz M o a b hN hT ho q e1 e2 ha hb
    · rw [show g_do (ch T (4 * o)) a b N = g_turnOff N a b by rw [q]; rfl]
      rw [q] at hk
      exact c_X6_tryOrder__c111 l D cI cB cW cL ob nw tr qs sc G N S n L T sz M o a b hN hT ho q e1 e2 ha hb hk
  · rw [show g_do (ch T (4 * o)) a b N = g_del (10 * a + b) N by rw [q]; rfl]
    exact c_X6_tryOrder__c100 l D cI cB cW cL ob nw tr qs sc G N S n L T sz M o a b hN hT ho q e1 e2 ha hb
theorem c_X6_tryOrder__f (l : Launch) (D : va_G) (cI cB cW cL : ClassId) (ob nw tr : Nat → Nat) (qs : Nat → Nat → Nat) (sc : Nat → Nat) (G : Nat → Option Nat) (N : kM) (S : Nat → kM) (n L : Nat) (T : Nat → Int32) (sz : Nat) (M : kM) (o : Nat) (a b : Nat) (hN : kInv N) (hT : kTx T) (ho : o < 25) (hO : kOrd (ch T (4 * o)) a b) (e1 : nI (ch T (4 * o + 1)) - 48 = nI a) (e2 : nI (ch T (4 * o + 2)) - 48 = nI b) (hk : g_ok (ch T (4 * o)) a b N = false) : kMi l yX6_tryOrder wsX6_tryOrder ({ frames := 5, cells := 0, slots := 0, locals := 118 }) D vwCl (kT cI cB cW cL) sz [.ref (ob 0), .int (nI o)] (wX cI cB cW ob nw tr qs sc G M N S n L T) (wX cI cB cW ob nw tr qs sc G M N S n L T) (nI 0) := by
  have q : ch T (4 * o) = 111 := by
    unfold g_ok at hk
    by_cases e : ch T (4 * o) = 111
    · exact e
    · rw [if_neg e] at hk
      cases hk
  rw [q] at hO hk
  have hab : a < 6 ∧ b < 3 := by
    rcases hO with ⟨q9, -⟩ | ⟨-, ha, hb⟩ | ⟨q9, -⟩
    · omega
    · exact ⟨ha, hb⟩
    · omega
  exact c_X6_tryOrder__c111n l D cI cB cW cL ob nw tr qs sc G N S n L T sz M o a b hN hT ho q e1 e2 hab.1 hab.2 hk
