set_option maxHeartbeats 4000000 in
set_option maxRecDepth 100000 in
theorem c_X7_mostNeeded__ok (l : Launch) (D : va_G) (cI cB cW cL : ClassId) (z : Nat → Nat) (x : Nat → Int32) (hh : Int64) (Sp Ot Sv Tx : Nat → Int32) (sz : Nat) (M : kM) (hI : kInv M) : kMi l yX7_mostNeeded wsX7_mostNeeded ({ frames := 6, cells := 0, slots := 0, locals := 139 }) D vwCl (kT cI cB cW cL) sz [.ref (z 0)] (wMA cI z x hh M Sp Ot Sv Tx) (wMA cI z (xu x 7 0) hh M (va_cpy M Sp 0 0 581) Ot Sv Tx) (g_need M) := by
  refine kr_ofi (cc := cX7_mostNeeded) (maxL := 6) (ret := (some .int)) (by decide) rfl (Nat.le_of_ble_eq_true rfl) ?_
  intro pp ee ss mm args below meth cc AA ls hx hcd hr hts hown hlocks hml hK hP hD hA hl
  have hS : va_S AA ss.heap ss.heap [] := va_S.rf
  have hown : ss.vm.findClass RX7 = some mm.cls := hown
  have hl : lv_has ls 6 [(0, .ref (z 0))] := hl
  have uX7 : ∀ w ∈ u_ws RX7 TX7 10, w ∈ wsX7_mostNeeded := by decide +kernel
  have b577 := i_wyle hI
  refine lv_aload_n hx hcd dX7_mostNeeded_0 rfl (lv_at hl 0 rfl) ?_
  refine lv_iconst (v := nI 0) hx hcd dX7_mostNeeded_1 (by decide) ?_
  refine kr_put hx hcd hts uX7 tyX7 tyX7_ok nmX7 hown hK hP hD hS 0 rfl rfl 7 (by decide) (by decide +kernel) rfl rfl rfl (ws2 := wMA cI z (xu x 7 0) hh M Sp Ot Sv Tx) rfl dX7_mostNeeded_2 (fun H locs hP hD hS => ?_)
  refine lv_aload_n hx hcd dX7_mostNeeded_5 rfl (lv_at hl 0 rfl) ?_
  refine kr_get hx hcd hts uX7 hown hK hP 0 rfl rfl 0 (by decide) (by decide +kernel) (v := .ref (z 1)) rfl dX7_mostNeeded_6 ?_
  refine lv_iconst (v := nI 0) hx hcd dX7_mostNeeded_9 (by decide) ?_
  refine lv_aload_n hx hcd dX7_mostNeeded_10 rfl (lv_at hl 0 rfl) ?_
  refine kr_get hx hcd hts uX7 hown hK hP 0 rfl rfl 1 (by decide) (by decide +kernel) (v := .ref (z 2)) rfl dX7_mostNeeded_11 ?_
  refine lv_iconst (v := nI 0) hx hcd dX7_mostNeeded_14 (by decide) ?_
  refine kr_Sv (As := [.ref (z 1), .int (nI 0), .ref (z 2), .int (nI 0)]) (rest := []) (ws2 := wMA cI z (xu x 7 0) hh M (va_cpy M Sp 0 0 581) Ot Sv Tx) ⟨hx, hcd, hml, hown, hts⟩ (c_X7_bring l D cI cB cW cL (z 1) (z 2) 581 581 M Sp _ M 0 0 (by omega) (by omega) (by omega) (by omega)) (va_cwS 4 hts gX7_mostNeeded_X7_bring rfl rfl rfl (by decide +kernel) ⟨Nat.le_of_ble_eq_true rfl, Nat.le_of_ble_eq_true rfl⟩) hK hP hD hS hA [1, 2] rfl (by decide) wBr_adr rfl rfl hl.1 rfl (Nat.le_of_ble_eq_true rfl) dX7_mostNeeded_15 ⟨Nat.zero_le _, Nat.zero_le _⟩ (fun H locs hP hD hS => ?_)
  refine lv_iconst (v := (-1)) hx hcd dX7_mostNeeded_18 (by decide) ?_
  refine lv_istore_n (lv' := [(1, .int (-1)), (0, .ref (z 0))]) hx hcd dX7_mostNeeded_19 rfl hl (by decide) rfl (fun ls hl => ?_)
  refine lv_iconst (v := nI 0) hx hcd dX7_mostNeeded_20 (by decide) ?_
  refine lv_istore_n (lv' := [(2, .int (nI 0)), (1, .int (-1)), (0, .ref (z 0))]) hx hcd dX7_mostNeeded_21 rfl hl (by decide) rfl (fun ls hl => ?_)
  refine lv_iconst (v := nI 0) hx hcd dX7_mostNeeded_22 (by decide) ?_
  refine lv_istore_n (lv' := [(3, .int (nI 0)), (2, .int (nI 0)), (1, .int (-1)), (0, .ref (z 0))]) hx hcd dX7_mostNeeded_23 rfl hl (by decide) rfl (fun ls hl => ?_)
  refine lv_iconst (v := nI 0) hx hcd dX7_mostNeeded_24 (by decide) ?_
  refine lv_istore (lv' := [(4, .int (nI 0)), (3, .int (nI 0)), (2, .int (nI 0)), (1, .int (-1)), (0, .ref (z 0))]) hx hcd dX7_mostNeeded_25 hl (by decide) rfl (fun ls hl => ?_)
  refine kr_up (fun i => wMA cI z (xu x 7 0) hh M (va_cpy M Sp 0 0 581) Ot Sv Tx) (fun i => [(0, .ref (z 0)), (1, .int ((g_nd M i).1)), (2, .int (nI (g_ls M i))), (3, .int (nI 0)), (4, .int (nI i))]) (wyN M) (nL := 6) (fun i hi ih_27 H locs ls hP hD hS hl => ?_) (fun H locs ls hP hD hS hl => ?_) 0 (by omega) hP hD hS (lv_sub hl [4, 3, 2, 1, 0] rfl)
  · have hl : lv_has ls 6 [(0, .ref (z 0)), (1, .int ((g_nd M i).1)), (2, .int (nI (g_ls M i))), (3, .int (nI 0)), (4, .int (nI i))] := hl
    have bp := pairs_le (M := g_del 1000 (g_drop M i))
    have bl := ls_le (M := M) i
    refine lv_iload hx hcd dX7_mostNeeded_27 (lv_at hl 4 rfl) ?_
    refine lv_aload_n hx hcd dX7_mostNeeded_29 rfl (lv_at hl 0 rfl) ?_
    refine kr_get hx hcd hts uX7 hown hK hP 0 rfl rfl 1 (by decide) (by decide +kernel) (v := .ref (z 2)) rfl dX7_mostNeeded_30 ?_
    refine lv_sipush (v := nI 577) hx hcd dX7_mostNeeded_33 (by decide) ?_
    refine kr_iald hx hcd hK hP 2 0 rfl rfl (v := (va_cpy M Sp 0 0 581) 577) (by omega) (by decide) (congrArg (va_cpy M Sp 0 0 581) (by omega)) dX7_mostNeeded_36 ?_
    refine kr_top (w := nI (wyN M)) (cpy_577.trans (i_wy hI)) ?_
    refine kr_cge (tgt := 106) hx hcd (by omega) (by omega) dX7_mostNeeded_37 (by decide) (fun (c_37 : wyN M ≤ i) => absurd c_37 (by omega)) (fun (c_37 : i < wyN M) => ?_)
    refine lv_iload_n hx hcd dX7_mostNeeded_40 rfl (lv_at hl 3 rfl) ?_
    refine kr_zne (tgt := 106) hx hcd (by omega) dX7_mostNeeded_41 (by decide) (fun (c_41 : 0 < 0) => absurd c_41 (by omega)) (fun (c_41 : 0 = 0) => ?_)
    refine lv_aload_n hx hcd dX7_mostNeeded_44 rfl (lv_at hl 0 rfl) ?_
    refine lv_iload hx hcd dX7_mostNeeded_45 (lv_at hl 4 rfl) ?_
    refine kr_Vv (As := [.int (nI i)]) (rest := []) (ws2 := wMA cI z (xu x 7 0) hh (g_drop M i) (va_cpy M Sp 0 0 581) Ot Sv Tx) (q := (RX7, TX7, 10)) ⟨hx, hcd, hml, hown, hts⟩ (c_X7_drops l D cI cB cW cL z (xu x 7 0) hh _ M i hI (by omega)) (cwV 1 hts gX7_mostNeeded_X7_drops rfl rfl rfl (by decide +kernel) ⟨Nat.le_of_ble_eq_true rfl, Nat.le_of_ble_eq_true rfl⟩) hK hP hD hS hA [0, 1] wMA_MoC (by decide) wMo_adr2 wMA_Mo 0 rfl rfl rfl hl.1 rfl (Nat.le_of_ble_eq_true rfl) dX7_mostNeeded_47 ⟨Nat.zero_le _, Nat.zero_le _⟩ (fun H locs hP hD hS => ?_)
    have hI_1 : kInv (g_drop M i) := i_drop hI (by omega)
    refine lv_aload_n hx hcd dX7_mostNeeded_50 rfl (lv_at hl 0 rfl) ?_
    refine kr_Vi (As := []) (rest := []) (ws2 := wMA cI z (xu x 7 0) hh (g_del 1000 (g_drop M i)) (va_cpy M Sp 0 0 581) Ot Sv Tx) (q := (RX7, TX7, 10)) ⟨hx, hcd, hml, hown, hts⟩ (c_X7_rest l D cI cB cW cL z (xu x 7 0) hh _ (g_drop M i) hI_1) (cwV 0 hts gX7_mostNeeded_X7_rest rfl rfl rfl (by decide +kernel) ⟨Nat.le_of_ble_eq_true rfl, Nat.le_of_ble_eq_true rfl⟩) hK hP hD hS hA [0, 1] wMA_MoC (by decide) wMo_adr2 wMA_Mo 0 rfl rfl rfl hl.1 rfl (Nat.le_of_ble_eq_true rfl) dX7_mostNeeded_51 ⟨Nat.zero_le _, Nat.zero_le _⟩ (fun H locs hP hD hS => ?_)
    have hI_2 : kInv (g_del 1000 (g_drop M i)) := i_del 1000 hI_1
    refine kr_top (w := nI (g_delC 1000 (g_drop M i))) (if_pos (rest_ok (i_drop hI (by omega)))) ?_
    refine lv_iconst (v := (-1)) hx hcd dX7_mostNeeded_54 (by decide) ?_
    refine lv_icmp_ne (tgt := 62) hx hcd dX7_mostNeeded_55 (by decide) (fun (c_55 : ¬ (nI (g_delC 1000 (g_drop M i))) = (-1)) => ?_) (fun (c_55 : (nI (g_delC 1000 (g_drop M i))) = (-1)) => absurd c_55 (nI_m1 (by have := delC_le 1000 (g_drop M i); omega)))
    refine lv_iconst (v := nI 0) hx hcd dX7_mostNeeded_62 (by decide) ?_
    refine lv_istore_n (lv' := [(3, .int (nI 0)), (0, .ref (z 0)), (1, .int ((g_nd M i).1)), (2, .int (nI (g_ls M i))), (4, .int (nI i))]) hx hcd dX7_mostNeeded_63 rfl hl (by decide) rfl (fun ls hl => ?_)
    refine lv_aload_n hx hcd dX7_mostNeeded_64 rfl (lv_at hl 1 rfl) ?_
    refine kr_Vi (As := []) (rest := []) (ws2 := wMA cI z (xu x 7 0) hh (g_del 1000 (g_drop M i)) (va_cpy M Sp 0 0 581) Ot Sv Tx) (q := (RX7, TX7, 10)) ⟨hx, hcd, hml, hown, hts⟩ (c_X7_pairsAgreeing l D cI cB cW cL z (xu x 7 0) hh _ (g_del 1000 (g_drop M i)) ) (cwV 0 hts gX7_mostNeeded_X7_pairsAgreeing rfl rfl rfl (by decide +kernel) ⟨Nat.le_of_ble_eq_true rfl, Nat.le_of_ble_eq_true rfl⟩) hK hP hD hS hA [0, 1] wMA_MoC (by decide) wMo_adr2 wMA_Mo 0 rfl rfl rfl hl.1 rfl (Nat.le_of_ble_eq_true rfl) dX7_mostNeeded_65 ⟨Nat.zero_le _, Nat.zero_le _⟩ (fun H locs hP hD hS => ?_)
    refine lv_istore (lv' := [(5, .int (nI (g_pairs (g_del 1000 (g_drop M i))))), (3, .int (nI 0)), (0, .ref (z 0)), (1, .int ((g_nd M i).1)), (2, .int (nI (g_ls M i))), (4, .int (nI i))]) hx hcd dX7_mostNeeded_68 hl (by decide) rfl (fun ls hl => ?_)
    refine lv_iload_n hx hcd dX7_mostNeeded_70 rfl (lv_at hl 3 rfl) ?_
    refine lv_iconst (v := (-1)) hx hcd dX7_mostNeeded_71 (by decide) ?_
    refine lv_icmp_eq (tgt := 81) hx hcd dX7_mostNeeded_72 (by decide) (fun (c_72 : ((g_nd M i).1) = (-1)) => ?_) (fun (c_72 : ¬ ((g_nd M i).1) = (-1)) => ?_)
    · refine lv_iload hx hcd dX7_mostNeeded_81 (lv_at hl 5 rfl) ?_
      refine lv_istore_n (lv' := [(1, .int (nI i)), (5, .int (nI (g_pairs (g_del 1000 (g_drop M i))))), (3, .int (nI 0)), (0, .ref (z 0)), (2, .int (nI (g_ls M i))), (4, .int (nI i))]) hx hcd dX7_mostNeeded_83 rfl hl (by decide) rfl (fun ls hl => ?_)
      refine lv_iload hx hcd dX7_mostNeeded_84 (lv_at hl 1 rfl) ?_
      refine lv_istore_n (lv' := [(2, .int (nI (g_pairs (g_del 1000 (g_drop M i))))), (1, .int (nI i)), (5, .int (nI (g_pairs (g_del 1000 (g_drop M i))))), (3, .int (nI 0)), (0, .ref (z 0)), (4, .int (nI i))]) hx hcd dX7_mostNeeded_86 rfl hl (by decide) rfl (fun ls hl => ?_)
      refine lv_aload_n hx hcd dX7_mostNeeded_87 rfl (lv_at hl 4 rfl) ?_
      refine kr_get hx hcd hts uX7 hown hK hP 0 rfl rfl 1 (by decide) (by decide +kernel) (v := .ref (z 2)) rfl dX7_mostNeeded_88 ?_
      refine lv_iconst (v := nI 0) hx hcd dX7_mostNeeded_91 (by decide) ?_
      refine lv_aload_n hx hcd dX7_mostNeeded_92 rfl (lv_at hl 4 rfl) ?_
      refine kr_get hx hcd hts uX7 hown hK hP 0 rfl rfl 0 (by decide) (by decide +kernel) (v := .ref (z 1)) rfl dX7_mostNeeded_93 ?_
      refine lv_iconst (v := nI 0) hx hcd dX7_mostNeeded_96 (by decide) ?_
      refine kr_Sv (As := [.ref (z 2), .int (nI 0), .ref (z 1), .int (nI 0)]) (rest := []) (ws2 := wMA cI z (xu x 7 0) hh (va_cpy (va_cpy M Sp 0 0 581) (g_del 1000 (g_drop M i)) 0 0 581) (va_cpy M Sp 0 0 581) Ot Sv Tx) ⟨hx, hcd, hml, hown, hts⟩ (c_X7_bring l D cI cB cW cL (z 2) (z 1) 581 581 (va_cpy M Sp 0 0 581) (g_del 1000 (g_drop M i)) _ (g_del 1000 (g_drop M i)) 0 0 (by omega) (by omega) (by omega) (by omega)) (va_cwS 4 hts gX7_mostNeeded_X7_bring rfl rfl rfl (by decide +kernel) ⟨Nat.le_of_ble_eq_true rfl, Nat.le_of_ble_eq_true rfl⟩) hK hP hD hS hA [2, 1] rfl (by decide) wBr_adr rfl rfl hl.1 rfl (Nat.le_of_ble_eq_true rfl) dX7_mostNeeded_97 ⟨Nat.zero_le _, Nat.zero_le _⟩ (fun H locs hP hD hS => ?_)
      refine kr_iinc (lv' := [(4, .int (nI (i + 1))), (2, .int (nI (g_pairs (g_del 1000 (g_drop M i))))), (1, .int (nI i)), (5, .int (nI (g_pairs (g_del 1000 (g_drop M i))))), (3, .int (nI 0)), (0, .ref (z 0))]) hx hcd dX7_mostNeeded_100 hl (k := 5) rfl (by decide) rfl (fun ls hl => ?_)
      refine lv_goto (tgt := 27) hx hcd dX7_mostNeeded_103 (by decide) ?_
      obtain ⟨hP, hD⟩ := kr_re (ws2 := wMA cI z (xu x 7 0) hh M (va_cpy M Sp 0 0 581) Ot Sv Tx) hP hD (congrArg (fun M9 => wMA cI z (xu x 7 0) hh M9 (va_cpy M Sp 0 0 581) Ot Sv Tx) (by exact back_m fun j hj => (h_del 1000 (i_drop hI (by omega)) hj).trans (h_drop hj)))
      have hl : lv_has ls 6 [(0, .ref (z 0)), (1, .int (nI i)), (2, .int (nI (g_pairs (g_del 1000 (g_drop M i))))), (3, .int (nI 0)), (4, .int (nI (i + 1)))] := lv_sub hl [5, 2, 1, 4, 0] rfl
      have e9 : ([(0, .ref (z 0)), (1, .int (nI i)), (2, .int (nI (g_pairs (g_del 1000 (g_drop M i))))), (3, .int (nI 0)), (4, .int (nI (i + 1)))] : List (Nat × Value)) = [(0, .ref (z 0)), (1, .int ((g_nd M (i + 1)).1)), (2, .int (nI (g_ls M (i + 1)))), (3, .int (nI 0)), (4, .int (nI (i + 1)))] := by first | (rw [(ndA (p := g_pairs (g_del 1000 (g_drop M i))) (by omega) rfl c_72).1, (ndA (p := g_pairs (g_del 1000 (g_drop M i))) (by omega) rfl c_72).2]) | (rw [(ndB (p := g_pairs (g_del 1000 (g_drop M i))) (by omega) rfl c_72 c_78).1, (ndB (p := g_pairs (g_del 1000 (g_drop M i))) (by omega) rfl c_72 c_78).2]) | (rw [(ndC (p := g_pairs (g_del 1000 (g_drop M i))) (by omega) rfl c_72 c_78).1, (ndC (p := g_pairs (g_del 1000 (g_drop M i))) (by omega) rfl c_72 c_78).2])
      exact ih_27 H locs ls hP hD hS (e9 ▸ hl)
    · refine lv_iload hx hcd dX7_mostNeeded_75 (lv_at hl 0 rfl) ?_
      refine lv_iload_n hx hcd dX7_mostNeeded_77 rfl (lv_at hl 4 rfl) ?_
      refine kr_cge (tgt := 87) hx hcd (by omega) (by omega) dX7_mostNeeded_78 (by decide) (fun (c_78 : g_ls M i ≤ g_pairs (g_del 1000 (g_drop M i))) => ?_) (fun (c_78 : g_pairs (g_del 1000 (g_drop M i)) < g_ls M i) => ?_)
      · refine lv_aload_n hx hcd dX7_mostNeeded_87 rfl (lv_at hl 2 rfl) ?_
        refine kr_get hx hcd hts uX7 hown hK hP 0 rfl rfl 1 (by decide) (by decide +kernel) (v := .ref (z 2)) rfl dX7_mostNeeded_88 ?_
        refine lv_iconst (v := nI 0) hx hcd dX7_mostNeeded_91 (by decide) ?_
        refine lv_aload_n hx hcd dX7_mostNeeded_92 rfl (lv_at hl 2 rfl) ?_
        refine kr_get hx hcd hts uX7 hown hK hP 0 rfl rfl 0 (by decide) (by decide +kernel) (v := .ref (z 1)) rfl dX7_mostNeeded_93 ?_
        refine lv_iconst (v := nI 0) hx hcd dX7_mostNeeded_96 (by decide) ?_
        refine kr_Sv (As := [.ref (z 2), .int (nI 0), .ref (z 1), .int (nI 0)]) (rest := []) (ws2 := wMA cI z (xu x 7 0) hh (va_cpy (va_cpy M Sp 0 0 581) (g_del 1000 (g_drop M i)) 0 0 581) (va_cpy M Sp 0 0 581) Ot Sv Tx) ⟨hx, hcd, hml, hown, hts⟩ (c_X7_bring l D cI cB cW cL (z 2) (z 1) 581 581 (va_cpy M Sp 0 0 581) (g_del 1000 (g_drop M i)) _ (g_del 1000 (g_drop M i)) 0 0 (by omega) (by omega) (by omega) (by omega)) (va_cwS 4 hts gX7_mostNeeded_X7_bring rfl rfl rfl (by decide +kernel) ⟨Nat.le_of_ble_eq_true rfl, Nat.le_of_ble_eq_true rfl⟩) hK hP hD hS hA [2, 1] rfl (by decide) wBr_adr rfl rfl hl.1 rfl (Nat.le_of_ble_eq_true rfl) dX7_mostNeeded_97 ⟨Nat.zero_le _, Nat.zero_le _⟩ (fun H locs hP hD hS => ?_)
        refine kr_iinc (lv' := [(4, .int (nI (i + 1))), (5, .int (nI (g_pairs (g_del 1000 (g_drop M i))))), (3, .int (nI 0)), (0, .ref (z 0)), (1, .int ((g_nd M i).1)), (2, .int (nI (g_ls M i)))]) hx hcd dX7_mostNeeded_100 hl (k := 5) rfl (by decide) rfl (fun ls hl => ?_)
        refine lv_goto (tgt := 27) hx hcd dX7_mostNeeded_103 (by decide) ?_
        obtain ⟨hP, hD⟩ := kr_re (ws2 := wMA cI z (xu x 7 0) hh M (va_cpy M Sp 0 0 581) Ot Sv Tx) hP hD (congrArg (fun M9 => wMA cI z (xu x 7 0) hh M9 (va_cpy M Sp 0 0 581) Ot Sv Tx) (by exact back_m fun j hj => (h_del 1000 (i_drop hI (by omega)) hj).trans (h_drop hj)))
        have hl : lv_has ls 6 [(0, .ref (z 0)), (1, .int ((g_nd M i).1)), (2, .int (nI (g_ls M i))), (3, .int (nI 0)), (4, .int (nI (i + 1)))] := lv_sub hl [3, 4, 5, 2, 0] rfl
        have e9 : ([(0, .ref (z 0)), (1, .int ((g_nd M i).1)), (2, .int (nI (g_ls M i))), (3, .int (nI 0)), (4, .int (nI (i + 1)))] : List (Nat × Value)) = [(0, .ref (z 0)), (1, .int ((g_nd M (i + 1)).1)), (2, .int (nI (g_ls M (i + 1)))), (3, .int (nI 0)), (4, .int (nI (i + 1)))] := by first | (rw [(ndA (p := g_pairs (g_del 1000 (g_drop M i))) (by omega) rfl c_72).1, (ndA (p := g_pairs (g_del 1000 (g_drop M i))) (by omega) rfl c_72).2]) | (rw [(ndB (p := g_pairs (g_del 1000 (g_drop M i))) (by omega) rfl c_72 c_78).1, (ndB (p := g_pairs (g_del 1000 (g_drop M i))) (by omega) rfl c_72 c_78).2]) | (rw [(ndC (p := g_pairs (g_del 1000 (g_drop M i))) (by omega) rfl c_72 c_78).1, (ndC (p := g_pairs (g_del 1000 (g_drop M i))) (by omega) rfl c_72 c_78).2])
        exact ih_27 H locs ls hP hD hS (e9 ▸ hl)
      · refine lv_iload hx hcd dX7_mostNeeded_81 (lv_at hl 5 rfl) ?_
        refine lv_istore_n (lv' := [(1, .int (nI i)), (5, .int (nI (g_pairs (g_del 1000 (g_drop M i))))), (3, .int (nI 0)), (0, .ref (z 0)), (2, .int (nI (g_ls M i))), (4, .int (nI i))]) hx hcd dX7_mostNeeded_83 rfl hl (by decide) rfl (fun ls hl => ?_)
        refine lv_iload hx hcd dX7_mostNeeded_84 (lv_at hl 1 rfl) ?_
        refine lv_istore_n (lv' := [(2, .int (nI (g_pairs (g_del 1000 (g_drop M i))))), (1, .int (nI i)), (5, .int (nI (g_pairs (g_del 1000 (g_drop M i))))), (3, .int (nI 0)), (0, .ref (z 0)), (4, .int (nI i))]) hx hcd dX7_mostNeeded_86 rfl hl (by decide) rfl (fun ls hl => ?_)
        refine lv_aload_n hx hcd dX7_mostNeeded_87 rfl (lv_at hl 4 rfl) ?_
        refine kr_get hx hcd hts uX7 hown hK hP 0 rfl rfl 1 (by decide) (by decide +kernel) (v := .ref (z 2)) rfl dX7_mostNeeded_88 ?_
        refine lv_iconst (v := nI 0) hx hcd dX7_mostNeeded_91 (by decide) ?_
        refine lv_aload_n hx hcd dX7_mostNeeded_92 rfl (lv_at hl 4 rfl) ?_
        refine kr_get hx hcd hts uX7 hown hK hP 0 rfl rfl 0 (by decide) (by decide +kernel) (v := .ref (z 1)) rfl dX7_mostNeeded_93 ?_
        refine lv_iconst (v := nI 0) hx hcd dX7_mostNeeded_96 (by decide) ?_
        refine kr_Sv (As := [.ref (z 2), .int (nI 0), .ref (z 1), .int (nI 0)]) (rest := []) (ws2 := wMA cI z (xu x 7 0) hh (va_cpy (va_cpy M Sp 0 0 581) (g_del 1000 (g_drop M i)) 0 0 581) (va_cpy M Sp 0 0 581) Ot Sv Tx) ⟨hx, hcd, hml, hown, hts⟩ (c_X7_bring l D cI cB cW cL (z 2) (z 1) 581 581 (va_cpy M Sp 0 0 581) (g_del 1000 (g_drop M i)) _ (g_del 1000 (g_drop M i)) 0 0 (by omega) (by omega) (by omega) (by omega)) (va_cwS 4 hts gX7_mostNeeded_X7_bring rfl rfl rfl (by decide +kernel) ⟨Nat.le_of_ble_eq_true rfl, Nat.le_of_ble_eq_true rfl⟩) hK hP hD hS hA [2, 1] rfl (by decide) wBr_adr rfl rfl hl.1 rfl (Nat.le_of_ble_eq_true rfl) dX7_mostNeeded_97 ⟨Nat.zero_le _, Nat.zero_le _⟩ (fun H locs hP hD hS => ?_)
        refine kr_iinc (lv' := [(4, .int (nI (i + 1))), (2, .int (nI (g_pairs (g_del 1000 (g_drop M i))))), (1, .int (nI i)), (5, .int (nI (g_pairs (g_del 1000 (g_drop M i))))), (3, .int (nI 0)), (0, .ref (z 0))]) hx hcd dX7_mostNeeded_100 hl (k := 5) rfl (by decide) rfl (fun ls hl => ?_)
        refine lv_goto (tgt := 27) hx hcd dX7_mostNeeded_103 (by decide) ?_
        obtain ⟨hP, hD⟩ := kr_re (ws2 := wMA cI z (xu x 7 0) hh M (va_cpy M Sp 0 0 581) Ot Sv Tx) hP hD (congrArg (fun M9 => wMA cI z (xu x 7 0) hh M9 (va_cpy M Sp 0 0 581) Ot Sv Tx) (by exact back_m fun j hj => (h_del 1000 (i_drop hI (by omega)) hj).trans (h_drop hj)))
        have hl : lv_has ls 6 [(0, .ref (z 0)), (1, .int (nI i)), (2, .int (nI (g_pairs (g_del 1000 (g_drop M i))))), (3, .int (nI 0)), (4, .int (nI (i + 1)))] := lv_sub hl [5, 2, 1, 4, 0] rfl
        have e9 : ([(0, .ref (z 0)), (1, .int (nI i)), (2, .int (nI (g_pairs (g_del 1000 (g_drop M i))))), (3, .int (nI 0)), (4, .int (nI (i + 1)))] : List (Nat × Value)) = [(0, .ref (z 0)), (1, .int ((g_nd M (i + 1)).1)), (2, .int (nI (g_ls M (i + 1)))), (3, .int (nI 0)), (4, .int (nI (i + 1)))] := by first | (rw [(ndA (p := g_pairs (g_del 1000 (g_drop M i))) (by omega) rfl c_72).1, (ndA (p := g_pairs (g_del 1000 (g_drop M i))) (by omega) rfl c_72).2]) | (rw [(ndB (p := g_pairs (g_del 1000 (g_drop M i))) (by omega) rfl c_72 c_78).1, (ndB (p := g_pairs (g_del 1000 (g_drop M i))) (by omega) rfl c_72 c_78).2]) | (rw [(ndC (p := g_pairs (g_del 1000 (g_drop M i))) (by omega) rfl c_72 c_78).1, (ndC (p := g_pairs (g_del 1000 (g_drop M i))) (by omega) rfl c_72 c_78).2])
        exact ih_27 H locs ls hP hD hS (e9 ▸ hl)
  · have hl : lv_has ls 6 [(0, .ref (z 0)), (1, .int ((g_nd M (wyN M)).1)), (2, .int (nI (g_ls M (wyN M)))), (3, .int (nI 0)), (4, .int (nI (wyN M)))] := hl
    refine lv_iload hx hcd dX7_mostNeeded_27 (lv_at hl 4 rfl) ?_
    refine lv_aload_n hx hcd dX7_mostNeeded_29 rfl (lv_at hl 0 rfl) ?_
    refine kr_get hx hcd hts uX7 hown hK hP 0 rfl rfl 1 (by decide) (by decide +kernel) (v := .ref (z 2)) rfl dX7_mostNeeded_30 ?_
    refine lv_sipush (v := nI 577) hx hcd dX7_mostNeeded_33 (by decide) ?_
    refine kr_iald hx hcd hK hP 2 0 rfl rfl (v := (va_cpy M Sp 0 0 581) 577) (by omega) (by decide) (congrArg (va_cpy M Sp 0 0 581) (by omega)) dX7_mostNeeded_36 ?_
    refine kr_top (w := nI (wyN M)) (cpy_577.trans (i_wy hI)) ?_
    refine kr_cge (tgt := 106) hx hcd (by omega) (by omega) dX7_mostNeeded_37 (by decide) (fun (c_37 : wyN M ≤ (wyN M)) => ?_) (fun (c_37 : (wyN M) < wyN M) => absurd c_37 (by omega))
    refine lv_iload_n hx hcd dX7_mostNeeded_106 rfl (lv_at hl 3 rfl) ?_
    refine kr_zeq (tgt := 114) hx hcd (by omega) dX7_mostNeeded_107 (by decide) (fun (c_107 : 0 = 0) => ?_) (fun (c_107 : 0 < 0) => absurd c_107 (by omega))
    refine lv_iload_n hx hcd dX7_mostNeeded_114 rfl (lv_at hl 1 rfl) ?_
    exact kr_iret hx hcd hr hlocks hK hP hD hS rfl rfl dX7_mostNeeded_115
