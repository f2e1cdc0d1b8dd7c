set_option maxHeartbeats 4000000 in
set_option maxRecDepth 100000 in
theorem c_X3_best (l : Launch) (D : va_G) (cI cB cW cL : ClassId) (q : Nat → Nat) (sz : Nat) (M : kM) (a : Nat) (ha : a < 6) : kMi l yX3_best wsX3_best ({ frames := 1, cells := 0, slots := 0, locals := 22 }) D vwCl (kT cI cB cW cL) sz [.ref (q 1), .int (nI a)] (wSe cI q M) (wSe cI q M) ((g_bst M a 3).1) := by
  refine kr_ofi (cc := cX3_best) (maxL := 6) (ret := (some .int)) (by decide) rfl (Nat.le_of_ble_eq_true rfl) ?_
  intro pp ee ss mm args below meth cc AA ls hx hcd hr hts hown hlocks hml hK hP hD hA hl
  have hS : va_S AA ss.heap ss.heap [] := va_S.rf
  have hown : ss.vm.findClass RX3 = some mm.cls := hown
  have hl : lv_has ls 6 [(0, .ref (q 1)), (1, .int (nI a))] := hl
  have uX3 : ∀ w ∈ u_ws RX3 TX3 3, w ∈ wsX3_best := by decide +kernel
  refine lv_iconst (v := (-1)) hx hcd dX3_best_0 (by decide) ?_
  refine lv_istore_n (lv' := [(2, .int (-1)), (0, .ref (q 1)), (1, .int (nI a))]) hx hcd dX3_best_1 rfl hl (by decide) rfl (fun ls hl => ?_)
  refine lv_iconst (v := (-1)) hx hcd dX3_best_2 (by decide) ?_
  refine lv_istore_n (lv' := [(3, .int (-1)), (2, .int (-1)), (0, .ref (q 1)), (1, .int (nI a))]) hx hcd dX3_best_3 rfl hl (by decide) rfl (fun ls hl => ?_)
  refine lv_iconst (v := nI 0) hx hcd dX3_best_4 (by decide) ?_
  refine lv_istore (lv' := [(4, .int (nI 0)), (3, .int (-1)), (2, .int (-1)), (0, .ref (q 1)), (1, .int (nI a))]) hx hcd dX3_best_5 hl (by decide) rfl (fun ls hl => ?_)
  refine kr_up (fun i => wSe cI q M) (fun i => [(0, .ref (q 1)), (1, .int (nI a)), (2, .int ((g_bst M a i).1)), (3, .int ((g_bst M a i).2)), (4, .int (nI i))]) 3 (nL := 6) (fun i hi ih_7 H locs ls hP hD hS hl => ?_) (fun H locs ls hP hD hS hl => ?_) 0 (by omega) hP hD hS (lv_sub hl [3, 4, 2, 1, 0] rfl)
  · have hl : lv_has ls 6 [(0, .ref (q 1)), (1, .int (nI a)), (2, .int ((g_bst M a i).1)), (3, .int ((g_bst M a i).2)), (4, .int (nI i))] := hl
    refine lv_iload hx hcd dX3_best_7 (lv_at hl 4 rfl) ?_
    refine lv_iconst (v := nI 3) hx hcd dX3_best_9 (by decide) ?_
    refine kr_cge (tgt := 54) hx hcd (by omega) (by omega) dX3_best_10 (by decide) (fun (c_10 : 3 ≤ i) => absurd c_10 (by omega)) (fun (c_10 : i < 3) => ?_)
    refine lv_aload_n hx hcd dX3_best_13 rfl (lv_at hl 0 rfl) ?_
    refine kr_get hx hcd hts uX3 hown hK hP 0 rfl rfl 1 (by decide) (by decide +kernel) (v := .ref (q 3)) rfl dX3_best_14 ?_
    refine lv_iload_n hx hcd dX3_best_17 rfl (lv_at hl 1 rfl) ?_
    refine lv_iconst (v := nI 3) hx hcd dX3_best_18 (by decide) ?_
    refine kr_mul hx hcd dX3_best_19 ?_
    refine lv_iload hx hcd dX3_best_20 (lv_at hl 4 rfl) ?_
    refine kr_add hx hcd dX3_best_22 ?_
    refine kr_iald hx hcd hK hP 2 0 rfl rfl (v := M (1 + 9 * a + 3 * i)) (by omega) (by decide) (vs_at (by omega) (by omega)) dX3_best_23 ?_
    refine lv_istore (lv' := [(5, .int (M (1 + 9 * a + 3 * i))), (0, .ref (q 1)), (1, .int (nI a)), (2, .int ((g_bst M a i).1)), (3, .int ((g_bst M a i).2)), (4, .int (nI i))]) hx hcd dX3_best_24 hl (by decide) rfl (fun ls hl => ?_)
    refine lv_aload_n hx hcd dX3_best_26 rfl (lv_at hl 1 rfl) ?_
    refine lv_iload_n hx hcd dX3_best_27 rfl (lv_at hl 2 rfl) ?_
    refine lv_iload hx hcd dX3_best_28 (lv_at hl 5 rfl) ?_
    refine kr_Vi (As := [.int (nI a), .int (nI i)]) (rest := []) (ws2 := wSe cI q M) (q := (RX3, TX3, 3)) ⟨hx, hcd, hml, hown, hts⟩ (c_X3_isOn l D cI cB cW cL q _ M a i (by omega) (by omega)) (cwV 2 hts gX3_best_X3_isOn rfl rfl rfl (by decide +kernel) ⟨Nat.le_of_ble_eq_true rfl, Nat.le_of_ble_eq_true rfl⟩) hK hP hD hS hA [0, 1, 2, 3] wSe_allC (by decide) wSe_adr wSe_all 0 rfl rfl rfl hl.1 rfl (Nat.le_of_ble_eq_true rfl) dX3_best_30 ⟨Nat.zero_le _, Nat.zero_le _⟩ (fun H locs hP hD hS => ?_)
    refine kr_beq (tgt := 48) hx hcd dX3_best_33 (by decide) (fun (c_33 : g_on M a i = false) => ?_) (fun (c_33 : g_on M a i = true) => ?_)
    · refine kr_iinc (lv' := [(4, .int (nI (i + 1))), (5, .int (M (1 + 9 * a + 3 * i))), (0, .ref (q 1)), (1, .int (nI a)), (2, .int ((g_bst M a i).1)), (3, .int ((g_bst M a i).2))]) hx hcd dX3_best_48 hl (k := 5) rfl (by decide) rfl (fun ls hl => ?_)
      refine lv_goto (tgt := 7) hx hcd dX3_best_51 (by decide) ?_
      have hl : lv_has ls 6 [(0, .ref (q 1)), (1, .int (nI a)), (2, .int ((g_bst M a i).1)), (3, .int ((g_bst M a i).2)), (4, .int (nI (i + 1)))] := lv_sub hl [2, 3, 4, 5, 0] rfl
      have e9 : ([(0, .ref (q 1)), (1, .int (nI a)), (2, .int ((g_bst M a i).1)), (3, .int ((g_bst M a i).2)), (4, .int (nI (i + 1)))] : List (Nat × Value)) = [(0, .ref (q 1)), (1, .int (nI a)), (2, .int ((g_bst M a (i + 1)).1)), (3, .int ((g_bst M a (i + 1)).2)), (4, .int (nI (i + 1)))] := by simp [g_bst, c_10, c_33]
      exact ih_7 H locs ls hP hD hS (e9 ▸ hl)
    · refine lv_iload hx hcd dX3_best_36 (lv_at hl 0 rfl) ?_
      refine lv_iload_n hx hcd dX3_best_38 rfl (lv_at hl 4 rfl) ?_
      refine lv_icmp_le (tgt := 48) hx hcd dX3_best_39 (by decide) (fun (c_39 : (M (1 + 9 * a + 3 * i)) ≤ ((g_bst M a i).2)) => ?_) (fun (c_39 : ¬ (M (1 + 9 * a + 3 * i)) ≤ ((g_bst M a i).2)) => ?_)
      · refine kr_iinc (lv' := [(4, .int (nI (i + 1))), (5, .int (M (1 + 9 * a + 3 * i))), (0, .ref (q 1)), (1, .int (nI a)), (2, .int ((g_bst M a i).1)), (3, .int ((g_bst M a i).2))]) hx hcd dX3_best_48 hl (k := 5) rfl (by decide) rfl (fun ls hl => ?_)
        refine lv_goto (tgt := 7) hx hcd dX3_best_51 (by decide) ?_
        have hl : lv_has ls 6 [(0, .ref (q 1)), (1, .int (nI a)), (2, .int ((g_bst M a i).1)), (3, .int ((g_bst M a i).2)), (4, .int (nI (i + 1)))] := lv_sub hl [2, 3, 4, 5, 0] rfl
        have e9 : ([(0, .ref (q 1)), (1, .int (nI a)), (2, .int ((g_bst M a i).1)), (3, .int ((g_bst M a i).2)), (4, .int (nI (i + 1)))] : List (Nat × Value)) = [(0, .ref (q 1)), (1, .int (nI a)), (2, .int ((g_bst M a (i + 1)).1)), (3, .int ((g_bst M a (i + 1)).2)), (4, .int (nI (i + 1)))] := by simp [g_bst, c_10, c_33, c_39]
        exact ih_7 H locs ls hP hD hS (e9 ▸ hl)
      · refine lv_iload hx hcd dX3_best_42 (lv_at hl 5 rfl) ?_
        refine lv_istore_n (lv' := [(2, .int (nI i)), (5, .int (M (1 + 9 * a + 3 * i))), (0, .ref (q 1)), (1, .int (nI a)), (3, .int ((g_bst M a i).2)), (4, .int (nI i))]) hx hcd dX3_best_44 rfl hl (by decide) rfl (fun ls hl => ?_)
        refine lv_iload hx hcd dX3_best_45 (lv_at hl 1 rfl) ?_
        refine lv_istore_n (lv' := [(3, .int (M (1 + 9 * a + 3 * i))), (2, .int (nI i)), (5, .int (M (1 + 9 * a + 3 * i))), (0, .ref (q 1)), (1, .int (nI a)), (4, .int (nI i))]) hx hcd dX3_best_47 rfl hl (by decide) rfl (fun ls hl => ?_)
        refine kr_iinc (lv' := [(4, .int (nI (i + 1))), (3, .int (M (1 + 9 * a + 3 * i))), (2, .int (nI i)), (5, .int (M (1 + 9 * a + 3 * i))), (0, .ref (q 1)), (1, .int (nI a))]) hx hcd dX3_best_48 hl (k := 5) rfl (by decide) rfl (fun ls hl => ?_)
        refine lv_goto (tgt := 7) hx hcd dX3_best_51 (by decide) ?_
        have hl : lv_has ls 6 [(0, .ref (q 1)), (1, .int (nI a)), (2, .int (nI i)), (3, .int (M (1 + 9 * a + 3 * i))), (4, .int (nI (i + 1)))] := lv_sub hl [4, 5, 2, 1, 0] rfl
        have e9 : ([(0, .ref (q 1)), (1, .int (nI a)), (2, .int (nI i)), (3, .int (M (1 + 9 * a + 3 * i))), (4, .int (nI (i + 1)))] : List (Nat × Value)) = [(0, .ref (q 1)), (1, .int (nI a)), (2, .int ((g_bst M a (i + 1)).1)), (3, .int ((g_bst M a (i + 1)).2)), (4, .int (nI (i + 1)))] := by simp [g_bst, c_10, c_33, c_39]
        exact ih_7 H locs ls hP hD hS (e9 ▸ hl)
  · have hl : lv_has ls 6 [(0, .ref (q 1)), (1, .int (nI a)), (2, .int ((g_bst M a 3).1)), (3, .int ((g_bst M a 3).2)), (4, .int (nI 3))] := hl
    refine lv_iload hx hcd dX3_best_7 (lv_at hl 4 rfl) ?_
    refine lv_iconst (v := nI 3) hx hcd dX3_best_9 (by decide) ?_
    refine kr_cge (tgt := 54) hx hcd (by omega) (by omega) dX3_best_10 (by decide) (fun (c_10 : 3 ≤ 3) => ?_) (fun (c_10 : 3 < 3) => absurd c_10 (by omega))
    refine lv_iload_n hx hcd dX3_best_54 rfl (lv_at hl 2 rfl) ?_
    exact kr_iret hx hcd hr hlocks hK hP hD hS rfl rfl dX3_best_55

set_option maxHeartbeats 4000000 in
set_option maxRecDepth 100000 in
theorem c_X3_value (l : Launch) (D : va_G) (cI cB cW cL : ClassId) (q : Nat → Nat) (sz : Nat) (M : kM) (a : Nat) (s : Nat) (wh : Nat) (ha : a < 6) (hs : s < 3) (hwh : wh < 3) : kMi l yX3_value wsX3_value ({ frames := 0, cells := 0, slots := 0, locals := 0 }) D vwCl (kT cI cB cW cL) sz [.ref (q 1), .int (nI a), .int (nI s), .int (nI wh)] (wSe cI q M) (wSe cI q M) (M (9 * a + 3 * s + wh)) := by
  refine kr_ofi (cc := cX3_value) (maxL := 5) (ret := (some .int)) (by decide) rfl (Nat.le_of_ble_eq_true rfl) ?_
  intro pp ee ss mm args below meth cc AA ls hx hcd hr hts hown hlocks hml hK hP hD hA hl
  have hS : va_S AA ss.heap ss.heap [] := va_S.rf
  have hown : ss.vm.findClass RX3 = some mm.cls := hown
  have hl : lv_has ls 5 [(0, .ref (q 1)), (1, .int (nI a)), (2, .int (nI s)), (3, .int (nI wh))] := hl
  have uX3 : ∀ w ∈ u_ws RX3 TX3 3, w ∈ wsX3_value := by decide +kernel
  refine lv_iload_n hx hcd dX3_value_0 rfl (lv_at hl 1 rfl) ?_
  refine lv_iconst (v := nI 3) hx hcd dX3_value_1 (by decide) ?_
  refine kr_mul hx hcd dX3_value_2 ?_
  refine lv_iload_n hx hcd dX3_value_3 rfl (lv_at hl 2 rfl) ?_
  refine kr_add hx hcd dX3_value_4 ?_
  refine lv_istore (lv' := [(4, .int (nI ((a * 3) + s))), (0, .ref (q 1)), (1, .int (nI a)), (2, .int (nI s)), (3, .int (nI wh))]) hx hcd dX3_value_5 hl (by decide) rfl (fun ls hl => ?_)
  refine lv_iload_n hx hcd dX3_value_7 rfl (lv_at hl 4 rfl) ?_
  rcases (show wh = 0 ∨ wh = 1 ∨ wh = 2 by omega) with rfl | rfl | rfl
  · refine lv_lookup (x := nI 0) (off := 28) (tgt := 36) hx hcd dX3_value_8 (by decide) (by decide) (by decide) ?_
    refine lv_aload_n hx hcd dX3_value_36 rfl (lv_at hl 1 rfl) ?_
    refine kr_get hx hcd hts uX3 hown hK hP 0 rfl rfl 0 (by decide) (by decide +kernel) (v := .ref (q 2)) rfl dX3_value_37 ?_
    refine lv_iload hx hcd dX3_value_40 (lv_at hl 0 rfl) ?_
    refine kr_iald hx hcd hK hP 1 0 rfl rfl (v := M (9 * a + 3 * s)) (by omega) (by decide) (vs_at (by omega) (by omega)) dX3_value_42 ?_
    exact kr_iret hx hcd hr hlocks hK hP hD hS (by exact congrArg M (by omega)) rfl dX3_value_43
  · refine lv_lookup (x := nI 1) (off := 36) (tgt := 44) hx hcd dX3_value_8 (by decide) (by decide) (by decide) ?_
    refine lv_aload_n hx hcd dX3_value_44 rfl (lv_at hl 1 rfl) ?_
    refine kr_get hx hcd hts uX3 hown hK hP 0 rfl rfl 1 (by decide) (by decide +kernel) (v := .ref (q 3)) rfl dX3_value_45 ?_
    refine lv_iload hx hcd dX3_value_48 (lv_at hl 0 rfl) ?_
    refine kr_iald hx hcd hK hP 2 0 rfl rfl (v := M (1 + 9 * a + 3 * s)) (by omega) (by decide) (vs_at (by omega) (by omega)) dX3_value_50 ?_
    exact kr_iret hx hcd hr hlocks hK hP hD hS (by exact congrArg M (by omega)) rfl dX3_value_51
  · refine lv_lookup (x := nI 2) (off := 44) (tgt := 52) hx hcd dX3_value_8 (by decide) (by decide) (by decide) ?_
    refine lv_aload_n hx hcd dX3_value_52 rfl (lv_at hl 1 rfl) ?_
    refine kr_get hx hcd hts uX3 hown hK hP 0 rfl rfl 2 (by decide) (by decide +kernel) (v := .ref (q 4)) rfl dX3_value_53 ?_
    refine lv_iload hx hcd dX3_value_56 (lv_at hl 0 rfl) ?_
    refine kr_iald hx hcd hK hP 3 0 rfl rfl (v := M (2 + 9 * a + 3 * s)) (by omega) (by decide) (vs_at (by omega) (by omega)) dX3_value_58 ?_
    exact kr_iret hx hcd hr hlocks hK hP hD hS (by exact congrArg M (by omega)) rfl dX3_value_59

set_option maxHeartbeats 4000000 in
set_option maxRecDepth 100000 in
theorem c_X1_changedAfter (l : Launch) (D : va_G) (cI cB cW cL : ClassId) (q : Nat → Nat) (sz : Nat) (M : kM) (a : Nat) (v : Int32) (ha : a < 6) : kMi l yX1_changedAfter wsX1_changedAfter ({ frames := 0, cells := 0, slots := 0, locals := 0 }) D vwCl (kT cI cB cW cL) sz [.ref (q 5), .int (nI a), .int v] (wRo cI q M) (wRo cI q M) (nI (g_chgN M a v 6)) := by
  refine kr_ofi (cc := cX1_changedAfter) (maxL := 5) (ret := (some .int)) (by decide) rfl (Nat.le_of_ble_eq_true rfl) ?_
  intro pp ee ss mm args below meth cc AA ls hx hcd hr hts hown hlocks hml hK hP hD hA hl
  have hS : va_S AA ss.heap ss.heap [] := va_S.rf
  have hown : ss.vm.findClass RX1 = some mm.cls := hown
  have hl : lv_has ls 5 [(0, .ref (q 5)), (1, .int (nI a)), (2, .int v)] := hl
  have uX1 : ∀ w ∈ u_ws RX1 TX1 3, w ∈ wsX1_changedAfter := by decide +kernel
  refine lv_iconst (v := nI 0) hx hcd dX1_changedAfter_0 (by decide) ?_
  refine lv_istore_n (lv' := [(3, .int (nI 0)), (0, .ref (q 5)), (1, .int (nI a)), (2, .int v)]) hx hcd dX1_changedAfter_1 rfl hl (by decide) rfl (fun ls hl => ?_)
  refine lv_iconst (v := nI 0) hx hcd dX1_changedAfter_2 (by decide) ?_
  refine lv_istore (lv' := [(4, .int (nI 0)), (3, .int (nI 0)), (0, .ref (q 5)), (1, .int (nI a)), (2, .int v)]) hx hcd dX1_changedAfter_3 hl (by decide) rfl (fun ls hl => ?_)
  refine kr_up (fun i => wRo cI q M) (fun i => [(0, .ref (q 5)), (1, .int (nI a)), (2, .int v), (3, .int (nI (g_chgN M a v i))), (4, .int (nI i))]) 6 (nL := 5) (fun i hi ih_5 H locs ls hP hD hS hl => ?_) (fun H locs ls hP hD hS hl => ?_) 0 (by omega) hP hD hS (lv_sub hl [2, 3, 4, 1, 0] rfl)
  · have hl : lv_has ls 5 [(0, .ref (q 5)), (1, .int (nI a)), (2, .int v), (3, .int (nI (g_chgN M a v i))), (4, .int (nI i))] := hl
    refine lv_iload hx hcd dX1_changedAfter_5 (lv_at hl 4 rfl) ?_
    refine lv_bipush (v := nI 6) hx hcd dX1_changedAfter_7 (by decide) ?_
    refine kr_cge (tgt := 37) hx hcd (by omega) (by omega) dX1_changedAfter_9 (by decide) (fun (c_9 : 6 ≤ i) => absurd c_9 (by omega)) (fun (c_9 : i < 6) => ?_)
    refine lv_aload_n hx hcd dX1_changedAfter_12 rfl (lv_at hl 0 rfl) ?_
    refine kr_get hx hcd hts uX1 hown hK hP 0 rfl rfl 1 (by decide) (by decide +kernel) (v := .ref (q 7)) rfl dX1_changedAfter_13 ?_
    refine lv_iload_n hx hcd dX1_changedAfter_16 rfl (lv_at hl 1 rfl) ?_
    refine lv_bipush (v := nI 6) hx hcd dX1_changedAfter_17 (by decide) ?_
    refine kr_mul hx hcd dX1_changedAfter_19 ?_
    refine lv_iload hx hcd dX1_changedAfter_20 (lv_at hl 4 rfl) ?_
    refine kr_add hx hcd dX1_changedAfter_22 ?_
    refine kr_iald hx hcd hK hP 2 0 rfl rfl (v := M (90 + 6 * a + i)) (by omega) (by decide) (vw_at (by omega) (by omega)) dX1_changedAfter_23 ?_
    refine lv_iload_n hx hcd dX1_changedAfter_24 rfl (lv_at hl 2 rfl) ?_
    refine lv_icmp_le (tgt := 31) hx hcd dX1_changedAfter_25 (by decide) (fun (c_25 : (M (90 + 6 * a + i)) ≤ v) => ?_) (fun (c_25 : ¬ (M (90 + 6 * a + i)) ≤ v) => ?_)
    · refine kr_iinc (lv' := [(4, .int (nI (i + 1))), (0, .ref (q 5)), (1, .int (nI a)), (2, .int v), (3, .int (nI (g_chgN M a v i)))]) hx hcd dX1_changedAfter_31 hl (k := 4) rfl (by decide) rfl (fun ls hl => ?_)
      refine lv_goto (tgt := 5) hx hcd dX1_changedAfter_34 (by decide) ?_
      have hl : lv_has ls 5 [(0, .ref (q 5)), (1, .int (nI a)), (2, .int v), (3, .int (nI (g_chgN M a v i))), (4, .int (nI (i + 1)))] := lv_sub hl [1, 2, 3, 4, 0] rfl
      have e9 : ([(0, .ref (q 5)), (1, .int (nI a)), (2, .int v), (3, .int (nI (g_chgN M a v i))), (4, .int (nI (i + 1)))] : List (Nat × Value)) = [(0, .ref (q 5)), (1, .int (nI a)), (2, .int v), (3, .int (nI (g_chgN M a v (i + 1)))), (4, .int (nI (i + 1)))] := by simp [g_chgN, c_9, c_25]
      exact ih_5 H locs ls hP hD hS (e9 ▸ hl)
    · refine kr_iinc (lv' := [(3, .int (nI (g_chgN M a v i + 1))), (0, .ref (q 5)), (1, .int (nI a)), (2, .int v), (4, .int (nI i))]) hx hcd dX1_changedAfter_28 hl (k := 3) rfl (by decide) rfl (fun ls hl => ?_)
      refine kr_iinc (lv' := [(4, .int (nI (i + 1))), (3, .int (nI (g_chgN M a v i + 1))), (0, .ref (q 5)), (1, .int (nI a)), (2, .int v)]) hx hcd dX1_changedAfter_31 hl (k := 4) rfl (by decide) rfl (fun ls hl => ?_)
      refine lv_goto (tgt := 5) hx hcd dX1_changedAfter_34 (by decide) ?_
      have hl : lv_has ls 5 [(0, .ref (q 5)), (1, .int (nI a)), (2, .int v), (3, .int (nI (g_chgN M a v i + 1))), (4, .int (nI (i + 1)))] := lv_sub hl [2, 3, 4, 1, 0] rfl
      have e9 : ([(0, .ref (q 5)), (1, .int (nI a)), (2, .int v), (3, .int (nI (g_chgN M a v i + 1))), (4, .int (nI (i + 1)))] : List (Nat × Value)) = [(0, .ref (q 5)), (1, .int (nI a)), (2, .int v), (3, .int (nI (g_chgN M a v (i + 1)))), (4, .int (nI (i + 1)))] := by simp [g_chgN, c_9, c_25]
      exact ih_5 H locs ls hP hD hS (e9 ▸ hl)
  · have hl : lv_has ls 5 [(0, .ref (q 5)), (1, .int (nI a)), (2, .int v), (3, .int (nI (g_chgN M a v 6))), (4, .int (nI 6))] := hl
    refine lv_iload hx hcd dX1_changedAfter_5 (lv_at hl 4 rfl) ?_
    refine lv_bipush (v := nI 6) hx hcd dX1_changedAfter_7 (by decide) ?_
    refine kr_cge (tgt := 37) hx hcd (by omega) (by omega) dX1_changedAfter_9 (by decide) (fun (c_9 : 6 ≤ 6) => ?_) (fun (c_9 : 6 < 6) => absurd c_9 (by omega))
    refine lv_iload_n hx hcd dX1_changedAfter_37 rfl (lv_at hl 3 rfl) ?_
    exact kr_iret hx hcd hr hlocks hK hP hD hS rfl rfl dX1_changedAfter_38

set_option maxHeartbeats 4000000 in
set_option maxRecDepth 100000 in
theorem c_X1_match (l : Launch) (D : va_G) (cI cB cW cL : ClassId) (q : Nat → Nat) (sz : Nat) (M : kM) (a : Nat) (b : Nat) (hI : kInv M) (ha : a < 6) (hb : b < 6) : kMi l yX1_match wsX1_match ({ frames := 0, cells := 0, slots := 0, locals := 0 }) D vwCl (kT cI cB cW cL) sz [.ref (q 5), .int (nI a), .int (nI b)] (wRo cI q M) (wRo cI q M) (kI (g_agr M a b)) := by
  refine kr_ofi (cc := cX1_match) (maxL := 5) (ret := (some .boolean)) (by decide) rfl (Nat.le_of_ble_eq_true rfl) ?_
  intro pp ee ss mm args below meth cc AA ls hx hcd hr hts hown hlocks hml hK hP hD hA hl
  have hS : va_S AA ss.heap ss.heap [] := va_S.rf
  have hown : ss.vm.findClass RX1 = some mm.cls := hown
  have hl : lv_has ls 5 [(0, .ref (q 5)), (1, .int (nI a)), (2, .int (nI b))] := hl
  have uX1 : ∀ w ∈ u_ws RX1 TX1 3, w ∈ wsX1_match := by decide +kernel
  refine lv_aload_n hx hcd dX1_match_0 rfl (lv_at hl 0 rfl) ?_
  refine kr_get hx hcd hts uX1 hown hK hP 0 rfl rfl 0 (by decide) (by decide +kernel) (v := .ref (q 6)) rfl dX1_match_1 ?_
  refine lv_iload_n hx hcd dX1_match_4 rfl (lv_at hl 2 rfl) ?_
  refine lv_bipush (v := nI 6) hx hcd dX1_match_5 (by decide) ?_
  refine kr_mul hx hcd dX1_match_7 ?_
  refine lv_iload_n hx hcd dX1_match_8 rfl (lv_at hl 1 rfl) ?_
  refine kr_add hx hcd dX1_match_9 ?_
  refine kr_iald hx hcd hK hP 1 0 rfl rfl (v := M (54 + 6 * b + a)) (by omega) (by decide) (vw_at (by omega) (by omega)) dX1_match_10 ?_
  refine lv_istore_n (lv' := [(3, .int (M (54 + 6 * b + a))), (0, .ref (q 5)), (1, .int (nI a)), (2, .int (nI b))]) hx hcd dX1_match_11 rfl hl (by decide) rfl (fun ls hl => ?_)
  refine lv_iload_n hx hcd dX1_match_12 rfl (lv_at hl 0 rfl) ?_
  refine lv_iconst (v := nI 5) hx hcd dX1_match_13 (by decide) ?_
  refine lv_iand hx hcd dX1_match_14 ?_
  refine lv_iconst (v := nI 1) hx hcd dX1_match_15 (by decide) ?_
  refine lv_ishl hx hcd dX1_match_16 ?_
  refine lv_iload_n hx hcd dX1_match_17 rfl (lv_at hl 0 rfl) ?_
  refine lv_bipush (v := nI 10) hx hcd dX1_match_18 (by decide) ?_
  refine lv_iand hx hcd dX1_match_20 ?_
  refine lv_iconst (v := nI 1) hx hcd dX1_match_21 (by decide) ?_
  refine lv_ishr hx hcd dX1_match_22 ?_
  refine lv_ior hx hcd dX1_match_23 ?_
  refine lv_istore (lv' := [(4, .int ((((M (54 + 6 * b + a)) &&& 5) <<< (1 &&& 31)) ||| (((M (54 + 6 * b + a)) &&& 10) >>> (1 &&& 31)))), (3, .int (M (54 + 6 * b + a))), (0, .ref (q 5)), (1, .int (nI a)), (2, .int (nI b))]) hx hcd dX1_match_24 hl (by decide) rfl (fun ls hl => ?_)
  refine lv_aload_n hx hcd dX1_match_26 rfl (lv_at hl 2 rfl) ?_
  refine kr_get hx hcd hts uX1 hown hK hP 0 rfl rfl 0 (by decide) (by decide +kernel) (v := .ref (q 6)) rfl dX1_match_27 ?_
  refine lv_iload_n hx hcd dX1_match_30 rfl (lv_at hl 3 rfl) ?_
  refine lv_bipush (v := nI 6) hx hcd dX1_match_31 (by decide) ?_
  refine kr_mul hx hcd dX1_match_33 ?_
  refine lv_iload_n hx hcd dX1_match_34 rfl (lv_at hl 4 rfl) ?_
  refine kr_add hx hcd dX1_match_35 ?_
  refine kr_iald hx hcd hK hP 1 0 rfl rfl (v := M (54 + 6 * a + b)) (by omega) (by decide) (vw_at (by omega) (by omega)) dX1_match_36 ?_
  refine lv_iload hx hcd dX1_match_37 (lv_at hl 0 rfl) ?_
  refine lv_icmp_ne (tgt := 46) hx hcd dX1_match_39 (by decide) (fun (c_39 : ¬ (M (54 + 6 * a + b)) = ((((M (54 + 6 * b + a)) &&& 5) <<< (1 &&& 31)) ||| (((M (54 + 6 * b + a)) &&& 10) >>> (1 &&& 31)))) => ?_) (fun (c_39 : (M (54 + 6 * a + b)) = ((((M (54 + 6 * b + a)) &&& 5) <<< (1 &&& 31)) ||| (((M (54 + 6 * b + a)) &&& 10) >>> (1 &&& 31)))) => ?_)
  · refine lv_iconst (v := nI 0) hx hcd dX1_match_46 (by decide) ?_
    exact kr_zret hx hcd hr hlocks hK hP hD hS rfl (by rw [match_e hI ha hb]; first | rw [decide_eq_true c_39]; rfl | rw [decide_eq_false c_39]; rfl) rfl dX1_match_47
  · refine lv_iconst (v := nI 1) hx hcd dX1_match_42 (by decide) ?_
    refine lv_goto (tgt := 47) hx hcd dX1_match_43 (by decide) ?_
    exact kr_zret hx hcd hr hlocks hK hP hD hS rfl (by rw [match_e hI ha hb]; first | rw [decide_eq_true c_39]; rfl | rw [decide_eq_false c_39]; rfl) rfl dX1_match_47

set_option maxHeartbeats 4000000 in
set_option maxRecDepth 100000 in
theorem c_X1_matchingPairs (l : Launch) (D : va_G) (cI cB cW cL : ClassId) (q : Nat → Nat) (sz : Nat) (M : kM) (hI : kInv M) : kMi l yX1_matchingPairs wsX1_matchingPairs ({ frames := 1, cells := 0, slots := 0, locals := 24 }) D vwCl (kT cI cB cW cL) sz [.ref (q 5)] (wRo cI q M) (wRo cI q M) (nI (g_pairs M)) := by
  refine kr_ofi (cc := cX1_matchingPairs) (maxL := 4) (ret := (some .int)) (by decide) rfl (Nat.le_of_ble_eq_true rfl) ?_
  intro pp ee ss mm args below meth cc AA ls hx hcd hr hts hown hlocks hml hK hP hD hA hl
  have hS : va_S AA ss.heap ss.heap [] := va_S.rf
  have hown : ss.vm.findClass RX1 = some mm.cls := hown
  have hl : lv_has ls 4 [(0, .ref (q 5))] := hl
  refine lv_iconst (v := nI 0) hx hcd dX1_matchingPairs_0 (by decide) ?_
  refine lv_istore_n (lv' := [(1, .int (nI 0)), (0, .ref (q 5))]) hx hcd dX1_matchingPairs_1 rfl hl (by decide) rfl (fun ls hl => ?_)
  refine lv_iconst (v := nI 0) hx hcd dX1_matchingPairs_2 (by decide) ?_
  refine lv_istore_n (lv' := [(2, .int (nI 0)), (1, .int (nI 0)), (0, .ref (q 5))]) hx hcd dX1_matchingPairs_3 rfl hl (by decide) rfl (fun ls hl => ?_)
  refine kr_up (fun i => wRo cI q M) (fun i => [(0, .ref (q 5)), (1, .int (nI (g_allC M i))), (2, .int (nI i))]) 6 (nL := 4) (fun i hi ih_4 H locs ls hP hD hS hl => ?_) (fun H locs ls hP hD hS hl => ?_) 0 (by omega) hP hD hS (lv_sub hl [2, 1, 0] rfl)
  · have hl : lv_has ls 4 [(0, .ref (q 5)), (1, .int (nI (g_allC M i))), (2, .int (nI i))] := hl
    refine lv_iload_n hx hcd dX1_matchingPairs_4 rfl (lv_at hl 2 rfl) ?_
    refine lv_bipush (v := nI 6) hx hcd dX1_matchingPairs_5 (by decide) ?_
    refine kr_cge (tgt := 44) hx hcd (by omega) (by omega) dX1_matchingPairs_7 (by decide) (fun (c_7 : 6 ≤ i) => absurd c_7 (by omega)) (fun (c_7 : i < 6) => ?_)
    refine lv_iload_n hx hcd dX1_matchingPairs_10 rfl (lv_at hl 2 rfl) ?_
    refine lv_iconst (v := nI 1) hx hcd dX1_matchingPairs_11 (by decide) ?_
    refine kr_add hx hcd dX1_matchingPairs_12 ?_
    refine lv_istore_n (lv' := [(3, .int (nI (i + 1))), (0, .ref (q 5)), (1, .int (nI (g_allC M i))), (2, .int (nI i))]) hx hcd dX1_matchingPairs_13 rfl hl (by decide) rfl (fun ls hl => ?_)
    refine kr_up (fun j => wRo cI q M) (fun j => [(0, .ref (q 5)), (1, .int (nI (g_allC M i + g_rowC M i j))), (2, .int (nI i)), (3, .int (nI (i + 1 + j)))]) (5 - i) (nL := 4) (fun j hj ih_14 H locs ls hP hD hS hl => ?_) (fun H locs ls hP hD hS hl => ?_) 0 (by omega) hP hD hS (lv_sub hl [1, 2, 3, 0] rfl)
    · have hl : lv_has ls 4 [(0, .ref (q 5)), (1, .int (nI (g_allC M i + g_rowC M i j))), (2, .int (nI i)), (3, .int (nI (i + 1 + j)))] := hl
      refine lv_iload_n hx hcd dX1_matchingPairs_14 rfl (lv_at hl 3 rfl) ?_
      refine lv_bipush (v := nI 6) hx hcd dX1_matchingPairs_15 (by decide) ?_
      refine kr_cge (tgt := 38) hx hcd (by omega) (by omega) dX1_matchingPairs_17 (by decide) (fun (c_17 : 6 ≤ i + 1 + j) => absurd c_17 (by omega)) (fun (c_17 : i + 1 + j < 6) => ?_)
      refine lv_aload_n hx hcd dX1_matchingPairs_20 rfl (lv_at hl 0 rfl) ?_
      refine lv_iload_n hx hcd dX1_matchingPairs_21 rfl (lv_at hl 2 rfl) ?_
      refine lv_iload_n hx hcd dX1_matchingPairs_22 rfl (lv_at hl 3 rfl) ?_
      refine kr_Vi (As := [.int (nI i), .int (nI (i + 1 + j))]) (rest := []) (ws2 := wRo cI q M) (q := (RX1, TX1, 3)) ⟨hx, hcd, hml, hown, hts⟩ (c_X1_match l D cI cB cW cL q _ M i (i + 1 + j) hI (by omega) (by omega)) (cwV 2 hts gX1_matchingPairs_X1_match rfl rfl rfl (by decide +kernel) ⟨Nat.le_of_ble_eq_true rfl, Nat.le_of_ble_eq_true rfl⟩) hK hP hD hS hA [0, 1, 2, 3] wRo_allC (by decide) wRo_adr wRo_all 0 rfl rfl rfl hl.1 rfl (Nat.le_of_ble_eq_true rfl) dX1_matchingPairs_23 ⟨Nat.zero_le _, Nat.zero_le _⟩ (fun H locs hP hD hS => ?_)
      refine kr_beq (tgt := 32) hx hcd dX1_matchingPairs_26 (by decide) (fun (c_26 : g_agr M i (i + 1 + j) = false) => ?_) (fun (c_26 : g_agr M i (i + 1 + j) = true) => ?_)
      · refine kr_iinc (lv' := [(3, .int (nI (i + 1 + j + 1))), (0, .ref (q 5)), (1, .int (nI (g_allC M i + g_rowC M i j))), (2, .int (nI i))]) hx hcd dX1_matchingPairs_32 hl (k := 3) rfl (by decide) rfl (fun ls hl => ?_)
        refine lv_goto (tgt := 14) hx hcd dX1_matchingPairs_35 (by decide) ?_
        have hl : lv_has ls 4 [(0, .ref (q 5)), (1, .int (nI (g_allC M i + g_rowC M i j))), (2, .int (nI i)), (3, .int (nI (i + 1 + j + 1)))] := lv_sub hl [1, 2, 3, 0] rfl
        have e9 : ([(0, .ref (q 5)), (1, .int (nI (g_allC M i + g_rowC M i j))), (2, .int (nI i)), (3, .int (nI (i + 1 + j + 1)))] : List (Nat × Value)) = [(0, .ref (q 5)), (1, .int (nI (g_allC M i + g_rowC M i (j + 1)))), (2, .int (nI i)), (3, .int (nI (i + 1 + (j + 1))))] := by first | (simp [g_rowC, c_7, c_17, c_26]; done) | (simp [g_rowC, c_7, c_17, c_26]; rfl) | (simp [g_rowC, c_7, c_17, c_26]; exact ⟨rfl, rfl⟩)
        exact ih_14 H locs ls hP hD hS (e9 ▸ hl)
      · refine kr_iinc (lv' := [(1, .int (nI (g_allC M i + g_rowC M i j + 1))), (0, .ref (q 5)), (2, .int (nI i)), (3, .int (nI (i + 1 + j)))]) hx hcd dX1_matchingPairs_29 hl (k := 1) rfl (by decide) rfl (fun ls hl => ?_)
        refine kr_iinc (lv' := [(3, .int (nI (i + 1 + j + 1))), (1, .int (nI (g_allC M i + g_rowC M i j + 1))), (0, .ref (q 5)), (2, .int (nI i))]) hx hcd dX1_matchingPairs_32 hl (k := 3) rfl (by decide) rfl (fun ls hl => ?_)
        refine lv_goto (tgt := 14) hx hcd dX1_matchingPairs_35 (by decide) ?_
        have hl : lv_has ls 4 [(0, .ref (q 5)), (1, .int (nI (g_allC M i + g_rowC M i j + 1))), (2, .int (nI i)), (3, .int (nI (i + 1 + j + 1)))] := lv_sub hl [2, 1, 3, 0] rfl
        have e9 : ([(0, .ref (q 5)), (1, .int (nI (g_allC M i + g_rowC M i j + 1))), (2, .int (nI i)), (3, .int (nI (i + 1 + j + 1)))] : List (Nat × Value)) = [(0, .ref (q 5)), (1, .int (nI (g_allC M i + g_rowC M i (j + 1)))), (2, .int (nI i)), (3, .int (nI (i + 1 + (j + 1))))] := by first | (simp [g_rowC, c_7, c_17, c_26]; done) | (simp [g_rowC, c_7, c_17, c_26]; rfl) | (simp [g_rowC, c_7, c_17, c_26]; exact ⟨rfl, rfl⟩)
        exact ih_14 H locs ls hP hD hS (e9 ▸ hl)
    · have hl : lv_has ls 4 [(0, .ref (q 5)), (1, .int (nI (g_allC M i + g_rowC M i (5 - i)))), (2, .int (nI i)), (3, .int (nI (i + 1 + (5 - i))))] := hl
      refine lv_iload_n hx hcd dX1_matchingPairs_14 rfl (lv_at hl 3 rfl) ?_
      refine lv_bipush (v := nI 6) hx hcd dX1_matchingPairs_15 (by decide) ?_
      refine kr_cge (tgt := 38) hx hcd (by omega) (by omega) dX1_matchingPairs_17 (by decide) (fun (c_17 : 6 ≤ i + 1 + (5 - i)) => ?_) (fun (c_17 : i + 1 + (5 - i) < 6) => absurd c_17 (by omega))
      refine kr_iinc (lv' := [(2, .int (nI (i + 1))), (0, .ref (q 5)), (1, .int (nI (g_allC M i + g_rowC M i (5 - i)))), (3, .int (nI (i + 1 + (5 - i))))]) hx hcd dX1_matchingPairs_38 hl (k := 2) rfl (by decide) rfl (fun ls hl => ?_)
      refine lv_goto (tgt := 4) hx hcd dX1_matchingPairs_41 (by decide) ?_
      exact ih_4 H locs ls hP hD hS (lv_sub hl [1, 2, 0] rfl)
  · have hl : lv_has ls 4 [(0, .ref (q 5)), (1, .int (nI (g_allC M 6))), (2, .int (nI 6))] := hl
    refine lv_iload_n hx hcd dX1_matchingPairs_4 rfl (lv_at hl 2 rfl) ?_
    refine lv_bipush (v := nI 6) hx hcd dX1_matchingPairs_5 (by decide) ?_
    refine kr_cge (tgt := 44) hx hcd (by omega) (by omega) dX1_matchingPairs_7 (by decide) (fun (c_7 : 6 ≤ 6) => ?_) (fun (c_7 : 6 < 6) => absurd c_7 (by omega))
    refine lv_iload_n hx hcd dX1_matchingPairs_44 rfl (lv_at hl 1 rfl) ?_
    exact kr_iret hx hcd hr hlocks hK hP hD hS (by exact congrArg nI pairs_eq) rfl dX1_matchingPairs_45

set_option maxHeartbeats 4000000 in
set_option maxRecDepth 100000 in
theorem c_X4_hasView (l : Launch) (D : va_G) (cI cB cW cL : ClassId) (q : Nat → Nat) (sz : Nat) (M : kM) (a : Nat) (b : Nat) (ha : a < 6) (hb : b < 6) : kMi l yX4_hasView wsX4_hasView ({ frames := 1, cells := 0, slots := 0, locals := 23 }) D vwCl (kT cI cB cW cL) sz [.ref (q 9), .int (nI a), .int (nI b)] (wVi cI q M) (wVi cI q M) (kI (g_hv M a b 3)) := by
  refine kr_ofi (cc := cX4_hasView) (maxL := 4) (ret := (some .boolean)) (by decide) rfl (Nat.le_of_ble_eq_true rfl) ?_
  intro pp ee ss mm args below meth cc AA ls hx hcd hr hts hown hlocks hml hK hP hD hA hl
  have hS : va_S AA ss.heap ss.heap [] := va_S.rf
  have hown : ss.vm.findClass RX4 = some mm.cls := hown
  have hl : lv_has ls 4 [(0, .ref (q 9)), (1, .int (nI a)), (2, .int (nI b))] := hl
  refine lv_iconst (v := nI 0) hx hcd dX4_hasView_0 (by decide) ?_
  refine lv_istore_n (lv' := [(3, .int (nI 0)), (0, .ref (q 9)), (1, .int (nI a)), (2, .int (nI b))]) hx hcd dX4_hasView_1 rfl hl (by decide) rfl (fun ls hl => ?_)
  refine kr_rec (σ := Nat) (fun y9 => wVi cI q M) (fun y9 => [(0, .ref (q 9)), (1, .int (nI a)), (2, .int (nI b)), (3, .int (nI y9))]) (fun y9 => y9 ≤ 3 ∧ g_hv M a b y9 = false) (fun y9 => 3 - y9) (nL := 4) (fun y9 hX ih_2 H locs ls hP hD hS hl => ?_) 0 ⟨by omega, rfl⟩ hP hD hS (lv_sub hl [1, 2, 3, 0] rfl)
  obtain ⟨i, hy9⟩ : ∃ y8, y8 = y9 := ⟨_, rfl⟩
  subst hy9
  obtain ⟨hi3, hv⟩ := hX
  have hl : lv_has ls 4 [(0, .ref (q 9)), (1, .int (nI a)), (2, .int (nI b)), (3, .int (nI i))] := hl
  refine lv_iload_n hx hcd dX4_hasView_2 rfl (lv_at hl 3 rfl) ?_
  refine lv_iconst (v := nI 3) hx hcd dX4_hasView_3 (by decide) ?_
  refine kr_cge (tgt := 26) hx hcd (by omega) (by omega) dX4_hasView_4 (by decide) (fun (c_4 : 3 ≤ i) => ?_) (fun (c_4 : i < 3) => ?_)
  · refine lv_iconst (v := nI 0) hx hcd dX4_hasView_26 (by decide) ?_
    exact kr_zret hx hcd hr hlocks hK hP hD hS rfl (by rw [show (3 : Nat) = i by omega, hv]; rfl) rfl dX4_hasView_27
  · refine lv_aload_n hx hcd dX4_hasView_7 rfl (lv_at hl 0 rfl) ?_
    refine lv_iload_n hx hcd dX4_hasView_8 rfl (lv_at hl 1 rfl) ?_
    refine lv_iload_n hx hcd dX4_hasView_9 rfl (lv_at hl 2 rfl) ?_
    refine lv_iload_n hx hcd dX4_hasView_10 rfl (lv_at hl 3 rfl) ?_
    refine kr_Vi (As := [.int (nI a), .int (nI b), .int (nI i)]) (rest := []) (ws2 := wVi cI q M) (q := (RX4, TX4, 1)) ⟨hx, hcd, hml, hown, hts⟩ (c_X4_mood l D cI cB cW cL q _ M a b i (by omega) (by omega) (by omega)) (cwV 3 hts gX4_hasView_X4_mood rfl rfl rfl (by decide +kernel) ⟨Nat.le_of_ble_eq_true rfl, Nat.le_of_ble_eq_true rfl⟩) hK hP hD hS hA [0, 1] wVi_allC (by decide) wVi_adr wVi_all 0 rfl rfl rfl hl.1 rfl (Nat.le_of_ble_eq_true rfl) dX4_hasView_11 ⟨Nat.zero_le _, Nat.zero_le _⟩ (fun H locs hP hD hS => ?_)
    refine lv_iconst (v := (-1)) hx hcd dX4_hasView_14 (by decide) ?_
    refine lv_icmp_eq (tgt := 20) hx hcd dX4_hasView_15 (by decide) (fun (c_15 : (M (132 + 18 * a + 3 * b + i)) = (-1)) => ?_) (fun (c_15 : ¬ (M (132 + 18 * a + 3 * b + i)) = (-1)) => ?_)
    · refine kr_iinc (lv' := [(3, .int (nI (i + 1))), (0, .ref (q 9)), (1, .int (nI a)), (2, .int (nI b))]) hx hcd dX4_hasView_20 hl (k := 3) rfl (by decide) rfl (fun ls hl => ?_)
      refine lv_goto (tgt := 2) hx hcd dX4_hasView_23 (by decide) ?_
      exact ih_2 (i + 1) ⟨by omega, by simp [g_hv, hv, c_4, c_15]⟩ (by omega) H locs ls hP hD hS (lv_sub hl [1, 2, 3, 0] rfl)
    · refine lv_iconst (v := nI 1) hx hcd dX4_hasView_18 (by decide) ?_
      exact kr_zret hx hcd hr hlocks hK hP hD hS rfl (by exact (hv_true (by omega) (by simp [g_hv, c_4, c_15])).symm) rfl dX4_hasView_19

set_option maxHeartbeats 4000000 in
set_option maxRecDepth 100000 in
theorem c_X4_seeingPairs (l : Launch) (D : va_G) (cI cB cW cL : ClassId) (q : Nat → Nat) (sz : Nat) (M : kM)  : kMi l yX4_seeingPairs wsX4_seeingPairs ({ frames := 2, cells := 0, slots := 0, locals := 46 }) D vwCl (kT cI cB cW cL) sz [.ref (q 9)] (wVi cI q M) (wVi cI q M) (nI (g_visA M 6)) := by
  refine kr_ofi (cc := cX4_seeingPairs) (maxL := 4) (ret := (some .int)) (by decide) rfl (Nat.le_of_ble_eq_true rfl) ?_
  intro pp ee ss mm args below meth cc AA ls hx hcd hr hts hown hlocks hml hK hP hD hA hl
  have hS : va_S AA ss.heap ss.heap [] := va_S.rf
  have hown : ss.vm.findClass RX4 = some mm.cls := hown
  have hl : lv_has ls 4 [(0, .ref (q 9))] := hl
  refine lv_iconst (v := nI 0) hx hcd dX4_seeingPairs_0 (by decide) ?_
  refine lv_istore_n (lv' := [(1, .int (nI 0)), (0, .ref (q 9))]) hx hcd dX4_seeingPairs_1 rfl hl (by decide) rfl (fun ls hl => ?_)
  refine lv_iconst (v := nI 0) hx hcd dX4_seeingPairs_2 (by decide) ?_
  refine lv_istore_n (lv' := [(2, .int (nI 0)), (1, .int (nI 0)), (0, .ref (q 9))]) hx hcd dX4_seeingPairs_3 rfl hl (by decide) rfl (fun ls hl => ?_)
  refine kr_up (fun i => wVi cI q M) (fun i => [(0, .ref (q 9)), (1, .int (nI (g_visA M i))), (2, .int (nI i))]) 6 (nL := 4) (fun i hi ih_4 H locs ls hP hD hS hl => ?_) (fun H locs ls hP hD hS hl => ?_) 0 (by omega) hP hD hS (lv_sub hl [2, 1, 0] rfl)
  · have hl : lv_has ls 4 [(0, .ref (q 9)), (1, .int (nI (g_visA M i))), (2, .int (nI i))] := hl
    refine lv_iload_n hx hcd dX4_seeingPairs_4 rfl (lv_at hl 2 rfl) ?_
    refine lv_bipush (v := nI 6) hx hcd dX4_seeingPairs_5 (by decide) ?_
    refine kr_cge (tgt := 42) hx hcd (by omega) (by omega) dX4_seeingPairs_7 (by decide) (fun (c_7 : 6 ≤ i) => absurd c_7 (by omega)) (fun (c_7 : i < 6) => ?_)
    refine lv_iconst (v := nI 0) hx hcd dX4_seeingPairs_10 (by decide) ?_
    refine lv_istore_n (lv' := [(3, .int (nI 0)), (0, .ref (q 9)), (1, .int (nI (g_visA M i))), (2, .int (nI i))]) hx hcd dX4_seeingPairs_11 rfl hl (by decide) rfl (fun ls hl => ?_)
    refine kr_up (fun j => wVi cI q M) (fun j => [(0, .ref (q 9)), (1, .int (nI (g_visA M i + g_visR M i j))), (2, .int (nI i)), (3, .int (nI j))]) 6 (nL := 4) (fun j hj ih_12 H locs ls hP hD hS hl => ?_) (fun H locs ls hP hD hS hl => ?_) 0 (by omega) hP hD hS (lv_sub hl [1, 2, 3, 0] rfl)
    · have hl : lv_has ls 4 [(0, .ref (q 9)), (1, .int (nI (g_visA M i + g_visR M i j))), (2, .int (nI i)), (3, .int (nI j))] := hl
      refine lv_iload_n hx hcd dX4_seeingPairs_12 rfl (lv_at hl 3 rfl) ?_
      refine lv_bipush (v := nI 6) hx hcd dX4_seeingPairs_13 (by decide) ?_
      refine kr_cge (tgt := 36) hx hcd (by omega) (by omega) dX4_seeingPairs_15 (by decide) (fun (c_15 : 6 ≤ j) => absurd c_15 (by omega)) (fun (c_15 : j < 6) => ?_)
      refine lv_aload_n hx hcd dX4_seeingPairs_18 rfl (lv_at hl 0 rfl) ?_
      refine lv_iload_n hx hcd dX4_seeingPairs_19 rfl (lv_at hl 2 rfl) ?_
      refine lv_iload_n hx hcd dX4_seeingPairs_20 rfl (lv_at hl 3 rfl) ?_
      refine kr_Vi (As := [.int (nI i), .int (nI j)]) (rest := []) (ws2 := wVi cI q M) (q := (RX4, TX4, 1)) ⟨hx, hcd, hml, hown, hts⟩ (c_X4_hasView l D cI cB cW cL q _ M i j (by omega) (by omega)) (cwV 2 hts gX4_seeingPairs_X4_hasView rfl rfl rfl (by decide +kernel) ⟨Nat.le_of_ble_eq_true rfl, Nat.le_of_ble_eq_true rfl⟩) hK hP hD hS hA [0, 1] wVi_allC (by decide) wVi_adr wVi_all 0 rfl rfl rfl hl.1 rfl (Nat.le_of_ble_eq_true rfl) dX4_seeingPairs_21 ⟨Nat.zero_le _, Nat.zero_le _⟩ (fun H locs hP hD hS => ?_)
      refine kr_beq (tgt := 30) hx hcd dX4_seeingPairs_24 (by decide) (fun (c_24 : g_hv M i j 3 = false) => ?_) (fun (c_24 : g_hv M i j 3 = true) => ?_)
      · refine kr_iinc (lv' := [(3, .int (nI (j + 1))), (0, .ref (q 9)), (1, .int (nI (g_visA M i + g_visR M i j))), (2, .int (nI i))]) hx hcd dX4_seeingPairs_30 hl (k := 3) rfl (by decide) rfl (fun ls hl => ?_)
        refine lv_goto (tgt := 12) hx hcd dX4_seeingPairs_33 (by decide) ?_
        have hl : lv_has ls 4 [(0, .ref (q 9)), (1, .int (nI (g_visA M i + g_visR M i j))), (2, .int (nI i)), (3, .int (nI (j + 1)))] := lv_sub hl [1, 2, 3, 0] rfl
        have e9 : ([(0, .ref (q 9)), (1, .int (nI (g_visA M i + g_visR M i j))), (2, .int (nI i)), (3, .int (nI (j + 1)))] : List (Nat × Value)) = [(0, .ref (q 9)), (1, .int (nI (g_visA M i + g_visR M i (j + 1)))), (2, .int (nI i)), (3, .int (nI (j + 1)))] := by first | (simp [g_visR, c_7, c_15, c_24]; done) | (simp [g_visR, c_7, c_15, c_24]; rfl)
        exact ih_12 H locs ls hP hD hS (e9 ▸ hl)
      · refine kr_iinc (lv' := [(1, .int (nI (g_visA M i + g_visR M i j + 1))), (0, .ref (q 9)), (2, .int (nI i)), (3, .int (nI j))]) hx hcd dX4_seeingPairs_27 hl (k := 1) rfl (by decide) rfl (fun ls hl => ?_)
        refine kr_iinc (lv' := [(3, .int (nI (j + 1))), (1, .int (nI (g_visA M i + g_visR M i j + 1))), (0, .ref (q 9)), (2, .int (nI i))]) hx hcd dX4_seeingPairs_30 hl (k := 3) rfl (by decide) rfl (fun ls hl => ?_)
        refine lv_goto (tgt := 12) hx hcd dX4_seeingPairs_33 (by decide) ?_
        have hl : lv_has ls 4 [(0, .ref (q 9)), (1, .int (nI (g_visA M i + g_visR M i j + 1))), (2, .int (nI i)), (3, .int (nI (j + 1)))] := lv_sub hl [2, 1, 3, 0] rfl
        have e9 : ([(0, .ref (q 9)), (1, .int (nI (g_visA M i + g_visR M i j + 1))), (2, .int (nI i)), (3, .int (nI (j + 1)))] : List (Nat × Value)) = [(0, .ref (q 9)), (1, .int (nI (g_visA M i + g_visR M i (j + 1)))), (2, .int (nI i)), (3, .int (nI (j + 1)))] := by first | (simp [g_visR, c_7, c_15, c_24]; done) | (simp [g_visR, c_7, c_15, c_24]; rfl)
        exact ih_12 H locs ls hP hD hS (e9 ▸ hl)
    · have hl : lv_has ls 4 [(0, .ref (q 9)), (1, .int (nI (g_visA M i + g_visR M i 6))), (2, .int (nI i)), (3, .int (nI 6))] := hl
      refine lv_iload_n hx hcd dX4_seeingPairs_12 rfl (lv_at hl 3 rfl) ?_
      refine lv_bipush (v := nI 6) hx hcd dX4_seeingPairs_13 (by decide) ?_
      refine kr_cge (tgt := 36) hx hcd (by omega) (by omega) dX4_seeingPairs_15 (by decide) (fun (c_15 : 6 ≤ 6) => ?_) (fun (c_15 : 6 < 6) => absurd c_15 (by omega))
      refine kr_iinc (lv' := [(2, .int (nI (i + 1))), (0, .ref (q 9)), (1, .int (nI (g_visA M i + g_visR M i 6))), (3, .int (nI 6))]) hx hcd dX4_seeingPairs_36 hl (k := 2) rfl (by decide) rfl (fun ls hl => ?_)
      refine lv_goto (tgt := 4) hx hcd dX4_seeingPairs_39 (by decide) ?_
      exact ih_4 H locs ls hP hD hS (lv_sub hl [1, 2, 0] rfl)
  · have hl : lv_has ls 4 [(0, .ref (q 9)), (1, .int (nI (g_visA M 6))), (2, .int (nI 6))] := hl
    refine lv_iload_n hx hcd dX4_seeingPairs_4 rfl (lv_at hl 2 rfl) ?_
    refine lv_bipush (v := nI 6) hx hcd dX4_seeingPairs_5 (by decide) ?_
    refine kr_cge (tgt := 42) hx hcd (by omega) (by omega) dX4_seeingPairs_7 (by decide) (fun (c_7 : 6 ≤ 6) => ?_) (fun (c_7 : 6 < 6) => absurd c_7 (by omega))
    refine lv_iload_n hx hcd dX4_seeingPairs_42 rfl (lv_at hl 1 rfl) ?_
    exact kr_iret hx hcd hr hlocks hK hP hD hS rfl rfl dX4_seeingPairs_43

set_option maxHeartbeats 4000000 in
set_option maxRecDepth 100000 in
theorem c_X5_matchingPairsAtRest (l : Launch) (D : va_G) (cI cB cW cL : ClassId) (q : Nat → Nat) (sz : Nat) (M : kM) (hI : kInv M) : kMi l yX5_matchingPairsAtRest wsX5_matchingPairsAtRest ({ frames := 5, cells := 0, slots := 0, locals := 118 }) D vwCl (kT cI cB cW cL) sz [.ref (q 0)] (wW cI q M) (wW cI q (g_del 1000 M)) (if wyN (g_del 1000 M) = 0 then nI (g_pairs (g_del 1000 M)) else -1) := by
  refine kr_ofi (cc := cX5_matchingPairsAtRest) (maxL := 1) (ret := (some .int)) (by decide) rfl (Nat.le_of_ble_eq_true rfl) ?_
  intro pp ee ss mm args below meth cc AA ls hx hcd hr hts hown hlocks hml hK hP hD hA hl
  have hS : va_S AA ss.heap ss.heap [] := va_S.rf
  have hown : ss.vm.findClass RX5 = some mm.cls := hown
  have hl : lv_has ls 1 [(0, .ref (q 0))] := hl
  have uX0 : ∀ w ∈ u_ws RX0 TX0 4, w ∈ wsX5_matchingPairsAtRest := by decide +kernel
  have uX5 : ∀ w ∈ u_ws RX5 TX5 5, w ∈ wsX5_matchingPairsAtRest := by decide +kernel
  refine lv_aload_n hx hcd dX5_matchingPairsAtRest_0 rfl (lv_at hl 0 rfl) ?_
  refine lv_sipush (v := nI 1000) hx hcd dX5_matchingPairsAtRest_1 (by decide) ?_
  refine kr_Vi (As := [.int (nI 1000)]) (rest := []) (ws2 := wW cI q (g_del 1000 M)) (q := (RX5, TX5, 5)) ⟨hx, hcd, hml, hown, hts⟩ (c_X5_letArrive l D cI cB cW cL q _ M 1000 hI (by omega)) (cwV 1 hts gX5_matchingPairsAtRest_X5_letArrive rfl rfl rfl (by decide +kernel) ⟨Nat.le_of_ble_eq_true rfl, Nat.le_of_ble_eq_true rfl⟩) hK hP hD hS hA [0, 1, 2, 3, 4, 5, 6, 7, 8, 9, 10, 11, 12, 13, 14] wW_allC (by decide) wW_adr wW_all 0 rfl rfl rfl hl.1 rfl (Nat.le_of_ble_eq_true rfl) dX5_matchingPairsAtRest_4 ⟨Nat.zero_le _, Nat.zero_le _⟩ (fun H locs hP hD hS => ?_)
  have hI_1 : kInv (g_del 1000 M) := i_del _ hI
  refine lv_pop hx hcd dX5_matchingPairsAtRest_7 rfl ?_
  refine lv_aload_n hx hcd dX5_matchingPairsAtRest_8 rfl (lv_at hl 0 rfl) ?_
  refine kr_get hx hcd hts uX5 hown hK hP 0 rfl rfl 3 (by decide) (by decide +kernel) (v := .ref (q 11)) rfl dX5_matchingPairsAtRest_9 ?_
  refine kr_get hx hcd hts uX0 hown hK hP 11 rfl rfl 2 (by decide) (by decide +kernel) (v := .int ((g_del 1000 M) 577)) rfl dX5_matchingPairsAtRest_12 ?_
  refine kr_top (w := nI (wyN (g_del 1000 M))) (i_wy (i_del 1000 hI)) ?_
  have b577 := i_wyle (i_del 1000 hI)
  refine kr_zne (tgt := 28) hx hcd (by omega) dX5_matchingPairsAtRest_15 (by decide) (fun (c_15 : 0 < wyN (g_del 1000 M)) => ?_) (fun (c_15 : wyN (g_del 1000 M) = 0) => ?_)
  · refine lv_iconst (v := (-1)) hx hcd dX5_matchingPairsAtRest_28 (by decide) ?_
    exact kr_iret hx hcd hr hlocks hK hP hD hS (by first | (rw [if_pos c_15]) | (rw [if_neg (by omega)])) rfl dX5_matchingPairsAtRest_29
  · refine lv_aload_n hx hcd dX5_matchingPairsAtRest_18 rfl (lv_at hl 0 rfl) ?_
    refine kr_get hx hcd hts uX5 hown hK hP 0 rfl rfl 1 (by decide) (by decide +kernel) (v := .ref (q 5)) rfl dX5_matchingPairsAtRest_19 ?_
    refine kr_Vi (As := []) (rest := []) (ws2 := wW cI q (g_del 1000 M)) (q := (RX1, TX1, 3)) ⟨hx, hcd, hml, hown, hts⟩ (c_X1_matchingPairs l D cI cB cW cL q _ (g_del 1000 M) hI_1) (cwV 0 hts gX5_matchingPairsAtRest_X1_matchingPairs rfl rfl rfl (by decide +kernel) ⟨Nat.le_of_ble_eq_true rfl, Nat.le_of_ble_eq_true rfl⟩) hK hP hD hS hA [5, 6, 7, 8] wW_RoC (by decide) wRo_adr wW_Ro0 5 rfl rfl rfl hl.1 rfl (Nat.le_of_ble_eq_true rfl) dX5_matchingPairsAtRest_22 ⟨Nat.zero_le _, Nat.zero_le _⟩ (fun H locs hP hD hS => ?_)
    refine lv_goto (tgt := 29) hx hcd dX5_matchingPairsAtRest_25 (by decide) ?_
    exact kr_iret hx hcd hr hlocks hK hP hD hS (by first | (rw [if_pos c_15]) | (rw [if_neg (by omega)])) rfl dX5_matchingPairsAtRest_29

set_option maxHeartbeats 4000000 in
set_option maxRecDepth 100000 in
theorem c_X5_isWrong (l : Launch) (D : va_G) (cI cB cW cL : ClassId) (q : Nat → Nat) (sz : Nat) (M : kM) (v : Int32) (b : Nat) (s : Nat) (sees : Bool) (there : Bool) (hb : b < 6) (hs : s < 3) : kMi l yX5_isWrong wsX5_isWrong ({ frames := 1, cells := 0, slots := 0, locals := 22 }) D vwCl (kT cI cB cW cL) sz [.ref (q 0), .int v, .int (nI b), .int (nI s), .int (kI sees), .int (kI there)] (wW cI q M) (wW cI q M) (kI (g_iw v (g_on M b s) sees there (M (2 + 9 * b + 3 * s)))) := by
  refine kr_ofi (cc := cX5_isWrong) (maxL := 7) (ret := (some .boolean)) (by decide) rfl (Nat.le_of_ble_eq_true rfl) ?_
  intro pp ee ss mm args below meth cc AA ls hx hcd hr hts hown hlocks hml hK hP hD hA hl
  have hS : va_S AA ss.heap ss.heap [] := va_S.rf
  have hown : ss.vm.findClass RX5 = some mm.cls := hown
  have hl : lv_has ls 7 [(0, .ref (q 0)), (1, .int v), (2, .int (nI b)), (3, .int (nI s)), (4, .int (kI sees)), (5, .int (kI there))] := hl
  have uX5 : ∀ w ∈ u_ws RX5 TX5 5, w ∈ wsX5_isWrong := by decide +kernel
  refine lv_aload_n hx hcd dX5_isWrong_0 rfl (lv_at hl 0 rfl) ?_
  refine kr_get hx hcd hts uX5 hown hK hP 0 rfl rfl 0 (by decide) (by decide +kernel) (v := .ref (q 1)) rfl dX5_isWrong_1 ?_
  refine lv_iload_n hx hcd dX5_isWrong_4 rfl (lv_at hl 2 rfl) ?_
  refine lv_iload_n hx hcd dX5_isWrong_5 rfl (lv_at hl 3 rfl) ?_
  refine kr_Vi (As := [.int (nI b), .int (nI s)]) (rest := []) (ws2 := wW cI q M) (q := (RX3, TX3, 3)) ⟨hx, hcd, hml, hown, hts⟩ (c_X3_isOn l D cI cB cW cL q _ M b s (by omega) (by omega)) (cwV 2 hts gX5_isWrong_X3_isOn rfl rfl rfl (by decide +kernel) ⟨Nat.le_of_ble_eq_true rfl, Nat.le_of_ble_eq_true rfl⟩) hK hP hD hS hA [1, 2, 3, 4] wW_SeC (by decide) wSe_adr wW_Se0 1 rfl rfl rfl hl.1 rfl (Nat.le_of_ble_eq_true rfl) dX5_isWrong_6 ⟨Nat.zero_le _, Nat.zero_le _⟩ (fun H locs hP hD hS => ?_)
  refine lv_istore (lv' := [(6, .int (kI (g_on M b s))), (0, .ref (q 0)), (1, .int v), (2, .int (nI b)), (3, .int (nI s)), (4, .int (kI sees)), (5, .int (kI there))]) hx hcd dX5_isWrong_9 hl (by decide) rfl (fun ls hl => ?_)
  refine lv_iload_n hx hcd dX5_isWrong_11 rfl (lv_at hl 2 rfl) ?_
  refine lv_iconst (v := (-1)) hx hcd dX5_isWrong_12 (by decide) ?_
  refine lv_icmp_ne (tgt := 37) hx hcd dX5_isWrong_13 (by decide) (fun (c_13 : ¬ v = (-1)) => ?_) (fun (c_13 : v = (-1)) => ?_)
  · refine lv_iload hx hcd dX5_isWrong_37 (lv_at hl 0 rfl) ?_
    refine kr_beq (tgt := 60) hx hcd dX5_isWrong_39 (by decide) (fun (c_39 : g_on M b s = false) => ?_) (fun (c_39 : g_on M b s = true) => ?_)
    · refine lv_iconst (v := nI 1) hx hcd dX5_isWrong_60 (by decide) ?_
      refine lv_goto (tgt := 65) hx hcd dX5_isWrong_61 (by decide) ?_
      exact kr_zret hx hcd hr hlocks hK hP hD hS rfl (by first | (rw [g_iw, if_pos c_13]; simp [kI, c_13, c_39]; rfl) | (rw [g_iw, if_neg c_13]; simp [kI, c_13, c_39]; rfl)) rfl dX5_isWrong_65
    · refine lv_iload hx hcd dX5_isWrong_42 (lv_at hl 5 rfl) ?_
      refine kr_beq (tgt := 60) hx hcd dX5_isWrong_44 (by decide) (fun (c_44 : sees = false) => ?_) (fun (c_44 : sees = true) => ?_)
      · refine lv_iconst (v := nI 1) hx hcd dX5_isWrong_60 (by decide) ?_
        refine lv_goto (tgt := 65) hx hcd dX5_isWrong_61 (by decide) ?_
        exact kr_zret hx hcd hr hlocks hK hP hD hS rfl (by first | (rw [g_iw, if_pos c_13]; simp [kI, c_13, c_39, c_44]; rfl) | (rw [g_iw, if_neg c_13]; simp [kI, c_13, c_39, c_44]; rfl)) rfl dX5_isWrong_65
      · refine lv_iload_n hx hcd dX5_isWrong_47 rfl (lv_at hl 2 rfl) ?_
        refine lv_aload_n hx hcd dX5_isWrong_48 rfl (lv_at hl 1 rfl) ?_
        refine kr_get hx hcd hts uX5 hown hK hP 0 rfl rfl 0 (by decide) (by decide +kernel) (v := .ref (q 1)) rfl dX5_isWrong_49 ?_
        refine lv_iload_n hx hcd dX5_isWrong_52 rfl (lv_at hl 3 rfl) ?_
        refine lv_iload_n hx hcd dX5_isWrong_53 rfl (lv_at hl 4 rfl) ?_
        refine kr_Vi (As := [.int (nI b), .int (nI s)]) (rest := [.int v]) (ws2 := wW cI q M) (q := (RX3, TX3, 3)) ⟨hx, hcd, hml, hown, hts⟩ (c_X3_moodOf l D cI cB cW cL q _ M b s (by omega) (by omega)) (cwV 2 hts gX5_isWrong_X3_moodOf rfl rfl rfl (by decide +kernel) ⟨Nat.le_of_ble_eq_true rfl, Nat.le_of_ble_eq_true rfl⟩) hK hP hD hS hA [1, 2, 3, 4] wW_SeC (by decide) wSe_adr wW_Se0 1 rfl rfl rfl hl.1 rfl (Nat.le_of_ble_eq_true rfl) dX5_isWrong_54 ⟨Nat.zero_le _, Nat.zero_le _⟩ (fun H locs hP hD hS => ?_)
        refine lv_icmp_eq (tgt := 64) hx hcd dX5_isWrong_57 (by decide) (fun (c_57 : v = (M (2 + 9 * b + 3 * s))) => ?_) (fun (c_57 : ¬ v = (M (2 + 9 * b + 3 * s))) => ?_)
        · refine lv_iconst (v := nI 0) hx hcd dX5_isWrong_64 (by decide) ?_
          exact kr_zret hx hcd hr hlocks hK hP hD hS rfl (by first | (rw [g_iw, if_pos c_13]; simp [kI, c_13, c_39, c_44, c_57]; rfl) | (rw [g_iw, if_neg c_13]; simp [kI, c_13, c_39, c_44, c_57]; rfl)) rfl dX5_isWrong_65
        · refine lv_iconst (v := nI 1) hx hcd dX5_isWrong_60 (by decide) ?_
          refine lv_goto (tgt := 65) hx hcd dX5_isWrong_61 (by decide) ?_
          exact kr_zret hx hcd hr hlocks hK hP hD hS rfl (by first | (rw [g_iw, if_pos c_13]; simp [kI, c_13, c_39, c_44, c_57]; rfl) | (rw [g_iw, if_neg c_13]; simp [kI, c_13, c_39, c_44, c_57]; rfl)) rfl dX5_isWrong_65
  · refine lv_iload hx hcd dX5_isWrong_16 (lv_at hl 5 rfl) ?_
    refine kr_beq (tgt := 35) hx hcd dX5_isWrong_18 (by decide) (fun (c_18 : sees = false) => ?_) (fun (c_18 : sees = true) => ?_)
    · refine lv_iconst (v := nI 0) hx hcd dX5_isWrong_35 (by decide) ?_
      exact kr_zret hx hcd hr hlocks hK hP hD hS rfl (by first | (rw [g_iw, if_pos c_13]; simp [kI, c_13, c_18]; rfl) | (rw [g_iw, if_neg c_13]; simp [kI, c_13, c_18]; rfl)) rfl dX5_isWrong_36
    · refine lv_iload hx hcd dX5_isWrong_21 (lv_at hl 6 rfl) ?_
      refine kr_beq (tgt := 35) hx hcd dX5_isWrong_23 (by decide) (fun (c_23 : there = false) => ?_) (fun (c_23 : there = true) => ?_)
      · refine lv_iconst (v := nI 0) hx hcd dX5_isWrong_35 (by decide) ?_
        exact kr_zret hx hcd hr hlocks hK hP hD hS rfl (by first | (rw [g_iw, if_pos c_13]; simp [kI, c_13, c_18, c_23]; rfl) | (rw [g_iw, if_neg c_13]; simp [kI, c_13, c_18, c_23]; rfl)) rfl dX5_isWrong_36
      · refine lv_iload hx hcd dX5_isWrong_26 (lv_at hl 0 rfl) ?_
        refine kr_beq (tgt := 35) hx hcd dX5_isWrong_28 (by decide) (fun (c_28 : g_on M b s = false) => ?_) (fun (c_28 : g_on M b s = true) => ?_)
        · refine lv_iconst (v := nI 0) hx hcd dX5_isWrong_35 (by decide) ?_
          exact kr_zret hx hcd hr hlocks hK hP hD hS rfl (by first | (rw [g_iw, if_pos c_13]; simp [kI, c_13, c_18, c_23, c_28]; rfl) | (rw [g_iw, if_neg c_13]; simp [kI, c_13, c_18, c_23, c_28]; rfl)) rfl dX5_isWrong_36
        · refine lv_iconst (v := nI 1) hx hcd dX5_isWrong_31 (by decide) ?_
          refine lv_goto (tgt := 36) hx hcd dX5_isWrong_32 (by decide) ?_
          exact kr_zret hx hcd hr hlocks hK hP hD hS rfl (by first | (rw [g_iw, if_pos c_13]; simp [kI, c_13, c_18, c_23, c_28]; rfl) | (rw [g_iw, if_neg c_13]; simp [kI, c_13, c_18, c_23, c_28]; rfl)) rfl dX5_isWrong_36

set_option maxHeartbeats 4000000 in
set_option maxRecDepth 100000 in
theorem c_X5_wrongViewsOf (l : Launch) (D : va_G) (cI cB cW cL : ClassId) (q : Nat → Nat) (sz : Nat) (M : kM) (a : Nat) (ha : a < 6) : kMi l yX5_wrongViewsOf wsX5_wrongViewsOf ({ frames := 2, cells := 0, slots := 0, locals := 48 }) D vwCl (kT cI cB cW cL) sz [.ref (q 0), .int (nI a)] (wW cI q M) (wW cI q M) (nI (g_wrA M a 6)) := by
  refine kr_ofi (cc := cX5_wrongViewsOf) (maxL := 7) (ret := (some .int)) (by decide) rfl (Nat.le_of_ble_eq_true rfl) ?_
  intro pp ee ss mm args below meth cc AA ls hx hcd hr hts hown hlocks hml hK hP hD hA hl
  have hS : va_S AA ss.heap ss.heap [] := va_S.rf
  have hown : ss.vm.findClass RX5 = some mm.cls := hown
  have hl : lv_has ls 7 [(0, .ref (q 0)), (1, .int (nI a))] := hl
  have uX5 : ∀ w ∈ u_ws RX5 TX5 5, w ∈ wsX5_wrongViewsOf := by decide +kernel
  refine lv_aload_n hx hcd dX5_wrongViewsOf_0 rfl (lv_at hl 0 rfl) ?_
  refine kr_get hx hcd hts uX5 hown hK hP 0 rfl rfl 0 (by decide) (by decide +kernel) (v := .ref (q 1)) rfl dX5_wrongViewsOf_1 ?_
  refine lv_iload_n hx hcd dX5_wrongViewsOf_4 rfl (lv_at hl 1 rfl) ?_
  refine kr_Vi (As := [.int (nI a)]) (rest := []) (ws2 := wW cI q M) (q := (RX3, TX3, 3)) ⟨hx, hcd, hml, hown, hts⟩ (c_X3_isThere l D cI cB cW cL q _ M a (by omega)) (cwV 1 hts gX5_wrongViewsOf_X3_isThere rfl rfl rfl (by decide +kernel) ⟨Nat.le_of_ble_eq_true rfl, Nat.le_of_ble_eq_true rfl⟩) hK hP hD hS hA [1, 2, 3, 4] wW_SeC (by decide) wSe_adr wW_Se0 1 rfl rfl rfl hl.1 rfl (Nat.le_of_ble_eq_true rfl) dX5_wrongViewsOf_5 ⟨Nat.zero_le _, Nat.zero_le _⟩ (fun H locs hP hD hS => ?_)
  refine lv_istore_n (lv' := [(2, .int (kI (g_there M a))), (0, .ref (q 0)), (1, .int (nI a))]) hx hcd dX5_wrongViewsOf_8 rfl hl (by decide) rfl (fun ls hl => ?_)
  refine lv_iconst (v := nI 0) hx hcd dX5_wrongViewsOf_9 (by decide) ?_
  refine lv_istore_n (lv' := [(3, .int (nI 0)), (2, .int (kI (g_there M a))), (0, .ref (q 0)), (1, .int (nI a))]) hx hcd dX5_wrongViewsOf_10 rfl hl (by decide) rfl (fun ls hl => ?_)
  refine lv_iconst (v := nI 0) hx hcd dX5_wrongViewsOf_11 (by decide) ?_
  refine lv_istore (lv' := [(4, .int (nI 0)), (3, .int (nI 0)), (2, .int (kI (g_there M a))), (0, .ref (q 0)), (1, .int (nI a))]) hx hcd dX5_wrongViewsOf_12 hl (by decide) rfl (fun ls hl => ?_)
  refine kr_up (fun i => wW cI q M) (fun i => [(0, .ref (q 0)), (1, .int (nI a)), (2, .int (kI (g_there M a))), (3, .int (nI (g_wrA M a i))), (4, .int (nI i))]) 6 (nL := 7) (fun i hi ih_14 H locs ls hP hD hS hl => ?_) (fun H locs ls hP hD hS hl => ?_) 0 (by omega) hP hD hS (lv_sub hl [3, 4, 2, 1, 0] rfl)
  · have hl : lv_has ls 7 [(0, .ref (q 0)), (1, .int (nI a)), (2, .int (kI (g_there M a))), (3, .int (nI (g_wrA M a i))), (4, .int (nI i))] := hl
    refine lv_iload hx hcd dX5_wrongViewsOf_14 (lv_at hl 4 rfl) ?_
    refine lv_bipush (v := nI 6) hx hcd dX5_wrongViewsOf_16 (by decide) ?_
    refine kr_cge (tgt := 93) hx hcd (by omega) (by omega) dX5_wrongViewsOf_18 (by decide) (fun (c_18 : 6 ≤ i) => absurd c_18 (by omega)) (fun (c_18 : i < 6) => ?_)
    refine lv_iload hx hcd dX5_wrongViewsOf_21 (lv_at hl 4 rfl) ?_
    refine lv_iload_n hx hcd dX5_wrongViewsOf_23 rfl (lv_at hl 1 rfl) ?_
    refine kr_cne (tgt := 30) hx hcd (by omega) (by omega) dX5_wrongViewsOf_24 (by decide) (fun (c_24 : ¬ i = a) => ?_) (fun (c_24 : i = a) => ?_)
    · refine lv_aload_n hx hcd dX5_wrongViewsOf_30 rfl (lv_at hl 0 rfl) ?_
      refine kr_get hx hcd hts uX5 hown hK hP 0 rfl rfl 1 (by decide) (by decide +kernel) (v := .ref (q 5)) rfl dX5_wrongViewsOf_31 ?_
      refine lv_iload_n hx hcd dX5_wrongViewsOf_34 rfl (lv_at hl 1 rfl) ?_
      refine lv_iload hx hcd dX5_wrongViewsOf_35 (lv_at hl 4 rfl) ?_
      refine lv_iconst (v := nI 1) hx hcd dX5_wrongViewsOf_37 (by decide) ?_
      refine kr_Vi (As := [.int (nI a), .int (nI i), .int (nI 1)]) (rest := []) (ws2 := wW cI q M) (q := (RX1, TX1, 3)) ⟨hx, hcd, hml, hown, hts⟩ (c_X1_hasAny l D cI cB cW cL q _ M a i 1 (by omega) (by omega)) (cwV 3 hts gX5_wrongViewsOf_X1_hasAny rfl rfl rfl (by decide +kernel) ⟨Nat.le_of_ble_eq_true rfl, Nat.le_of_ble_eq_true rfl⟩) hK hP hD hS hA [5, 6, 7, 8] wW_RoC (by decide) wRo_adr wW_Ro0 5 rfl rfl rfl hl.1 rfl (Nat.le_of_ble_eq_true rfl) dX5_wrongViewsOf_38 ⟨Nat.zero_le _, Nat.zero_le _⟩ (fun H locs hP hD hS => ?_)
      refine lv_istore (lv' := [(5, .int (kI (g_has M a i 1))), (0, .ref (q 0)), (1, .int (nI a)), (2, .int (kI (g_there M a))), (3, .int (nI (g_wrA M a i))), (4, .int (nI i))]) hx hcd dX5_wrongViewsOf_41 hl (by decide) rfl (fun ls hl => ?_)
      refine lv_iconst (v := nI 0) hx hcd dX5_wrongViewsOf_43 (by decide) ?_
      refine lv_istore (lv' := [(6, .int (nI 0)), (5, .int (kI (g_has M a i 1))), (0, .ref (q 0)), (1, .int (nI a)), (2, .int (kI (g_there M a))), (3, .int (nI (g_wrA M a i))), (4, .int (nI i))]) hx hcd dX5_wrongViewsOf_44 hl (by decide) rfl (fun ls hl => ?_)
      refine kr_up (fun j => wW cI q M) (fun j => [(0, .ref (q 0)), (1, .int (nI a)), (2, .int (kI (g_there M a))), (3, .int (nI (g_wrA M a i + g_wrR M a i j))), (4, .int (nI i)), (5, .int (kI (g_has M a i 1))), (6, .int (nI j))]) 3 (nL := 7) (fun j hj ih_46 H locs ls hP hD hS hl => ?_) (fun H locs ls hP hD hS hl => ?_) 0 (by omega) hP hD hS (lv_sub hl [2, 3, 4, 5, 6, 1, 0] rfl)
      · have hl : lv_has ls 7 [(0, .ref (q 0)), (1, .int (nI a)), (2, .int (kI (g_there M a))), (3, .int (nI (g_wrA M a i + g_wrR M a i j))), (4, .int (nI i)), (5, .int (kI (g_has M a i 1))), (6, .int (nI j))] := hl
        refine lv_iload hx hcd dX5_wrongViewsOf_46 (lv_at hl 6 rfl) ?_
        refine lv_iconst (v := nI 3) hx hcd dX5_wrongViewsOf_48 (by decide) ?_
        refine kr_cge (tgt := 87) hx hcd (by omega) (by omega) dX5_wrongViewsOf_49 (by decide) (fun (c_49 : 3 ≤ j) => absurd c_49 (by omega)) (fun (c_49 : j < 3) => ?_)
        refine lv_aload_n hx hcd dX5_wrongViewsOf_52 rfl (lv_at hl 0 rfl) ?_
        refine lv_aload_n hx hcd dX5_wrongViewsOf_53 rfl (lv_at hl 0 rfl) ?_
        refine kr_get hx hcd hts uX5 hown hK hP 0 rfl rfl 2 (by decide) (by decide +kernel) (v := .ref (q 9)) rfl dX5_wrongViewsOf_54 ?_
        refine lv_iload_n hx hcd dX5_wrongViewsOf_57 rfl (lv_at hl 1 rfl) ?_
        refine lv_iload hx hcd dX5_wrongViewsOf_58 (lv_at hl 4 rfl) ?_
        refine lv_iload hx hcd dX5_wrongViewsOf_60 (lv_at hl 6 rfl) ?_
        refine kr_Vi (As := [.int (nI a), .int (nI i), .int (nI j)]) (rest := [.ref (q 0)]) (ws2 := wW cI q M) (q := (RX4, TX4, 1)) ⟨hx, hcd, hml, hown, hts⟩ (c_X4_mood l D cI cB cW cL q _ M a i j (by omega) (by omega) (by omega)) (cwV 3 hts gX5_wrongViewsOf_X4_mood rfl rfl rfl (by decide +kernel) ⟨Nat.le_of_ble_eq_true rfl, Nat.le_of_ble_eq_true rfl⟩) hK hP hD hS hA [9, 10] wW_ViC (by decide) wVi_adr wW_Vi0 9 rfl rfl rfl hl.1 rfl (Nat.le_of_ble_eq_true rfl) dX5_wrongViewsOf_62 ⟨Nat.zero_le _, Nat.zero_le _⟩ (fun H locs hP hD hS => ?_)
        refine lv_iload hx hcd dX5_wrongViewsOf_65 (lv_at hl 4 rfl) ?_
        refine lv_iload hx hcd dX5_wrongViewsOf_67 (lv_at hl 6 rfl) ?_
        refine lv_iload hx hcd dX5_wrongViewsOf_69 (lv_at hl 5 rfl) ?_
        refine lv_iload_n hx hcd dX5_wrongViewsOf_71 rfl (lv_at hl 2 rfl) ?_
        refine kr_Vi (As := [.int (M (132 + 18 * a + 3 * i + j)), .int (nI i), .int (nI j), .int (kI (g_has M a i 1)), .int (kI (g_there M a))]) (rest := []) (ws2 := wW cI q M) (q := (RX5, TX5, 5)) ⟨hx, hcd, hml, hown, hts⟩ (c_X5_isWrong l D cI cB cW cL q _ M (M (132 + 18 * a + 3 * i + j)) i j (g_has M a i 1) (g_there M a) (by omega) (by omega)) (cwV 5 hts gX5_wrongViewsOf_X5_isWrong rfl rfl rfl (by decide +kernel) ⟨Nat.le_of_ble_eq_true rfl, Nat.le_of_ble_eq_true rfl⟩) hK hP hD hS hA [0, 1, 2, 3, 4, 5, 6, 7, 8, 9, 10, 11, 12, 13, 14] wW_allC (by decide) wW_adr wW_all 0 rfl rfl rfl hl.1 rfl (Nat.le_of_ble_eq_true rfl) dX5_wrongViewsOf_72 ⟨Nat.zero_le _, Nat.zero_le _⟩ (fun H locs hP hD hS => ?_)
        refine kr_beq (tgt := 81) hx hcd dX5_wrongViewsOf_75 (by decide) (fun (c_75 : g_iw (M (132 + 18 * a + 3 * i + j)) (g_on M i j) (g_has M a i 1) (g_there M a) (M (2 + 9 * i + 3 * j)) = false) => ?_) (fun (c_75 : g_iw (M (132 + 18 * a + 3 * i + j)) (g_on M i j) (g_has M a i 1) (g_there M a) (M (2 + 9 * i + 3 * j)) = true) => ?_)
        · refine kr_iinc (lv' := [(6, .int (nI (j + 1))), (0, .ref (q 0)), (1, .int (nI a)), (2, .int (kI (g_there M a))), (3, .int (nI (g_wrA M a i + g_wrR M a i j))), (4, .int (nI i)), (5, .int (kI (g_has M a i 1)))]) hx hcd dX5_wrongViewsOf_81 hl (k := 6) rfl (by decide) rfl (fun ls hl => ?_)
          refine lv_goto (tgt := 46) hx hcd dX5_wrongViewsOf_84 (by decide) ?_
          have hl : lv_has ls 7 [(0, .ref (q 0)), (1, .int (nI a)), (2, .int (kI (g_there M a))), (3, .int (nI (g_wrA M a i + g_wrR M a i j))), (4, .int (nI i)), (5, .int (kI (g_has M a i 1))), (6, .int (nI (j + 1)))] := lv_sub hl [1, 2, 3, 4, 5, 6, 0] rfl
          have e9 : ([(0, .ref (q 0)), (1, .int (nI a)), (2, .int (kI (g_there M a))), (3, .int (nI (g_wrA M a i + g_wrR M a i j))), (4, .int (nI i)), (5, .int (kI (g_has M a i 1))), (6, .int (nI (j + 1)))] : List (Nat × Value)) = [(0, .ref (q 0)), (1, .int (nI a)), (2, .int (kI (g_there M a))), (3, .int (nI (g_wrA M a i + g_wrR M a i (j + 1)))), (4, .int (nI i)), (5, .int (kI (g_has M a i 1))), (6, .int (nI (j + 1)))] := by first | (simp [g_wrR, c_18, c_24, c_49, c_75]; done) | (simp [g_wrR, c_18, c_24, c_49, c_75]; rfl)
          exact ih_46 H locs ls hP hD hS (e9 ▸ hl)
        · refine kr_iinc (lv' := [(3, .int (nI (g_wrA M a i + g_wrR M a i j + 1))), (0, .ref (q 0)), (1, .int (nI a)), (2, .int (kI (g_there M a))), (4, .int (nI i)), (5, .int (kI (g_has M a i 1))), (6, .int (nI j))]) hx hcd dX5_wrongViewsOf_78 hl (k := 3) rfl (by decide) rfl (fun ls hl => ?_)
          refine kr_iinc (lv' := [(6, .int (nI (j + 1))), (3, .int (nI (g_wrA M a i + g_wrR M a i j + 1))), (0, .ref (q 0)), (1, .int (nI a)), (2, .int (kI (g_there M a))), (4, .int (nI i)), (5, .int (kI (g_has M a i 1)))]) hx hcd dX5_wrongViewsOf_81 hl (k := 6) rfl (by decide) rfl (fun ls hl => ?_)
          refine lv_goto (tgt := 46) hx hcd dX5_wrongViewsOf_84 (by decide) ?_
          have hl : lv_has ls 7 [(0, .ref (q 0)), (1, .int (nI a)), (2, .int (kI (g_there M a))), (3, .int (nI (g_wrA M a i + g_wrR M a i j + 1))), (4, .int (nI i)), (5, .int (kI (g_has M a i 1))), (6, .int (nI (j + 1)))] := lv_sub hl [2, 3, 4, 1, 5, 6, 0] rfl
          have e9 : ([(0, .ref (q 0)), (1, .int (nI a)), (2, .int (kI (g_there M a))), (3, .int (nI (g_wrA M a i + g_wrR M a i j + 1))), (4, .int (nI i)), (5, .int (kI (g_has M a i 1))), (6, .int (nI (j + 1)))] : List (Nat × Value)) = [(0, .ref (q 0)), (1, .int (nI a)), (2, .int (kI (g_there M a))), (3, .int (nI (g_wrA M a i + g_wrR M a i (j + 1)))), (4, .int (nI i)), (5, .int (kI (g_has M a i 1))), (6, .int (nI (j + 1)))] := by first | (simp [g_wrR, c_18, c_24, c_49, c_75]; done) | (simp [g_wrR, c_18, c_24, c_49, c_75]; rfl)
          exact ih_46 H locs ls hP hD hS (e9 ▸ hl)
      · have hl : lv_has ls 7 [(0, .ref (q 0)), (1, .int (nI a)), (2, .int (kI (g_there M a))), (3, .int (nI (g_wrA M a i + g_wrR M a i 3))), (4, .int (nI i)), (5, .int (kI (g_has M a i 1))), (6, .int (nI 3))] := hl
        refine lv_iload hx hcd dX5_wrongViewsOf_46 (lv_at hl 6 rfl) ?_
        refine lv_iconst (v := nI 3) hx hcd dX5_wrongViewsOf_48 (by decide) ?_
        refine kr_cge (tgt := 87) hx hcd (by omega) (by omega) dX5_wrongViewsOf_49 (by decide) (fun (c_49 : 3 ≤ 3) => ?_) (fun (c_49 : 3 < 3) => absurd c_49 (by omega))
        refine kr_iinc (lv' := [(4, .int (nI (i + 1))), (0, .ref (q 0)), (1, .int (nI a)), (2, .int (kI (g_there M a))), (3, .int (nI (g_wrA M a i + g_wrR M a i 3))), (5, .int (kI (g_has M a i 1))), (6, .int (nI 3))]) hx hcd dX5_wrongViewsOf_87 hl (k := 4) rfl (by decide) rfl (fun ls hl => ?_)
        refine lv_goto (tgt := 14) hx hcd dX5_wrongViewsOf_90 (by decide) ?_
        have hl : lv_has ls 7 [(0, .ref (q 0)), (1, .int (nI a)), (2, .int (kI (g_there M a))), (3, .int (nI (g_wrA M a i + g_wrR M a i 3))), (4, .int (nI (i + 1)))] := lv_sub hl [1, 2, 3, 4, 0] rfl
        have e9 : ([(0, .ref (q 0)), (1, .int (nI a)), (2, .int (kI (g_there M a))), (3, .int (nI (g_wrA M a i + g_wrR M a i 3))), (4, .int (nI (i + 1)))] : List (Nat × Value)) = [(0, .ref (q 0)), (1, .int (nI a)), (2, .int (kI (g_there M a))), (3, .int (nI (g_wrA M a (i + 1)))), (4, .int (nI (i + 1)))] := by simp [g_wrA, c_18, c_24, c_49]
        exact ih_14 H locs ls hP hD hS (e9 ▸ hl)
    · refine lv_goto (tgt := 87) hx hcd dX5_wrongViewsOf_27 (by decide) ?_
      refine kr_iinc (lv' := [(4, .int (nI (i + 1))), (0, .ref (q 0)), (1, .int (nI a)), (2, .int (kI (g_there M a))), (3, .int (nI (g_wrA M a i)))]) hx hcd dX5_wrongViewsOf_87 hl (k := 4) rfl (by decide) rfl (fun ls hl => ?_)
      refine lv_goto (tgt := 14) hx hcd dX5_wrongViewsOf_90 (by decide) ?_
      have hl : lv_has ls 7 [(0, .ref (q 0)), (1, .int (nI a)), (2, .int (kI (g_there M a))), (3, .int (nI (g_wrA M a i))), (4, .int (nI (i + 1)))] := lv_sub hl [1, 2, 3, 4, 0] rfl
      have e9 : ([(0, .ref (q 0)), (1, .int (nI a)), (2, .int (kI (g_there M a))), (3, .int (nI (g_wrA M a i))), (4, .int (nI (i + 1)))] : List (Nat × Value)) = [(0, .ref (q 0)), (1, .int (nI a)), (2, .int (kI (g_there M a))), (3, .int (nI (g_wrA M a (i + 1)))), (4, .int (nI (i + 1)))] := by simp [g_wrA, c_18, c_24]
      exact ih_14 H locs ls hP hD hS (e9 ▸ hl)
  · have hl : lv_has ls 7 [(0, .ref (q 0)), (1, .int (nI a)), (2, .int (kI (g_there M a))), (3, .int (nI (g_wrA M a 6))), (4, .int (nI 6))] := hl
    refine lv_iload hx hcd dX5_wrongViewsOf_14 (lv_at hl 4 rfl) ?_
    refine lv_bipush (v := nI 6) hx hcd dX5_wrongViewsOf_16 (by decide) ?_
    refine kr_cge (tgt := 93) hx hcd (by omega) (by omega) dX5_wrongViewsOf_18 (by decide) (fun (c_18 : 6 ≤ 6) => ?_) (fun (c_18 : 6 < 6) => absurd c_18 (by omega))
    refine lv_iload_n hx hcd dX5_wrongViewsOf_93 rfl (lv_at hl 3 rfl) ?_
    exact kr_iret hx hcd hr hlocks hK hP hD hS rfl rfl dX5_wrongViewsOf_94
