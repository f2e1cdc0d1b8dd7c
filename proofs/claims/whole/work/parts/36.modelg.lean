set_option maxHeartbeats 4000000 in
set_option maxRecDepth 100000 in
theorem c_X7_bestSeat__ok (l : Launch) (D : va_G) (cI cB cW cL : ClassId) (z : Nat → Nat) (x : Nat → Int32) (hh : Int64) (sz : Nat) (M : kM) (a : Nat) (ha : a < 6) : kMi l yX7_bestSeat wsX7_bestSeat ({ frames := 2, cells := 0, slots := 0, locals := 43 }) D vwCl (kT cI cB cW cL) sz [.ref (z 0), .int (nI a)] (wMo cI z x hh M) (wMo cI z (xu x 7 0) hh M) ((g_bst M a 3).1) := by
  refine kr_ofi (cc := cX7_bestSeat) (maxL := 6) (ret := (some .int)) (by decide) rfl (Nat.le_of_ble_eq_true rfl) ?_
  intro pp ee ss mm args below meth cc AA ls hx hcd hr hts hown hlocks hml hK hP hD hA hl
  have hS : va_S AA ss.heap ss.heap [] := va_S.rf
  have hown : ss.vm.findClass RX7 = some mm.cls := hown
  have hl : lv_has ls 6 [(0, .ref (z 0)), (1, .int (nI a))] := hl
  have uX7 : ∀ w ∈ u_ws RX7 TX7 10, w ∈ wsX7_bestSeat := by decide +kernel
  refine lv_aload_n hx hcd dX7_bestSeat_0 rfl (lv_at hl 0 rfl) ?_
  refine lv_iload_n hx hcd dX7_bestSeat_1 rfl (lv_at hl 1 rfl) ?_
  refine kr_Si (As := [.int (nI a)]) (rest := [.ref (z 0)]) (ws2 := wMo cI z x hh M) ⟨hx, hcd, hml, hown, hts⟩ (c_X7_isUser l D cI cB cW cL  _ M (nI a)) (va_cwS 1 hts gX7_bestSeat_X7_isUser rfl rfl rfl (by decide +kernel) ⟨Nat.le_of_ble_eq_true rfl, Nat.le_of_ble_eq_true rfl⟩) hK hP hD hS hA [] rfl (by decide) rfl rfl rfl hl.1 rfl (Nat.le_of_ble_eq_true rfl) dX7_bestSeat_2 ⟨Nat.zero_le _, Nat.zero_le _⟩ (fun H locs hP hD hS => ?_)
  refine kr_top (w := nI 1) (kI_is (usr_ok ha) rfl) ?_
  refine kr_zeq (tgt := 12) hx hcd (by omega) dX7_bestSeat_5 (by decide) (fun (c_5 : 1 = 0) => absurd c_5 (by omega)) (fun (c_5 : 0 < 1) => ?_)
  refine lv_iconst (v := nI 0) hx hcd dX7_bestSeat_8 (by decide) ?_
  refine lv_goto (tgt := 13) hx hcd dX7_bestSeat_9 (by decide) ?_
  refine kr_put hx hcd hts uX7 tyX7 tyX7_ok nmX7 hown hK hP hD hS 0 rfl rfl 7 (by decide) (by decide +kernel) rfl rfl rfl (ws2 := wMo cI z (xu x 7 0) hh M) rfl dX7_bestSeat_13 (fun H locs hP hD hS => ?_)
  refine lv_aload_n hx hcd dX7_bestSeat_16 rfl (lv_at hl 0 rfl) ?_
  refine kr_get hx hcd hts uX7 hown hK hP 0 rfl rfl 7 (by decide) (by decide +kernel) (v := .int 0) rfl dX7_bestSeat_17 ?_
  refine kr_top (w := nI 0) rfl ?_
  refine kr_zeq (tgt := 25) hx hcd (by omega) dX7_bestSeat_20 (by decide) (fun (c_20 : 0 = 0) => ?_) (fun (c_20 : 0 < 0) => absurd c_20 (by omega))
  refine lv_iconst (v := (-1)) hx hcd dX7_bestSeat_25 (by decide) ?_
  refine lv_istore_n (lv' := [(2, .int (-1)), (0, .ref (z 0)), (1, .int (nI a))]) hx hcd dX7_bestSeat_26 rfl hl (by decide) rfl (fun ls hl => ?_)
  refine lv_iconst (v := (-1)) hx hcd dX7_bestSeat_27 (by decide) ?_
  refine lv_istore_n (lv' := [(3, .int (-1)), (2, .int (-1)), (0, .ref (z 0)), (1, .int (nI a))]) hx hcd dX7_bestSeat_28 rfl hl (by decide) rfl (fun ls hl => ?_)
  refine lv_iconst (v := nI 0) hx hcd dX7_bestSeat_29 (by decide) ?_
  refine lv_istore (lv' := [(4, .int (nI 0)), (3, .int (-1)), (2, .int (-1)), (0, .ref (z 0)), (1, .int (nI a))]) hx hcd dX7_bestSeat_30 hl (by decide) rfl (fun ls hl => ?_)
  refine kr_up (fun i => wMo cI z (xu x 7 0) hh M) (fun i => [(0, .ref (z 0)), (1, .int (nI a)), (2, .int ((g_bst M a i).1)), (3, .int ((g_bst M a i).2)), (4, .int (nI i))]) 3 (nL := 6) (fun i hi ih_32 H locs ls hP hD hS hl => ?_) (fun H locs ls hP hD hS hl => ?_) 0 (by omega) hP hD hS (lv_sub hl [3, 4, 2, 1, 0] rfl)
  · have hl : lv_has ls 6 [(0, .ref (z 0)), (1, .int (nI a)), (2, .int ((g_bst M a i).1)), (3, .int ((g_bst M a i).2)), (4, .int (nI i))] := hl
    refine lv_iload hx hcd dX7_bestSeat_32 (lv_at hl 4 rfl) ?_
    refine lv_iconst (v := nI 3) hx hcd dX7_bestSeat_34 (by decide) ?_
    refine kr_cge (tgt := 86) hx hcd (by omega) (by omega) dX7_bestSeat_35 (by decide) (fun (c_35 : 3 ≤ i) => absurd c_35 (by omega)) (fun (c_35 : i < 3) => ?_)
    refine lv_aload_n hx hcd dX7_bestSeat_38 rfl (lv_at hl 0 rfl) ?_
    refine kr_get hx hcd hts uX7 hown hK hP 0 rfl rfl 0 (by decide) (by decide +kernel) (v := .ref (z 1)) rfl dX7_bestSeat_39 ?_
    refine lv_iload_n hx hcd dX7_bestSeat_42 rfl (lv_at hl 1 rfl) ?_
    refine lv_iload hx hcd dX7_bestSeat_43 (lv_at hl 4 rfl) ?_
    refine kr_Si (As := [.int (nI a), .int (nI i)]) (rest := [.ref (z 1)]) (ws2 := wMo cI z (xu x 7 0) hh M) ⟨hx, hcd, hml, hown, hts⟩ (c_X7_seatCell l D cI cB cW cL  _ M a i) (va_cwS 2 hts gX7_bestSeat_X7_seatCell rfl rfl rfl (by decide +kernel) ⟨Nat.le_of_ble_eq_true rfl, Nat.le_of_ble_eq_true rfl⟩) hK hP hD hS hA [] rfl (by decide) rfl rfl rfl hl.1 rfl (Nat.le_of_ble_eq_true rfl) dX7_bestSeat_45 ⟨Nat.zero_le _, Nat.zero_le _⟩ (fun H locs hP hD hS => ?_)
    refine lv_iconst (v := nI 1) hx hcd dX7_bestSeat_48 (by decide) ?_
    refine kr_add hx hcd dX7_bestSeat_49 ?_
    refine kr_iald hx hcd hK hP 1 0 rfl rfl (v := M (1 + 9 * a + 3 * i)) (by omega) (by decide) (congrArg M (by omega)) dX7_bestSeat_50 ?_
    refine lv_istore (lv' := [(5, .int (M (1 + 9 * a + 3 * i))), (0, .ref (z 0)), (1, .int (nI a)), (2, .int ((g_bst M a i).1)), (3, .int ((g_bst M a i).2)), (4, .int (nI i))]) hx hcd dX7_bestSeat_51 hl (by decide) rfl (fun ls hl => ?_)
    refine lv_aload_n hx hcd dX7_bestSeat_53 rfl (lv_at hl 1 rfl) ?_
    refine lv_iload_n hx hcd dX7_bestSeat_54 rfl (lv_at hl 2 rfl) ?_
    refine lv_iload hx hcd dX7_bestSeat_55 (lv_at hl 5 rfl) ?_
    refine kr_Vi (As := [.int (nI a), .int (nI i)]) (rest := []) (ws2 := wMo cI z (xu x 7 0) hh M) (q := (RX7, TX7, 10)) ⟨hx, hcd, hml, hown, hts⟩ (c_X7_isOn l D cI cB cW cL z (xu x 7 0) hh _ M a i (by omega) (by omega)) (cwV 2 hts gX7_bestSeat_X7_isOn rfl rfl rfl (by decide +kernel) ⟨Nat.le_of_ble_eq_true rfl, Nat.le_of_ble_eq_true rfl⟩) hK hP hD hS hA [0, 1] wMo_allC (by decide) wMo_adr wMo_all 0 rfl rfl rfl hl.1 rfl (Nat.le_of_ble_eq_true rfl) dX7_bestSeat_57 ⟨Nat.zero_le _, Nat.zero_le _⟩ (fun H locs hP hD hS => ?_)
    refine kr_beq (tgt := 80) hx hcd dX7_bestSeat_60 (by decide) (fun (c_60 : g_on M a i = false) => ?_) (fun (c_60 : g_on M a i = true) => ?_)
    · refine kr_iinc (lv' := [(4, .int (nI (i + 1))), (5, .int (M (1 + 9 * a + 3 * i))), (0, .ref (z 0)), (1, .int (nI a)), (2, .int ((g_bst M a i).1)), (3, .int ((g_bst M a i).2))]) hx hcd dX7_bestSeat_80 hl (k := 5) rfl (by decide) rfl (fun ls hl => ?_)
      refine lv_goto (tgt := 32) hx hcd dX7_bestSeat_83 (by decide) ?_
      have hl : lv_has ls 6 [(0, .ref (z 0)), (1, .int (nI a)), (2, .int ((g_bst M a i).1)), (3, .int ((g_bst M a i).2)), (4, .int (nI (i + 1)))] := lv_sub hl [2, 3, 4, 5, 0] rfl
      have e9 : ([(0, .ref (z 0)), (1, .int (nI a)), (2, .int ((g_bst M a i).1)), (3, .int ((g_bst M a i).2)), (4, .int (nI (i + 1)))] : List (Nat × Value)) = [(0, .ref (z 0)), (1, .int (nI a)), (2, .int ((g_bst M a (i + 1)).1)), (3, .int ((g_bst M a (i + 1)).2)), (4, .int (nI (i + 1)))] := by first | (simp [g_bst, c_5, c_20, c_35, c_60]; done) | (simp [g_bst, c_60, bst_neg c_65]; done)
      exact ih_32 H locs ls hP hD hS (e9 ▸ hl)
    · refine lv_iload hx hcd dX7_bestSeat_63 (lv_at hl 0 rfl) ?_
      refine lv_if_lt (tgt := 80) hx hcd dX7_bestSeat_65 (by decide) (fun (c_65 : (M (1 + 9 * a + 3 * i)) < 0) => ?_) (fun (c_65 : ¬ (M (1 + 9 * a + 3 * i)) < 0) => ?_)
      · refine kr_iinc (lv' := [(4, .int (nI (i + 1))), (5, .int (M (1 + 9 * a + 3 * i))), (0, .ref (z 0)), (1, .int (nI a)), (2, .int ((g_bst M a i).1)), (3, .int ((g_bst M a i).2))]) hx hcd dX7_bestSeat_80 hl (k := 5) rfl (by decide) rfl (fun ls hl => ?_)
        refine lv_goto (tgt := 32) hx hcd dX7_bestSeat_83 (by decide) ?_
        have hl : lv_has ls 6 [(0, .ref (z 0)), (1, .int (nI a)), (2, .int ((g_bst M a i).1)), (3, .int ((g_bst M a i).2)), (4, .int (nI (i + 1)))] := lv_sub hl [2, 3, 4, 5, 0] rfl
        have e9 : ([(0, .ref (z 0)), (1, .int (nI a)), (2, .int ((g_bst M a i).1)), (3, .int ((g_bst M a i).2)), (4, .int (nI (i + 1)))] : List (Nat × Value)) = [(0, .ref (z 0)), (1, .int (nI a)), (2, .int ((g_bst M a (i + 1)).1)), (3, .int ((g_bst M a (i + 1)).2)), (4, .int (nI (i + 1)))] := by first | (simp [g_bst, c_5, c_20, c_35, c_60, c_65]; done) | (simp [g_bst, c_60, bst_neg c_65]; done)
        exact ih_32 H locs ls hP hD hS (e9 ▸ hl)
      · refine lv_iload hx hcd dX7_bestSeat_68 (lv_at hl 0 rfl) ?_
        refine lv_iload_n hx hcd dX7_bestSeat_70 rfl (lv_at hl 4 rfl) ?_
        refine lv_icmp_le (tgt := 80) hx hcd dX7_bestSeat_71 (by decide) (fun (c_71 : (M (1 + 9 * a + 3 * i)) ≤ ((g_bst M a i).2)) => ?_) (fun (c_71 : ¬ (M (1 + 9 * a + 3 * i)) ≤ ((g_bst M a i).2)) => ?_)
        · refine kr_iinc (lv' := [(4, .int (nI (i + 1))), (5, .int (M (1 + 9 * a + 3 * i))), (0, .ref (z 0)), (1, .int (nI a)), (2, .int ((g_bst M a i).1)), (3, .int ((g_bst M a i).2))]) hx hcd dX7_bestSeat_80 hl (k := 5) rfl (by decide) rfl (fun ls hl => ?_)
          refine lv_goto (tgt := 32) hx hcd dX7_bestSeat_83 (by decide) ?_
          have hl : lv_has ls 6 [(0, .ref (z 0)), (1, .int (nI a)), (2, .int ((g_bst M a i).1)), (3, .int ((g_bst M a i).2)), (4, .int (nI (i + 1)))] := lv_sub hl [2, 3, 4, 5, 0] rfl
          have e9 : ([(0, .ref (z 0)), (1, .int (nI a)), (2, .int ((g_bst M a i).1)), (3, .int ((g_bst M a i).2)), (4, .int (nI (i + 1)))] : List (Nat × Value)) = [(0, .ref (z 0)), (1, .int (nI a)), (2, .int ((g_bst M a (i + 1)).1)), (3, .int ((g_bst M a (i + 1)).2)), (4, .int (nI (i + 1)))] := by first | (simp [g_bst, c_5, c_20, c_35, c_60, c_65, c_71]; done) | (simp [g_bst, c_60, bst_neg c_65]; done)
          exact ih_32 H locs ls hP hD hS (e9 ▸ hl)
        · refine lv_iload hx hcd dX7_bestSeat_74 (lv_at hl 5 rfl) ?_
          refine lv_istore_n (lv' := [(2, .int (nI i)), (5, .int (M (1 + 9 * a + 3 * i))), (0, .ref (z 0)), (1, .int (nI a)), (3, .int ((g_bst M a i).2)), (4, .int (nI i))]) hx hcd dX7_bestSeat_76 rfl hl (by decide) rfl (fun ls hl => ?_)
          refine lv_iload hx hcd dX7_bestSeat_77 (lv_at hl 1 rfl) ?_
          refine lv_istore_n (lv' := [(3, .int (M (1 + 9 * a + 3 * i))), (2, .int (nI i)), (5, .int (M (1 + 9 * a + 3 * i))), (0, .ref (z 0)), (1, .int (nI a)), (4, .int (nI i))]) hx hcd dX7_bestSeat_79 rfl hl (by decide) rfl (fun ls hl => ?_)
          refine kr_iinc (lv' := [(4, .int (nI (i + 1))), (3, .int (M (1 + 9 * a + 3 * i))), (2, .int (nI i)), (5, .int (M (1 + 9 * a + 3 * i))), (0, .ref (z 0)), (1, .int (nI a))]) hx hcd dX7_bestSeat_80 hl (k := 5) rfl (by decide) rfl (fun ls hl => ?_)
          refine lv_goto (tgt := 32) hx hcd dX7_bestSeat_83 (by decide) ?_
          have hl : lv_has ls 6 [(0, .ref (z 0)), (1, .int (nI a)), (2, .int (nI i)), (3, .int (M (1 + 9 * a + 3 * i))), (4, .int (nI (i + 1)))] := lv_sub hl [4, 5, 2, 1, 0] rfl
          have e9 : ([(0, .ref (z 0)), (1, .int (nI a)), (2, .int (nI i)), (3, .int (M (1 + 9 * a + 3 * i))), (4, .int (nI (i + 1)))] : List (Nat × Value)) = [(0, .ref (z 0)), (1, .int (nI a)), (2, .int ((g_bst M a (i + 1)).1)), (3, .int ((g_bst M a (i + 1)).2)), (4, .int (nI (i + 1)))] := by first | (simp [g_bst, c_5, c_20, c_35, c_60, c_65, c_71]; done) | (simp [g_bst, c_60, bst_neg c_65]; done)
          exact ih_32 H locs ls hP hD hS (e9 ▸ hl)
  · have hl : lv_has ls 6 [(0, .ref (z 0)), (1, .int (nI a)), (2, .int ((g_bst M a 3).1)), (3, .int ((g_bst M a 3).2)), (4, .int (nI 3))] := hl
    refine lv_iload hx hcd dX7_bestSeat_32 (lv_at hl 4 rfl) ?_
    refine lv_iconst (v := nI 3) hx hcd dX7_bestSeat_34 (by decide) ?_
    refine kr_cge (tgt := 86) hx hcd (by omega) (by omega) dX7_bestSeat_35 (by decide) (fun (c_35 : 3 ≤ 3) => ?_) (fun (c_35 : 3 < 3) => absurd c_35 (by omega))
    refine lv_iload_n hx hcd dX7_bestSeat_86 rfl (lv_at hl 2 rfl) ?_
    exact kr_iret hx hcd hr hlocks hK hP hD hS rfl rfl dX7_bestSeat_87

set_option maxHeartbeats 4000000 in
set_option maxRecDepth 100000 in
theorem c_X7_bestSeat__b1 (l : Launch) (D : va_G) (cI cB cW cL : ClassId) (z : Nat → Nat) (x : Nat → Int32) (hh : Int64) (sz : Nat) (M : kM) (u : Int32) (g0 : g_usr u = false) : kMi l yX7_bestSeat wsX7_bestSeat ({ frames := 2, cells := 0, slots := 0, locals := 42 }) D vwCl (kT cI cB cW cL) sz [.ref (z 0), .int u] (wMo cI z x hh M) (wMo cI z (xu x 7 1) hh M) 0 := by
  refine kr_ofi (cc := cX7_bestSeat) (maxL := 6) (ret := (some .int)) (by decide) rfl (Nat.le_of_ble_eq_true rfl) ?_
  intro pp ee ss mm args below meth cc AA ls hx hcd hr hts hown hlocks hml hK hP hD hA hl
  have hS : va_S AA ss.heap ss.heap [] := va_S.rf
  have hown : ss.vm.findClass RX7 = some mm.cls := hown
  have hl : lv_has ls 6 [(0, .ref (z 0)), (1, .int u)] := hl
  have uX7 : ∀ w ∈ u_ws RX7 TX7 10, w ∈ wsX7_bestSeat := by decide +kernel
  refine lv_aload_n hx hcd dX7_bestSeat_0 rfl (lv_at hl 0 rfl) ?_
  refine lv_iload_n hx hcd dX7_bestSeat_1 rfl (lv_at hl 1 rfl) ?_
  refine kr_Si (As := [.int u]) (rest := [.ref (z 0)]) (ws2 := wMo cI z x hh M) ⟨hx, hcd, hml, hown, hts⟩ (c_X7_isUser l D cI cB cW cL  _ M u) (va_cwS 1 hts gX7_bestSeat_X7_isUser rfl rfl rfl (by decide +kernel) ⟨Nat.le_of_ble_eq_true rfl, Nat.le_of_ble_eq_true rfl⟩) hK hP hD hS hA [] rfl (by decide) rfl rfl rfl hl.1 rfl (Nat.le_of_ble_eq_true rfl) dX7_bestSeat_2 ⟨Nat.zero_le _, Nat.zero_le _⟩ (fun H locs hP hD hS => ?_)
  refine kr_top (w := nI 0) (kI_no g0 rfl) ?_
  refine kr_zeq (tgt := 12) hx hcd (by omega) dX7_bestSeat_5 (by decide) (fun (c_5 : 0 = 0) => ?_) (fun (c_5 : 0 < 0) => absurd c_5 (by omega))
  refine lv_iconst (v := nI 1) hx hcd dX7_bestSeat_12 (by decide) ?_
  refine kr_put hx hcd hts uX7 tyX7 tyX7_ok nmX7 hown hK hP hD hS 0 rfl rfl 7 (by decide) (by decide +kernel) rfl rfl rfl (ws2 := wMo cI z (xu x 7 1) hh M) rfl dX7_bestSeat_13 (fun H locs hP hD hS => ?_)
  refine lv_aload_n hx hcd dX7_bestSeat_16 rfl (lv_at hl 0 rfl) ?_
  refine kr_get hx hcd hts uX7 hown hK hP 0 rfl rfl 7 (by decide) (by decide +kernel) (v := .int 1) rfl dX7_bestSeat_17 ?_
  refine kr_top (w := nI 1) rfl ?_
  refine kr_zeq (tgt := 25) hx hcd (by omega) dX7_bestSeat_20 (by decide) (fun (c_20 : 1 = 0) => absurd c_20 (by omega)) (fun (c_20 : 0 < 1) => ?_)
  refine lv_iconst (v := nI 0) hx hcd dX7_bestSeat_23 (by decide) ?_
  exact kr_iret hx hcd hr hlocks hK hP hD hS rfl rfl dX7_bestSeat_24

set_option maxHeartbeats 4000000 in
set_option maxRecDepth 100000 in
theorem c_X7_seat__ok (l : Launch) (D : va_G) (cI cB cW cL : ClassId) (z : Nat → Nat) (x : Nat → Int32) (hh : Int64) (sz : Nat) (M : kM) (a : Nat) (s : Nat) (wh : Nat) (ha : a < 6) (hs : s < 3) (hwh : wh < 3) : kMi l yX7_seat wsX7_seat ({ frames := 3, cells := 0, slots := 0, locals := 63 }) D vwCl (kT cI cB cW cL) sz [.ref (z 0), .int (nI a), .int (nI s), .int (nI wh)] (wMo cI z x hh M) (wMo cI z (xu x 7 0) hh M) (M (9 * a + 3 * s + wh)) := by
  refine kr_ofi (cc := cX7_seat) (maxL := 4) (ret := (some .int)) (by decide) rfl (Nat.le_of_ble_eq_true rfl) ?_
  intro pp ee ss mm args below meth cc AA ls hx hcd hr hts hown hlocks hml hK hP hD hA hl
  have hS : va_S AA ss.heap ss.heap [] := va_S.rf
  have hown : ss.vm.findClass RX7 = some mm.cls := hown
  have hl : lv_has ls 4 [(0, .ref (z 0)), (1, .int (nI a)), (2, .int (nI s)), (3, .int (nI wh))] := hl
  have uX7 : ∀ w ∈ u_ws RX7 TX7 10, w ∈ wsX7_seat := by decide +kernel
  refine lv_aload_n hx hcd dX7_seat_0 rfl (lv_at hl 0 rfl) ?_
  refine lv_iload_n hx hcd dX7_seat_1 rfl (lv_at hl 1 rfl) ?_
  refine lv_iload_n hx hcd dX7_seat_2 rfl (lv_at hl 2 rfl) ?_
  refine kr_Si (As := [.int (nI a), .int (nI s)]) (rest := [.ref (z 0)]) (ws2 := wMo cI z x hh M) ⟨hx, hcd, hml, hown, hts⟩ (c_X7_isSeat l D cI cB cW cL  _ M (nI a) (nI s)) (va_cwS 2 hts gX7_seat_X7_isSeat rfl rfl rfl (by decide +kernel) ⟨Nat.le_of_ble_eq_true rfl, Nat.le_of_ble_eq_true rfl⟩) hK hP hD hS hA [] rfl (by decide) rfl rfl rfl hl.1 rfl (Nat.le_of_ble_eq_true rfl) dX7_seat_3 ⟨Nat.zero_le _, Nat.zero_le _⟩ (fun H locs hP hD hS => ?_)
  refine kr_top (w := nI 1) (kI_is (seat_ok ha hs) rfl) ?_
  refine kr_zne (tgt := 13) hx hcd (by omega) dX7_seat_6 (by decide) (fun (c_6 : 0 < 1) => ?_) (fun (c_6 : 1 = 0) => absurd c_6 (by omega))
  refine lv_iload_n hx hcd dX7_seat_13 rfl (lv_at hl 3 rfl) ?_
  refine lv_iconst (v := nI 0) hx hcd dX7_seat_14 (by decide) ?_
  refine lv_iconst (v := nI 2) hx hcd dX7_seat_15 (by decide) ?_
  refine kr_Si (As := [.int (nI wh), .int (nI 0), .int (nI 2)]) (rest := [.ref (z 0)]) (ws2 := wMo cI z x hh M) ⟨hx, hcd, hml, hown, hts⟩ (c_X7_in l D cI cB cW cL  _ M (nI wh) 0 2) (va_cwS 3 hts gX7_seat_X7_in rfl rfl rfl (by decide +kernel) ⟨Nat.le_of_ble_eq_true rfl, Nat.le_of_ble_eq_true rfl⟩) hK hP hD hS hA [] rfl (by decide) rfl rfl rfl hl.1 rfl (Nat.le_of_ble_eq_true rfl) dX7_seat_16 ⟨Nat.zero_le _, Nat.zero_le _⟩ (fun H locs hP hD hS => ?_)
  refine kr_top (w := nI 1) (kI_is (in_ok (lo := 0) (hi := 2) (by omega) (by omega) (by omega)) rfl) ?_
  refine kr_zeq (tgt := 26) hx hcd (by omega) dX7_seat_19 (by decide) (fun (c_19 : 1 = 0) => absurd c_19 (by omega)) (fun (c_19 : 0 < 1) => ?_)
  refine lv_iconst (v := nI 0) hx hcd dX7_seat_22 (by decide) ?_
  refine lv_goto (tgt := 27) hx hcd dX7_seat_23 (by decide) ?_
  refine kr_put hx hcd hts uX7 tyX7 tyX7_ok nmX7 hown hK hP hD hS 0 rfl rfl 7 (by decide) (by decide +kernel) rfl rfl rfl (ws2 := wMo cI z (xu x 7 0) hh M) rfl dX7_seat_27 (fun H locs hP hD hS => ?_)
  refine lv_aload_n hx hcd dX7_seat_30 rfl (lv_at hl 0 rfl) ?_
  refine kr_get hx hcd hts uX7 hown hK hP 0 rfl rfl 7 (by decide) (by decide +kernel) (v := .int 0) rfl dX7_seat_31 ?_
  refine kr_top (w := nI 0) rfl ?_
  refine kr_zeq (tgt := 41) hx hcd (by omega) dX7_seat_34 (by decide) (fun (c_34 : 0 = 0) => ?_) (fun (c_34 : 0 < 0) => absurd c_34 (by omega))
  refine lv_aload_n hx hcd dX7_seat_41 rfl (lv_at hl 0 rfl) ?_
  refine kr_get hx hcd hts uX7 hown hK hP 0 rfl rfl 0 (by decide) (by decide +kernel) (v := .ref (z 1)) rfl dX7_seat_42 ?_
  refine lv_iload_n hx hcd dX7_seat_45 rfl (lv_at hl 1 rfl) ?_
  refine lv_iload_n hx hcd dX7_seat_46 rfl (lv_at hl 2 rfl) ?_
  refine kr_Si (As := [.int (nI a), .int (nI s)]) (rest := [.ref (z 1)]) (ws2 := wMo cI z (xu x 7 0) hh M) ⟨hx, hcd, hml, hown, hts⟩ (c_X7_seatCell l D cI cB cW cL  _ M a s) (va_cwS 2 hts gX7_seat_X7_seatCell rfl rfl rfl (by decide +kernel) ⟨Nat.le_of_ble_eq_true rfl, Nat.le_of_ble_eq_true rfl⟩) hK hP hD hS hA [] rfl (by decide) rfl rfl rfl hl.1 rfl (Nat.le_of_ble_eq_true rfl) dX7_seat_47 ⟨Nat.zero_le _, Nat.zero_le _⟩ (fun H locs hP hD hS => ?_)
  refine lv_iload_n hx hcd dX7_seat_50 rfl (lv_at hl 3 rfl) ?_
  refine kr_add hx hcd dX7_seat_51 ?_
  refine kr_iald hx hcd hK hP 1 0 rfl rfl (v := M (9 * a + 3 * s + wh)) (by omega) (by decide) (congrArg M (by omega)) dX7_seat_52 ?_
  exact kr_iret hx hcd hr hlocks hK hP hD hS rfl rfl dX7_seat_53

set_option maxHeartbeats 4000000 in
set_option maxRecDepth 100000 in
theorem c_X7_seat__b1 (l : Launch) (D : va_G) (cI cB cW cL : ClassId) (z : Nat → Nat) (x : Nat → Int32) (hh : Int64) (sz : Nat) (M : kM) (u : Int32) (w : Int32) (t : Int32) (g0 : g_seatok u w = false) : kMi l yX7_seat wsX7_seat ({ frames := 3, cells := 0, slots := 0, locals := 63 }) D vwCl (kT cI cB cW cL) sz [.ref (z 0), .int u, .int w, .int t] (wMo cI z x hh M) (wMo cI z (xu x 7 1) hh M) 0 := by
  refine kr_ofi (cc := cX7_seat) (maxL := 4) (ret := (some .int)) (by decide) rfl (Nat.le_of_ble_eq_true rfl) ?_
  intro pp ee ss mm args below meth cc AA ls hx hcd hr hts hown hlocks hml hK hP hD hA hl
  have hS : va_S AA ss.heap ss.heap [] := va_S.rf
  have hown : ss.vm.findClass RX7 = some mm.cls := hown
  have hl : lv_has ls 4 [(0, .ref (z 0)), (1, .int u), (2, .int w), (3, .int t)] := hl
  have uX7 : ∀ w ∈ u_ws RX7 TX7 10, w ∈ wsX7_seat := by decide +kernel
  refine lv_aload_n hx hcd dX7_seat_0 rfl (lv_at hl 0 rfl) ?_
  refine lv_iload_n hx hcd dX7_seat_1 rfl (lv_at hl 1 rfl) ?_
  refine lv_iload_n hx hcd dX7_seat_2 rfl (lv_at hl 2 rfl) ?_
  refine kr_Si (As := [.int u, .int w]) (rest := [.ref (z 0)]) (ws2 := wMo cI z x hh M) ⟨hx, hcd, hml, hown, hts⟩ (c_X7_isSeat l D cI cB cW cL  _ M u w) (va_cwS 2 hts gX7_seat_X7_isSeat rfl rfl rfl (by decide +kernel) ⟨Nat.le_of_ble_eq_true rfl, Nat.le_of_ble_eq_true rfl⟩) hK hP hD hS hA [] rfl (by decide) rfl rfl rfl hl.1 rfl (Nat.le_of_ble_eq_true rfl) dX7_seat_3 ⟨Nat.zero_le _, Nat.zero_le _⟩ (fun H locs hP hD hS => ?_)
  refine kr_top (w := nI 0) (kI_no g0 rfl) ?_
  refine kr_zne (tgt := 13) hx hcd (by omega) dX7_seat_6 (by decide) (fun (c_6 : 0 < 0) => absurd c_6 (by omega)) (fun (c_6 : 0 = 0) => ?_)
  refine lv_iconst (v := nI 1) hx hcd dX7_seat_9 (by decide) ?_
  refine lv_goto (tgt := 27) hx hcd dX7_seat_10 (by decide) ?_
  refine kr_put hx hcd hts uX7 tyX7 tyX7_ok nmX7 hown hK hP hD hS 0 rfl rfl 7 (by decide) (by decide +kernel) rfl rfl rfl (ws2 := wMo cI z (xu x 7 1) hh M) rfl dX7_seat_27 (fun H locs hP hD hS => ?_)
  refine lv_aload_n hx hcd dX7_seat_30 rfl (lv_at hl 0 rfl) ?_
  refine kr_get hx hcd hts uX7 hown hK hP 0 rfl rfl 7 (by decide) (by decide +kernel) (v := .int 1) rfl dX7_seat_31 ?_
  refine kr_top (w := nI 1) rfl ?_
  refine kr_zeq (tgt := 41) hx hcd (by omega) dX7_seat_34 (by decide) (fun (c_34 : 1 = 0) => absurd c_34 (by omega)) (fun (c_34 : 0 < 1) => ?_)
  refine lv_iconst (v := nI 0) hx hcd dX7_seat_37 (by decide) ?_
  refine lv_goto (tgt := 53) hx hcd dX7_seat_38 (by decide) ?_
  exact kr_iret hx hcd hr hlocks hK hP hD hS rfl rfl dX7_seat_53

set_option maxHeartbeats 4000000 in
set_option maxRecDepth 100000 in
theorem c_X7_seat__b2 (l : Launch) (D : va_G) (cI cB cW cL : ClassId) (z : Nat → Nat) (x : Nat → Int32) (hh : Int64) (sz : Nat) (M : kM) (u : Int32) (w : Int32) (t : Int32) (g0 : g_seatok u w = true) (g1 : g_in t 0 2 = false) : kMi l yX7_seat wsX7_seat ({ frames := 3, cells := 0, slots := 0, locals := 63 }) D vwCl (kT cI cB cW cL) sz [.ref (z 0), .int u, .int w, .int t] (wMo cI z x hh M) (wMo cI z (xu x 7 2) hh M) 0 := by
  refine kr_ofi (cc := cX7_seat) (maxL := 4) (ret := (some .int)) (by decide) rfl (Nat.le_of_ble_eq_true rfl) ?_
  intro pp ee ss mm args below meth cc AA ls hx hcd hr hts hown hlocks hml hK hP hD hA hl
  have hS : va_S AA ss.heap ss.heap [] := va_S.rf
  have hown : ss.vm.findClass RX7 = some mm.cls := hown
  have hl : lv_has ls 4 [(0, .ref (z 0)), (1, .int u), (2, .int w), (3, .int t)] := hl
  have uX7 : ∀ w ∈ u_ws RX7 TX7 10, w ∈ wsX7_seat := by decide +kernel
  refine lv_aload_n hx hcd dX7_seat_0 rfl (lv_at hl 0 rfl) ?_
  refine lv_iload_n hx hcd dX7_seat_1 rfl (lv_at hl 1 rfl) ?_
  refine lv_iload_n hx hcd dX7_seat_2 rfl (lv_at hl 2 rfl) ?_
  refine kr_Si (As := [.int u, .int w]) (rest := [.ref (z 0)]) (ws2 := wMo cI z x hh M) ⟨hx, hcd, hml, hown, hts⟩ (c_X7_isSeat l D cI cB cW cL  _ M u w) (va_cwS 2 hts gX7_seat_X7_isSeat rfl rfl rfl (by decide +kernel) ⟨Nat.le_of_ble_eq_true rfl, Nat.le_of_ble_eq_true rfl⟩) hK hP hD hS hA [] rfl (by decide) rfl rfl rfl hl.1 rfl (Nat.le_of_ble_eq_true rfl) dX7_seat_3 ⟨Nat.zero_le _, Nat.zero_le _⟩ (fun H locs hP hD hS => ?_)
  refine kr_top (w := nI 1) (kI_is g0 rfl) ?_
  refine kr_zne (tgt := 13) hx hcd (by omega) dX7_seat_6 (by decide) (fun (c_6 : 0 < 1) => ?_) (fun (c_6 : 1 = 0) => absurd c_6 (by omega))
  refine lv_iload_n hx hcd dX7_seat_13 rfl (lv_at hl 3 rfl) ?_
  refine lv_iconst (v := nI 0) hx hcd dX7_seat_14 (by decide) ?_
  refine lv_iconst (v := nI 2) hx hcd dX7_seat_15 (by decide) ?_
  refine kr_Si (As := [.int t, .int (nI 0), .int (nI 2)]) (rest := [.ref (z 0)]) (ws2 := wMo cI z x hh M) ⟨hx, hcd, hml, hown, hts⟩ (c_X7_in l D cI cB cW cL  _ M t 0 2) (va_cwS 3 hts gX7_seat_X7_in rfl rfl rfl (by decide +kernel) ⟨Nat.le_of_ble_eq_true rfl, Nat.le_of_ble_eq_true rfl⟩) hK hP hD hS hA [] rfl (by decide) rfl rfl rfl hl.1 rfl (Nat.le_of_ble_eq_true rfl) dX7_seat_16 ⟨Nat.zero_le _, Nat.zero_le _⟩ (fun H locs hP hD hS => ?_)
  refine kr_top (w := nI 0) (kI_no g1 rfl) ?_
  refine kr_zeq (tgt := 26) hx hcd (by omega) dX7_seat_19 (by decide) (fun (c_19 : 0 = 0) => ?_) (fun (c_19 : 0 < 0) => absurd c_19 (by omega))
  refine lv_iconst (v := nI 2) hx hcd dX7_seat_26 (by decide) ?_
  refine kr_put hx hcd hts uX7 tyX7 tyX7_ok nmX7 hown hK hP hD hS 0 rfl rfl 7 (by decide) (by decide +kernel) rfl rfl rfl (ws2 := wMo cI z (xu x 7 2) hh M) rfl dX7_seat_27 (fun H locs hP hD hS => ?_)
  refine lv_aload_n hx hcd dX7_seat_30 rfl (lv_at hl 0 rfl) ?_
  refine kr_get hx hcd hts uX7 hown hK hP 0 rfl rfl 7 (by decide) (by decide +kernel) (v := .int 2) rfl dX7_seat_31 ?_
  refine kr_top (w := nI 2) rfl ?_
  refine kr_zeq (tgt := 41) hx hcd (by omega) dX7_seat_34 (by decide) (fun (c_34 : 2 = 0) => absurd c_34 (by omega)) (fun (c_34 : 0 < 2) => ?_)
  refine lv_iconst (v := nI 0) hx hcd dX7_seat_37 (by decide) ?_
  refine lv_goto (tgt := 53) hx hcd dX7_seat_38 (by decide) ?_
  exact kr_iret hx hcd hr hlocks hK hP hD hS rfl rfl dX7_seat_53

set_option maxHeartbeats 4000000 in
set_option maxRecDepth 100000 in
theorem c_X7_underWay__ok (l : Launch) (D : va_G) (cI cB cW cL : ClassId) (z : Nat → Nat) (x : Nat → Int32) (hh : Int64) (sz : Nat) (M : kM) (hI : kInv M) : kMi l yX7_underWay wsX7_underWay ({ frames := 0, cells := 0, slots := 0, locals := 0 }) D vwCl (kT cI cB cW cL) sz [.ref (z 0)] (wMo cI z x hh M) (wMo cI z (xu x 7 0) hh M) (nI (wyN M)) := by
  refine kr_ofi (cc := cX7_underWay) (maxL := 1) (ret := (some .int)) (by decide) rfl (Nat.le_of_ble_eq_true rfl) ?_
  intro pp ee ss mm args below meth cc AA ls hx hcd hr hts hown hlocks hml hK hP hD hA hl
  have hS : va_S AA ss.heap ss.heap [] := va_S.rf
  have hown : ss.vm.findClass RX7 = some mm.cls := hown
  have hl : lv_has ls 1 [(0, .ref (z 0))] := hl
  have uX7 : ∀ w ∈ u_ws RX7 TX7 10, w ∈ wsX7_underWay := by decide +kernel
  refine lv_aload_n hx hcd dX7_underWay_0 rfl (lv_at hl 0 rfl) ?_
  refine lv_iconst (v := nI 0) hx hcd dX7_underWay_1 (by decide) ?_
  refine kr_put hx hcd hts uX7 tyX7 tyX7_ok nmX7 hown hK hP hD hS 0 rfl rfl 7 (by decide) (by decide +kernel) rfl rfl rfl (ws2 := wMo cI z (xu x 7 0) hh M) rfl dX7_underWay_2 (fun H locs hP hD hS => ?_)
  refine lv_aload_n hx hcd dX7_underWay_5 rfl (lv_at hl 0 rfl) ?_
  refine kr_get hx hcd hts uX7 hown hK hP 0 rfl rfl 0 (by decide) (by decide +kernel) (v := .ref (z 1)) rfl dX7_underWay_6 ?_
  refine lv_sipush (v := nI 577) hx hcd dX7_underWay_9 (by decide) ?_
  refine kr_iald hx hcd hK hP 1 0 rfl rfl (v := M 577) (by omega) (by decide) (congrArg M (by omega)) dX7_underWay_12 ?_
  refine kr_top (w := nI (wyN M)) (i_wy hI) ?_
  exact kr_iret hx hcd hr hlocks hK hP hD hS rfl rfl dX7_underWay_13

set_option maxHeartbeats 4000000 in
set_option maxRecDepth 100000 in
theorem c_X7_message__ok (l : Launch) (D : va_G) (cI cB cW cL : ClassId) (z : Nat → Nat) (x : Nat → Int32) (hh : Int64) (sz : Nat) (M : kM) (i : Nat) (wh : Nat) (hI : kInv M) (hi : i < wyN M) (hwh : wh < 5) : kMi l yX7_message wsX7_message ({ frames := 2, cells := 0, slots := 0, locals := 46 }) D vwCl (kT cI cB cW cL) sz [.ref (z 0), .int (nI i), .int (nI wh)] (wMo cI z x hh M) (wMo cI z (xu x 7 0) hh M) (g_part (g_msg M i) wh) := by
  refine kr_ofi (cc := cX7_message) (maxL := 3) (ret := (some .int)) (by decide) rfl (Nat.le_of_ble_eq_true rfl) ?_
  intro pp ee ss mm args below meth cc AA ls hx hcd hr hts hown hlocks hml hK hP hD hA hl
  have hS : va_S AA ss.heap ss.heap [] := va_S.rf
  have hown : ss.vm.findClass RX7 = some mm.cls := hown
  have hl : lv_has ls 3 [(0, .ref (z 0)), (1, .int (nI i)), (2, .int (nI wh))] := hl
  have uX7 : ∀ w ∈ u_ws RX7 TX7 10, w ∈ wsX7_message := by decide +kernel
  have b577 := i_wyle hI
  refine lv_aload_n hx hcd dX7_message_0 rfl (lv_at hl 0 rfl) ?_
  refine lv_aload_n hx hcd dX7_message_1 rfl (lv_at hl 0 rfl) ?_
  refine lv_iload_n hx hcd dX7_message_2 rfl (lv_at hl 1 rfl) ?_
  refine kr_Vi (As := [.int (nI i)]) (rest := [.ref (z 0)]) (ws2 := wMo cI z x hh M) (q := (RX7, TX7, 10)) ⟨hx, hcd, hml, hown, hts⟩ (c_X7_isMessage l D cI cB cW cL z x hh _ M (nI i) hI) (cwV 1 hts gX7_message_X7_isMessage rfl rfl rfl (by decide +kernel) ⟨Nat.le_of_ble_eq_true rfl, Nat.le_of_ble_eq_true rfl⟩) hK hP hD hS hA [0, 1] wMo_allC (by decide) wMo_adr wMo_all 0 rfl rfl rfl hl.1 rfl (Nat.le_of_ble_eq_true rfl) dX7_message_3 ⟨Nat.zero_le _, Nat.zero_le _⟩ (fun H locs hP hD hS => ?_)
  refine kr_top (w := nI 1) (kI_is (msg_ok hI hi) rfl) ?_
  refine kr_zne (tgt := 13) hx hcd (by omega) dX7_message_6 (by decide) (fun (c_6 : 0 < 1) => ?_) (fun (c_6 : 1 = 0) => absurd c_6 (by omega))
  refine lv_iload_n hx hcd dX7_message_13 rfl (lv_at hl 2 rfl) ?_
  refine lv_iconst (v := nI 0) hx hcd dX7_message_14 (by decide) ?_
  refine lv_iconst (v := nI 4) hx hcd dX7_message_15 (by decide) ?_
  refine kr_Si (As := [.int (nI wh), .int (nI 0), .int (nI 4)]) (rest := [.ref (z 0)]) (ws2 := wMo cI z x hh M) ⟨hx, hcd, hml, hown, hts⟩ (c_X7_in l D cI cB cW cL  _ M (nI wh) 0 4) (va_cwS 3 hts gX7_message_X7_in rfl rfl rfl (by decide +kernel) ⟨Nat.le_of_ble_eq_true rfl, Nat.le_of_ble_eq_true rfl⟩) hK hP hD hS hA [] rfl (by decide) rfl rfl rfl hl.1 rfl (Nat.le_of_ble_eq_true rfl) dX7_message_16 ⟨Nat.zero_le _, Nat.zero_le _⟩ (fun H locs hP hD hS => ?_)
  refine kr_top (w := nI 1) (kI_is (in_ok (lo := 0) (hi := 4) (by omega) (by omega) (by omega)) rfl) ?_
  refine kr_zeq (tgt := 26) hx hcd (by omega) dX7_message_19 (by decide) (fun (c_19 : 1 = 0) => absurd c_19 (by omega)) (fun (c_19 : 0 < 1) => ?_)
  refine lv_iconst (v := nI 0) hx hcd dX7_message_22 (by decide) ?_
  refine lv_goto (tgt := 27) hx hcd dX7_message_23 (by decide) ?_
  refine kr_put hx hcd hts uX7 tyX7 tyX7_ok nmX7 hown hK hP hD hS 0 rfl rfl 7 (by decide) (by decide +kernel) rfl rfl rfl (ws2 := wMo cI z (xu x 7 0) hh M) rfl dX7_message_27 (fun H locs hP hD hS => ?_)
  refine lv_aload_n hx hcd dX7_message_30 rfl (lv_at hl 0 rfl) ?_
  refine kr_get hx hcd hts uX7 hown hK hP 0 rfl rfl 7 (by decide) (by decide +kernel) (v := .int 0) rfl dX7_message_31 ?_
  refine kr_top (w := nI 0) rfl ?_
  refine kr_zeq (tgt := 41) hx hcd (by omega) dX7_message_34 (by decide) (fun (c_34 : 0 = 0) => ?_) (fun (c_34 : 0 < 0) => absurd c_34 (by omega))
  refine lv_aload_n hx hcd dX7_message_41 rfl (lv_at hl 0 rfl) ?_
  refine lv_iload_n hx hcd dX7_message_42 rfl (lv_at hl 1 rfl) ?_
  refine lv_iload_n hx hcd dX7_message_43 rfl (lv_at hl 2 rfl) ?_
  refine kr_Vi (As := [.int (nI i), .int (nI wh)]) (rest := []) (ws2 := wMo cI z (xu x 7 0) hh M) (q := (RX7, TX7, 10)) ⟨hx, hcd, hml, hown, hts⟩ (c_X7_ofMessage l D cI cB cW cL z (xu x 7 0) hh _ M i wh hI (by omega) (by omega)) (cwV 2 hts gX7_message_X7_ofMessage rfl rfl rfl (by decide +kernel) ⟨Nat.le_of_ble_eq_true rfl, Nat.le_of_ble_eq_true rfl⟩) hK hP hD hS hA [0, 1] wMo_allC (by decide) wMo_adr wMo_all 0 rfl rfl rfl hl.1 rfl (Nat.le_of_ble_eq_true rfl) dX7_message_44 ⟨Nat.zero_le _, Nat.zero_le _⟩ (fun H locs hP hD hS => ?_)
  exact kr_iret hx hcd hr hlocks hK hP hD hS rfl rfl dX7_message_47

set_option maxHeartbeats 4000000 in
set_option maxRecDepth 100000 in
theorem c_X7_message__b1 (l : Launch) (D : va_G) (cI cB cW cL : ClassId) (z : Nat → Nat) (x : Nat → Int32) (hh : Int64) (sz : Nat) (M : kM) (u : Int32) (w : Int32) (g0 : g_in u 0 (M 577 - 1) = false) (hI : kInv M) : kMi l yX7_message wsX7_message ({ frames := 2, cells := 0, slots := 0, locals := 43 }) D vwCl (kT cI cB cW cL) sz [.ref (z 0), .int u, .int w] (wMo cI z x hh M) (wMo cI z (xu x 7 1) hh M) 0 := by
  refine kr_ofi (cc := cX7_message) (maxL := 3) (ret := (some .int)) (by decide) rfl (Nat.le_of_ble_eq_true rfl) ?_
  intro pp ee ss mm args below meth cc AA ls hx hcd hr hts hown hlocks hml hK hP hD hA hl
  have hS : va_S AA ss.heap ss.heap [] := va_S.rf
  have hown : ss.vm.findClass RX7 = some mm.cls := hown
  have hl : lv_has ls 3 [(0, .ref (z 0)), (1, .int u), (2, .int w)] := hl
  have uX7 : ∀ w ∈ u_ws RX7 TX7 10, w ∈ wsX7_message := by decide +kernel
  refine lv_aload_n hx hcd dX7_message_0 rfl (lv_at hl 0 rfl) ?_
  refine lv_aload_n hx hcd dX7_message_1 rfl (lv_at hl 0 rfl) ?_
  refine lv_iload_n hx hcd dX7_message_2 rfl (lv_at hl 1 rfl) ?_
  refine kr_Vi (As := [.int u]) (rest := [.ref (z 0)]) (ws2 := wMo cI z x hh M) (q := (RX7, TX7, 10)) ⟨hx, hcd, hml, hown, hts⟩ (c_X7_isMessage l D cI cB cW cL z x hh _ M u hI) (cwV 1 hts gX7_message_X7_isMessage rfl rfl rfl (by decide +kernel) ⟨Nat.le_of_ble_eq_true rfl, Nat.le_of_ble_eq_true rfl⟩) hK hP hD hS hA [0, 1] wMo_allC (by decide) wMo_adr wMo_all 0 rfl rfl rfl hl.1 rfl (Nat.le_of_ble_eq_true rfl) dX7_message_3 ⟨Nat.zero_le _, Nat.zero_le _⟩ (fun H locs hP hD hS => ?_)
  refine kr_top (w := nI 0) (kI_no g0 rfl) ?_
  refine kr_zne (tgt := 13) hx hcd (by omega) dX7_message_6 (by decide) (fun (c_6 : 0 < 0) => absurd c_6 (by omega)) (fun (c_6 : 0 = 0) => ?_)
  refine lv_iconst (v := nI 1) hx hcd dX7_message_9 (by decide) ?_
  refine lv_goto (tgt := 27) hx hcd dX7_message_10 (by decide) ?_
  refine kr_put hx hcd hts uX7 tyX7 tyX7_ok nmX7 hown hK hP hD hS 0 rfl rfl 7 (by decide) (by decide +kernel) rfl rfl rfl (ws2 := wMo cI z (xu x 7 1) hh M) rfl dX7_message_27 (fun H locs hP hD hS => ?_)
  refine lv_aload_n hx hcd dX7_message_30 rfl (lv_at hl 0 rfl) ?_
  refine kr_get hx hcd hts uX7 hown hK hP 0 rfl rfl 7 (by decide) (by decide +kernel) (v := .int 1) rfl dX7_message_31 ?_
  refine kr_top (w := nI 1) rfl ?_
  refine kr_zeq (tgt := 41) hx hcd (by omega) dX7_message_34 (by decide) (fun (c_34 : 1 = 0) => absurd c_34 (by omega)) (fun (c_34 : 0 < 1) => ?_)
  refine lv_iconst (v := nI 0) hx hcd dX7_message_37 (by decide) ?_
  refine lv_goto (tgt := 47) hx hcd dX7_message_38 (by decide) ?_
  exact kr_iret hx hcd hr hlocks hK hP hD hS rfl rfl dX7_message_47

set_option maxHeartbeats 4000000 in
set_option maxRecDepth 100000 in
theorem c_X7_message__b2 (l : Launch) (D : va_G) (cI cB cW cL : ClassId) (z : Nat → Nat) (x : Nat → Int32) (hh : Int64) (sz : Nat) (M : kM) (u : Int32) (w : Int32) (g0 : g_in u 0 (M 577 - 1) = true) (g1 : g_in w 0 4 = false) (hI : kInv M) : kMi l yX7_message wsX7_message ({ frames := 2, cells := 0, slots := 0, locals := 43 }) D vwCl (kT cI cB cW cL) sz [.ref (z 0), .int u, .int w] (wMo cI z x hh M) (wMo cI z (xu x 7 2) hh M) 0 := by
  refine kr_ofi (cc := cX7_message) (maxL := 3) (ret := (some .int)) (by decide) rfl (Nat.le_of_ble_eq_true rfl) ?_
  intro pp ee ss mm args below meth cc AA ls hx hcd hr hts hown hlocks hml hK hP hD hA hl
  have hS : va_S AA ss.heap ss.heap [] := va_S.rf
  have hown : ss.vm.findClass RX7 = some mm.cls := hown
  have hl : lv_has ls 3 [(0, .ref (z 0)), (1, .int u), (2, .int w)] := hl
  have uX7 : ∀ w ∈ u_ws RX7 TX7 10, w ∈ wsX7_message := by decide +kernel
  refine lv_aload_n hx hcd dX7_message_0 rfl (lv_at hl 0 rfl) ?_
  refine lv_aload_n hx hcd dX7_message_1 rfl (lv_at hl 0 rfl) ?_
  refine lv_iload_n hx hcd dX7_message_2 rfl (lv_at hl 1 rfl) ?_
  refine kr_Vi (As := [.int u]) (rest := [.ref (z 0)]) (ws2 := wMo cI z x hh M) (q := (RX7, TX7, 10)) ⟨hx, hcd, hml, hown, hts⟩ (c_X7_isMessage l D cI cB cW cL z x hh _ M u hI) (cwV 1 hts gX7_message_X7_isMessage rfl rfl rfl (by decide +kernel) ⟨Nat.le_of_ble_eq_true rfl, Nat.le_of_ble_eq_true rfl⟩) hK hP hD hS hA [0, 1] wMo_allC (by decide) wMo_adr wMo_all 0 rfl rfl rfl hl.1 rfl (Nat.le_of_ble_eq_true rfl) dX7_message_3 ⟨Nat.zero_le _, Nat.zero_le _⟩ (fun H locs hP hD hS => ?_)
  refine kr_top (w := nI 1) (kI_is g0 rfl) ?_
  refine kr_zne (tgt := 13) hx hcd (by omega) dX7_message_6 (by decide) (fun (c_6 : 0 < 1) => ?_) (fun (c_6 : 1 = 0) => absurd c_6 (by omega))
  refine lv_iload_n hx hcd dX7_message_13 rfl (lv_at hl 2 rfl) ?_
  refine lv_iconst (v := nI 0) hx hcd dX7_message_14 (by decide) ?_
  refine lv_iconst (v := nI 4) hx hcd dX7_message_15 (by decide) ?_
  refine kr_Si (As := [.int w, .int (nI 0), .int (nI 4)]) (rest := [.ref (z 0)]) (ws2 := wMo cI z x hh M) ⟨hx, hcd, hml, hown, hts⟩ (c_X7_in l D cI cB cW cL  _ M w 0 4) (va_cwS 3 hts gX7_message_X7_in rfl rfl rfl (by decide +kernel) ⟨Nat.le_of_ble_eq_true rfl, Nat.le_of_ble_eq_true rfl⟩) hK hP hD hS hA [] rfl (by decide) rfl rfl rfl hl.1 rfl (Nat.le_of_ble_eq_true rfl) dX7_message_16 ⟨Nat.zero_le _, Nat.zero_le _⟩ (fun H locs hP hD hS => ?_)
  refine kr_top (w := nI 0) (kI_no g1 rfl) ?_
  refine kr_zeq (tgt := 26) hx hcd (by omega) dX7_message_19 (by decide) (fun (c_19 : 0 = 0) => ?_) (fun (c_19 : 0 < 0) => absurd c_19 (by omega))
  refine lv_iconst (v := nI 2) hx hcd dX7_message_26 (by decide) ?_
  refine kr_put hx hcd hts uX7 tyX7 tyX7_ok nmX7 hown hK hP hD hS 0 rfl rfl 7 (by decide) (by decide +kernel) rfl rfl rfl (ws2 := wMo cI z (xu x 7 2) hh M) rfl dX7_message_27 (fun H locs hP hD hS => ?_)
  refine lv_aload_n hx hcd dX7_message_30 rfl (lv_at hl 0 rfl) ?_
  refine kr_get hx hcd hts uX7 hown hK hP 0 rfl rfl 7 (by decide) (by decide +kernel) (v := .int 2) rfl dX7_message_31 ?_
  refine kr_top (w := nI 2) rfl ?_
  refine kr_zeq (tgt := 41) hx hcd (by omega) dX7_message_34 (by decide) (fun (c_34 : 2 = 0) => absurd c_34 (by omega)) (fun (c_34 : 0 < 2) => ?_)
  refine lv_iconst (v := nI 0) hx hcd dX7_message_37 (by decide) ?_
  refine lv_goto (tgt := 47) hx hcd dX7_message_38 (by decide) ?_
  exact kr_iret hx hcd hr hlocks hK hP hD hS rfl rfl dX7_message_47

set_option maxHeartbeats 4000000 in
set_option maxRecDepth 100000 in
theorem c_X7_count__ok (l : Launch) (D : va_G) (cI cB cW cL : ClassId) (z : Nat → Nat) (x : Nat → Int32) (hh : Int64) (sz : Nat) (M : kM) (wh : Nat) (hwh : wh < 3) : kMi l yX7_count wsX7_count ({ frames := 1, cells := 0, slots := 0, locals := 22 }) D vwCl (kT cI cB cW cL) sz [.ref (z 0), .int (nI wh)] (wMo cI z x hh M) (wMo cI z (xu x 7 0) hh M) (M (578 + wh)) := by
  refine kr_ofi (cc := cX7_count) (maxL := 2) (ret := (some .int)) (by decide) rfl (Nat.le_of_ble_eq_true rfl) ?_
  intro pp ee ss mm args below meth cc AA ls hx hcd hr hts hown hlocks hml hK hP hD hA hl
  have hS : va_S AA ss.heap ss.heap [] := va_S.rf
  have hown : ss.vm.findClass RX7 = some mm.cls := hown
  have hl : lv_has ls 2 [(0, .ref (z 0)), (1, .int (nI wh))] := hl
  have uX7 : ∀ w ∈ u_ws RX7 TX7 10, w ∈ wsX7_count := by decide +kernel
  refine lv_aload_n hx hcd dX7_count_0 rfl (lv_at hl 0 rfl) ?_
  refine lv_iload_n hx hcd dX7_count_1 rfl (lv_at hl 1 rfl) ?_
  refine lv_iconst (v := nI 0) hx hcd dX7_count_2 (by decide) ?_
  refine lv_iconst (v := nI 2) hx hcd dX7_count_3 (by decide) ?_
  refine kr_Si (As := [.int (nI wh), .int (nI 0), .int (nI 2)]) (rest := [.ref (z 0)]) (ws2 := wMo cI z x hh M) ⟨hx, hcd, hml, hown, hts⟩ (c_X7_in l D cI cB cW cL  _ M (nI wh) 0 2) (va_cwS 3 hts gX7_count_X7_in rfl rfl rfl (by decide +kernel) ⟨Nat.le_of_ble_eq_true rfl, Nat.le_of_ble_eq_true rfl⟩) hK hP hD hS hA [] rfl (by decide) rfl rfl rfl hl.1 rfl (Nat.le_of_ble_eq_true rfl) dX7_count_4 ⟨Nat.zero_le _, Nat.zero_le _⟩ (fun H locs hP hD hS => ?_)
  refine kr_top (w := nI 1) (kI_is (in_ok (lo := 0) (hi := 2) (by omega) (by omega) (by omega)) rfl) ?_
  refine kr_zeq (tgt := 14) hx hcd (by omega) dX7_count_7 (by decide) (fun (c_7 : 1 = 0) => absurd c_7 (by omega)) (fun (c_7 : 0 < 1) => ?_)
  refine lv_iconst (v := nI 0) hx hcd dX7_count_10 (by decide) ?_
  refine lv_goto (tgt := 15) hx hcd dX7_count_11 (by decide) ?_
  refine kr_put hx hcd hts uX7 tyX7 tyX7_ok nmX7 hown hK hP hD hS 0 rfl rfl 7 (by decide) (by decide +kernel) rfl rfl rfl (ws2 := wMo cI z (xu x 7 0) hh M) rfl dX7_count_15 (fun H locs hP hD hS => ?_)
  refine lv_aload_n hx hcd dX7_count_18 rfl (lv_at hl 0 rfl) ?_
  refine kr_get hx hcd hts uX7 hown hK hP 0 rfl rfl 7 (by decide) (by decide +kernel) (v := .int 0) rfl dX7_count_19 ?_
  refine kr_top (w := nI 0) rfl ?_
  refine kr_zeq (tgt := 29) hx hcd (by omega) dX7_count_22 (by decide) (fun (c_22 : 0 = 0) => ?_) (fun (c_22 : 0 < 0) => absurd c_22 (by omega))
  refine lv_aload_n hx hcd dX7_count_29 rfl (lv_at hl 0 rfl) ?_
  refine kr_get hx hcd hts uX7 hown hK hP 0 rfl rfl 0 (by decide) (by decide +kernel) (v := .ref (z 1)) rfl dX7_count_30 ?_
  refine lv_sipush (v := nI 578) hx hcd dX7_count_33 (by decide) ?_
  refine lv_iload_n hx hcd dX7_count_36 rfl (lv_at hl 1 rfl) ?_
  refine kr_add hx hcd dX7_count_37 ?_
  refine kr_iald hx hcd hK hP 1 0 rfl rfl (v := M (578 + wh)) (by omega) (by decide) (congrArg M (by omega)) dX7_count_38 ?_
  exact kr_iret hx hcd hr hlocks hK hP hD hS rfl rfl dX7_count_39

set_option maxHeartbeats 4000000 in
set_option maxRecDepth 100000 in
theorem c_X7_count__b1 (l : Launch) (D : va_G) (cI cB cW cL : ClassId) (z : Nat → Nat) (x : Nat → Int32) (hh : Int64) (sz : Nat) (M : kM) (u : Int32) (g0 : g_in u 0 2 = false) : kMi l yX7_count wsX7_count ({ frames := 1, cells := 0, slots := 0, locals := 22 }) D vwCl (kT cI cB cW cL) sz [.ref (z 0), .int u] (wMo cI z x hh M) (wMo cI z (xu x 7 1) hh M) 0 := by
  refine kr_ofi (cc := cX7_count) (maxL := 2) (ret := (some .int)) (by decide) rfl (Nat.le_of_ble_eq_true rfl) ?_
  intro pp ee ss mm args below meth cc AA ls hx hcd hr hts hown hlocks hml hK hP hD hA hl
  have hS : va_S AA ss.heap ss.heap [] := va_S.rf
  have hown : ss.vm.findClass RX7 = some mm.cls := hown
  have hl : lv_has ls 2 [(0, .ref (z 0)), (1, .int u)] := hl
  have uX7 : ∀ w ∈ u_ws RX7 TX7 10, w ∈ wsX7_count := by decide +kernel
  refine lv_aload_n hx hcd dX7_count_0 rfl (lv_at hl 0 rfl) ?_
  refine lv_iload_n hx hcd dX7_count_1 rfl (lv_at hl 1 rfl) ?_
  refine lv_iconst (v := nI 0) hx hcd dX7_count_2 (by decide) ?_
  refine lv_iconst (v := nI 2) hx hcd dX7_count_3 (by decide) ?_
  refine kr_Si (As := [.int u, .int (nI 0), .int (nI 2)]) (rest := [.ref (z 0)]) (ws2 := wMo cI z x hh M) ⟨hx, hcd, hml, hown, hts⟩ (c_X7_in l D cI cB cW cL  _ M u 0 2) (va_cwS 3 hts gX7_count_X7_in rfl rfl rfl (by decide +kernel) ⟨Nat.le_of_ble_eq_true rfl, Nat.le_of_ble_eq_true rfl⟩) hK hP hD hS hA [] rfl (by decide) rfl rfl rfl hl.1 rfl (Nat.le_of_ble_eq_true rfl) dX7_count_4 ⟨Nat.zero_le _, Nat.zero_le _⟩ (fun H locs hP hD hS => ?_)
  refine kr_top (w := nI 0) (kI_no g0 rfl) ?_
  refine kr_zeq (tgt := 14) hx hcd (by omega) dX7_count_7 (by decide) (fun (c_7 : 0 = 0) => ?_) (fun (c_7 : 0 < 0) => absurd c_7 (by omega))
  refine lv_iconst (v := nI 1) hx hcd dX7_count_14 (by decide) ?_
  refine kr_put hx hcd hts uX7 tyX7 tyX7_ok nmX7 hown hK hP hD hS 0 rfl rfl 7 (by decide) (by decide +kernel) rfl rfl rfl (ws2 := wMo cI z (xu x 7 1) hh M) rfl dX7_count_15 (fun H locs hP hD hS => ?_)
  refine lv_aload_n hx hcd dX7_count_18 rfl (lv_at hl 0 rfl) ?_
  refine kr_get hx hcd hts uX7 hown hK hP 0 rfl rfl 7 (by decide) (by decide +kernel) (v := .int 1) rfl dX7_count_19 ?_
  refine kr_top (w := nI 1) rfl ?_
  refine kr_zeq (tgt := 29) hx hcd (by omega) dX7_count_22 (by decide) (fun (c_22 : 1 = 0) => absurd c_22 (by omega)) (fun (c_22 : 0 < 1) => ?_)
  refine lv_iconst (v := nI 0) hx hcd dX7_count_25 (by decide) ?_
  refine lv_goto (tgt := 39) hx hcd dX7_count_26 (by decide) ?_
  exact kr_iret hx hcd hr hlocks hK hP hD hS rfl rfl dX7_count_39

set_option maxHeartbeats 4000000 in
set_option maxRecDepth 100000 in
theorem c_X7_version__ok0 (l : Launch) (D : va_G) (cI cB cW cL : ClassId) (z : Nat → Nat) (x : Nat → Int32) (hh : Int64) (sz : Nat) (M : kM) (a : Nat) (ha : a < 6) : kMi l yX7_version wsX7_version ({ frames := 2, cells := 0, slots := 0, locals := 42 }) D vwCl (kT cI cB cW cL) sz [.ref (z 0), .int (nI a), .int (-1)] (wMo cI z x hh M) (wMo cI z (xu x 7 0) hh M) (M (126 + a)) := by
  refine kr_ofi (cc := cX7_version) (maxL := 3) (ret := (some .int)) (by decide) rfl (Nat.le_of_ble_eq_true rfl) ?_
  intro pp ee ss mm args below meth cc AA ls hx hcd hr hts hown hlocks hml hK hP hD hA hl
  have hS : va_S AA ss.heap ss.heap [] := va_S.rf
  have hown : ss.vm.findClass RX7 = some mm.cls := hown
  have hl : lv_has ls 3 [(0, .ref (z 0)), (1, .int (nI a)), (2, .int (-1))] := hl
  have uX7 : ∀ w ∈ u_ws RX7 TX7 10, w ∈ wsX7_version := by decide +kernel
  refine lv_aload_n hx hcd dX7_version_0 rfl (lv_at hl 0 rfl) ?_
  refine lv_iload_n hx hcd dX7_version_1 rfl (lv_at hl 2 rfl) ?_
  refine lv_iconst (v := (-1)) hx hcd dX7_version_2 (by decide) ?_
  refine lv_icmp_ne (tgt := 17) hx hcd dX7_version_3 (by decide) (fun (c_3 : ¬ (-1) = (-1)) => absurd c_3 (not_not_intro rfl)) (fun (c_3 : (-1) = (-1)) => ?_)
  refine lv_iload_n hx hcd dX7_version_6 rfl (lv_at hl 1 rfl) ?_
  refine kr_Si (As := [.int (nI a)]) (rest := [.ref (z 0)]) (ws2 := wMo cI z x hh M) ⟨hx, hcd, hml, hown, hts⟩ (c_X7_isUser l D cI cB cW cL  _ M (nI a)) (va_cwS 1 hts gX7_version_X7_isUser rfl rfl rfl (by decide +kernel) ⟨Nat.le_of_ble_eq_true rfl, Nat.le_of_ble_eq_true rfl⟩) hK hP hD hS hA [] rfl (by decide) rfl rfl rfl hl.1 rfl (Nat.le_of_ble_eq_true rfl) dX7_version_7 ⟨Nat.zero_le _, Nat.zero_le _⟩ (fun H locs hP hD hS => ?_)
  refine kr_top (w := nI 1) (kI_is (usr_ok ha) rfl) ?_
  refine kr_zeq (tgt := 17) hx hcd (by omega) dX7_version_10 (by decide) (fun (c_10 : 1 = 0) => absurd c_10 (by omega)) (fun (c_10 : 0 < 1) => ?_)
  refine lv_iconst (v := nI 0) hx hcd dX7_version_13 (by decide) ?_
  refine lv_goto (tgt := 22) hx hcd dX7_version_14 (by decide) ?_
  refine kr_put hx hcd hts uX7 tyX7 tyX7_ok nmX7 hown hK hP hD hS 0 rfl rfl 7 (by decide) (by decide +kernel) rfl rfl rfl (ws2 := wMo cI z (xu x 7 0) hh M) rfl dX7_version_22 (fun H locs hP hD hS => ?_)
  refine lv_aload_n hx hcd dX7_version_25 rfl (lv_at hl 0 rfl) ?_
  refine kr_get hx hcd hts uX7 hown hK hP 0 rfl rfl 7 (by decide) (by decide +kernel) (v := .int 0) rfl dX7_version_26 ?_
  refine kr_top (w := nI 0) rfl ?_
  refine kr_zeq (tgt := 34) hx hcd (by omega) dX7_version_29 (by decide) (fun (c_29 : 0 = 0) => ?_) (fun (c_29 : 0 < 0) => absurd c_29 (by omega))
  refine lv_iload_n hx hcd dX7_version_34 rfl (lv_at hl 2 rfl) ?_
  refine lv_iconst (v := (-1)) hx hcd dX7_version_35 (by decide) ?_
  refine lv_icmp_ne (tgt := 51) hx hcd dX7_version_36 (by decide) (fun (c_36 : ¬ (-1) = (-1)) => absurd c_36 (not_not_intro rfl)) (fun (c_36 : (-1) = (-1)) => ?_)
  refine lv_aload_n hx hcd dX7_version_39 rfl (lv_at hl 0 rfl) ?_
  refine kr_get hx hcd hts uX7 hown hK hP 0 rfl rfl 0 (by decide) (by decide +kernel) (v := .ref (z 1)) rfl dX7_version_40 ?_
  refine lv_bipush (v := nI 126) hx hcd dX7_version_43 (by decide) ?_
  refine lv_iload_n hx hcd dX7_version_45 rfl (lv_at hl 1 rfl) ?_
  refine kr_add hx hcd dX7_version_46 ?_
  refine kr_iald hx hcd hK hP 1 0 rfl rfl (v := M (126 + a)) (by omega) (by decide) (congrArg M (by omega)) dX7_version_47 ?_
  refine lv_goto (tgt := 65) hx hcd dX7_version_48 (by decide) ?_
  exact kr_iret hx hcd hr hlocks hK hP hD hS rfl rfl dX7_version_65

set_option maxHeartbeats 4000000 in
set_option maxRecDepth 100000 in
theorem c_X7_version__ok1 (l : Launch) (D : va_G) (cI cB cW cL : ClassId) (z : Nat → Nat) (x : Nat → Int32) (hh : Int64) (sz : Nat) (M : kM) (a : Nat) (b : Nat) (ha : a < 6) (hb : b < 6) (hne : a ≠ b) : kMi l yX7_version wsX7_version ({ frames := 3, cells := 0, slots := 0, locals := 63 }) D vwCl (kT cI cB cW cL) sz [.ref (z 0), .int (nI a), .int (nI b)] (wMo cI z x hh M) (wMo cI z (xu x 7 0) hh M) (M (90 + 6 * a + b)) := by
  refine kr_ofi (cc := cX7_version) (maxL := 3) (ret := (some .int)) (by decide) rfl (Nat.le_of_ble_eq_true rfl) ?_
  intro pp ee ss mm args below meth cc AA ls hx hcd hr hts hown hlocks hml hK hP hD hA hl
  have hS : va_S AA ss.heap ss.heap [] := va_S.rf
  have hown : ss.vm.findClass RX7 = some mm.cls := hown
  have hl : lv_has ls 3 [(0, .ref (z 0)), (1, .int (nI a)), (2, .int (nI b))] := hl
  have uX7 : ∀ w ∈ u_ws RX7 TX7 10, w ∈ wsX7_version := by decide +kernel
  refine lv_aload_n hx hcd dX7_version_0 rfl (lv_at hl 0 rfl) ?_
  refine lv_iload_n hx hcd dX7_version_1 rfl (lv_at hl 2 rfl) ?_
  refine lv_iconst (v := (-1)) hx hcd dX7_version_2 (by decide) ?_
  refine lv_icmp_ne (tgt := 17) hx hcd dX7_version_3 (by decide) (fun (c_3 : ¬ (nI b) = (-1)) => ?_) (fun (c_3 : (nI b) = (-1)) => absurd c_3 (nI_m1 (by omega)))
  refine lv_iload_n hx hcd dX7_version_17 rfl (lv_at hl 1 rfl) ?_
  refine lv_iload_n hx hcd dX7_version_18 rfl (lv_at hl 2 rfl) ?_
  refine kr_Si (As := [.int (nI a), .int (nI b)]) (rest := [.ref (z 0)]) (ws2 := wMo cI z x hh M) ⟨hx, hcd, hml, hown, hts⟩ (c_X7_whyNot l D cI cB cW cL  _ M (nI a) (nI b)) (va_cwS 2 hts gX7_version_X7_whyNot rfl rfl rfl (by decide +kernel) ⟨Nat.le_of_ble_eq_true rfl, Nat.le_of_ble_eq_true rfl⟩) hK hP hD hS hA [] rfl (by decide) rfl rfl rfl hl.1 rfl (Nat.le_of_ble_eq_true rfl) dX7_version_19 ⟨Nat.zero_le _, Nat.zero_le _⟩ (fun H locs hP hD hS => ?_)
  refine kr_top (w := nI 0) (why_ok ha hb hne) ?_
  refine kr_put hx hcd hts uX7 tyX7 tyX7_ok nmX7 hown hK hP hD hS 0 rfl rfl 7 (by decide) (by decide +kernel) rfl rfl rfl (ws2 := wMo cI z (xu x 7 0) hh M) rfl dX7_version_22 (fun H locs hP hD hS => ?_)
  refine lv_aload_n hx hcd dX7_version_25 rfl (lv_at hl 0 rfl) ?_
  refine kr_get hx hcd hts uX7 hown hK hP 0 rfl rfl 7 (by decide) (by decide +kernel) (v := .int 0) rfl dX7_version_26 ?_
  refine kr_top (w := nI 0) rfl ?_
  refine kr_zeq (tgt := 34) hx hcd (by omega) dX7_version_29 (by decide) (fun (c_29 : 0 = 0) => ?_) (fun (c_29 : 0 < 0) => absurd c_29 (by omega))
  refine lv_iload_n hx hcd dX7_version_34 rfl (lv_at hl 2 rfl) ?_
  refine lv_iconst (v := (-1)) hx hcd dX7_version_35 (by decide) ?_
  refine lv_icmp_ne (tgt := 51) hx hcd dX7_version_36 (by decide) (fun (c_36 : ¬ (nI b) = (-1)) => ?_) (fun (c_36 : (nI b) = (-1)) => absurd c_36 (nI_m1 (by omega)))
  refine lv_aload_n hx hcd dX7_version_51 rfl (lv_at hl 0 rfl) ?_
  refine kr_get hx hcd hts uX7 hown hK hP 0 rfl rfl 0 (by decide) (by decide +kernel) (v := .ref (z 1)) rfl dX7_version_52 ?_
  refine lv_bipush (v := nI 90) hx hcd dX7_version_55 (by decide) ?_
  refine lv_bipush (v := nI 6) hx hcd dX7_version_57 (by decide) ?_
  refine lv_iload_n hx hcd dX7_version_59 rfl (lv_at hl 1 rfl) ?_
  refine kr_mul hx hcd dX7_version_60 ?_
  refine kr_add hx hcd dX7_version_61 ?_
  refine lv_iload_n hx hcd dX7_version_62 rfl (lv_at hl 2 rfl) ?_
  refine kr_add hx hcd dX7_version_63 ?_
  refine kr_iald hx hcd hK hP 1 0 rfl rfl (v := M (90 + 6 * a + b)) (by omega) (by decide) (congrArg M (by omega)) dX7_version_64 ?_
  exact kr_iret hx hcd hr hlocks hK hP hD hS rfl rfl dX7_version_65

set_option maxHeartbeats 4000000 in
set_option maxRecDepth 100000 in
theorem c_X7_version__bad (l : Launch) (D : va_G) (cI cB cW cL : ClassId) (z : Nat → Nat) (x : Nat → Int32) (hh : Int64) (sz : Nat) (M : kM) (u : Int32) (w : Int32) (n : Nat) (hw : g_why u w = nI n) (hn : 0 < n ∧ n < 3) (hm : ¬ w = -1) : kMi l yX7_version wsX7_version ({ frames := 3, cells := 0, slots := 0, locals := 63 }) D vwCl (kT cI cB cW cL) sz [.ref (z 0), .int u, .int w] (wMo cI z x hh M) (wMo cI z (xu x 7 (nI n)) hh M) 0 := by
  refine kr_ofi (cc := cX7_version) (maxL := 3) (ret := (some .int)) (by decide) rfl (Nat.le_of_ble_eq_true rfl) ?_
  intro pp ee ss mm args below meth cc AA ls hx hcd hr hts hown hlocks hml hK hP hD hA hl
  have hS : va_S AA ss.heap ss.heap [] := va_S.rf
  have hown : ss.vm.findClass RX7 = some mm.cls := hown
  have hl : lv_has ls 3 [(0, .ref (z 0)), (1, .int u), (2, .int w)] := hl
  have uX7 : ∀ w ∈ u_ws RX7 TX7 10, w ∈ wsX7_version := by decide +kernel
  refine lv_aload_n hx hcd dX7_version_0 rfl (lv_at hl 0 rfl) ?_
  refine lv_iload_n hx hcd dX7_version_1 rfl (lv_at hl 2 rfl) ?_
  refine lv_iconst (v := (-1)) hx hcd dX7_version_2 (by decide) ?_
  refine lv_icmp_ne (tgt := 17) hx hcd dX7_version_3 (by decide) (fun (c_3 : ¬ w = (-1)) => ?_) (fun (c_3 : w = (-1)) => absurd c_3 hm)
  refine lv_iload_n hx hcd dX7_version_17 rfl (lv_at hl 1 rfl) ?_
  refine lv_iload_n hx hcd dX7_version_18 rfl (lv_at hl 2 rfl) ?_
  refine kr_Si (As := [.int u, .int w]) (rest := [.ref (z 0)]) (ws2 := wMo cI z x hh M) ⟨hx, hcd, hml, hown, hts⟩ (c_X7_whyNot l D cI cB cW cL  _ M u w) (va_cwS 2 hts gX7_version_X7_whyNot rfl rfl rfl (by decide +kernel) ⟨Nat.le_of_ble_eq_true rfl, Nat.le_of_ble_eq_true rfl⟩) hK hP hD hS hA [] rfl (by decide) rfl rfl rfl hl.1 rfl (Nat.le_of_ble_eq_true rfl) dX7_version_19 ⟨Nat.zero_le _, Nat.zero_le _⟩ (fun H locs hP hD hS => ?_)
  refine kr_top (w := nI n) hw ?_
  refine kr_put hx hcd hts uX7 tyX7 tyX7_ok nmX7 hown hK hP hD hS 0 rfl rfl 7 (by decide) (by decide +kernel) rfl rfl rfl (ws2 := wMo cI z (xu x 7 (nI n)) hh M) rfl dX7_version_22 (fun H locs hP hD hS => ?_)
  refine lv_aload_n hx hcd dX7_version_25 rfl (lv_at hl 0 rfl) ?_
  refine kr_get hx hcd hts uX7 hown hK hP 0 rfl rfl 7 (by decide) (by decide +kernel) (v := .int (nI n)) rfl dX7_version_26 ?_
  refine kr_zeq (tgt := 34) hx hcd (by omega) dX7_version_29 (by decide) (fun (c_29 : n = 0) => absurd c_29 (by omega)) (fun (c_29 : 0 < n) => ?_)
  refine lv_iconst (v := nI 0) hx hcd dX7_version_32 (by decide) ?_
  exact kr_iret hx hcd hr hlocks hK hP hD hS rfl rfl dX7_version_33

set_option maxHeartbeats 4000000 in
set_option maxRecDepth 100000 in
theorem c_X7_version__bad0 (l : Launch) (D : va_G) (cI cB cW cL : ClassId) (z : Nat → Nat) (x : Nat → Int32) (hh : Int64) (sz : Nat) (M : kM) (u : Int32) (n : Nat) (hw : g_why u (-1) = nI n) (hn : 0 < n ∧ n < 3) (g0 : g_usr u = false) : kMi l yX7_version wsX7_version ({ frames := 3, cells := 0, slots := 0, locals := 63 }) D vwCl (kT cI cB cW cL) sz [.ref (z 0), .int u, .int (-1)] (wMo cI z x hh M) (wMo cI z (xu x 7 (nI n)) hh M) 0 := by
  refine kr_ofi (cc := cX7_version) (maxL := 3) (ret := (some .int)) (by decide) rfl (Nat.le_of_ble_eq_true rfl) ?_
  intro pp ee ss mm args below meth cc AA ls hx hcd hr hts hown hlocks hml hK hP hD hA hl
  have hS : va_S AA ss.heap ss.heap [] := va_S.rf
  have hown : ss.vm.findClass RX7 = some mm.cls := hown
  have hl : lv_has ls 3 [(0, .ref (z 0)), (1, .int u), (2, .int (-1))] := hl
  have uX7 : ∀ w ∈ u_ws RX7 TX7 10, w ∈ wsX7_version := by decide +kernel
  refine lv_aload_n hx hcd dX7_version_0 rfl (lv_at hl 0 rfl) ?_
  refine lv_iload_n hx hcd dX7_version_1 rfl (lv_at hl 2 rfl) ?_
  refine lv_iconst (v := (-1)) hx hcd dX7_version_2 (by decide) ?_
  refine lv_icmp_ne (tgt := 17) hx hcd dX7_version_3 (by decide) (fun (c_3 : ¬ (-1) = (-1)) => absurd c_3 (not_not_intro rfl)) (fun (c_3 : (-1) = (-1)) => ?_)
  refine lv_iload_n hx hcd dX7_version_6 rfl (lv_at hl 1 rfl) ?_
  refine kr_Si (As := [.int u]) (rest := [.ref (z 0)]) (ws2 := wMo cI z x hh M) ⟨hx, hcd, hml, hown, hts⟩ (c_X7_isUser l D cI cB cW cL  _ M u) (va_cwS 1 hts gX7_version_X7_isUser rfl rfl rfl (by decide +kernel) ⟨Nat.le_of_ble_eq_true rfl, Nat.le_of_ble_eq_true rfl⟩) hK hP hD hS hA [] rfl (by decide) rfl rfl rfl hl.1 rfl (Nat.le_of_ble_eq_true rfl) dX7_version_7 ⟨Nat.zero_le _, Nat.zero_le _⟩ (fun H locs hP hD hS => ?_)
  refine kr_top (w := nI 0) (kI_no g0 rfl) ?_
  refine kr_zeq (tgt := 17) hx hcd (by omega) dX7_version_10 (by decide) (fun (c_10 : 0 = 0) => ?_) (fun (c_10 : 0 < 0) => absurd c_10 (by omega))
  refine lv_iload_n hx hcd dX7_version_17 rfl (lv_at hl 1 rfl) ?_
  refine lv_iload_n hx hcd dX7_version_18 rfl (lv_at hl 2 rfl) ?_
  refine kr_Si (As := [.int u, .int (-1)]) (rest := [.ref (z 0)]) (ws2 := wMo cI z x hh M) ⟨hx, hcd, hml, hown, hts⟩ (c_X7_whyNot l D cI cB cW cL  _ M u (-1)) (va_cwS 2 hts gX7_version_X7_whyNot rfl rfl rfl (by decide +kernel) ⟨Nat.le_of_ble_eq_true rfl, Nat.le_of_ble_eq_true rfl⟩) hK hP hD hS hA [] rfl (by decide) rfl rfl rfl hl.1 rfl (Nat.le_of_ble_eq_true rfl) dX7_version_19 ⟨Nat.zero_le _, Nat.zero_le _⟩ (fun H locs hP hD hS => ?_)
  refine kr_top (w := nI n) hw ?_
  refine kr_put hx hcd hts uX7 tyX7 tyX7_ok nmX7 hown hK hP hD hS 0 rfl rfl 7 (by decide) (by decide +kernel) rfl rfl rfl (ws2 := wMo cI z (xu x 7 (nI n)) hh M) rfl dX7_version_22 (fun H locs hP hD hS => ?_)
  refine lv_aload_n hx hcd dX7_version_25 rfl (lv_at hl 0 rfl) ?_
  refine kr_get hx hcd hts uX7 hown hK hP 0 rfl rfl 7 (by decide) (by decide +kernel) (v := .int (nI n)) rfl dX7_version_26 ?_
  refine kr_zeq (tgt := 34) hx hcd (by omega) dX7_version_29 (by decide) (fun (c_29 : n = 0) => absurd c_29 (by omega)) (fun (c_29 : 0 < n) => ?_)
  refine lv_iconst (v := nI 0) hx hcd dX7_version_32 (by decide) ?_
  exact kr_iret hx hcd hr hlocks hK hP hD hS rfl rfl dX7_version_33

set_option maxHeartbeats 4000000 in
set_option maxRecDepth 100000 in
theorem c_X7_changedSince__ok (l : Launch) (D : va_G) (cI cB cW cL : ClassId) (z : Nat → Nat) (x : Nat → Int32) (hh : Int64) (sz : Nat) (M : kM) (a : Nat) (v : Int32) (ha : a < 6) (hv : ¬ v < 0) : kMi l yX7_changedSince wsX7_changedSince ({ frames := 2, cells := 0, slots := 0, locals := 42 }) D vwCl (kT cI cB cW cL) sz [.ref (z 0), .int (nI a), .int v] (wMo cI z x hh M) (wMo cI z (xu x 7 0) hh M) (nI (g_chgN M a v 6)) := by
  refine kr_ofi (cc := cX7_changedSince) (maxL := 5) (ret := (some .int)) (by decide) rfl (Nat.le_of_ble_eq_true rfl) ?_
  intro pp ee ss mm args below meth cc AA ls hx hcd hr hts hown hlocks hml hK hP hD hA hl
  have hS : va_S AA ss.heap ss.heap [] := va_S.rf
  have hown : ss.vm.findClass RX7 = some mm.cls := hown
  have hl : lv_has ls 5 [(0, .ref (z 0)), (1, .int (nI a)), (2, .int v)] := hl
  have uX7 : ∀ w ∈ u_ws RX7 TX7 10, w ∈ wsX7_changedSince := by decide +kernel
  refine lv_aload_n hx hcd dX7_changedSince_0 rfl (lv_at hl 0 rfl) ?_
  refine lv_iload_n hx hcd dX7_changedSince_1 rfl (lv_at hl 1 rfl) ?_
  refine kr_Si (As := [.int (nI a)]) (rest := [.ref (z 0)]) (ws2 := wMo cI z x hh M) ⟨hx, hcd, hml, hown, hts⟩ (c_X7_isUser l D cI cB cW cL  _ M (nI a)) (va_cwS 1 hts gX7_changedSince_X7_isUser rfl rfl rfl (by decide +kernel) ⟨Nat.le_of_ble_eq_true rfl, Nat.le_of_ble_eq_true rfl⟩) hK hP hD hS hA [] rfl (by decide) rfl rfl rfl hl.1 rfl (Nat.le_of_ble_eq_true rfl) dX7_changedSince_2 ⟨Nat.zero_le _, Nat.zero_le _⟩ (fun H locs hP hD hS => ?_)
  refine kr_top (w := nI 1) (kI_is (usr_ok ha) rfl) ?_
  refine kr_zne (tgt := 12) hx hcd (by omega) dX7_changedSince_5 (by decide) (fun (c_5 : 0 < 1) => ?_) (fun (c_5 : 1 = 0) => absurd c_5 (by omega))
  refine lv_iload_n hx hcd dX7_changedSince_12 rfl (lv_at hl 2 rfl) ?_
  refine lv_if_ge (tgt := 20) hx hcd dX7_changedSince_13 (by decide) (fun (c_13 : 0 ≤ v) => ?_) (fun (c_13 : ¬ 0 ≤ v) => absurd c_13 (fun h => h (ge_of_nlt hv)))
  refine lv_iconst (v := nI 0) hx hcd dX7_changedSince_20 (by decide) ?_
  refine kr_put hx hcd hts uX7 tyX7 tyX7_ok nmX7 hown hK hP hD hS 0 rfl rfl 7 (by decide) (by decide +kernel) rfl rfl rfl (ws2 := wMo cI z (xu x 7 0) hh M) rfl dX7_changedSince_21 (fun H locs hP hD hS => ?_)
  refine lv_aload_n hx hcd dX7_changedSince_24 rfl (lv_at hl 0 rfl) ?_
  refine kr_get hx hcd hts uX7 hown hK hP 0 rfl rfl 7 (by decide) (by decide +kernel) (v := .int 0) rfl dX7_changedSince_25 ?_
  refine kr_top (w := nI 0) rfl ?_
  refine kr_zeq (tgt := 33) hx hcd (by omega) dX7_changedSince_28 (by decide) (fun (c_28 : 0 = 0) => ?_) (fun (c_28 : 0 < 0) => absurd c_28 (by omega))
  refine lv_iconst (v := nI 0) hx hcd dX7_changedSince_33 (by decide) ?_
  refine lv_istore_n (lv' := [(3, .int (nI 0)), (0, .ref (z 0)), (1, .int (nI a)), (2, .int v)]) hx hcd dX7_changedSince_34 rfl hl (by decide) rfl (fun ls hl => ?_)
  refine lv_iconst (v := nI 0) hx hcd dX7_changedSince_35 (by decide) ?_
  refine lv_istore (lv' := [(4, .int (nI 0)), (3, .int (nI 0)), (0, .ref (z 0)), (1, .int (nI a)), (2, .int v)]) hx hcd dX7_changedSince_36 hl (by decide) rfl (fun ls hl => ?_)
  refine kr_up (fun i => wMo cI z (xu x 7 0) hh M) (fun i => [(0, .ref (z 0)), (1, .int (nI a)), (2, .int v), (3, .int (nI (g_chgN M a v i))), (4, .int (nI i))]) 6 (nL := 5) (fun i hi ih_38 H locs ls hP hD hS hl => ?_) (fun H locs ls hP hD hS hl => ?_) 0 (by omega) hP hD hS (lv_sub hl [2, 3, 4, 1, 0] rfl)
  · have hl : lv_has ls 5 [(0, .ref (z 0)), (1, .int (nI a)), (2, .int v), (3, .int (nI (g_chgN M a v i))), (4, .int (nI i))] := hl
    refine lv_iload hx hcd dX7_changedSince_38 (lv_at hl 4 rfl) ?_
    refine lv_bipush (v := nI 6) hx hcd dX7_changedSince_40 (by decide) ?_
    refine kr_cge (tgt := 78) hx hcd (by omega) (by omega) dX7_changedSince_42 (by decide) (fun (c_42 : 6 ≤ i) => absurd c_42 (by omega)) (fun (c_42 : i < 6) => ?_)
    refine lv_iload_n hx hcd dX7_changedSince_45 rfl (lv_at hl 3 rfl) ?_
    refine lv_aload_n hx hcd dX7_changedSince_46 rfl (lv_at hl 0 rfl) ?_
    refine kr_get hx hcd hts uX7 hown hK hP 0 rfl rfl 0 (by decide) (by decide +kernel) (v := .ref (z 1)) rfl dX7_changedSince_47 ?_
    refine lv_bipush (v := nI 90) hx hcd dX7_changedSince_50 (by decide) ?_
    refine lv_bipush (v := nI 6) hx hcd dX7_changedSince_52 (by decide) ?_
    refine lv_iload_n hx hcd dX7_changedSince_54 rfl (lv_at hl 1 rfl) ?_
    refine kr_mul hx hcd dX7_changedSince_55 ?_
    refine kr_add hx hcd dX7_changedSince_56 ?_
    refine lv_iload hx hcd dX7_changedSince_57 (lv_at hl 4 rfl) ?_
    refine kr_add hx hcd dX7_changedSince_59 ?_
    refine kr_iald hx hcd hK hP 1 0 rfl rfl (v := M (90 + 6 * a + i)) (by omega) (by decide) (congrArg M (by omega)) dX7_changedSince_60 ?_
    refine lv_iload_n hx hcd dX7_changedSince_61 rfl (lv_at hl 2 rfl) ?_
    refine lv_icmp_le (tgt := 69) hx hcd dX7_changedSince_62 (by decide) (fun (c_62 : (M (90 + 6 * a + i)) ≤ v) => ?_) (fun (c_62 : ¬ (M (90 + 6 * a + i)) ≤ v) => ?_)
    · refine lv_iconst (v := nI 0) hx hcd dX7_changedSince_69 (by decide) ?_
      refine kr_add hx hcd dX7_changedSince_70 ?_
      refine lv_istore_n (lv' := [(3, .int (nI ((g_chgN M a v i) + 0))), (0, .ref (z 0)), (1, .int (nI a)), (2, .int v), (4, .int (nI i))]) hx hcd dX7_changedSince_71 rfl hl (by decide) rfl (fun ls hl => ?_)
      refine kr_iinc (lv' := [(4, .int (nI (i + 1))), (3, .int (nI ((g_chgN M a v i) + 0))), (0, .ref (z 0)), (1, .int (nI a)), (2, .int v)]) hx hcd dX7_changedSince_72 hl (k := 4) rfl (by decide) rfl (fun ls hl => ?_)
      refine lv_goto (tgt := 38) hx hcd dX7_changedSince_75 (by decide) ?_
      have hl : lv_has ls 5 [(0, .ref (z 0)), (1, .int (nI a)), (2, .int v), (3, .int (nI ((g_chgN M a v i) + 0))), (4, .int (nI (i + 1)))] := lv_sub hl [2, 3, 4, 1, 0] rfl
      have e9 : ([(0, .ref (z 0)), (1, .int (nI a)), (2, .int v), (3, .int (nI ((g_chgN M a v i) + 0))), (4, .int (nI (i + 1)))] : List (Nat × Value)) = [(0, .ref (z 0)), (1, .int (nI a)), (2, .int v), (3, .int (nI (g_chgN M a v (i + 1)))), (4, .int (nI (i + 1)))] := by simp [g_chgN, c_5, c_13, c_28, c_42, c_62]
      exact ih_38 H locs ls hP hD hS (e9 ▸ hl)
    · refine lv_iconst (v := nI 1) hx hcd dX7_changedSince_65 (by decide) ?_
      refine lv_goto (tgt := 70) hx hcd dX7_changedSince_66 (by decide) ?_
      refine kr_add hx hcd dX7_changedSince_70 ?_
      refine lv_istore_n (lv' := [(3, .int (nI ((g_chgN M a v i) + 1))), (0, .ref (z 0)), (1, .int (nI a)), (2, .int v), (4, .int (nI i))]) hx hcd dX7_changedSince_71 rfl hl (by decide) rfl (fun ls hl => ?_)
      refine kr_iinc (lv' := [(4, .int (nI (i + 1))), (3, .int (nI ((g_chgN M a v i) + 1))), (0, .ref (z 0)), (1, .int (nI a)), (2, .int v)]) hx hcd dX7_changedSince_72 hl (k := 4) rfl (by decide) rfl (fun ls hl => ?_)
      refine lv_goto (tgt := 38) hx hcd dX7_changedSince_75 (by decide) ?_
      have hl : lv_has ls 5 [(0, .ref (z 0)), (1, .int (nI a)), (2, .int v), (3, .int (nI ((g_chgN M a v i) + 1))), (4, .int (nI (i + 1)))] := lv_sub hl [2, 3, 4, 1, 0] rfl
      have e9 : ([(0, .ref (z 0)), (1, .int (nI a)), (2, .int v), (3, .int (nI ((g_chgN M a v i) + 1))), (4, .int (nI (i + 1)))] : List (Nat × Value)) = [(0, .ref (z 0)), (1, .int (nI a)), (2, .int v), (3, .int (nI (g_chgN M a v (i + 1)))), (4, .int (nI (i + 1)))] := by simp [g_chgN, c_5, c_13, c_28, c_42, c_62]
      exact ih_38 H locs ls hP hD hS (e9 ▸ hl)
  · have hl : lv_has ls 5 [(0, .ref (z 0)), (1, .int (nI a)), (2, .int v), (3, .int (nI (g_chgN M a v 6))), (4, .int (nI 6))] := hl
    refine lv_iload hx hcd dX7_changedSince_38 (lv_at hl 4 rfl) ?_
    refine lv_bipush (v := nI 6) hx hcd dX7_changedSince_40 (by decide) ?_
    refine kr_cge (tgt := 78) hx hcd (by omega) (by omega) dX7_changedSince_42 (by decide) (fun (c_42 : 6 ≤ 6) => ?_) (fun (c_42 : 6 < 6) => absurd c_42 (by omega))
    refine lv_iload_n hx hcd dX7_changedSince_78 rfl (lv_at hl 3 rfl) ?_
    exact kr_iret hx hcd hr hlocks hK hP hD hS rfl rfl dX7_changedSince_79

set_option maxHeartbeats 4000000 in
set_option maxRecDepth 100000 in
theorem c_X7_changedSince__b1 (l : Launch) (D : va_G) (cI cB cW cL : ClassId) (z : Nat → Nat) (x : Nat → Int32) (hh : Int64) (sz : Nat) (M : kM) (u : Int32) (w : Int32) (g0 : g_usr u = false) : kMi l yX7_changedSince wsX7_changedSince ({ frames := 2, cells := 0, slots := 0, locals := 42 }) D vwCl (kT cI cB cW cL) sz [.ref (z 0), .int u, .int w] (wMo cI z x hh M) (wMo cI z (xu x 7 1) hh M) 0 := by
  refine kr_ofi (cc := cX7_changedSince) (maxL := 5) (ret := (some .int)) (by decide) rfl (Nat.le_of_ble_eq_true rfl) ?_
  intro pp ee ss mm args below meth cc AA ls hx hcd hr hts hown hlocks hml hK hP hD hA hl
  have hS : va_S AA ss.heap ss.heap [] := va_S.rf
  have hown : ss.vm.findClass RX7 = some mm.cls := hown
  have hl : lv_has ls 5 [(0, .ref (z 0)), (1, .int u), (2, .int w)] := hl
  have uX7 : ∀ w ∈ u_ws RX7 TX7 10, w ∈ wsX7_changedSince := by decide +kernel
  refine lv_aload_n hx hcd dX7_changedSince_0 rfl (lv_at hl 0 rfl) ?_
  refine lv_iload_n hx hcd dX7_changedSince_1 rfl (lv_at hl 1 rfl) ?_
  refine kr_Si (As := [.int u]) (rest := [.ref (z 0)]) (ws2 := wMo cI z x hh M) ⟨hx, hcd, hml, hown, hts⟩ (c_X7_isUser l D cI cB cW cL  _ M u) (va_cwS 1 hts gX7_changedSince_X7_isUser rfl rfl rfl (by decide +kernel) ⟨Nat.le_of_ble_eq_true rfl, Nat.le_of_ble_eq_true rfl⟩) hK hP hD hS hA [] rfl (by decide) rfl rfl rfl hl.1 rfl (Nat.le_of_ble_eq_true rfl) dX7_changedSince_2 ⟨Nat.zero_le _, Nat.zero_le _⟩ (fun H locs hP hD hS => ?_)
  refine kr_top (w := nI 0) (kI_no g0 rfl) ?_
  refine kr_zne (tgt := 12) hx hcd (by omega) dX7_changedSince_5 (by decide) (fun (c_5 : 0 < 0) => absurd c_5 (by omega)) (fun (c_5 : 0 = 0) => ?_)
  refine lv_iconst (v := nI 1) hx hcd dX7_changedSince_8 (by decide) ?_
  refine lv_goto (tgt := 21) hx hcd dX7_changedSince_9 (by decide) ?_
  refine kr_put hx hcd hts uX7 tyX7 tyX7_ok nmX7 hown hK hP hD hS 0 rfl rfl 7 (by decide) (by decide +kernel) rfl rfl rfl (ws2 := wMo cI z (xu x 7 1) hh M) rfl dX7_changedSince_21 (fun H locs hP hD hS => ?_)
  refine lv_aload_n hx hcd dX7_changedSince_24 rfl (lv_at hl 0 rfl) ?_
  refine kr_get hx hcd hts uX7 hown hK hP 0 rfl rfl 7 (by decide) (by decide +kernel) (v := .int 1) rfl dX7_changedSince_25 ?_
  refine kr_top (w := nI 1) rfl ?_
  refine kr_zeq (tgt := 33) hx hcd (by omega) dX7_changedSince_28 (by decide) (fun (c_28 : 1 = 0) => absurd c_28 (by omega)) (fun (c_28 : 0 < 1) => ?_)
  refine lv_iconst (v := nI 0) hx hcd dX7_changedSince_31 (by decide) ?_
  exact kr_iret hx hcd hr hlocks hK hP hD hS rfl rfl dX7_changedSince_32

set_option maxHeartbeats 4000000 in
set_option maxRecDepth 100000 in
theorem c_X7_changedSince__b2 (l : Launch) (D : va_G) (cI cB cW cL : ClassId) (z : Nat → Nat) (x : Nat → Int32) (hh : Int64) (sz : Nat) (M : kM) (u : Int32) (w : Int32) (g0 : g_usr u = true) (hv : w < 0) : kMi l yX7_changedSince wsX7_changedSince ({ frames := 2, cells := 0, slots := 0, locals := 42 }) D vwCl (kT cI cB cW cL) sz [.ref (z 0), .int u, .int w] (wMo cI z x hh M) (wMo cI z (xu x 7 2) hh M) 0 := by
  refine kr_ofi (cc := cX7_changedSince) (maxL := 5) (ret := (some .int)) (by decide) rfl (Nat.le_of_ble_eq_true rfl) ?_
  intro pp ee ss mm args below meth cc AA ls hx hcd hr hts hown hlocks hml hK hP hD hA hl
  have hS : va_S AA ss.heap ss.heap [] := va_S.rf
  have hown : ss.vm.findClass RX7 = some mm.cls := hown
  have hl : lv_has ls 5 [(0, .ref (z 0)), (1, .int u), (2, .int w)] := hl
  have uX7 : ∀ w ∈ u_ws RX7 TX7 10, w ∈ wsX7_changedSince := by decide +kernel
  refine lv_aload_n hx hcd dX7_changedSince_0 rfl (lv_at hl 0 rfl) ?_
  refine lv_iload_n hx hcd dX7_changedSince_1 rfl (lv_at hl 1 rfl) ?_
  refine kr_Si (As := [.int u]) (rest := [.ref (z 0)]) (ws2 := wMo cI z x hh M) ⟨hx, hcd, hml, hown, hts⟩ (c_X7_isUser l D cI cB cW cL  _ M u) (va_cwS 1 hts gX7_changedSince_X7_isUser rfl rfl rfl (by decide +kernel) ⟨Nat.le_of_ble_eq_true rfl, Nat.le_of_ble_eq_true rfl⟩) hK hP hD hS hA [] rfl (by decide) rfl rfl rfl hl.1 rfl (Nat.le_of_ble_eq_true rfl) dX7_changedSince_2 ⟨Nat.zero_le _, Nat.zero_le _⟩ (fun H locs hP hD hS => ?_)
  refine kr_top (w := nI 1) (kI_is g0 rfl) ?_
  refine kr_zne (tgt := 12) hx hcd (by omega) dX7_changedSince_5 (by decide) (fun (c_5 : 0 < 1) => ?_) (fun (c_5 : 1 = 0) => absurd c_5 (by omega))
  refine lv_iload_n hx hcd dX7_changedSince_12 rfl (lv_at hl 2 rfl) ?_
  refine lv_if_ge (tgt := 20) hx hcd dX7_changedSince_13 (by decide) (fun (c_13 : 0 ≤ w) => absurd c_13 (fun h => nlt_of_ge h hv)) (fun (c_13 : ¬ 0 ≤ w) => ?_)
  refine lv_iconst (v := nI 2) hx hcd dX7_changedSince_16 (by decide) ?_
  refine lv_goto (tgt := 21) hx hcd dX7_changedSince_17 (by decide) ?_
  refine kr_put hx hcd hts uX7 tyX7 tyX7_ok nmX7 hown hK hP hD hS 0 rfl rfl 7 (by decide) (by decide +kernel) rfl rfl rfl (ws2 := wMo cI z (xu x 7 2) hh M) rfl dX7_changedSince_21 (fun H locs hP hD hS => ?_)
  refine lv_aload_n hx hcd dX7_changedSince_24 rfl (lv_at hl 0 rfl) ?_
  refine kr_get hx hcd hts uX7 hown hK hP 0 rfl rfl 7 (by decide) (by decide +kernel) (v := .int 2) rfl dX7_changedSince_25 ?_
  refine kr_top (w := nI 2) rfl ?_
  refine kr_zeq (tgt := 33) hx hcd (by omega) dX7_changedSince_28 (by decide) (fun (c_28 : 2 = 0) => absurd c_28 (by omega)) (fun (c_28 : 0 < 2) => ?_)
  refine lv_iconst (v := nI 0) hx hcd dX7_changedSince_31 (by decide) ?_
  exact kr_iret hx hcd hr hlocks hK hP hD hS rfl rfl dX7_changedSince_32

set_option maxHeartbeats 4000000 in
set_option maxRecDepth 100000 in
theorem c_X7_view__ok (l : Launch) (D : va_G) (cI cB cW cL : ClassId) (z : Nat → Nat) (x : Nat → Int32) (hh : Int64) (sz : Nat) (M : kM) (a : Nat) (b : Nat) (s : Nat) (ha : a < 6) (hb : b < 6) (hs : s < 3) (hne : a ≠ b) : kMi l yX7_view wsX7_view ({ frames := 3, cells := 0, slots := 0, locals := 63 }) D vwCl (kT cI cB cW cL) sz [.ref (z 0), .int (nI a), .int (nI b), .int (nI s)] (wMo cI z x hh M) (wMo cI z (xu x 7 0) hh M) (M (132 + 18 * a + 3 * b + s)) := by
  refine kr_ofi (cc := cX7_view) (maxL := 4) (ret := (some .int)) (by decide) rfl (Nat.le_of_ble_eq_true rfl) ?_
  intro pp ee ss mm args below meth cc AA ls hx hcd hr hts hown hlocks hml hK hP hD hA hl
  have hS : va_S AA ss.heap ss.heap [] := va_S.rf
  have hown : ss.vm.findClass RX7 = some mm.cls := hown
  have hl : lv_has ls 4 [(0, .ref (z 0)), (1, .int (nI a)), (2, .int (nI b)), (3, .int (nI s))] := hl
  have uX7 : ∀ w ∈ u_ws RX7 TX7 10, w ∈ wsX7_view := by decide +kernel
  refine lv_aload_n hx hcd dX7_view_0 rfl (lv_at hl 0 rfl) ?_
  refine lv_iload_n hx hcd dX7_view_1 rfl (lv_at hl 1 rfl) ?_
  refine kr_Si (As := [.int (nI a)]) (rest := [.ref (z 0)]) (ws2 := wMo cI z x hh M) ⟨hx, hcd, hml, hown, hts⟩ (c_X7_isUser l D cI cB cW cL  _ M (nI a)) (va_cwS 1 hts gX7_view_X7_isUser rfl rfl rfl (by decide +kernel) ⟨Nat.le_of_ble_eq_true rfl, Nat.le_of_ble_eq_true rfl⟩) hK hP hD hS hA [] rfl (by decide) rfl rfl rfl hl.1 rfl (Nat.le_of_ble_eq_true rfl) dX7_view_2 ⟨Nat.zero_le _, Nat.zero_le _⟩ (fun H locs hP hD hS => ?_)
  refine kr_top (w := nI 1) (kI_is (usr_ok ha) rfl) ?_
  refine kr_zeq (tgt := 16) hx hcd (by omega) dX7_view_5 (by decide) (fun (c_5 : 1 = 0) => absurd c_5 (by omega)) (fun (c_5 : 0 < 1) => ?_)
  refine lv_iload_n hx hcd dX7_view_8 rfl (lv_at hl 2 rfl) ?_
  refine lv_iload_n hx hcd dX7_view_9 rfl (lv_at hl 3 rfl) ?_
  refine kr_Si (As := [.int (nI b), .int (nI s)]) (rest := [.ref (z 0)]) (ws2 := wMo cI z x hh M) ⟨hx, hcd, hml, hown, hts⟩ (c_X7_isSeat l D cI cB cW cL  _ M (nI b) (nI s)) (va_cwS 2 hts gX7_view_X7_isSeat rfl rfl rfl (by decide +kernel) ⟨Nat.le_of_ble_eq_true rfl, Nat.le_of_ble_eq_true rfl⟩) hK hP hD hS hA [] rfl (by decide) rfl rfl rfl hl.1 rfl (Nat.le_of_ble_eq_true rfl) dX7_view_10 ⟨Nat.zero_le _, Nat.zero_le _⟩ (fun H locs hP hD hS => ?_)
  refine kr_top (w := nI 1) (kI_is (seat_ok hb hs) rfl) ?_
  refine kr_zne (tgt := 20) hx hcd (by omega) dX7_view_13 (by decide) (fun (c_13 : 0 < 1) => ?_) (fun (c_13 : 1 = 0) => absurd c_13 (by omega))
  refine lv_iload_n hx hcd dX7_view_20 rfl (lv_at hl 1 rfl) ?_
  refine lv_iload_n hx hcd dX7_view_21 rfl (lv_at hl 2 rfl) ?_
  refine kr_cne (tgt := 29) hx hcd (by omega) (by omega) dX7_view_22 (by decide) (fun (c_22 : ¬ a = b) => ?_) (fun (c_22 : a = b) => absurd c_22 (by omega))
  refine lv_iconst (v := nI 0) hx hcd dX7_view_29 (by decide) ?_
  refine kr_put hx hcd hts uX7 tyX7 tyX7_ok nmX7 hown hK hP hD hS 0 rfl rfl 7 (by decide) (by decide +kernel) rfl rfl rfl (ws2 := wMo cI z (xu x 7 0) hh M) rfl dX7_view_30 (fun H locs hP hD hS => ?_)
  refine lv_aload_n hx hcd dX7_view_33 rfl (lv_at hl 0 rfl) ?_
  refine kr_get hx hcd hts uX7 hown hK hP 0 rfl rfl 7 (by decide) (by decide +kernel) (v := .int 0) rfl dX7_view_34 ?_
  refine kr_top (w := nI 0) rfl ?_
  refine kr_zeq (tgt := 44) hx hcd (by omega) dX7_view_37 (by decide) (fun (c_37 : 0 = 0) => ?_) (fun (c_37 : 0 < 0) => absurd c_37 (by omega))
  refine lv_aload_n hx hcd dX7_view_44 rfl (lv_at hl 0 rfl) ?_
  refine kr_get hx hcd hts uX7 hown hK hP 0 rfl rfl 0 (by decide) (by decide +kernel) (v := .ref (z 1)) rfl dX7_view_45 ?_
  refine lv_iload_n hx hcd dX7_view_48 rfl (lv_at hl 1 rfl) ?_
  refine lv_iload_n hx hcd dX7_view_49 rfl (lv_at hl 2 rfl) ?_
  refine lv_iload_n hx hcd dX7_view_50 rfl (lv_at hl 3 rfl) ?_
  refine kr_Si (As := [.int (nI a), .int (nI b), .int (nI s)]) (rest := [.ref (z 1)]) (ws2 := wMo cI z (xu x 7 0) hh M) ⟨hx, hcd, hml, hown, hts⟩ (c_X7_viewCell l D cI cB cW cL  _ M a b s) (va_cwS 3 hts gX7_view_X7_viewCell rfl rfl rfl (by decide +kernel) ⟨Nat.le_of_ble_eq_true rfl, Nat.le_of_ble_eq_true rfl⟩) hK hP hD hS hA [] rfl (by decide) rfl rfl rfl hl.1 rfl (Nat.le_of_ble_eq_true rfl) dX7_view_51 ⟨Nat.zero_le _, Nat.zero_le _⟩ (fun H locs hP hD hS => ?_)
  refine kr_iald hx hcd hK hP 1 0 rfl rfl (v := M (132 + 18 * a + 3 * b + s)) (by omega) (by decide) (congrArg M (by omega)) dX7_view_54 ?_
  exact kr_iret hx hcd hr hlocks hK hP hD hS rfl rfl dX7_view_55

set_option maxHeartbeats 4000000 in
set_option maxRecDepth 100000 in
theorem c_X7_view__b1a (l : Launch) (D : va_G) (cI cB cW cL : ClassId) (z : Nat → Nat) (x : Nat → Int32) (hh : Int64) (sz : Nat) (M : kM) (u : Int32) (w : Int32) (t : Int32) (g0 : g_usr u = false) : kMi l yX7_view wsX7_view ({ frames := 2, cells := 0, slots := 0, locals := 42 }) D vwCl (kT cI cB cW cL) sz [.ref (z 0), .int u, .int w, .int t] (wMo cI z x hh M) (wMo cI z (xu x 7 1) hh M) 0 := by
  refine kr_ofi (cc := cX7_view) (maxL := 4) (ret := (some .int)) (by decide) rfl (Nat.le_of_ble_eq_true rfl) ?_
  intro pp ee ss mm args below meth cc AA ls hx hcd hr hts hown hlocks hml hK hP hD hA hl
  have hS : va_S AA ss.heap ss.heap [] := va_S.rf
  have hown : ss.vm.findClass RX7 = some mm.cls := hown
  have hl : lv_has ls 4 [(0, .ref (z 0)), (1, .int u), (2, .int w), (3, .int t)] := hl
  have uX7 : ∀ w ∈ u_ws RX7 TX7 10, w ∈ wsX7_view := by decide +kernel
  refine lv_aload_n hx hcd dX7_view_0 rfl (lv_at hl 0 rfl) ?_
  refine lv_iload_n hx hcd dX7_view_1 rfl (lv_at hl 1 rfl) ?_
  refine kr_Si (As := [.int u]) (rest := [.ref (z 0)]) (ws2 := wMo cI z x hh M) ⟨hx, hcd, hml, hown, hts⟩ (c_X7_isUser l D cI cB cW cL  _ M u) (va_cwS 1 hts gX7_view_X7_isUser rfl rfl rfl (by decide +kernel) ⟨Nat.le_of_ble_eq_true rfl, Nat.le_of_ble_eq_true rfl⟩) hK hP hD hS hA [] rfl (by decide) rfl rfl rfl hl.1 rfl (Nat.le_of_ble_eq_true rfl) dX7_view_2 ⟨Nat.zero_le _, Nat.zero_le _⟩ (fun H locs hP hD hS => ?_)
  refine kr_top (w := nI 0) (kI_no g0 rfl) ?_
  refine kr_zeq (tgt := 16) hx hcd (by omega) dX7_view_5 (by decide) (fun (c_5 : 0 = 0) => ?_) (fun (c_5 : 0 < 0) => absurd c_5 (by omega))
  refine lv_iconst (v := nI 1) hx hcd dX7_view_16 (by decide) ?_
  refine lv_goto (tgt := 30) hx hcd dX7_view_17 (by decide) ?_
  refine kr_put hx hcd hts uX7 tyX7 tyX7_ok nmX7 hown hK hP hD hS 0 rfl rfl 7 (by decide) (by decide +kernel) rfl rfl rfl (ws2 := wMo cI z (xu x 7 1) hh M) rfl dX7_view_30 (fun H locs hP hD hS => ?_)
  refine lv_aload_n hx hcd dX7_view_33 rfl (lv_at hl 0 rfl) ?_
  refine kr_get hx hcd hts uX7 hown hK hP 0 rfl rfl 7 (by decide) (by decide +kernel) (v := .int 1) rfl dX7_view_34 ?_
  refine kr_top (w := nI 1) rfl ?_
  refine kr_zeq (tgt := 44) hx hcd (by omega) dX7_view_37 (by decide) (fun (c_37 : 1 = 0) => absurd c_37 (by omega)) (fun (c_37 : 0 < 1) => ?_)
  refine lv_iconst (v := nI 0) hx hcd dX7_view_40 (by decide) ?_
  refine lv_goto (tgt := 55) hx hcd dX7_view_41 (by decide) ?_
  exact kr_iret hx hcd hr hlocks hK hP hD hS rfl rfl dX7_view_55

set_option maxHeartbeats 4000000 in
set_option maxRecDepth 100000 in
theorem c_X7_view__b1b (l : Launch) (D : va_G) (cI cB cW cL : ClassId) (z : Nat → Nat) (x : Nat → Int32) (hh : Int64) (sz : Nat) (M : kM) (u : Int32) (w : Int32) (t : Int32) (g0 : g_usr u = true) (g1 : g_seatok w t = false) : kMi l yX7_view wsX7_view ({ frames := 3, cells := 0, slots := 0, locals := 63 }) D vwCl (kT cI cB cW cL) sz [.ref (z 0), .int u, .int w, .int t] (wMo cI z x hh M) (wMo cI z (xu x 7 1) hh M) 0 := by
  refine kr_ofi (cc := cX7_view) (maxL := 4) (ret := (some .int)) (by decide) rfl (Nat.le_of_ble_eq_true rfl) ?_
  intro pp ee ss mm args below meth cc AA ls hx hcd hr hts hown hlocks hml hK hP hD hA hl
  have hS : va_S AA ss.heap ss.heap [] := va_S.rf
  have hown : ss.vm.findClass RX7 = some mm.cls := hown
  have hl : lv_has ls 4 [(0, .ref (z 0)), (1, .int u), (2, .int w), (3, .int t)] := hl
  have uX7 : ∀ w ∈ u_ws RX7 TX7 10, w ∈ wsX7_view := by decide +kernel
  refine lv_aload_n hx hcd dX7_view_0 rfl (lv_at hl 0 rfl) ?_
  refine lv_iload_n hx hcd dX7_view_1 rfl (lv_at hl 1 rfl) ?_
  refine kr_Si (As := [.int u]) (rest := [.ref (z 0)]) (ws2 := wMo cI z x hh M) ⟨hx, hcd, hml, hown, hts⟩ (c_X7_isUser l D cI cB cW cL  _ M u) (va_cwS 1 hts gX7_view_X7_isUser rfl rfl rfl (by decide +kernel) ⟨Nat.le_of_ble_eq_true rfl, Nat.le_of_ble_eq_true rfl⟩) hK hP hD hS hA [] rfl (by decide) rfl rfl rfl hl.1 rfl (Nat.le_of_ble_eq_true rfl) dX7_view_2 ⟨Nat.zero_le _, Nat.zero_le _⟩ (fun H locs hP hD hS => ?_)
  refine kr_top (w := nI 1) (kI_is g0 rfl) ?_
  refine kr_zeq (tgt := 16) hx hcd (by omega) dX7_view_5 (by decide) (fun (c_5 : 1 = 0) => absurd c_5 (by omega)) (fun (c_5 : 0 < 1) => ?_)
  refine lv_iload_n hx hcd dX7_view_8 rfl (lv_at hl 2 rfl) ?_
  refine lv_iload_n hx hcd dX7_view_9 rfl (lv_at hl 3 rfl) ?_
  refine kr_Si (As := [.int w, .int t]) (rest := [.ref (z 0)]) (ws2 := wMo cI z x hh M) ⟨hx, hcd, hml, hown, hts⟩ (c_X7_isSeat l D cI cB cW cL  _ M w t) (va_cwS 2 hts gX7_view_X7_isSeat rfl rfl rfl (by decide +kernel) ⟨Nat.le_of_ble_eq_true rfl, Nat.le_of_ble_eq_true rfl⟩) hK hP hD hS hA [] rfl (by decide) rfl rfl rfl hl.1 rfl (Nat.le_of_ble_eq_true rfl) dX7_view_10 ⟨Nat.zero_le _, Nat.zero_le _⟩ (fun H locs hP hD hS => ?_)
  refine kr_top (w := nI 0) (kI_no g1 rfl) ?_
  refine kr_zne (tgt := 20) hx hcd (by omega) dX7_view_13 (by decide) (fun (c_13 : 0 < 0) => absurd c_13 (by omega)) (fun (c_13 : 0 = 0) => ?_)
  refine lv_iconst (v := nI 1) hx hcd dX7_view_16 (by decide) ?_
  refine lv_goto (tgt := 30) hx hcd dX7_view_17 (by decide) ?_
  refine kr_put hx hcd hts uX7 tyX7 tyX7_ok nmX7 hown hK hP hD hS 0 rfl rfl 7 (by decide) (by decide +kernel) rfl rfl rfl (ws2 := wMo cI z (xu x 7 1) hh M) rfl dX7_view_30 (fun H locs hP hD hS => ?_)
  refine lv_aload_n hx hcd dX7_view_33 rfl (lv_at hl 0 rfl) ?_
  refine kr_get hx hcd hts uX7 hown hK hP 0 rfl rfl 7 (by decide) (by decide +kernel) (v := .int 1) rfl dX7_view_34 ?_
  refine kr_top (w := nI 1) rfl ?_
  refine kr_zeq (tgt := 44) hx hcd (by omega) dX7_view_37 (by decide) (fun (c_37 : 1 = 0) => absurd c_37 (by omega)) (fun (c_37 : 0 < 1) => ?_)
  refine lv_iconst (v := nI 0) hx hcd dX7_view_40 (by decide) ?_
  refine lv_goto (tgt := 55) hx hcd dX7_view_41 (by decide) ?_
  exact kr_iret hx hcd hr hlocks hK hP hD hS rfl rfl dX7_view_55

set_option maxHeartbeats 4000000 in
set_option maxRecDepth 100000 in
theorem c_X7_view__b2 (l : Launch) (D : va_G) (cI cB cW cL : ClassId) (z : Nat → Nat) (x : Nat → Int32) (hh : Int64) (sz : Nat) (M : kM) (u : Int32) (w : Int32) (t : Int32) (g0 : g_usr u = true) (g1 : g_seatok w t = true) (he : u = w) : kMi l yX7_view wsX7_view ({ frames := 3, cells := 0, slots := 0, locals := 63 }) D vwCl (kT cI cB cW cL) sz [.ref (z 0), .int u, .int w, .int t] (wMo cI z x hh M) (wMo cI z (xu x 7 2) hh M) 0 := by
  refine kr_ofi (cc := cX7_view) (maxL := 4) (ret := (some .int)) (by decide) rfl (Nat.le_of_ble_eq_true rfl) ?_
  intro pp ee ss mm args below meth cc AA ls hx hcd hr hts hown hlocks hml hK hP hD hA hl
  have hS : va_S AA ss.heap ss.heap [] := va_S.rf
  have hown : ss.vm.findClass RX7 = some mm.cls := hown
  have hl : lv_has ls 4 [(0, .ref (z 0)), (1, .int u), (2, .int w), (3, .int t)] := hl
  have uX7 : ∀ w ∈ u_ws RX7 TX7 10, w ∈ wsX7_view := by decide +kernel
  refine lv_aload_n hx hcd dX7_view_0 rfl (lv_at hl 0 rfl) ?_
  refine lv_iload_n hx hcd dX7_view_1 rfl (lv_at hl 1 rfl) ?_
  refine kr_Si (As := [.int u]) (rest := [.ref (z 0)]) (ws2 := wMo cI z x hh M) ⟨hx, hcd, hml, hown, hts⟩ (c_X7_isUser l D cI cB cW cL  _ M u) (va_cwS 1 hts gX7_view_X7_isUser rfl rfl rfl (by decide +kernel) ⟨Nat.le_of_ble_eq_true rfl, Nat.le_of_ble_eq_true rfl⟩) hK hP hD hS hA [] rfl (by decide) rfl rfl rfl hl.1 rfl (Nat.le_of_ble_eq_true rfl) dX7_view_2 ⟨Nat.zero_le _, Nat.zero_le _⟩ (fun H locs hP hD hS => ?_)
  refine kr_top (w := nI 1) (kI_is g0 rfl) ?_
  refine kr_zeq (tgt := 16) hx hcd (by omega) dX7_view_5 (by decide) (fun (c_5 : 1 = 0) => absurd c_5 (by omega)) (fun (c_5 : 0 < 1) => ?_)
  refine lv_iload_n hx hcd dX7_view_8 rfl (lv_at hl 2 rfl) ?_
  refine lv_iload_n hx hcd dX7_view_9 rfl (lv_at hl 3 rfl) ?_
  refine kr_Si (As := [.int w, .int t]) (rest := [.ref (z 0)]) (ws2 := wMo cI z x hh M) ⟨hx, hcd, hml, hown, hts⟩ (c_X7_isSeat l D cI cB cW cL  _ M w t) (va_cwS 2 hts gX7_view_X7_isSeat rfl rfl rfl (by decide +kernel) ⟨Nat.le_of_ble_eq_true rfl, Nat.le_of_ble_eq_true rfl⟩) hK hP hD hS hA [] rfl (by decide) rfl rfl rfl hl.1 rfl (Nat.le_of_ble_eq_true rfl) dX7_view_10 ⟨Nat.zero_le _, Nat.zero_le _⟩ (fun H locs hP hD hS => ?_)
  refine kr_top (w := nI 1) (kI_is g1 rfl) ?_
  refine kr_zne (tgt := 20) hx hcd (by omega) dX7_view_13 (by decide) (fun (c_13 : 0 < 1) => ?_) (fun (c_13 : 1 = 0) => absurd c_13 (by omega))
  refine lv_iload_n hx hcd dX7_view_20 rfl (lv_at hl 1 rfl) ?_
  refine lv_iload_n hx hcd dX7_view_21 rfl (lv_at hl 2 rfl) ?_
  refine lv_icmp_ne (tgt := 29) hx hcd dX7_view_22 (by decide) (fun (c_22 : ¬ u = w) => absurd c_22 (not_not_intro he)) (fun (c_22 : u = w) => ?_)
  refine lv_iconst (v := nI 2) hx hcd dX7_view_25 (by decide) ?_
  refine lv_goto (tgt := 30) hx hcd dX7_view_26 (by decide) ?_
  refine kr_put hx hcd hts uX7 tyX7 tyX7_ok nmX7 hown hK hP hD hS 0 rfl rfl 7 (by decide) (by decide +kernel) rfl rfl rfl (ws2 := wMo cI z (xu x 7 2) hh M) rfl dX7_view_30 (fun H locs hP hD hS => ?_)
  refine lv_aload_n hx hcd dX7_view_33 rfl (lv_at hl 0 rfl) ?_
  refine kr_get hx hcd hts uX7 hown hK hP 0 rfl rfl 7 (by decide) (by decide +kernel) (v := .int 2) rfl dX7_view_34 ?_
  refine kr_top (w := nI 2) rfl ?_
  refine kr_zeq (tgt := 44) hx hcd (by omega) dX7_view_37 (by decide) (fun (c_37 : 2 = 0) => absurd c_37 (by omega)) (fun (c_37 : 0 < 2) => ?_)
  refine lv_iconst (v := nI 0) hx hcd dX7_view_40 (by decide) ?_
  refine lv_goto (tgt := 55) hx hcd dX7_view_41 (by decide) ?_
  exact kr_iret hx hcd hr hlocks hK hP hD hS rfl rfl dX7_view_55

set_option maxHeartbeats 4000000 in
set_option maxRecDepth 100000 in
theorem c_X7_agreeing__ok (l : Launch) (D : va_G) (cI cB cW cL : ClassId) (z : Nat → Nat) (x : Nat → Int32) (hh : Int64) (sz : Nat) (M : kM)  : kMi l yX7_agreeing wsX7_agreeing ({ frames := 4, cells := 0, slots := 0, locals := 90 }) D vwCl (kT cI cB cW cL) sz [.ref (z 0)] (wMo cI z x hh M) (wMo cI z (xu x 7 0) hh M) (nI (g_pairs M)) := by
  refine kr_ofi (cc := cX7_agreeing) (maxL := 1) (ret := (some .int)) (by decide) rfl (Nat.le_of_ble_eq_true rfl) ?_
  intro pp ee ss mm args below meth cc AA ls hx hcd hr hts hown hlocks hml hK hP hD hA hl
  have hS : va_S AA ss.heap ss.heap [] := va_S.rf
  have hown : ss.vm.findClass RX7 = some mm.cls := hown
  have hl : lv_has ls 1 [(0, .ref (z 0))] := hl
  have uX7 : ∀ w ∈ u_ws RX7 TX7 10, w ∈ wsX7_agreeing := by decide +kernel
  refine lv_aload_n hx hcd dX7_agreeing_0 rfl (lv_at hl 0 rfl) ?_
  refine lv_iconst (v := nI 0) hx hcd dX7_agreeing_1 (by decide) ?_
  refine kr_put hx hcd hts uX7 tyX7 tyX7_ok nmX7 hown hK hP hD hS 0 rfl rfl 7 (by decide) (by decide +kernel) rfl rfl rfl (ws2 := wMo cI z (xu x 7 0) hh M) rfl dX7_agreeing_2 (fun H locs hP hD hS => ?_)
  refine lv_aload_n hx hcd dX7_agreeing_5 rfl (lv_at hl 0 rfl) ?_
  refine kr_Vi (As := []) (rest := []) (ws2 := wMo cI z (xu x 7 0) hh M) (q := (RX7, TX7, 10)) ⟨hx, hcd, hml, hown, hts⟩ (c_X7_pairsAgreeing l D cI cB cW cL z (xu x 7 0) hh _ M ) (cwV 0 hts gX7_agreeing_X7_pairsAgreeing rfl rfl rfl (by decide +kernel) ⟨Nat.le_of_ble_eq_true rfl, Nat.le_of_ble_eq_true rfl⟩) hK hP hD hS hA [0, 1] wMo_allC (by decide) wMo_adr wMo_all 0 rfl rfl rfl hl.1 rfl (Nat.le_of_ble_eq_true rfl) dX7_agreeing_6 ⟨Nat.zero_le _, Nat.zero_le _⟩ (fun H locs hP hD hS => ?_)
  exact kr_iret hx hcd hr hlocks hK hP hD hS rfl rfl dX7_agreeing_9

set_option maxHeartbeats 4000000 in
set_option maxRecDepth 100000 in
theorem c_X7_wrongViews__ok (l : Launch) (D : va_G) (cI cB cW cL : ClassId) (z : Nat → Nat) (x : Nat → Int32) (hh : Int64) (sz : Nat) (M : kM) (a : Nat) (ha : a < 6) : kMi l yX7_wrongViews wsX7_wrongViews ({ frames := 3, cells := 0, slots := 0, locals := 71 }) D vwCl (kT cI cB cW cL) sz [.ref (z 0), .int (nI a)] (wMo cI z x hh M) (wMo cI z (xu x 7 0) hh M) (nI (g_wrA M a 6)) := by
  refine kr_ofi (cc := cX7_wrongViews) (maxL := 5) (ret := (some .int)) (by decide) rfl (Nat.le_of_ble_eq_true rfl) ?_
  intro pp ee ss mm args below meth cc AA ls hx hcd hr hts hown hlocks hml hK hP hD hA hl
  have hS : va_S AA ss.heap ss.heap [] := va_S.rf
  have hown : ss.vm.findClass RX7 = some mm.cls := hown
  have hl : lv_has ls 5 [(0, .ref (z 0)), (1, .int (nI a))] := hl
  have uX7 : ∀ w ∈ u_ws RX7 TX7 10, w ∈ wsX7_wrongViews := by decide +kernel
  refine lv_aload_n hx hcd dX7_wrongViews_0 rfl (lv_at hl 0 rfl) ?_
  refine lv_iload_n hx hcd dX7_wrongViews_1 rfl (lv_at hl 1 rfl) ?_
  refine kr_Si (As := [.int (nI a)]) (rest := [.ref (z 0)]) (ws2 := wMo cI z x hh M) ⟨hx, hcd, hml, hown, hts⟩ (c_X7_isUser l D cI cB cW cL  _ M (nI a)) (va_cwS 1 hts gX7_wrongViews_X7_isUser rfl rfl rfl (by decide +kernel) ⟨Nat.le_of_ble_eq_true rfl, Nat.le_of_ble_eq_true rfl⟩) hK hP hD hS hA [] rfl (by decide) rfl rfl rfl hl.1 rfl (Nat.le_of_ble_eq_true rfl) dX7_wrongViews_2 ⟨Nat.zero_le _, Nat.zero_le _⟩ (fun H locs hP hD hS => ?_)
  refine kr_top (w := nI 1) (kI_is (usr_ok ha) rfl) ?_
  refine kr_zeq (tgt := 12) hx hcd (by omega) dX7_wrongViews_5 (by decide) (fun (c_5 : 1 = 0) => absurd c_5 (by omega)) (fun (c_5 : 0 < 1) => ?_)
  refine lv_iconst (v := nI 0) hx hcd dX7_wrongViews_8 (by decide) ?_
  refine lv_goto (tgt := 13) hx hcd dX7_wrongViews_9 (by decide) ?_
  refine kr_put hx hcd hts uX7 tyX7 tyX7_ok nmX7 hown hK hP hD hS 0 rfl rfl 7 (by decide) (by decide +kernel) rfl rfl rfl (ws2 := wMo cI z (xu x 7 0) hh M) rfl dX7_wrongViews_13 (fun H locs hP hD hS => ?_)
  refine lv_aload_n hx hcd dX7_wrongViews_16 rfl (lv_at hl 0 rfl) ?_
  refine kr_get hx hcd hts uX7 hown hK hP 0 rfl rfl 7 (by decide) (by decide +kernel) (v := .int 0) rfl dX7_wrongViews_17 ?_
  refine kr_top (w := nI 0) rfl ?_
  refine kr_zeq (tgt := 25) hx hcd (by omega) dX7_wrongViews_20 (by decide) (fun (c_20 : 0 = 0) => ?_) (fun (c_20 : 0 < 0) => absurd c_20 (by omega))
  refine lv_iconst (v := nI 0) hx hcd dX7_wrongViews_25 (by decide) ?_
  refine lv_istore_n (lv' := [(2, .int (nI 0)), (0, .ref (z 0)), (1, .int (nI a))]) hx hcd dX7_wrongViews_26 rfl hl (by decide) rfl (fun ls hl => ?_)
  refine lv_iconst (v := nI 0) hx hcd dX7_wrongViews_27 (by decide) ?_
  refine lv_istore_n (lv' := [(3, .int (nI 0)), (2, .int (nI 0)), (0, .ref (z 0)), (1, .int (nI a))]) hx hcd dX7_wrongViews_28 rfl hl (by decide) rfl (fun ls hl => ?_)
  refine kr_up (fun i => wMo cI z (xu x 7 0) hh M) (fun i => [(0, .ref (z 0)), (1, .int (nI a)), (2, .int (nI (g_wrA M a i))), (3, .int (nI i))]) 6 (nL := 5) (fun i hi ih_29 H locs ls hP hD hS hl => ?_) (fun H locs ls hP hD hS hl => ?_) 0 (by omega) hP hD hS (lv_sub hl [2, 3, 1, 0] rfl)
  · have hl : lv_has ls 5 [(0, .ref (z 0)), (1, .int (nI a)), (2, .int (nI (g_wrA M a i))), (3, .int (nI i))] := hl
    refine lv_iload_n hx hcd dX7_wrongViews_29 rfl (lv_at hl 3 rfl) ?_
    refine lv_bipush (v := nI 6) hx hcd dX7_wrongViews_30 (by decide) ?_
    refine kr_cge (tgt := 80) hx hcd (by omega) (by omega) dX7_wrongViews_32 (by decide) (fun (c_32 : 6 ≤ i) => absurd c_32 (by omega)) (fun (c_32 : i < 6) => ?_)
    refine lv_iconst (v := nI 0) hx hcd dX7_wrongViews_35 (by decide) ?_
    refine lv_istore (lv' := [(4, .int (nI 0)), (0, .ref (z 0)), (1, .int (nI a)), (2, .int (nI (g_wrA M a i))), (3, .int (nI i))]) hx hcd dX7_wrongViews_36 hl (by decide) rfl (fun ls hl => ?_)
    refine kr_up (fun j => wMo cI z (xu x 7 0) hh M) (fun j => [(0, .ref (z 0)), (1, .int (nI a)), (2, .int (nI (g_wrA M a i + (if i = a then 0 else g_wrR M a i j)))), (3, .int (nI i)), (4, .int (nI j))]) 3 (nL := 5) (fun j hj ih_38 H locs ls hP hD hS hl => ?_) (fun H locs ls hP hD hS hl => ?_) 0 (by omega) hP hD hS (by rw [← wr_0]; exact (lv_sub hl [1, 2, 3, 4, 0] rfl))
    · have hl : lv_has ls 5 [(0, .ref (z 0)), (1, .int (nI a)), (2, .int (nI (g_wrA M a i + (if i = a then 0 else g_wrR M a i j)))), (3, .int (nI i)), (4, .int (nI j))] := hl
      refine lv_iload hx hcd dX7_wrongViews_38 (lv_at hl 4 rfl) ?_
      refine lv_iconst (v := nI 3) hx hcd dX7_wrongViews_40 (by decide) ?_
      refine kr_cge (tgt := 74) hx hcd (by omega) (by omega) dX7_wrongViews_41 (by decide) (fun (c_41 : 3 ≤ j) => absurd c_41 (by omega)) (fun (c_41 : j < 3) => ?_)
      refine lv_iload_n hx hcd dX7_wrongViews_44 rfl (lv_at hl 2 rfl) ?_
      refine lv_iload_n hx hcd dX7_wrongViews_45 rfl (lv_at hl 3 rfl) ?_
      refine lv_iload_n hx hcd dX7_wrongViews_46 rfl (lv_at hl 1 rfl) ?_
      refine kr_ceq (tgt := 65) hx hcd (by omega) (by omega) dX7_wrongViews_47 (by decide) (fun (c_47 : i = a) => ?_) (fun (c_47 : ¬ i = a) => ?_)
      · refine lv_iconst (v := nI 0) hx hcd dX7_wrongViews_65 (by decide) ?_
        refine kr_add hx hcd dX7_wrongViews_66 ?_
        refine lv_istore_n (lv' := [(2, .int (nI ((g_wrA M a i + (if i = a then 0 else g_wrR M a i j)) + 0))), (0, .ref (z 0)), (1, .int (nI a)), (3, .int (nI i)), (4, .int (nI j))]) hx hcd dX7_wrongViews_67 rfl hl (by decide) rfl (fun ls hl => ?_)
        refine kr_iinc (lv' := [(4, .int (nI (j + 1))), (2, .int (nI ((g_wrA M a i + (if i = a then 0 else g_wrR M a i j)) + 0))), (0, .ref (z 0)), (1, .int (nI a)), (3, .int (nI i))]) hx hcd dX7_wrongViews_68 hl (k := 4) rfl (by decide) rfl (fun ls hl => ?_)
        refine lv_goto (tgt := 38) hx hcd dX7_wrongViews_71 (by decide) ?_
        have hl : lv_has ls 5 [(0, .ref (z 0)), (1, .int (nI a)), (2, .int (nI ((g_wrA M a i + (if i = a then 0 else g_wrR M a i j)) + 0))), (3, .int (nI i)), (4, .int (nI (j + 1)))] := lv_sub hl [2, 3, 1, 4, 0] rfl
        have e9 : ([(0, .ref (z 0)), (1, .int (nI a)), (2, .int (nI ((g_wrA M a i + (if i = a then 0 else g_wrR M a i j)) + 0))), (3, .int (nI i)), (4, .int (nI (j + 1)))] : List (Nat × Value)) = [(0, .ref (z 0)), (1, .int (nI a)), (2, .int (nI (g_wrA M a i + (if i = a then 0 else g_wrR M a i (j + 1))))), (3, .int (nI i)), (4, .int (nI (j + 1)))] := by first | (simp [g_wrR, c_5, c_20, c_32, c_41, c_47]; done) | (simp [g_wrR, c_5, c_20, c_32, c_41, c_47]; rfl)
        exact ih_38 H locs ls hP hD hS (e9 ▸ hl)
      · refine lv_aload_n hx hcd dX7_wrongViews_50 rfl (lv_at hl 0 rfl) ?_
        refine lv_iload_n hx hcd dX7_wrongViews_51 rfl (lv_at hl 1 rfl) ?_
        refine lv_iload_n hx hcd dX7_wrongViews_52 rfl (lv_at hl 3 rfl) ?_
        refine lv_iload hx hcd dX7_wrongViews_53 (lv_at hl 4 rfl) ?_
        refine kr_Vi (As := [.int (nI a), .int (nI i), .int (nI j)]) (rest := [.int (nI (g_wrA M a i + (if i = a then 0 else g_wrR M a i j)))]) (ws2 := wMo cI z (xu x 7 0) hh M) (q := (RX7, TX7, 10)) ⟨hx, hcd, hml, hown, hts⟩ (c_X7_isWrong l D cI cB cW cL z (xu x 7 0) hh _ M a i j (by omega) (by omega) (by omega)) (cwV 3 hts gX7_wrongViews_X7_isWrong rfl rfl rfl (by decide +kernel) ⟨Nat.le_of_ble_eq_true rfl, Nat.le_of_ble_eq_true rfl⟩) hK hP hD hS hA [0, 1] wMo_allC (by decide) wMo_adr wMo_all 0 rfl rfl rfl hl.1 rfl (Nat.le_of_ble_eq_true rfl) dX7_wrongViews_55 ⟨Nat.zero_le _, Nat.zero_le _⟩ (fun H locs hP hD hS => ?_)
        refine kr_beq (tgt := 65) hx hcd dX7_wrongViews_58 (by decide) (fun (c_58 : g_iw (M (132 + 18 * a + 3 * i + j)) (g_on M i j) (g_has M a i 1) (g_there M a) (M (2 + 9 * i + 3 * j)) = false) => ?_) (fun (c_58 : g_iw (M (132 + 18 * a + 3 * i + j)) (g_on M i j) (g_has M a i 1) (g_there M a) (M (2 + 9 * i + 3 * j)) = true) => ?_)
        · refine lv_iconst (v := nI 0) hx hcd dX7_wrongViews_65 (by decide) ?_
          refine kr_add hx hcd dX7_wrongViews_66 ?_
          refine lv_istore_n (lv' := [(2, .int (nI ((g_wrA M a i + (if i = a then 0 else g_wrR M a i j)) + 0))), (0, .ref (z 0)), (1, .int (nI a)), (3, .int (nI i)), (4, .int (nI j))]) hx hcd dX7_wrongViews_67 rfl hl (by decide) rfl (fun ls hl => ?_)
          refine kr_iinc (lv' := [(4, .int (nI (j + 1))), (2, .int (nI ((g_wrA M a i + (if i = a then 0 else g_wrR M a i j)) + 0))), (0, .ref (z 0)), (1, .int (nI a)), (3, .int (nI i))]) hx hcd dX7_wrongViews_68 hl (k := 4) rfl (by decide) rfl (fun ls hl => ?_)
          refine lv_goto (tgt := 38) hx hcd dX7_wrongViews_71 (by decide) ?_
          have hl : lv_has ls 5 [(0, .ref (z 0)), (1, .int (nI a)), (2, .int (nI ((g_wrA M a i + (if i = a then 0 else g_wrR M a i j)) + 0))), (3, .int (nI i)), (4, .int (nI (j + 1)))] := lv_sub hl [2, 3, 1, 4, 0] rfl
          have e9 : ([(0, .ref (z 0)), (1, .int (nI a)), (2, .int (nI ((g_wrA M a i + (if i = a then 0 else g_wrR M a i j)) + 0))), (3, .int (nI i)), (4, .int (nI (j + 1)))] : List (Nat × Value)) = [(0, .ref (z 0)), (1, .int (nI a)), (2, .int (nI (g_wrA M a i + (if i = a then 0 else g_wrR M a i (j + 1))))), (3, .int (nI i)), (4, .int (nI (j + 1)))] := by first | (simp [g_wrR, c_5, c_20, c_32, c_41, c_47, c_58]; done) | (simp [g_wrR, c_5, c_20, c_32, c_41, c_47, c_58]; rfl)
          exact ih_38 H locs ls hP hD hS (e9 ▸ hl)
        · refine lv_iconst (v := nI 1) hx hcd dX7_wrongViews_61 (by decide) ?_
          refine lv_goto (tgt := 66) hx hcd dX7_wrongViews_62 (by decide) ?_
          refine kr_add hx hcd dX7_wrongViews_66 ?_
          refine lv_istore_n (lv' := [(2, .int (nI ((g_wrA M a i + (if i = a then 0 else g_wrR M a i j)) + 1))), (0, .ref (z 0)), (1, .int (nI a)), (3, .int (nI i)), (4, .int (nI j))]) hx hcd dX7_wrongViews_67 rfl hl (by decide) rfl (fun ls hl => ?_)
          refine kr_iinc (lv' := [(4, .int (nI (j + 1))), (2, .int (nI ((g_wrA M a i + (if i = a then 0 else g_wrR M a i j)) + 1))), (0, .ref (z 0)), (1, .int (nI a)), (3, .int (nI i))]) hx hcd dX7_wrongViews_68 hl (k := 4) rfl (by decide) rfl (fun ls hl => ?_)
          refine lv_goto (tgt := 38) hx hcd dX7_wrongViews_71 (by decide) ?_
          have hl : lv_has ls 5 [(0, .ref (z 0)), (1, .int (nI a)), (2, .int (nI ((g_wrA M a i + (if i = a then 0 else g_wrR M a i j)) + 1))), (3, .int (nI i)), (4, .int (nI (j + 1)))] := lv_sub hl [2, 3, 1, 4, 0] rfl
          have e9 : ([(0, .ref (z 0)), (1, .int (nI a)), (2, .int (nI ((g_wrA M a i + (if i = a then 0 else g_wrR M a i j)) + 1))), (3, .int (nI i)), (4, .int (nI (j + 1)))] : List (Nat × Value)) = [(0, .ref (z 0)), (1, .int (nI a)), (2, .int (nI (g_wrA M a i + (if i = a then 0 else g_wrR M a i (j + 1))))), (3, .int (nI i)), (4, .int (nI (j + 1)))] := by first | (simp [g_wrR, c_5, c_20, c_32, c_41, c_47, c_58]; done) | (simp [g_wrR, c_5, c_20, c_32, c_41, c_47, c_58]; rfl)
          exact ih_38 H locs ls hP hD hS (e9 ▸ hl)
    · have hl : lv_has ls 5 [(0, .ref (z 0)), (1, .int (nI a)), (2, .int (nI (g_wrA M a i + (if i = a then 0 else g_wrR M a i 3)))), (3, .int (nI i)), (4, .int (nI 3))] := hl
      refine lv_iload hx hcd dX7_wrongViews_38 (lv_at hl 4 rfl) ?_
      refine lv_iconst (v := nI 3) hx hcd dX7_wrongViews_40 (by decide) ?_
      refine kr_cge (tgt := 74) hx hcd (by omega) (by omega) dX7_wrongViews_41 (by decide) (fun (c_41 : 3 ≤ 3) => ?_) (fun (c_41 : 3 < 3) => absurd c_41 (by omega))
      refine kr_iinc (lv' := [(3, .int (nI (i + 1))), (0, .ref (z 0)), (1, .int (nI a)), (2, .int (nI (g_wrA M a i + (if i = a then 0 else g_wrR M a i 3)))), (4, .int (nI 3))]) hx hcd dX7_wrongViews_74 hl (k := 3) rfl (by decide) rfl (fun ls hl => ?_)
      refine lv_goto (tgt := 29) hx hcd dX7_wrongViews_77 (by decide) ?_
      exact ih_29 H locs ls hP hD hS (lv_sub hl [1, 2, 3, 0] rfl)
  · have hl : lv_has ls 5 [(0, .ref (z 0)), (1, .int (nI a)), (2, .int (nI (g_wrA M a 6))), (3, .int (nI 6))] := hl
    refine lv_iload_n hx hcd dX7_wrongViews_29 rfl (lv_at hl 3 rfl) ?_
    refine lv_bipush (v := nI 6) hx hcd dX7_wrongViews_30 (by decide) ?_
    refine kr_cge (tgt := 80) hx hcd (by omega) (by omega) dX7_wrongViews_32 (by decide) (fun (c_32 : 6 ≤ 6) => ?_) (fun (c_32 : 6 < 6) => absurd c_32 (by omega))
    refine lv_iload_n hx hcd dX7_wrongViews_80 rfl (lv_at hl 2 rfl) ?_
    exact kr_iret hx hcd hr hlocks hK hP hD hS rfl rfl dX7_wrongViews_81

set_option maxHeartbeats 4000000 in
set_option maxRecDepth 100000 in
theorem c_X7_wrongViews__b1 (l : Launch) (D : va_G) (cI cB cW cL : ClassId) (z : Nat → Nat) (x : Nat → Int32) (hh : Int64) (sz : Nat) (M : kM) (u : Int32) (g0 : g_usr u = false) : kMi l yX7_wrongViews wsX7_wrongViews ({ frames := 2, cells := 0, slots := 0, locals := 42 }) D vwCl (kT cI cB cW cL) sz [.ref (z 0), .int u] (wMo cI z x hh M) (wMo cI z (xu x 7 1) hh M) 0 := by
  refine kr_ofi (cc := cX7_wrongViews) (maxL := 5) (ret := (some .int)) (by decide) rfl (Nat.le_of_ble_eq_true rfl) ?_
  intro pp ee ss mm args below meth cc AA ls hx hcd hr hts hown hlocks hml hK hP hD hA hl
  have hS : va_S AA ss.heap ss.heap [] := va_S.rf
  have hown : ss.vm.findClass RX7 = some mm.cls := hown
  have hl : lv_has ls 5 [(0, .ref (z 0)), (1, .int u)] := hl
  have uX7 : ∀ w ∈ u_ws RX7 TX7 10, w ∈ wsX7_wrongViews := by decide +kernel
  refine lv_aload_n hx hcd dX7_wrongViews_0 rfl (lv_at hl 0 rfl) ?_
  refine lv_iload_n hx hcd dX7_wrongViews_1 rfl (lv_at hl 1 rfl) ?_
  refine kr_Si (As := [.int u]) (rest := [.ref (z 0)]) (ws2 := wMo cI z x hh M) ⟨hx, hcd, hml, hown, hts⟩ (c_X7_isUser l D cI cB cW cL  _ M u) (va_cwS 1 hts gX7_wrongViews_X7_isUser rfl rfl rfl (by decide +kernel) ⟨Nat.le_of_ble_eq_true rfl, Nat.le_of_ble_eq_true rfl⟩) hK hP hD hS hA [] rfl (by decide) rfl rfl rfl hl.1 rfl (Nat.le_of_ble_eq_true rfl) dX7_wrongViews_2 ⟨Nat.zero_le _, Nat.zero_le _⟩ (fun H locs hP hD hS => ?_)
  refine kr_top (w := nI 0) (kI_no g0 rfl) ?_
  refine kr_zeq (tgt := 12) hx hcd (by omega) dX7_wrongViews_5 (by decide) (fun (c_5 : 0 = 0) => ?_) (fun (c_5 : 0 < 0) => absurd c_5 (by omega))
  refine lv_iconst (v := nI 1) hx hcd dX7_wrongViews_12 (by decide) ?_
  refine kr_put hx hcd hts uX7 tyX7 tyX7_ok nmX7 hown hK hP hD hS 0 rfl rfl 7 (by decide) (by decide +kernel) rfl rfl rfl (ws2 := wMo cI z (xu x 7 1) hh M) rfl dX7_wrongViews_13 (fun H locs hP hD hS => ?_)
  refine lv_aload_n hx hcd dX7_wrongViews_16 rfl (lv_at hl 0 rfl) ?_
  refine kr_get hx hcd hts uX7 hown hK hP 0 rfl rfl 7 (by decide) (by decide +kernel) (v := .int 1) rfl dX7_wrongViews_17 ?_
  refine kr_top (w := nI 1) rfl ?_
  refine kr_zeq (tgt := 25) hx hcd (by omega) dX7_wrongViews_20 (by decide) (fun (c_20 : 1 = 0) => absurd c_20 (by omega)) (fun (c_20 : 0 < 1) => ?_)
  refine lv_iconst (v := nI 0) hx hcd dX7_wrongViews_23 (by decide) ?_
  exact kr_iret hx hcd hr hlocks hK hP hD hS rfl rfl dX7_wrongViews_24
