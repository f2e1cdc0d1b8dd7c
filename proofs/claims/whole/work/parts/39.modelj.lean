set_option maxHeartbeats 4000000 in
set_option maxRecDepth 100000 in
theorem c_X7_visible__ok (l : Launch) (D : va_G) (cI cB cW cL : ClassId) (z : Nat → Nat) (x : Nat → Int32) (hh : Int64) (sz : Nat) (M : kM)  : kMd l yX7_visible wsX7_visible ({ frames := 1, cells := 0, slots := 0, locals := 22 }) D vwCl (kT cI cB cW cL) sz [.ref (z 0)] (wMo cI z x hh M) (wMo cI z (xu x 7 0) hh M) (g_share (g_visA M 6)) := by
  refine kr_ofd (cc := cX7_visible) (maxL := 6) (ret := (some .double)) (by decide) rfl (Nat.le_of_ble_eq_true rfl) ?_
  intro pp ee ss mm args below meth cc AA ls hx hcd hr hts hown hlocks hml hK hP hD hA hl
  have hS : va_S AA ss.heap ss.heap [] := va_S.rf
  have hown : ss.vm.findClass RX7 = some mm.cls := hown
  have hl : lv_has ls 6 [(0, .ref (z 0))] := hl
  have uX7 : ∀ w ∈ u_ws RX7 TX7 10, w ∈ wsX7_visible := by decide +kernel
  refine lv_aload_n hx hcd dX7_visible_0 rfl (lv_at hl 0 rfl) ?_
  refine lv_iconst (v := nI 0) hx hcd dX7_visible_1 (by decide) ?_
  refine kr_put hx hcd hts uX7 tyX7 tyX7_ok nmX7 hown hK hP hD hS 0 rfl rfl 7 (by decide) (by decide +kernel) rfl rfl rfl (ws2 := wMo cI z (xu x 7 0) hh M) rfl dX7_visible_2 (fun H locs hP hD hS => ?_)
  refine lv_iconst (v := nI 0) hx hcd dX7_visible_5 (by decide) ?_
  refine lv_istore_n (lv' := [(1, .int (nI 0)), (0, .ref (z 0))]) hx hcd dX7_visible_6 rfl hl (by decide) rfl (fun ls hl => ?_)
  refine lv_iconst (v := nI 0) hx hcd dX7_visible_7 (by decide) ?_
  refine lv_istore_n (lv' := [(2, .int (nI 0)), (1, .int (nI 0)), (0, .ref (z 0))]) hx hcd dX7_visible_8 rfl hl (by decide) rfl (fun ls hl => ?_)
  refine kr_up (fun i => wMo cI z (xu x 7 0) hh M) (fun i => [(0, .ref (z 0)), (1, .int (nI (g_visA M i))), (2, .int (nI i))]) 6 (nL := 6) (fun i hi ih_9 H locs ls hP hD hS hl => ?_) (fun H locs ls hP hD hS hl => ?_) 0 (by omega) hP hD hS (lv_sub hl [2, 1, 0] rfl)
  · have hl : lv_has ls 6 [(0, .ref (z 0)), (1, .int (nI (g_visA M i))), (2, .int (nI i))] := hl
    refine lv_iload_n hx hcd dX7_visible_9 rfl (lv_at hl 2 rfl) ?_
    refine lv_bipush (v := nI 6) hx hcd dX7_visible_10 (by decide) ?_
    refine kr_cge (tgt := 94) hx hcd (by omega) (by omega) dX7_visible_12 (by decide) (fun (c_12 : 6 ≤ i) => absurd c_12 (by omega)) (fun (c_12 : i < 6) => ?_)
    refine lv_iconst (v := nI 0) hx hcd dX7_visible_15 (by decide) ?_
    refine lv_istore_n (lv' := [(3, .int (nI 0)), (0, .ref (z 0)), (1, .int (nI (g_visA M i))), (2, .int (nI i))]) hx hcd dX7_visible_16 rfl hl (by decide) rfl (fun ls hl => ?_)
    refine kr_up (fun j => wMo cI z (xu x 7 0) hh M) (fun j => [(0, .ref (z 0)), (1, .int (nI (g_visA M i + g_visR M i j))), (2, .int (nI i)), (3, .int (nI j))]) 6 (nL := 6) (fun j hj ih_17 H locs ls hP hD hS hl => ?_) (fun H locs ls hP hD hS hl => ?_) 0 (by omega) hP hD hS (lv_sub hl [1, 2, 3, 0] rfl)
    · have hl : lv_has ls 6 [(0, .ref (z 0)), (1, .int (nI (g_visA M i + g_visR M i j))), (2, .int (nI i)), (3, .int (nI j))] := hl
      refine lv_iload_n hx hcd dX7_visible_17 rfl (lv_at hl 3 rfl) ?_
      refine lv_bipush (v := nI 6) hx hcd dX7_visible_18 (by decide) ?_
      refine kr_cge (tgt := 88) hx hcd (by omega) (by omega) dX7_visible_20 (by decide) (fun (c_20 : 6 ≤ j) => absurd c_20 (by omega)) (fun (c_20 : j < 6) => ?_)
      refine lv_iconst (v := nI 0) hx hcd dX7_visible_23 (by decide) ?_
      refine lv_istore (lv' := [(4, .int (nI 0)), (0, .ref (z 0)), (1, .int (nI (g_visA M i + g_visR M i j))), (2, .int (nI i)), (3, .int (nI j))]) hx hcd dX7_visible_24 hl (by decide) rfl (fun ls hl => ?_)
      refine lv_iconst (v := nI 0) hx hcd dX7_visible_26 (by decide) ?_
      refine lv_istore (lv' := [(5, .int (nI 0)), (4, .int (nI 0)), (0, .ref (z 0)), (1, .int (nI (g_visA M i + g_visR M i j))), (2, .int (nI i)), (3, .int (nI j))]) hx hcd dX7_visible_27 hl (by decide) rfl (fun ls hl => ?_)
      refine kr_up (fun s => wMo cI z (xu x 7 0) hh M) (fun s => [(0, .ref (z 0)), (1, .int (nI (g_visA M i + g_visR M i j))), (2, .int (nI i)), (3, .int (nI j)), (4, .int (kI (g_hv M i j s))), (5, .int (nI s))]) 3 (nL := 6) (fun s hs ih_29 H locs ls hP hD hS hl => ?_) (fun H locs ls hP hD hS hl => ?_) 0 (by omega) hP hD hS (by exact (lv_sub hl [2, 3, 4, 5, 1, 0] rfl))
      · have hl : lv_has ls 6 [(0, .ref (z 0)), (1, .int (nI (g_visA M i + g_visR M i j))), (2, .int (nI i)), (3, .int (nI j)), (4, .int (kI (g_hv M i j s))), (5, .int (nI s))] := hl
        refine lv_iload hx hcd dX7_visible_29 (lv_at hl 5 rfl) ?_
        refine lv_iconst (v := nI 3) hx hcd dX7_visible_31 (by decide) ?_
        refine kr_cge (tgt := 69) hx hcd (by omega) (by omega) dX7_visible_32 (by decide) (fun (c_32 : 3 ≤ s) => absurd c_32 (by omega)) (fun (c_32 : s < 3) => ?_)
        refine lv_iload hx hcd dX7_visible_35 (lv_at hl 4 rfl) ?_
        refine kr_bne (tgt := 56) hx hcd dX7_visible_37 (by decide) (fun (c_37 : g_hv M i j s = true) => ?_) (fun (c_37 : g_hv M i j s = false) => ?_)
        · refine lv_iconst (v := nI 1) hx hcd dX7_visible_56 (by decide) ?_
          refine lv_goto (tgt := 61) hx hcd dX7_visible_57 (by decide) ?_
          refine lv_istore (lv' := [(4, .int (nI 1)), (0, .ref (z 0)), (1, .int (nI (g_visA M i + g_visR M i j))), (2, .int (nI i)), (3, .int (nI j)), (5, .int (nI s))]) hx hcd dX7_visible_61 hl (by decide) rfl (fun ls hl => ?_)
          refine kr_iinc (lv' := [(5, .int (nI (s + 1))), (4, .int (nI 1)), (0, .ref (z 0)), (1, .int (nI (g_visA M i + g_visR M i j))), (2, .int (nI i)), (3, .int (nI j))]) hx hcd dX7_visible_63 hl (k := 5) rfl (by decide) rfl (fun ls hl => ?_)
          refine lv_goto (tgt := 29) hx hcd dX7_visible_66 (by decide) ?_
          have hl : lv_has ls 6 [(0, .ref (z 0)), (1, .int (nI (g_visA M i + g_visR M i j))), (2, .int (nI i)), (3, .int (nI j)), (4, .int (nI 1)), (5, .int (nI (s + 1)))] := lv_sub hl [2, 3, 4, 5, 1, 0] rfl
          have e9 : ([(0, .ref (z 0)), (1, .int (nI (g_visA M i + g_visR M i j))), (2, .int (nI i)), (3, .int (nI j)), (4, .int (nI 1)), (5, .int (nI (s + 1)))] : List (Nat × Value)) = [(0, .ref (z 0)), (1, .int (nI (g_visA M i + g_visR M i j))), (2, .int (nI i)), (3, .int (nI j)), (4, .int (kI (g_hv M i j (s + 1)))), (5, .int (nI (s + 1)))] := by first | (simp [g_hv, kI, c_12, c_20, c_32, c_37]; done) | (simp [g_hv, kI, c_12, c_20, c_32, c_37]; rfl)
          exact ih_29 H locs ls hP hD hS (e9 ▸ hl)
        · refine lv_aload_n hx hcd dX7_visible_40 rfl (lv_at hl 0 rfl) ?_
          refine kr_get hx hcd hts uX7 hown hK hP 0 rfl rfl 0 (by decide) (by decide +kernel) (v := .ref (z 1)) rfl dX7_visible_41 ?_
          refine lv_iload_n hx hcd dX7_visible_44 rfl (lv_at hl 2 rfl) ?_
          refine lv_iload_n hx hcd dX7_visible_45 rfl (lv_at hl 3 rfl) ?_
          refine lv_iload hx hcd dX7_visible_46 (lv_at hl 5 rfl) ?_
          refine kr_Si (As := [.int (nI i), .int (nI j), .int (nI s)]) (rest := [.ref (z 1)]) (ws2 := wMo cI z (xu x 7 0) hh M) ⟨hx, hcd, hml, hown, hts⟩ (c_X7_viewCell l D cI cB cW cL  _ M i j s) (va_cwS 3 hts gX7_visible_X7_viewCell rfl rfl rfl (by decide +kernel) ⟨Nat.le_of_ble_eq_true rfl, Nat.le_of_ble_eq_true rfl⟩) hK hP hD hS hA [] rfl (by decide) rfl rfl rfl hl.1 rfl (Nat.le_of_ble_eq_true rfl) dX7_visible_48 ⟨Nat.zero_le _, Nat.zero_le _⟩ (fun H locs hP hD hS => ?_)
          refine kr_iald hx hcd hK hP 1 0 rfl rfl (v := M (132 + 18 * i + 3 * j + s)) (by omega) (by decide) (congrArg M (by omega)) dX7_visible_51 ?_
          refine lv_iconst (v := (-1)) hx hcd dX7_visible_52 (by decide) ?_
          refine lv_icmp_eq (tgt := 60) hx hcd dX7_visible_53 (by decide) (fun (c_53 : (M (132 + 18 * i + 3 * j + s)) = (-1)) => ?_) (fun (c_53 : ¬ (M (132 + 18 * i + 3 * j + s)) = (-1)) => ?_)
          · refine lv_iconst (v := nI 0) hx hcd dX7_visible_60 (by decide) ?_
            refine lv_istore (lv' := [(4, .int (nI 0)), (0, .ref (z 0)), (1, .int (nI (g_visA M i + g_visR M i j))), (2, .int (nI i)), (3, .int (nI j)), (5, .int (nI s))]) hx hcd dX7_visible_61 hl (by decide) rfl (fun ls hl => ?_)
            refine kr_iinc (lv' := [(5, .int (nI (s + 1))), (4, .int (nI 0)), (0, .ref (z 0)), (1, .int (nI (g_visA M i + g_visR M i j))), (2, .int (nI i)), (3, .int (nI j))]) hx hcd dX7_visible_63 hl (k := 5) rfl (by decide) rfl (fun ls hl => ?_)
            refine lv_goto (tgt := 29) hx hcd dX7_visible_66 (by decide) ?_
            have hl : lv_has ls 6 [(0, .ref (z 0)), (1, .int (nI (g_visA M i + g_visR M i j))), (2, .int (nI i)), (3, .int (nI j)), (4, .int (nI 0)), (5, .int (nI (s + 1)))] := lv_sub hl [2, 3, 4, 5, 1, 0] rfl
            have e9 : ([(0, .ref (z 0)), (1, .int (nI (g_visA M i + g_visR M i j))), (2, .int (nI i)), (3, .int (nI j)), (4, .int (nI 0)), (5, .int (nI (s + 1)))] : List (Nat × Value)) = [(0, .ref (z 0)), (1, .int (nI (g_visA M i + g_visR M i j))), (2, .int (nI i)), (3, .int (nI j)), (4, .int (kI (g_hv M i j (s + 1)))), (5, .int (nI (s + 1)))] := by first | (simp [g_hv, kI, c_12, c_20, c_32, c_37, c_53]; done) | (simp [g_hv, kI, c_12, c_20, c_32, c_37, c_53]; rfl)
            exact ih_29 H locs ls hP hD hS (e9 ▸ hl)
          · refine lv_iconst (v := nI 1) hx hcd dX7_visible_56 (by decide) ?_
            refine lv_goto (tgt := 61) hx hcd dX7_visible_57 (by decide) ?_
            refine lv_istore (lv' := [(4, .int (nI 1)), (0, .ref (z 0)), (1, .int (nI (g_visA M i + g_visR M i j))), (2, .int (nI i)), (3, .int (nI j)), (5, .int (nI s))]) hx hcd dX7_visible_61 hl (by decide) rfl (fun ls hl => ?_)
            refine kr_iinc (lv' := [(5, .int (nI (s + 1))), (4, .int (nI 1)), (0, .ref (z 0)), (1, .int (nI (g_visA M i + g_visR M i j))), (2, .int (nI i)), (3, .int (nI j))]) hx hcd dX7_visible_63 hl (k := 5) rfl (by decide) rfl (fun ls hl => ?_)
            refine lv_goto (tgt := 29) hx hcd dX7_visible_66 (by decide) ?_
            have hl : lv_has ls 6 [(0, .ref (z 0)), (1, .int (nI (g_visA M i + g_visR M i j))), (2, .int (nI i)), (3, .int (nI j)), (4, .int (nI 1)), (5, .int (nI (s + 1)))] := lv_sub hl [2, 3, 4, 5, 1, 0] rfl
            have e9 : ([(0, .ref (z 0)), (1, .int (nI (g_visA M i + g_visR M i j))), (2, .int (nI i)), (3, .int (nI j)), (4, .int (nI 1)), (5, .int (nI (s + 1)))] : List (Nat × Value)) = [(0, .ref (z 0)), (1, .int (nI (g_visA M i + g_visR M i j))), (2, .int (nI i)), (3, .int (nI j)), (4, .int (kI (g_hv M i j (s + 1)))), (5, .int (nI (s + 1)))] := by first | (simp [g_hv, kI, c_12, c_20, c_32, c_37, c_53]; done) | (simp [g_hv, kI, c_12, c_20, c_32, c_37, c_53]; rfl)
            exact ih_29 H locs ls hP hD hS (e9 ▸ hl)
      · have hl : lv_has ls 6 [(0, .ref (z 0)), (1, .int (nI (g_visA M i + g_visR M i j))), (2, .int (nI i)), (3, .int (nI j)), (4, .int (kI (g_hv M i j 3))), (5, .int (nI 3))] := hl
        refine lv_iload hx hcd dX7_visible_29 (lv_at hl 5 rfl) ?_
        refine lv_iconst (v := nI 3) hx hcd dX7_visible_31 (by decide) ?_
        refine kr_cge (tgt := 69) hx hcd (by omega) (by omega) dX7_visible_32 (by decide) (fun (c_32 : 3 ≤ 3) => ?_) (fun (c_32 : 3 < 3) => absurd c_32 (by omega))
        refine lv_iload_n hx hcd dX7_visible_69 rfl (lv_at hl 1 rfl) ?_
        refine lv_iload hx hcd dX7_visible_70 (lv_at hl 4 rfl) ?_
        refine kr_beq (tgt := 79) hx hcd dX7_visible_72 (by decide) (fun (c_72 : g_hv M i j 3 = false) => ?_) (fun (c_72 : g_hv M i j 3 = true) => ?_)
        · refine lv_iconst (v := nI 0) hx hcd dX7_visible_79 (by decide) ?_
          refine kr_add hx hcd dX7_visible_80 ?_
          refine lv_istore_n (lv' := [(1, .int (nI ((g_visA M i + g_visR M i j) + 0))), (0, .ref (z 0)), (2, .int (nI i)), (3, .int (nI j)), (4, .int (kI (g_hv M i j 3))), (5, .int (nI 3))]) hx hcd dX7_visible_81 rfl hl (by decide) rfl (fun ls hl => ?_)
          refine kr_iinc (lv' := [(3, .int (nI (j + 1))), (1, .int (nI ((g_visA M i + g_visR M i j) + 0))), (0, .ref (z 0)), (2, .int (nI i)), (4, .int (kI (g_hv M i j 3))), (5, .int (nI 3))]) hx hcd dX7_visible_82 hl (k := 3) rfl (by decide) rfl (fun ls hl => ?_)
          refine lv_goto (tgt := 17) hx hcd dX7_visible_85 (by decide) ?_
          have hl : lv_has ls 6 [(0, .ref (z 0)), (1, .int (nI ((g_visA M i + g_visR M i j) + 0))), (2, .int (nI i)), (3, .int (nI (j + 1)))] := lv_sub hl [2, 1, 3, 0] rfl
          have e9 : ([(0, .ref (z 0)), (1, .int (nI ((g_visA M i + g_visR M i j) + 0))), (2, .int (nI i)), (3, .int (nI (j + 1)))] : List (Nat × Value)) = [(0, .ref (z 0)), (1, .int (nI (g_visA M i + g_visR M i (j + 1)))), (2, .int (nI i)), (3, .int (nI (j + 1)))] := by first | (simp [g_visR, c_12, c_20, c_32, c_72]; done) | (simp [g_visR, c_12, c_20, c_32, c_72]; rfl)
          exact ih_17 H locs ls hP hD hS (e9 ▸ hl)
        · refine lv_iconst (v := nI 1) hx hcd dX7_visible_75 (by decide) ?_
          refine lv_goto (tgt := 80) hx hcd dX7_visible_76 (by decide) ?_
          refine kr_add hx hcd dX7_visible_80 ?_
          refine lv_istore_n (lv' := [(1, .int (nI ((g_visA M i + g_visR M i j) + 1))), (0, .ref (z 0)), (2, .int (nI i)), (3, .int (nI j)), (4, .int (kI (g_hv M i j 3))), (5, .int (nI 3))]) hx hcd dX7_visible_81 rfl hl (by decide) rfl (fun ls hl => ?_)
          refine kr_iinc (lv' := [(3, .int (nI (j + 1))), (1, .int (nI ((g_visA M i + g_visR M i j) + 1))), (0, .ref (z 0)), (2, .int (nI i)), (4, .int (kI (g_hv M i j 3))), (5, .int (nI 3))]) hx hcd dX7_visible_82 hl (k := 3) rfl (by decide) rfl (fun ls hl => ?_)
          refine lv_goto (tgt := 17) hx hcd dX7_visible_85 (by decide) ?_
          have hl : lv_has ls 6 [(0, .ref (z 0)), (1, .int (nI ((g_visA M i + g_visR M i j) + 1))), (2, .int (nI i)), (3, .int (nI (j + 1)))] := lv_sub hl [2, 1, 3, 0] rfl
          have e9 : ([(0, .ref (z 0)), (1, .int (nI ((g_visA M i + g_visR M i j) + 1))), (2, .int (nI i)), (3, .int (nI (j + 1)))] : List (Nat × Value)) = [(0, .ref (z 0)), (1, .int (nI (g_visA M i + g_visR M i (j + 1)))), (2, .int (nI i)), (3, .int (nI (j + 1)))] := by first | (simp [g_visR, c_12, c_20, c_32, c_72]; done) | (simp [g_visR, c_12, c_20, c_32, c_72]; rfl)
          exact ih_17 H locs ls hP hD hS (e9 ▸ hl)
    · have hl : lv_has ls 6 [(0, .ref (z 0)), (1, .int (nI (g_visA M i + g_visR M i 6))), (2, .int (nI i)), (3, .int (nI 6))] := hl
      refine lv_iload_n hx hcd dX7_visible_17 rfl (lv_at hl 3 rfl) ?_
      refine lv_bipush (v := nI 6) hx hcd dX7_visible_18 (by decide) ?_
      refine kr_cge (tgt := 88) hx hcd (by omega) (by omega) dX7_visible_20 (by decide) (fun (c_20 : 6 ≤ 6) => ?_) (fun (c_20 : 6 < 6) => absurd c_20 (by omega))
      refine kr_iinc (lv' := [(2, .int (nI (i + 1))), (0, .ref (z 0)), (1, .int (nI (g_visA M i + g_visR M i 6))), (3, .int (nI 6))]) hx hcd dX7_visible_88 hl (k := 2) rfl (by decide) rfl (fun ls hl => ?_)
      refine lv_goto (tgt := 9) hx hcd dX7_visible_91 (by decide) ?_
      exact ih_9 H locs ls hP hD hS (lv_sub hl [1, 2, 0] rfl)
  · have hl : lv_has ls 6 [(0, .ref (z 0)), (1, .int (nI (g_visA M 6))), (2, .int (nI 6))] := hl
    refine lv_iload_n hx hcd dX7_visible_9 rfl (lv_at hl 2 rfl) ?_
    refine lv_bipush (v := nI 6) hx hcd dX7_visible_10 (by decide) ?_
    refine kr_cge (tgt := 94) hx hcd (by omega) (by omega) dX7_visible_12 (by decide) (fun (c_12 : 6 ≤ 6) => ?_) (fun (c_12 : 6 < 6) => absurd c_12 (by omega))
    refine lv_iload_n hx hcd dX7_visible_94 rfl (lv_at hl 1 rfl) ?_
    refine lv_i2d hx hcd dX7_visible_95 ?_
    refine lv_ldc2d (v := 4629137466983448576) hx hcd hown (hts (.constantDouble RX7 153 4629137466983448576) (by decide +kernel)) dX7_visible_96 ?_
    refine lv_ddiv hx hcd dX7_visible_99 (share_ok (by have := visA_le (M := M) 6; omega)) ?_
    exact kr_dret hx hcd hr hlocks hK hP hD hS rfl rfl dX7_visible_100
