set_option maxHeartbeats 4000000 in
set_option maxRecDepth 100000 in
theorem c_X7_bring (l : Launch) (D : va_G) (cI cB cW cL : ClassId) (ad bd na nb : Nat) (F G : Nat → Int32) (sz : Nat) (M : kM) (fr : Nat) (pl : Nat) (h1 : fr + 581 ≤ na) (h2 : pl + 581 ≤ nb) (hna : na < 100000) (hnb : nb < 100000) : kMv l yX7_bring wsX7_bring ({ frames := 0, cells := 0, slots := 0, locals := 0 }) D vwCl (kT cI cB cW cL) sz [.ref ad, .int (nI fr), .ref bd, .int (nI pl)] (wBr cI ad bd na nb F G) (wBr cI ad bd na nb F (va_cpy F G fr pl 581)) := by
  refine kr_ofv (cc := cX7_bring) (maxL := 5) (ret := none) (by decide) rfl (Nat.le_of_ble_eq_true rfl) ?_
  intro pp ee ss mm args below meth cc AA ls hx hcd hr hts hown hlocks hml hK hP hD hA hl
  have hS : va_S AA ss.heap ss.heap [] := va_S.rf
  have hown : ss.vm.findClass RX7 = some mm.cls := hown
  have hl : lv_has ls 5 [(0, .ref ad), (1, .int (nI fr)), (2, .ref bd), (3, .int (nI pl))] := hl
  refine lv_iconst (v := nI 0) hx hcd dX7_bring_0 (by decide) ?_
  refine lv_istore (lv' := [(4, .int (nI 0)), (0, .ref ad), (1, .int (nI fr)), (2, .ref bd), (3, .int (nI pl))]) hx hcd dX7_bring_1 hl (by decide) rfl (fun ls hl => ?_)
  obtain ⟨hP, hD⟩ := kr_re (ws2 := wBr cI ad bd na nb F (va_cpy F G fr pl 0)) hP hD (congrArg (fun c9 => wBr cI ad bd na nb F c9) cpy_0.symm)
  refine kr_up (fun i => wBr cI ad bd na nb F (va_cpy F G fr pl i)) (fun i => [(0, .ref ad), (1, .int (nI fr)), (2, .ref bd), (3, .int (nI pl)), (4, .int (nI i))]) 581 (nL := 5) (fun i hi ih_3 H locs ls hP hD hS hl => ?_) (fun H locs ls hP hD hS hl => ?_) 0 (by omega) hP hD hS (lv_sub hl [1, 2, 3, 4, 0] rfl)
  · have hl : lv_has ls 5 [(0, .ref ad), (1, .int (nI fr)), (2, .ref bd), (3, .int (nI pl)), (4, .int (nI i))] := hl
    refine lv_iload hx hcd dX7_bring_3 (lv_at hl 4 rfl) ?_
    refine lv_sipush (v := nI 581) hx hcd dX7_bring_5 (by decide) ?_
    refine kr_cge (tgt := 29) hx hcd (by omega) (by omega) dX7_bring_8 (by decide) (fun (c_8 : 581 ≤ i) => absurd c_8 (by omega)) (fun (c_8 : i < 581) => ?_)
    refine lv_aload_n hx hcd dX7_bring_11 rfl (lv_at hl 2 rfl) ?_
    refine lv_iload_n hx hcd dX7_bring_12 rfl (lv_at hl 3 rfl) ?_
    refine lv_iload hx hcd dX7_bring_13 (lv_at hl 4 rfl) ?_
    refine kr_add hx hcd dX7_bring_15 ?_
    refine lv_aload_n hx hcd dX7_bring_16 rfl (lv_at hl 0 rfl) ?_
    refine lv_iload_n hx hcd dX7_bring_17 rfl (lv_at hl 1 rfl) ?_
    refine lv_iload hx hcd dX7_bring_18 (lv_at hl 4 rfl) ?_
    refine kr_add hx hcd dX7_bring_20 ?_
    refine kr_iald hx hcd hK hP 0 0 rfl rfl (v := F (fr + i)) (by omega) (by omega) (congrArg F (by omega)) dX7_bring_21 ?_
    refine kr_iast hx hcd hK hP hD hS 1 0 rfl rfl (by omega) (by omega) (congrArg (fun k9 => upd (va_cpy F G fr pl i) k9 (F (fr + i))) (by omega)) (ws2 := wBr cI ad bd na nb F (upd (va_cpy F G fr pl i) (i + pl) (F (fr + i)))) rfl dX7_bring_22 (fun H locs hP hD hS => ?_)
    refine kr_iinc (lv' := [(4, .int (nI (i + 1))), (0, .ref ad), (1, .int (nI fr)), (2, .ref bd), (3, .int (nI pl))]) hx hcd dX7_bring_23 hl (k := 4) rfl (by decide) rfl (fun ls hl => ?_)
    refine lv_goto (tgt := 3) hx hcd dX7_bring_26 (by decide) ?_
    obtain ⟨hP, hD⟩ := kr_re (ws2 := wBr cI ad bd na nb F (va_cpy F G fr pl (i + 1))) hP hD (congrArg (fun c9 => wBr cI ad bd na nb F c9) (by rw [Nat.add_comm i pl]; exact cpy_up))
    exact ih_3 H locs ls hP hD hS (lv_sub hl [1, 2, 3, 4, 0] rfl)
  · have hl : lv_has ls 5 [(0, .ref ad), (1, .int (nI fr)), (2, .ref bd), (3, .int (nI pl)), (4, .int (nI 581))] := hl
    refine lv_iload hx hcd dX7_bring_3 (lv_at hl 4 rfl) ?_
    refine lv_sipush (v := nI 581) hx hcd dX7_bring_5 (by decide) ?_
    refine kr_cge (tgt := 29) hx hcd (by omega) (by omega) dX7_bring_8 (by decide) (fun (c_8 : 581 ≤ 581) => ?_) (fun (c_8 : 581 < 581) => absurd c_8 (by omega))
    exact kr_vret hx hcd hr hlocks hK hP hD hS rfl dX7_bring_29

set_option maxHeartbeats 4000000 in
set_option maxRecDepth 100000 in
theorem c_X7_keep (l : Launch) (D : va_G) (cI cB cW cL : ClassId) (z : Nat → Nat) (x : Nat → Int32) (hh : Int64) (Sp Ot Sv Tx : Nat → Int32) (sz : Nat) (M : kM) (n : Nat) (hn4 : x 4 = nI n) (hn : n ≤ 4) : kMv l yX7_keep wsX7_keep ({ frames := 1, cells := 0, slots := 0, locals := 24 }) D vwCl (kT cI cB cW cL) sz [.ref (z 0)] (wMA cI z x hh M Sp Ot Sv Tx) (wMA cI z (xu x 4 (nI (g_kn n))) hh M Sp Ot (g_keep Sv M n) Tx) := by
  refine kr_ofv (cc := cX7_keep) (maxL := 2) (ret := none) (by decide) rfl (Nat.le_of_ble_eq_true rfl) ?_
  intro pp ee ss mm args below meth cc AA ls hx hcd hr hts hown hlocks hml hK hP hD hA hl
  have hS : va_S AA ss.heap ss.heap [] := va_S.rf
  have hown : ss.vm.findClass RX7 = some mm.cls := hown
  have hl : lv_has ls 2 [(0, .ref (z 0))] := hl
  have uX7 : ∀ w ∈ u_ws RX7 TX7 10, w ∈ wsX7_keep := by decide +kernel
  refine lv_aload_n hx hcd dX7_keep_0 rfl (lv_at hl 0 rfl) ?_
  refine kr_get hx hcd hts uX7 hown hK hP 0 rfl rfl 4 (by decide) (by decide +kernel) (v := .int (x 4)) rfl dX7_keep_1 ?_
  refine kr_top (w := nI n) hn4 ?_
  refine lv_iconst (v := nI 4) hx hcd dX7_keep_4 (by decide) ?_
  refine kr_cne (tgt := 49) hx hcd (by omega) (by omega) dX7_keep_5 (by decide) (fun (c_5 : ¬ n = 4) => ?_) (fun (c_5 : n = 4) => ?_)
  · refine lv_aload_n hx hcd dX7_keep_49 rfl (lv_at hl 0 rfl) ?_
    refine kr_get hx hcd hts uX7 hown hK hP 0 rfl rfl 0 (by decide) (by decide +kernel) (v := .ref (z 1)) rfl dX7_keep_50 ?_
    refine lv_iconst (v := nI 0) hx hcd dX7_keep_53 (by decide) ?_
    refine lv_aload_n hx hcd dX7_keep_54 rfl (lv_at hl 0 rfl) ?_
    refine kr_get hx hcd hts uX7 hown hK hP 0 rfl rfl 3 (by decide) (by decide +kernel) (v := .ref (z 4)) rfl dX7_keep_55 ?_
    refine lv_sipush (v := nI 581) hx hcd dX7_keep_58 (by decide) ?_
    refine lv_aload_n hx hcd dX7_keep_61 rfl (lv_at hl 0 rfl) ?_
    refine kr_get hx hcd hts uX7 hown hK hP 0 rfl rfl 4 (by decide) (by decide +kernel) (v := .int (x 4)) rfl dX7_keep_62 ?_
    refine kr_top (w := nI n) hn4 ?_
    refine kr_mul hx hcd dX7_keep_65 ?_
    refine kr_Sv (As := [.ref (z 1), .int (nI 0), .ref (z 4), .int (nI (581 * n))]) (rest := []) (ws2 := wMA cI z x hh M Sp Ot (va_cpy M Sv 0 (581 * n) 581) Tx) ⟨hx, hcd, hml, hown, hts⟩ (c_X7_bring l D cI cB cW cL (z 1) (z 4) 581 2324 M Sv _ M 0 (581 * n) (by omega) (by omega) (by omega) (by omega)) (va_cwS 4 hts gX7_keep_X7_bring rfl rfl rfl (by decide +kernel) ⟨Nat.le_of_ble_eq_true rfl, Nat.le_of_ble_eq_true rfl⟩) hK hP hD hS hA [1, 4] rfl (by decide) wBr_adr rfl rfl hl.1 rfl (Nat.le_of_ble_eq_true rfl) dX7_keep_66 ⟨Nat.zero_le _, Nat.zero_le _⟩ (fun H locs hP hD hS => ?_)
    refine lv_aload_n hx hcd dX7_keep_69 rfl (lv_at hl 0 rfl) ?_
    refine lv_dup hx hcd dX7_keep_70 rfl ?_
    refine kr_get hx hcd hts uX7 hown hK hP 0 rfl rfl 4 (by decide) (by decide +kernel) (v := .int (x 4)) rfl dX7_keep_71 ?_
    refine kr_top (w := nI n) hn4 ?_
    refine lv_iconst (v := nI 1) hx hcd dX7_keep_74 (by decide) ?_
    refine kr_add hx hcd dX7_keep_75 ?_
    refine kr_put hx hcd hts uX7 tyX7 tyX7_ok nmX7 hown hK hP hD hS 0 rfl rfl 4 (by decide) (by decide +kernel) rfl rfl rfl (ws2 := wMA cI z (xu x 4 (nI (n + 1))) hh M Sp Ot (va_cpy M Sv 0 (581 * n) 581) Tx) rfl dX7_keep_76 (fun H locs hP hD hS => ?_)
    exact kr_vret hx hcd hr hlocks hK hP hD hS (by first | (subst c_5; rfl) | (rw [keep_n c_5, kn_n c_5])) dX7_keep_79
  · refine lv_iconst (v := nI 0) hx hcd dX7_keep_8 (by decide) ?_
    refine lv_istore_n (lv' := [(1, .int (nI 0)), (0, .ref (z 0))]) hx hcd dX7_keep_9 rfl hl (by decide) rfl (fun ls hl => ?_)
    obtain ⟨hP, hD⟩ := kr_re (ws2 := wMA cI z x hh M Sp Ot (g_shS Sv 0) Tx) hP hD (congrArg (fun c9 => wMA cI z x hh M Sp Ot c9 Tx) shS_0.symm)
    refine kr_up (fun i => wMA cI z x hh M Sp Ot (g_shS Sv i) Tx) (fun i => [(0, .ref (z 0)), (1, .int (nI i))]) 1743 (nL := 2) (fun i hi ih_10 H locs ls hP hD hS hl => ?_) (fun H locs ls hP hD hS hl => ?_) 0 (by omega) hP hD hS (lv_sub hl [1, 0] rfl)
    · have hl : lv_has ls 2 [(0, .ref (z 0)), (1, .int (nI i))] := hl
      refine lv_iload_n hx hcd dX7_keep_10 rfl (lv_at hl 1 rfl) ?_
      refine lv_sipush (v := nI 1743) hx hcd dX7_keep_11 (by decide) ?_
      refine kr_cge (tgt := 39) hx hcd (by omega) (by omega) dX7_keep_14 (by decide) (fun (c_14 : 1743 ≤ i) => absurd c_14 (by omega)) (fun (c_14 : i < 1743) => ?_)
      refine lv_aload_n hx hcd dX7_keep_17 rfl (lv_at hl 0 rfl) ?_
      refine kr_get hx hcd hts uX7 hown hK hP 0 rfl rfl 3 (by decide) (by decide +kernel) (v := .ref (z 4)) rfl dX7_keep_18 ?_
      refine lv_iload_n hx hcd dX7_keep_21 rfl (lv_at hl 1 rfl) ?_
      refine lv_aload_n hx hcd dX7_keep_22 rfl (lv_at hl 0 rfl) ?_
      refine kr_get hx hcd hts uX7 hown hK hP 0 rfl rfl 3 (by decide) (by decide +kernel) (v := .ref (z 4)) rfl dX7_keep_23 ?_
      refine lv_iload_n hx hcd dX7_keep_26 rfl (lv_at hl 1 rfl) ?_
      refine lv_sipush (v := nI 581) hx hcd dX7_keep_27 (by decide) ?_
      refine kr_add hx hcd dX7_keep_30 ?_
      refine kr_iald hx hcd hK hP 4 0 rfl rfl (v := (g_shS Sv i) (581 + i)) (by omega) (by decide) (congrArg (g_shS Sv i) (by omega)) dX7_keep_31 ?_
      refine kr_iast hx hcd hK hP hD hS 4 0 rfl rfl (by omega) (by decide) (congrArg (fun k9 => upd (g_shS Sv i) k9 ((g_shS Sv i) (581 + i))) (by omega)) (ws2 := wMA cI z x hh M Sp Ot (upd (g_shS Sv i) (i) ((g_shS Sv i) (581 + i))) Tx) rfl dX7_keep_32 (fun H locs hP hD hS => ?_)
      refine kr_iinc (lv' := [(1, .int (nI (i + 1))), (0, .ref (z 0))]) hx hcd dX7_keep_33 hl (k := 1) rfl (by decide) rfl (fun ls hl => ?_)
      refine lv_goto (tgt := 10) hx hcd dX7_keep_36 (by decide) ?_
      obtain ⟨hP, hD⟩ := kr_re (ws2 := wMA cI z x hh M Sp Ot (g_shS Sv (i + 1)) Tx) hP hD (congrArg (fun c9 => wMA cI z x hh M Sp Ot c9 Tx) (by rw [Nat.add_comm 581 i, shS_at]; exact shS_up))
      exact ih_10 H locs ls hP hD hS (lv_sub hl [1, 0] rfl)
    · have hl : lv_has ls 2 [(0, .ref (z 0)), (1, .int (nI 1743))] := hl
      refine lv_iload_n hx hcd dX7_keep_10 rfl (lv_at hl 1 rfl) ?_
      refine lv_sipush (v := nI 1743) hx hcd dX7_keep_11 (by decide) ?_
      refine kr_cge (tgt := 39) hx hcd (by omega) (by omega) dX7_keep_14 (by decide) (fun (c_14 : 1743 ≤ 1743) => ?_) (fun (c_14 : 1743 < 1743) => absurd c_14 (by omega))
      refine lv_aload_n hx hcd dX7_keep_39 rfl (lv_at hl 0 rfl) ?_
      refine lv_dup hx hcd dX7_keep_40 rfl ?_
      refine kr_get hx hcd hts uX7 hown hK hP 0 rfl rfl 4 (by decide) (by decide +kernel) (v := .int (x 4)) rfl dX7_keep_41 ?_
      refine kr_top (w := nI n) hn4 ?_
      refine lv_iconst (v := nI 1) hx hcd dX7_keep_44 (by decide) ?_
      refine kr_sub hx hcd (by omega) dX7_keep_45 ?_
      refine kr_put hx hcd hts uX7 tyX7 tyX7_ok nmX7 hown hK hP hD hS 0 rfl rfl 4 (by decide) (by decide +kernel) rfl rfl rfl (ws2 := wMA cI z (xu x 4 (nI (n - 1))) hh M Sp Ot (g_shS Sv 1743) Tx) rfl dX7_keep_46 (fun H locs hP hD hS => ?_)
      refine lv_aload_n hx hcd dX7_keep_49 rfl (lv_at hl 0 rfl) ?_
      refine kr_get hx hcd hts uX7 hown hK hP 0 rfl rfl 0 (by decide) (by decide +kernel) (v := .ref (z 1)) rfl dX7_keep_50 ?_
      refine lv_iconst (v := nI 0) hx hcd dX7_keep_53 (by decide) ?_
      refine lv_aload_n hx hcd dX7_keep_54 rfl (lv_at hl 0 rfl) ?_
      refine kr_get hx hcd hts uX7 hown hK hP 0 rfl rfl 3 (by decide) (by decide +kernel) (v := .ref (z 4)) rfl dX7_keep_55 ?_
      refine lv_sipush (v := nI 581) hx hcd dX7_keep_58 (by decide) ?_
      refine lv_aload_n hx hcd dX7_keep_61 rfl (lv_at hl 0 rfl) ?_
      refine kr_get hx hcd hts uX7 hown hK hP 0 rfl rfl 4 (by decide) (by decide +kernel) (v := .int (nI (n - 1))) rfl dX7_keep_62 ?_
      refine kr_mul hx hcd dX7_keep_65 ?_
      refine kr_Sv (As := [.ref (z 1), .int (nI 0), .ref (z 4), .int (nI (581 * (n - 1)))]) (rest := []) (ws2 := wMA cI z (xu x 4 (nI (n - 1))) hh M Sp Ot (va_cpy M (g_shS Sv 1743) 0 (581 * (n - 1)) 581) Tx) ⟨hx, hcd, hml, hown, hts⟩ (c_X7_bring l D cI cB cW cL (z 1) (z 4) 581 2324 M (g_shS Sv 1743) _ M 0 (581 * (n - 1)) (by omega) (by omega) (by omega) (by omega)) (va_cwS 4 hts gX7_keep_X7_bring rfl rfl rfl (by decide +kernel) ⟨Nat.le_of_ble_eq_true rfl, Nat.le_of_ble_eq_true rfl⟩) hK hP hD hS hA [1, 4] rfl (by decide) wBr_adr rfl rfl hl.1 rfl (Nat.le_of_ble_eq_true rfl) dX7_keep_66 ⟨Nat.zero_le _, Nat.zero_le _⟩ (fun H locs hP hD hS => ?_)
      refine lv_aload_n hx hcd dX7_keep_69 rfl (lv_at hl 0 rfl) ?_
      refine lv_dup hx hcd dX7_keep_70 rfl ?_
      refine kr_get hx hcd hts uX7 hown hK hP 0 rfl rfl 4 (by decide) (by decide +kernel) (v := .int (nI (n - 1))) rfl dX7_keep_71 ?_
      refine lv_iconst (v := nI 1) hx hcd dX7_keep_74 (by decide) ?_
      refine kr_add hx hcd dX7_keep_75 ?_
      refine kr_put hx hcd hts uX7 tyX7 tyX7_ok nmX7 hown hK hP hD hS 0 rfl rfl 4 (by decide) (by decide +kernel) rfl rfl rfl (ws2 := wMA cI z (xu x 4 (nI ((n - 1) + 1))) hh M Sp Ot (va_cpy M (g_shS Sv 1743) 0 (581 * (n - 1)) 581) Tx) rfl dX7_keep_76 (fun H locs hP hD hS => ?_)
      exact kr_vret hx hcd hr hlocks hK hP hD hS (by first | (subst c_5; rfl) | (rw [keep_n c_5, kn_n c_5])) dX7_keep_79

set_option maxHeartbeats 4000000 in
set_option maxRecDepth 100000 in
theorem c_X7_ask__bad (l : Launch) (D : va_G) (cI cB cW cL : ClassId) (z : Nat → Nat) (x : Nat → Int32) (hh : Int64) (Sp Ot Sv Tx : Nat → Int32) (sz : Nat) (M : kM) (u : Int32) (w : Int32) (n : Nat) (hw : g_why u w = nI n) (hn : 0 < n ∧ n < 3) : kMi l yX7_ask wsX7_ask ({ frames := 3, cells := 0, slots := 0, locals := 63 }) D vwCl (kT cI cB cW cL) sz [.ref (z 0), .int u, .int w] (wMA cI z x hh M Sp Ot Sv Tx) (wMA cI z (xu x 7 (nI n)) hh M Sp Ot Sv Tx) 0 := by
  refine kr_ofi (cc := cX7_ask) (maxL := 3) (ret := (some .int)) (by decide) rfl (Nat.le_of_ble_eq_true rfl) ?_
  intro pp ee ss mm args below meth cc AA ls hx hcd hr hts hown hlocks hml hK hP hD hA hl
  have hS : va_S AA ss.heap ss.heap [] := va_S.rf
  have hown : ss.vm.findClass RX7 = some mm.cls := hown
  have hl : lv_has ls 3 [(0, .ref (z 0)), (1, .int u), (2, .int w)] := hl
  have uX7 : ∀ w ∈ u_ws RX7 TX7 10, w ∈ wsX7_ask := by decide +kernel
  refine lv_aload_n hx hcd dX7_ask_0 rfl (lv_at hl 0 rfl) ?_
  refine lv_iload_n hx hcd dX7_ask_1 rfl (lv_at hl 1 rfl) ?_
  refine lv_iload_n hx hcd dX7_ask_2 rfl (lv_at hl 2 rfl) ?_
  refine kr_Si (As := [.int u, .int w]) (rest := [.ref (z 0)]) (ws2 := wMA cI z x hh M Sp Ot Sv Tx) ⟨hx, hcd, hml, hown, hts⟩ (c_X7_whyNot l D cI cB cW cL  _ M u w) (va_cwS 2 hts gX7_ask_X7_whyNot rfl rfl rfl (by decide +kernel) ⟨Nat.le_of_ble_eq_true rfl, Nat.le_of_ble_eq_true rfl⟩) hK hP hD hS hA [] rfl (by decide) rfl rfl rfl hl.1 rfl (Nat.le_of_ble_eq_true rfl) dX7_ask_3 ⟨Nat.zero_le _, Nat.zero_le _⟩ (fun H locs hP hD hS => ?_)
  refine kr_top (w := nI n) hw ?_
  refine kr_put hx hcd hts uX7 tyX7 tyX7_ok nmX7 hown hK hP hD hS 0 rfl rfl 7 (by decide) (by decide +kernel) rfl rfl rfl (ws2 := wMA cI z (xu x 7 (nI n)) hh M Sp Ot Sv Tx) rfl dX7_ask_6 (fun H locs hP hD hS => ?_)
  refine lv_aload_n hx hcd dX7_ask_9 rfl (lv_at hl 0 rfl) ?_
  refine kr_get hx hcd hts uX7 hown hK hP 0 rfl rfl 7 (by decide) (by decide +kernel) (v := .int (nI n)) rfl dX7_ask_10 ?_
  refine kr_zeq (tgt := 18) hx hcd (by omega) dX7_ask_13 (by decide) (fun (c_13 : n = 0) => absurd c_13 (by omega)) (fun (c_13 : 0 < n) => ?_)
  refine lv_iconst (v := nI 0) hx hcd dX7_ask_16 (by decide) ?_
  exact kr_iret hx hcd hr hlocks hK hP hD hS rfl rfl dX7_ask_17

set_option maxHeartbeats 4000000 in
set_option maxRecDepth 100000 in
theorem c_X7_ask__ok (l : Launch) (D : va_G) (cI cB cW cL : ClassId) (z : Nat → Nat) (x : Nat → Int32) (hh : Int64) (Sp Ot Sv Tx : Nat → Int32) (sz : Nat) (M : kM) (a : Nat) (b : Nat) (n : Nat) (hI : kInv M) (ha : a < 6) (hb : b < 6) (hne : a ≠ b) (hn4 : x 4 = nI n) (hn : n ≤ 4) : kMi l yX7_ask wsX7_ask ({ frames := 3, cells := 0, slots := 0, locals := 69 }) D vwCl (kT cI cB cW cL) sz [.ref (z 0), .int (nI a), .int (nI b)] (wMA cI z x hh M Sp Ot Sv Tx) (wMA cI z (xu (xu x 7 0) 4 (nI (g_kn n))) hh (g_ask M a b) Sp Ot (g_keep Sv M n) Tx) (if g_has M a b 5 = true then 0 else 1) := by
  refine kr_ofi (cc := cX7_ask) (maxL := 3) (ret := (some .int)) (by decide) rfl (Nat.le_of_ble_eq_true rfl) ?_
  intro pp ee ss mm args below meth cc AA ls hx hcd hr hts hown hlocks hml hK hP hD hA hl
  have hS : va_S AA ss.heap ss.heap [] := va_S.rf
  have hown : ss.vm.findClass RX7 = some mm.cls := hown
  have hl : lv_has ls 3 [(0, .ref (z 0)), (1, .int (nI a)), (2, .int (nI b))] := hl
  have uX7 : ∀ w ∈ u_ws RX7 TX7 10, w ∈ wsX7_ask := by decide +kernel
  refine lv_aload_n hx hcd dX7_ask_0 rfl (lv_at hl 0 rfl) ?_
  refine lv_iload_n hx hcd dX7_ask_1 rfl (lv_at hl 1 rfl) ?_
  refine lv_iload_n hx hcd dX7_ask_2 rfl (lv_at hl 2 rfl) ?_
  refine kr_Si (As := [.int (nI a), .int (nI b)]) (rest := [.ref (z 0)]) (ws2 := wMA cI z x hh M Sp Ot Sv Tx) ⟨hx, hcd, hml, hown, hts⟩ (c_X7_whyNot l D cI cB cW cL  _ M (nI a) (nI b)) (va_cwS 2 hts gX7_ask_X7_whyNot rfl rfl rfl (by decide +kernel) ⟨Nat.le_of_ble_eq_true rfl, Nat.le_of_ble_eq_true rfl⟩) hK hP hD hS hA [] rfl (by decide) rfl rfl rfl hl.1 rfl (Nat.le_of_ble_eq_true rfl) dX7_ask_3 ⟨Nat.zero_le _, Nat.zero_le _⟩ (fun H locs hP hD hS => ?_)
  refine kr_top (w := nI 0) (why_ok ha hb hne) ?_
  refine kr_put hx hcd hts uX7 tyX7 tyX7_ok nmX7 hown hK hP hD hS 0 rfl rfl 7 (by decide) (by decide +kernel) rfl rfl rfl (ws2 := wMA cI z (xu x 7 0) hh M Sp Ot Sv Tx) rfl dX7_ask_6 (fun H locs hP hD hS => ?_)
  refine lv_aload_n hx hcd dX7_ask_9 rfl (lv_at hl 0 rfl) ?_
  refine kr_get hx hcd hts uX7 hown hK hP 0 rfl rfl 7 (by decide) (by decide +kernel) (v := .int 0) rfl dX7_ask_10 ?_
  refine kr_top (w := nI 0) rfl ?_
  refine kr_zeq (tgt := 18) hx hcd (by omega) dX7_ask_13 (by decide) (fun (c_13 : 0 = 0) => ?_) (fun (c_13 : 0 < 0) => absurd c_13 (by omega))
  refine lv_aload_n hx hcd dX7_ask_18 rfl (lv_at hl 0 rfl) ?_
  refine kr_Vv (As := []) (rest := []) (ws2 := wMA cI z (xu (xu x 7 0) 4 (nI (g_kn n))) hh M Sp Ot (g_keep Sv M n) Tx) (q := (RX7, TX7, 10)) ⟨hx, hcd, hml, hown, hts⟩ (c_X7_keep l D cI cB cW cL z (xu x 7 0) hh Sp Ot Sv Tx _ M n hn4 (by omega)) (cwV 0 hts gX7_ask_X7_keep rfl rfl rfl (by decide +kernel) ⟨Nat.le_of_ble_eq_true rfl, Nat.le_of_ble_eq_true rfl⟩) hK hP hD hS hA [0, 1, 2, 3, 4, 5] wMA_allC (by decide) wMA_adr wMA_all 0 rfl rfl rfl hl.1 rfl (Nat.le_of_ble_eq_true rfl) dX7_ask_19 ⟨Nat.zero_le _, Nat.zero_le _⟩ (fun H locs hP hD hS => ?_)
  refine lv_aload_n hx hcd dX7_ask_22 rfl (lv_at hl 0 rfl) ?_
  refine lv_iload_n hx hcd dX7_ask_23 rfl (lv_at hl 1 rfl) ?_
  refine lv_iload_n hx hcd dX7_ask_24 rfl (lv_at hl 2 rfl) ?_
  refine kr_Vi (As := [.int (nI a), .int (nI b)]) (rest := []) (ws2 := wMA cI z (xu (xu x 7 0) 4 (nI (g_kn n))) hh (g_ask M a b) Sp Ot (g_keep Sv M n) Tx) (q := (RX7, TX7, 10)) ⟨hx, hcd, hml, hown, hts⟩ (c_X7_asks l D cI cB cW cL z (xu (xu x 7 0) 4 (nI (g_kn n))) hh _ M a b hI (by omega) (by omega)) (cwV 2 hts gX7_ask_X7_asks rfl rfl rfl (by decide +kernel) ⟨Nat.le_of_ble_eq_true rfl, Nat.le_of_ble_eq_true rfl⟩) hK hP hD hS hA [0, 1] wMA_MoC (by decide) wMo_adr2 wMA_Mo 0 rfl rfl rfl hl.1 rfl (Nat.le_of_ble_eq_true rfl) dX7_ask_25 ⟨Nat.zero_le _, Nat.zero_le _⟩ (fun H locs hP hD hS => ?_)
  have hI_1 : kInv (g_ask M a b) := i_ask hI (by omega) (by omega)
  exact kr_iret hx hcd hr hlocks hK hP hD hS rfl rfl dX7_ask_28

set_option maxHeartbeats 4000000 in
set_option maxRecDepth 100000 in
theorem c_X7_grant__bad (l : Launch) (D : va_G) (cI cB cW cL : ClassId) (z : Nat → Nat) (x : Nat → Int32) (hh : Int64) (Sp Ot Sv Tx : Nat → Int32) (sz : Nat) (M : kM) (u : Int32) (w : Int32) (n : Nat) (hw : g_why u w = nI n) (hn : 0 < n ∧ n < 3) : kMi l yX7_grant wsX7_grant ({ frames := 3, cells := 0, slots := 0, locals := 63 }) D vwCl (kT cI cB cW cL) sz [.ref (z 0), .int u, .int w] (wMA cI z x hh M Sp Ot Sv Tx) (wMA cI z (xu x 7 (nI n)) hh M Sp Ot Sv Tx) 0 := by
  refine kr_ofi (cc := cX7_grant) (maxL := 3) (ret := (some .int)) (by decide) rfl (Nat.le_of_ble_eq_true rfl) ?_
  intro pp ee ss mm args below meth cc AA ls hx hcd hr hts hown hlocks hml hK hP hD hA hl
  have hS : va_S AA ss.heap ss.heap [] := va_S.rf
  have hown : ss.vm.findClass RX7 = some mm.cls := hown
  have hl : lv_has ls 3 [(0, .ref (z 0)), (1, .int u), (2, .int w)] := hl
  have uX7 : ∀ w ∈ u_ws RX7 TX7 10, w ∈ wsX7_grant := by decide +kernel
  refine lv_aload_n hx hcd dX7_grant_0 rfl (lv_at hl 0 rfl) ?_
  refine lv_iload_n hx hcd dX7_grant_1 rfl (lv_at hl 1 rfl) ?_
  refine lv_iload_n hx hcd dX7_grant_2 rfl (lv_at hl 2 rfl) ?_
  refine kr_Si (As := [.int u, .int w]) (rest := [.ref (z 0)]) (ws2 := wMA cI z x hh M Sp Ot Sv Tx) ⟨hx, hcd, hml, hown, hts⟩ (c_X7_whyNot l D cI cB cW cL  _ M u w) (va_cwS 2 hts gX7_grant_X7_whyNot rfl rfl rfl (by decide +kernel) ⟨Nat.le_of_ble_eq_true rfl, Nat.le_of_ble_eq_true rfl⟩) hK hP hD hS hA [] rfl (by decide) rfl rfl rfl hl.1 rfl (Nat.le_of_ble_eq_true rfl) dX7_grant_3 ⟨Nat.zero_le _, Nat.zero_le _⟩ (fun H locs hP hD hS => ?_)
  refine kr_top (w := nI n) hw ?_
  refine kr_put hx hcd hts uX7 tyX7 tyX7_ok nmX7 hown hK hP hD hS 0 rfl rfl 7 (by decide) (by decide +kernel) rfl rfl rfl (ws2 := wMA cI z (xu x 7 (nI n)) hh M Sp Ot Sv Tx) rfl dX7_grant_6 (fun H locs hP hD hS => ?_)
  refine lv_aload_n hx hcd dX7_grant_9 rfl (lv_at hl 0 rfl) ?_
  refine kr_get hx hcd hts uX7 hown hK hP 0 rfl rfl 7 (by decide) (by decide +kernel) (v := .int (nI n)) rfl dX7_grant_10 ?_
  refine kr_zeq (tgt := 18) hx hcd (by omega) dX7_grant_13 (by decide) (fun (c_13 : n = 0) => absurd c_13 (by omega)) (fun (c_13 : 0 < n) => ?_)
  refine lv_iconst (v := nI 0) hx hcd dX7_grant_16 (by decide) ?_
  exact kr_iret hx hcd hr hlocks hK hP hD hS rfl rfl dX7_grant_17

set_option maxHeartbeats 4000000 in
set_option maxRecDepth 100000 in
theorem c_X7_grant__ok (l : Launch) (D : va_G) (cI cB cW cL : ClassId) (z : Nat → Nat) (x : Nat → Int32) (hh : Int64) (Sp Ot Sv Tx : Nat → Int32) (sz : Nat) (M : kM) (a : Nat) (b : Nat) (n : Nat) (hI : kInv M) (ha : a < 6) (hb : b < 6) (hne : a ≠ b) (hn4 : x 4 = nI n) (hn : n ≤ 4) : kMi l yX7_grant wsX7_grant ({ frames := 4, cells := 0, slots := 0, locals := 92 }) D vwCl (kT cI cB cW cL) sz [.ref (z 0), .int (nI a), .int (nI b)] (wMA cI z x hh M Sp Ot Sv Tx) (wMA cI z (xu (xu x 7 0) 4 (nI (g_kn n))) hh (g_grant M a b) Sp Ot (g_keep Sv M n) Tx) (if g_has M a b 8 = true then 1 else 0) := by
  refine kr_ofi (cc := cX7_grant) (maxL := 3) (ret := (some .int)) (by decide) rfl (Nat.le_of_ble_eq_true rfl) ?_
  intro pp ee ss mm args below meth cc AA ls hx hcd hr hts hown hlocks hml hK hP hD hA hl
  have hS : va_S AA ss.heap ss.heap [] := va_S.rf
  have hown : ss.vm.findClass RX7 = some mm.cls := hown
  have hl : lv_has ls 3 [(0, .ref (z 0)), (1, .int (nI a)), (2, .int (nI b))] := hl
  have uX7 : ∀ w ∈ u_ws RX7 TX7 10, w ∈ wsX7_grant := by decide +kernel
  refine lv_aload_n hx hcd dX7_grant_0 rfl (lv_at hl 0 rfl) ?_
  refine lv_iload_n hx hcd dX7_grant_1 rfl (lv_at hl 1 rfl) ?_
  refine lv_iload_n hx hcd dX7_grant_2 rfl (lv_at hl 2 rfl) ?_
  refine kr_Si (As := [.int (nI a), .int (nI b)]) (rest := [.ref (z 0)]) (ws2 := wMA cI z x hh M Sp Ot Sv Tx) ⟨hx, hcd, hml, hown, hts⟩ (c_X7_whyNot l D cI cB cW cL  _ M (nI a) (nI b)) (va_cwS 2 hts gX7_grant_X7_whyNot rfl rfl rfl (by decide +kernel) ⟨Nat.le_of_ble_eq_true rfl, Nat.le_of_ble_eq_true rfl⟩) hK hP hD hS hA [] rfl (by decide) rfl rfl rfl hl.1 rfl (Nat.le_of_ble_eq_true rfl) dX7_grant_3 ⟨Nat.zero_le _, Nat.zero_le _⟩ (fun H locs hP hD hS => ?_)
  refine kr_top (w := nI 0) (why_ok ha hb hne) ?_
  refine kr_put hx hcd hts uX7 tyX7 tyX7_ok nmX7 hown hK hP hD hS 0 rfl rfl 7 (by decide) (by decide +kernel) rfl rfl rfl (ws2 := wMA cI z (xu x 7 0) hh M Sp Ot Sv Tx) rfl dX7_grant_6 (fun H locs hP hD hS => ?_)
  refine lv_aload_n hx hcd dX7_grant_9 rfl (lv_at hl 0 rfl) ?_
  refine kr_get hx hcd hts uX7 hown hK hP 0 rfl rfl 7 (by decide) (by decide +kernel) (v := .int 0) rfl dX7_grant_10 ?_
  refine kr_top (w := nI 0) rfl ?_
  refine kr_zeq (tgt := 18) hx hcd (by omega) dX7_grant_13 (by decide) (fun (c_13 : 0 = 0) => ?_) (fun (c_13 : 0 < 0) => absurd c_13 (by omega))
  refine lv_aload_n hx hcd dX7_grant_18 rfl (lv_at hl 0 rfl) ?_
  refine kr_Vv (As := []) (rest := []) (ws2 := wMA cI z (xu (xu x 7 0) 4 (nI (g_kn n))) hh M Sp Ot (g_keep Sv M n) Tx) (q := (RX7, TX7, 10)) ⟨hx, hcd, hml, hown, hts⟩ (c_X7_keep l D cI cB cW cL z (xu x 7 0) hh Sp Ot Sv Tx _ M n hn4 (by omega)) (cwV 0 hts gX7_grant_X7_keep rfl rfl rfl (by decide +kernel) ⟨Nat.le_of_ble_eq_true rfl, Nat.le_of_ble_eq_true rfl⟩) hK hP hD hS hA [0, 1, 2, 3, 4, 5] wMA_allC (by decide) wMA_adr wMA_all 0 rfl rfl rfl hl.1 rfl (Nat.le_of_ble_eq_true rfl) dX7_grant_19 ⟨Nat.zero_le _, Nat.zero_le _⟩ (fun H locs hP hD hS => ?_)
  refine lv_aload_n hx hcd dX7_grant_22 rfl (lv_at hl 0 rfl) ?_
  refine lv_iload_n hx hcd dX7_grant_23 rfl (lv_at hl 1 rfl) ?_
  refine lv_iload_n hx hcd dX7_grant_24 rfl (lv_at hl 2 rfl) ?_
  refine kr_Vi (As := [.int (nI a), .int (nI b)]) (rest := []) (ws2 := wMA cI z (xu (xu x 7 0) 4 (nI (g_kn n))) hh (g_grant M a b) Sp Ot (g_keep Sv M n) Tx) (q := (RX7, TX7, 10)) ⟨hx, hcd, hml, hown, hts⟩ (c_X7_grants l D cI cB cW cL z (xu (xu x 7 0) 4 (nI (g_kn n))) hh _ M a b hI (by omega) (by omega)) (cwV 2 hts gX7_grant_X7_grants rfl rfl rfl (by decide +kernel) ⟨Nat.le_of_ble_eq_true rfl, Nat.le_of_ble_eq_true rfl⟩) hK hP hD hS hA [0, 1] wMA_MoC (by decide) wMo_adr2 wMA_Mo 0 rfl rfl rfl hl.1 rfl (Nat.le_of_ble_eq_true rfl) dX7_grant_25 ⟨Nat.zero_le _, Nat.zero_le _⟩ (fun H locs hP hD hS => ?_)
  have hI_1 : kInv (g_grant M a b) := i_grant hI (by omega) (by omega)
  exact kr_iret hx hcd hr hlocks hK hP hD hS rfl rfl dX7_grant_28

set_option maxHeartbeats 4000000 in
set_option maxRecDepth 100000 in
theorem c_X7_refuse__bad (l : Launch) (D : va_G) (cI cB cW cL : ClassId) (z : Nat → Nat) (x : Nat → Int32) (hh : Int64) (Sp Ot Sv Tx : Nat → Int32) (sz : Nat) (M : kM) (u : Int32) (w : Int32) (n : Nat) (hw : g_why u w = nI n) (hn : 0 < n ∧ n < 3) : kMi l yX7_refuse wsX7_refuse ({ frames := 3, cells := 0, slots := 0, locals := 63 }) D vwCl (kT cI cB cW cL) sz [.ref (z 0), .int u, .int w] (wMA cI z x hh M Sp Ot Sv Tx) (wMA cI z (xu x 7 (nI n)) hh M Sp Ot Sv Tx) 0 := by
  refine kr_ofi (cc := cX7_refuse) (maxL := 3) (ret := (some .int)) (by decide) rfl (Nat.le_of_ble_eq_true rfl) ?_
  intro pp ee ss mm args below meth cc AA ls hx hcd hr hts hown hlocks hml hK hP hD hA hl
  have hS : va_S AA ss.heap ss.heap [] := va_S.rf
  have hown : ss.vm.findClass RX7 = some mm.cls := hown
  have hl : lv_has ls 3 [(0, .ref (z 0)), (1, .int u), (2, .int w)] := hl
  have uX7 : ∀ w ∈ u_ws RX7 TX7 10, w ∈ wsX7_refuse := by decide +kernel
  refine lv_aload_n hx hcd dX7_refuse_0 rfl (lv_at hl 0 rfl) ?_
  refine lv_iload_n hx hcd dX7_refuse_1 rfl (lv_at hl 1 rfl) ?_
  refine lv_iload_n hx hcd dX7_refuse_2 rfl (lv_at hl 2 rfl) ?_
  refine kr_Si (As := [.int u, .int w]) (rest := [.ref (z 0)]) (ws2 := wMA cI z x hh M Sp Ot Sv Tx) ⟨hx, hcd, hml, hown, hts⟩ (c_X7_whyNot l D cI cB cW cL  _ M u w) (va_cwS 2 hts gX7_refuse_X7_whyNot rfl rfl rfl (by decide +kernel) ⟨Nat.le_of_ble_eq_true rfl, Nat.le_of_ble_eq_true rfl⟩) hK hP hD hS hA [] rfl (by decide) rfl rfl rfl hl.1 rfl (Nat.le_of_ble_eq_true rfl) dX7_refuse_3 ⟨Nat.zero_le _, Nat.zero_le _⟩ (fun H locs hP hD hS => ?_)
  refine kr_top (w := nI n) hw ?_
  refine kr_put hx hcd hts uX7 tyX7 tyX7_ok nmX7 hown hK hP hD hS 0 rfl rfl 7 (by decide) (by decide +kernel) rfl rfl rfl (ws2 := wMA cI z (xu x 7 (nI n)) hh M Sp Ot Sv Tx) rfl dX7_refuse_6 (fun H locs hP hD hS => ?_)
  refine lv_aload_n hx hcd dX7_refuse_9 rfl (lv_at hl 0 rfl) ?_
  refine kr_get hx hcd hts uX7 hown hK hP 0 rfl rfl 7 (by decide) (by decide +kernel) (v := .int (nI n)) rfl dX7_refuse_10 ?_
  refine kr_zeq (tgt := 18) hx hcd (by omega) dX7_refuse_13 (by decide) (fun (c_13 : n = 0) => absurd c_13 (by omega)) (fun (c_13 : 0 < n) => ?_)
  refine lv_iconst (v := nI 0) hx hcd dX7_refuse_16 (by decide) ?_
  exact kr_iret hx hcd hr hlocks hK hP hD hS rfl rfl dX7_refuse_17

set_option maxHeartbeats 4000000 in
set_option maxRecDepth 100000 in
theorem c_X7_refuse__ok (l : Launch) (D : va_G) (cI cB cW cL : ClassId) (z : Nat → Nat) (x : Nat → Int32) (hh : Int64) (Sp Ot Sv Tx : Nat → Int32) (sz : Nat) (M : kM) (a : Nat) (b : Nat) (n : Nat) (hI : kInv M) (ha : a < 6) (hb : b < 6) (hne : a ≠ b) (hn4 : x 4 = nI n) (hn : n ≤ 4) : kMi l yX7_refuse wsX7_refuse ({ frames := 4, cells := 0, slots := 0, locals := 93 }) D vwCl (kT cI cB cW cL) sz [.ref (z 0), .int (nI a), .int (nI b)] (wMA cI z x hh M Sp Ot Sv Tx) (wMA cI z (xu (xu x 7 0) 4 (nI (g_kn n))) hh (g_refuse M a b) Sp Ot (g_keep Sv M n) Tx) (if g_has M a b 10 = true then 1 else 0) := by
  refine kr_ofi (cc := cX7_refuse) (maxL := 3) (ret := (some .int)) (by decide) rfl (Nat.le_of_ble_eq_true rfl) ?_
  intro pp ee ss mm args below meth cc AA ls hx hcd hr hts hown hlocks hml hK hP hD hA hl
  have hS : va_S AA ss.heap ss.heap [] := va_S.rf
  have hown : ss.vm.findClass RX7 = some mm.cls := hown
  have hl : lv_has ls 3 [(0, .ref (z 0)), (1, .int (nI a)), (2, .int (nI b))] := hl
  have uX7 : ∀ w ∈ u_ws RX7 TX7 10, w ∈ wsX7_refuse := by decide +kernel
  refine lv_aload_n hx hcd dX7_refuse_0 rfl (lv_at hl 0 rfl) ?_
  refine lv_iload_n hx hcd dX7_refuse_1 rfl (lv_at hl 1 rfl) ?_
  refine lv_iload_n hx hcd dX7_refuse_2 rfl (lv_at hl 2 rfl) ?_
  refine kr_Si (As := [.int (nI a), .int (nI b)]) (rest := [.ref (z 0)]) (ws2 := wMA cI z x hh M Sp Ot Sv Tx) ⟨hx, hcd, hml, hown, hts⟩ (c_X7_whyNot l D cI cB cW cL  _ M (nI a) (nI b)) (va_cwS 2 hts gX7_refuse_X7_whyNot rfl rfl rfl (by decide +kernel) ⟨Nat.le_of_ble_eq_true rfl, Nat.le_of_ble_eq_true rfl⟩) hK hP hD hS hA [] rfl (by decide) rfl rfl rfl hl.1 rfl (Nat.le_of_ble_eq_true rfl) dX7_refuse_3 ⟨Nat.zero_le _, Nat.zero_le _⟩ (fun H locs hP hD hS => ?_)
  refine kr_top (w := nI 0) (why_ok ha hb hne) ?_
  refine kr_put hx hcd hts uX7 tyX7 tyX7_ok nmX7 hown hK hP hD hS 0 rfl rfl 7 (by decide) (by decide +kernel) rfl rfl rfl (ws2 := wMA cI z (xu x 7 0) hh M Sp Ot Sv Tx) rfl dX7_refuse_6 (fun H locs hP hD hS => ?_)
  refine lv_aload_n hx hcd dX7_refuse_9 rfl (lv_at hl 0 rfl) ?_
  refine kr_get hx hcd hts uX7 hown hK hP 0 rfl rfl 7 (by decide) (by decide +kernel) (v := .int 0) rfl dX7_refuse_10 ?_
  refine kr_top (w := nI 0) rfl ?_
  refine kr_zeq (tgt := 18) hx hcd (by omega) dX7_refuse_13 (by decide) (fun (c_13 : 0 = 0) => ?_) (fun (c_13 : 0 < 0) => absurd c_13 (by omega))
  refine lv_aload_n hx hcd dX7_refuse_18 rfl (lv_at hl 0 rfl) ?_
  refine kr_Vv (As := []) (rest := []) (ws2 := wMA cI z (xu (xu x 7 0) 4 (nI (g_kn n))) hh M Sp Ot (g_keep Sv M n) Tx) (q := (RX7, TX7, 10)) ⟨hx, hcd, hml, hown, hts⟩ (c_X7_keep l D cI cB cW cL z (xu x 7 0) hh Sp Ot Sv Tx _ M n hn4 (by omega)) (cwV 0 hts gX7_refuse_X7_keep rfl rfl rfl (by decide +kernel) ⟨Nat.le_of_ble_eq_true rfl, Nat.le_of_ble_eq_true rfl⟩) hK hP hD hS hA [0, 1, 2, 3, 4, 5] wMA_allC (by decide) wMA_adr wMA_all 0 rfl rfl rfl hl.1 rfl (Nat.le_of_ble_eq_true rfl) dX7_refuse_19 ⟨Nat.zero_le _, Nat.zero_le _⟩ (fun H locs hP hD hS => ?_)
  refine lv_aload_n hx hcd dX7_refuse_22 rfl (lv_at hl 0 rfl) ?_
  refine lv_iload_n hx hcd dX7_refuse_23 rfl (lv_at hl 1 rfl) ?_
  refine lv_iload_n hx hcd dX7_refuse_24 rfl (lv_at hl 2 rfl) ?_
  refine kr_Vi (As := [.int (nI a), .int (nI b)]) (rest := []) (ws2 := wMA cI z (xu (xu x 7 0) 4 (nI (g_kn n))) hh (g_refuse M a b) Sp Ot (g_keep Sv M n) Tx) (q := (RX7, TX7, 10)) ⟨hx, hcd, hml, hown, hts⟩ (c_X7_refuses l D cI cB cW cL z (xu (xu x 7 0) 4 (nI (g_kn n))) hh _ M a b hI (by omega) (by omega)) (cwV 2 hts gX7_refuse_X7_refuses rfl rfl rfl (by decide +kernel) ⟨Nat.le_of_ble_eq_true rfl, Nat.le_of_ble_eq_true rfl⟩) hK hP hD hS hA [0, 1] wMA_MoC (by decide) wMo_adr2 wMA_Mo 0 rfl rfl rfl hl.1 rfl (Nat.le_of_ble_eq_true rfl) dX7_refuse_25 ⟨Nat.zero_le _, Nat.zero_le _⟩ (fun H locs hP hD hS => ?_)
  have hI_1 : kInv (g_refuse M a b) := i_refuse hI (by omega) (by omega)
  exact kr_iret hx hcd hr hlocks hK hP hD hS rfl rfl dX7_refuse_28

set_option maxHeartbeats 4000000 in
set_option maxRecDepth 100000 in
theorem c_X7_stop__bad (l : Launch) (D : va_G) (cI cB cW cL : ClassId) (z : Nat → Nat) (x : Nat → Int32) (hh : Int64) (Sp Ot Sv Tx : Nat → Int32) (sz : Nat) (M : kM) (u : Int32) (w : Int32) (n : Nat) (hw : g_why u w = nI n) (hn : 0 < n ∧ n < 3) : kMi l yX7_stop wsX7_stop ({ frames := 3, cells := 0, slots := 0, locals := 63 }) D vwCl (kT cI cB cW cL) sz [.ref (z 0), .int u, .int w] (wMA cI z x hh M Sp Ot Sv Tx) (wMA cI z (xu x 7 (nI n)) hh M Sp Ot Sv Tx) 0 := by
  refine kr_ofi (cc := cX7_stop) (maxL := 3) (ret := (some .int)) (by decide) rfl (Nat.le_of_ble_eq_true rfl) ?_
  intro pp ee ss mm args below meth cc AA ls hx hcd hr hts hown hlocks hml hK hP hD hA hl
  have hS : va_S AA ss.heap ss.heap [] := va_S.rf
  have hown : ss.vm.findClass RX7 = some mm.cls := hown
  have hl : lv_has ls 3 [(0, .ref (z 0)), (1, .int u), (2, .int w)] := hl
  have uX7 : ∀ w ∈ u_ws RX7 TX7 10, w ∈ wsX7_stop := by decide +kernel
  refine lv_aload_n hx hcd dX7_stop_0 rfl (lv_at hl 0 rfl) ?_
  refine lv_iload_n hx hcd dX7_stop_1 rfl (lv_at hl 1 rfl) ?_
  refine lv_iload_n hx hcd dX7_stop_2 rfl (lv_at hl 2 rfl) ?_
  refine kr_Si (As := [.int u, .int w]) (rest := [.ref (z 0)]) (ws2 := wMA cI z x hh M Sp Ot Sv Tx) ⟨hx, hcd, hml, hown, hts⟩ (c_X7_whyNot l D cI cB cW cL  _ M u w) (va_cwS 2 hts gX7_stop_X7_whyNot rfl rfl rfl (by decide +kernel) ⟨Nat.le_of_ble_eq_true rfl, Nat.le_of_ble_eq_true rfl⟩) hK hP hD hS hA [] rfl (by decide) rfl rfl rfl hl.1 rfl (Nat.le_of_ble_eq_true rfl) dX7_stop_3 ⟨Nat.zero_le _, Nat.zero_le _⟩ (fun H locs hP hD hS => ?_)
  refine kr_top (w := nI n) hw ?_
  refine kr_put hx hcd hts uX7 tyX7 tyX7_ok nmX7 hown hK hP hD hS 0 rfl rfl 7 (by decide) (by decide +kernel) rfl rfl rfl (ws2 := wMA cI z (xu x 7 (nI n)) hh M Sp Ot Sv Tx) rfl dX7_stop_6 (fun H locs hP hD hS => ?_)
  refine lv_aload_n hx hcd dX7_stop_9 rfl (lv_at hl 0 rfl) ?_
  refine kr_get hx hcd hts uX7 hown hK hP 0 rfl rfl 7 (by decide) (by decide +kernel) (v := .int (nI n)) rfl dX7_stop_10 ?_
  refine kr_zeq (tgt := 18) hx hcd (by omega) dX7_stop_13 (by decide) (fun (c_13 : n = 0) => absurd c_13 (by omega)) (fun (c_13 : 0 < n) => ?_)
  refine lv_iconst (v := nI 0) hx hcd dX7_stop_16 (by decide) ?_
  exact kr_iret hx hcd hr hlocks hK hP hD hS rfl rfl dX7_stop_17

set_option maxHeartbeats 4000000 in
set_option maxRecDepth 100000 in
theorem c_X7_stop__ok (l : Launch) (D : va_G) (cI cB cW cL : ClassId) (z : Nat → Nat) (x : Nat → Int32) (hh : Int64) (Sp Ot Sv Tx : Nat → Int32) (sz : Nat) (M : kM) (a : Nat) (b : Nat) (n : Nat) (hI : kInv M) (ha : a < 6) (hb : b < 6) (hne : a ≠ b) (hn4 : x 4 = nI n) (hn : n ≤ 4) : kMi l yX7_stop wsX7_stop ({ frames := 3, cells := 0, slots := 0, locals := 69 }) D vwCl (kT cI cB cW cL) sz [.ref (z 0), .int (nI a), .int (nI b)] (wMA cI z x hh M Sp Ot Sv Tx) (wMA cI z (xu (xu x 7 0) 4 (nI (g_kn n))) hh (g_stop M a b) Sp Ot (g_keep Sv M n) Tx) (if g_has M a b 5 = true then 1 else 0) := by
  refine kr_ofi (cc := cX7_stop) (maxL := 3) (ret := (some .int)) (by decide) rfl (Nat.le_of_ble_eq_true rfl) ?_
  intro pp ee ss mm args below meth cc AA ls hx hcd hr hts hown hlocks hml hK hP hD hA hl
  have hS : va_S AA ss.heap ss.heap [] := va_S.rf
  have hown : ss.vm.findClass RX7 = some mm.cls := hown
  have hl : lv_has ls 3 [(0, .ref (z 0)), (1, .int (nI a)), (2, .int (nI b))] := hl
  have uX7 : ∀ w ∈ u_ws RX7 TX7 10, w ∈ wsX7_stop := by decide +kernel
  refine lv_aload_n hx hcd dX7_stop_0 rfl (lv_at hl 0 rfl) ?_
  refine lv_iload_n hx hcd dX7_stop_1 rfl (lv_at hl 1 rfl) ?_
  refine lv_iload_n hx hcd dX7_stop_2 rfl (lv_at hl 2 rfl) ?_
  refine kr_Si (As := [.int (nI a), .int (nI b)]) (rest := [.ref (z 0)]) (ws2 := wMA cI z x hh M Sp Ot Sv Tx) ⟨hx, hcd, hml, hown, hts⟩ (c_X7_whyNot l D cI cB cW cL  _ M (nI a) (nI b)) (va_cwS 2 hts gX7_stop_X7_whyNot rfl rfl rfl (by decide +kernel) ⟨Nat.le_of_ble_eq_true rfl, Nat.le_of_ble_eq_true rfl⟩) hK hP hD hS hA [] rfl (by decide) rfl rfl rfl hl.1 rfl (Nat.le_of_ble_eq_true rfl) dX7_stop_3 ⟨Nat.zero_le _, Nat.zero_le _⟩ (fun H locs hP hD hS => ?_)
  refine kr_top (w := nI 0) (why_ok ha hb hne) ?_
  refine kr_put hx hcd hts uX7 tyX7 tyX7_ok nmX7 hown hK hP hD hS 0 rfl rfl 7 (by decide) (by decide +kernel) rfl rfl rfl (ws2 := wMA cI z (xu x 7 0) hh M Sp Ot Sv Tx) rfl dX7_stop_6 (fun H locs hP hD hS => ?_)
  refine lv_aload_n hx hcd dX7_stop_9 rfl (lv_at hl 0 rfl) ?_
  refine kr_get hx hcd hts uX7 hown hK hP 0 rfl rfl 7 (by decide) (by decide +kernel) (v := .int 0) rfl dX7_stop_10 ?_
  refine kr_top (w := nI 0) rfl ?_
  refine kr_zeq (tgt := 18) hx hcd (by omega) dX7_stop_13 (by decide) (fun (c_13 : 0 = 0) => ?_) (fun (c_13 : 0 < 0) => absurd c_13 (by omega))
  refine lv_aload_n hx hcd dX7_stop_18 rfl (lv_at hl 0 rfl) ?_
  refine kr_Vv (As := []) (rest := []) (ws2 := wMA cI z (xu (xu x 7 0) 4 (nI (g_kn n))) hh M Sp Ot (g_keep Sv M n) Tx) (q := (RX7, TX7, 10)) ⟨hx, hcd, hml, hown, hts⟩ (c_X7_keep l D cI cB cW cL z (xu x 7 0) hh Sp Ot Sv Tx _ M n hn4 (by omega)) (cwV 0 hts gX7_stop_X7_keep rfl rfl rfl (by decide +kernel) ⟨Nat.le_of_ble_eq_true rfl, Nat.le_of_ble_eq_true rfl⟩) hK hP hD hS hA [0, 1, 2, 3, 4, 5] wMA_allC (by decide) wMA_adr wMA_all 0 rfl rfl rfl hl.1 rfl (Nat.le_of_ble_eq_true rfl) dX7_stop_19 ⟨Nat.zero_le _, Nat.zero_le _⟩ (fun H locs hP hD hS => ?_)
  refine lv_aload_n hx hcd dX7_stop_22 rfl (lv_at hl 0 rfl) ?_
  refine lv_iload_n hx hcd dX7_stop_23 rfl (lv_at hl 1 rfl) ?_
  refine lv_iload_n hx hcd dX7_stop_24 rfl (lv_at hl 2 rfl) ?_
  refine kr_Vi (As := [.int (nI a), .int (nI b)]) (rest := []) (ws2 := wMA cI z (xu (xu x 7 0) 4 (nI (g_kn n))) hh (g_stop M a b) Sp Ot (g_keep Sv M n) Tx) (q := (RX7, TX7, 10)) ⟨hx, hcd, hml, hown, hts⟩ (c_X7_stops l D cI cB cW cL z (xu (xu x 7 0) 4 (nI (g_kn n))) hh _ M a b hI (by omega) (by omega)) (cwV 2 hts gX7_stop_X7_stops rfl rfl rfl (by decide +kernel) ⟨Nat.le_of_ble_eq_true rfl, Nat.le_of_ble_eq_true rfl⟩) hK hP hD hS hA [0, 1] wMA_MoC (by decide) wMo_adr2 wMA_Mo 0 rfl rfl rfl hl.1 rfl (Nat.le_of_ble_eq_true rfl) dX7_stop_25 ⟨Nat.zero_le _, Nat.zero_le _⟩ (fun H locs hP hD hS => ?_)
  have hI_1 : kInv (g_stop M a b) := i_stop hI (by omega) (by omega)
  exact kr_iret hx hcd hr hlocks hK hP hD hS rfl rfl dX7_stop_28

set_option maxHeartbeats 4000000 in
set_option maxRecDepth 100000 in
theorem c_X7_entry__bad (l : Launch) (D : va_G) (cI cB cW cL : ClassId) (z : Nat → Nat) (x : Nat → Int32) (hh : Int64) (sz : Nat) (M : kM) (u : Int32) (w : Int32) (n : Nat) (hw : g_why u w = nI n) (hn : 0 < n ∧ n < 3) : kMi l yX7_entry wsX7_entry ({ frames := 3, cells := 0, slots := 0, locals := 63 }) D vwCl (kT cI cB cW cL) sz [.ref (z 0), .int u, .int w] (wMo cI z x hh M) (wMo cI z (xu x 7 (nI n)) hh M) 0 := by
  refine kr_ofi (cc := cX7_entry) (maxL := 3) (ret := (some .int)) (by decide) rfl (Nat.le_of_ble_eq_true rfl) ?_
  intro pp ee ss mm args below meth cc AA ls hx hcd hr hts hown hlocks hml hK hP hD hA hl
  have hS : va_S AA ss.heap ss.heap [] := va_S.rf
  have hown : ss.vm.findClass RX7 = some mm.cls := hown
  have hl : lv_has ls 3 [(0, .ref (z 0)), (1, .int u), (2, .int w)] := hl
  have uX7 : ∀ w ∈ u_ws RX7 TX7 10, w ∈ wsX7_entry := by decide +kernel
  refine lv_aload_n hx hcd dX7_entry_0 rfl (lv_at hl 0 rfl) ?_
  refine lv_iload_n hx hcd dX7_entry_1 rfl (lv_at hl 1 rfl) ?_
  refine lv_iload_n hx hcd dX7_entry_2 rfl (lv_at hl 2 rfl) ?_
  refine kr_Si (As := [.int u, .int w]) (rest := [.ref (z 0)]) (ws2 := wMo cI z x hh M) ⟨hx, hcd, hml, hown, hts⟩ (c_X7_whyNot l D cI cB cW cL  _ M u w) (va_cwS 2 hts gX7_entry_X7_whyNot rfl rfl rfl (by decide +kernel) ⟨Nat.le_of_ble_eq_true rfl, Nat.le_of_ble_eq_true rfl⟩) hK hP hD hS hA [] rfl (by decide) rfl rfl rfl hl.1 rfl (Nat.le_of_ble_eq_true rfl) dX7_entry_3 ⟨Nat.zero_le _, Nat.zero_le _⟩ (fun H locs hP hD hS => ?_)
  refine kr_top (w := nI n) hw ?_
  refine kr_put hx hcd hts uX7 tyX7 tyX7_ok nmX7 hown hK hP hD hS 0 rfl rfl 7 (by decide) (by decide +kernel) rfl rfl rfl (ws2 := wMo cI z (xu x 7 (nI n)) hh M) rfl dX7_entry_6 (fun H locs hP hD hS => ?_)
  refine lv_aload_n hx hcd dX7_entry_9 rfl (lv_at hl 0 rfl) ?_
  refine kr_get hx hcd hts uX7 hown hK hP 0 rfl rfl 7 (by decide) (by decide +kernel) (v := .int (nI n)) rfl dX7_entry_10 ?_
  refine kr_zeq (tgt := 20) hx hcd (by omega) dX7_entry_13 (by decide) (fun (c_13 : n = 0) => absurd c_13 (by omega)) (fun (c_13 : 0 < n) => ?_)
  refine lv_iconst (v := nI 0) hx hcd dX7_entry_16 (by decide) ?_
  refine lv_goto (tgt := 26) hx hcd dX7_entry_17 (by decide) ?_
  exact kr_iret hx hcd hr hlocks hK hP hD hS rfl rfl dX7_entry_26

set_option maxHeartbeats 4000000 in
set_option maxRecDepth 100000 in
theorem c_X7_entry__ok (l : Launch) (D : va_G) (cI cB cW cL : ClassId) (z : Nat → Nat) (x : Nat → Int32) (hh : Int64) (sz : Nat) (M : kM) (a : Nat) (b : Nat) (ha : a < 6) (hb : b < 6) (hne : a ≠ b) : kMi l yX7_entry wsX7_entry ({ frames := 3, cells := 0, slots := 0, locals := 63 }) D vwCl (kT cI cB cW cL) sz [.ref (z 0), .int (nI a), .int (nI b)] (wMo cI z x hh M) (wMo cI z (xu x 7 0) hh M) (g_st M a b) := by
  refine kr_ofi (cc := cX7_entry) (maxL := 3) (ret := (some .int)) (by decide) rfl (Nat.le_of_ble_eq_true rfl) ?_
  intro pp ee ss mm args below meth cc AA ls hx hcd hr hts hown hlocks hml hK hP hD hA hl
  have hS : va_S AA ss.heap ss.heap [] := va_S.rf
  have hown : ss.vm.findClass RX7 = some mm.cls := hown
  have hl : lv_has ls 3 [(0, .ref (z 0)), (1, .int (nI a)), (2, .int (nI b))] := hl
  have uX7 : ∀ w ∈ u_ws RX7 TX7 10, w ∈ wsX7_entry := by decide +kernel
  refine lv_aload_n hx hcd dX7_entry_0 rfl (lv_at hl 0 rfl) ?_
  refine lv_iload_n hx hcd dX7_entry_1 rfl (lv_at hl 1 rfl) ?_
  refine lv_iload_n hx hcd dX7_entry_2 rfl (lv_at hl 2 rfl) ?_
  refine kr_Si (As := [.int (nI a), .int (nI b)]) (rest := [.ref (z 0)]) (ws2 := wMo cI z x hh M) ⟨hx, hcd, hml, hown, hts⟩ (c_X7_whyNot l D cI cB cW cL  _ M (nI a) (nI b)) (va_cwS 2 hts gX7_entry_X7_whyNot rfl rfl rfl (by decide +kernel) ⟨Nat.le_of_ble_eq_true rfl, Nat.le_of_ble_eq_true rfl⟩) hK hP hD hS hA [] rfl (by decide) rfl rfl rfl hl.1 rfl (Nat.le_of_ble_eq_true rfl) dX7_entry_3 ⟨Nat.zero_le _, Nat.zero_le _⟩ (fun H locs hP hD hS => ?_)
  refine kr_top (w := nI 0) (why_ok ha hb hne) ?_
  refine kr_put hx hcd hts uX7 tyX7 tyX7_ok nmX7 hown hK hP hD hS 0 rfl rfl 7 (by decide) (by decide +kernel) rfl rfl rfl (ws2 := wMo cI z (xu x 7 0) hh M) rfl dX7_entry_6 (fun H locs hP hD hS => ?_)
  refine lv_aload_n hx hcd dX7_entry_9 rfl (lv_at hl 0 rfl) ?_
  refine kr_get hx hcd hts uX7 hown hK hP 0 rfl rfl 7 (by decide) (by decide +kernel) (v := .int 0) rfl dX7_entry_10 ?_
  refine kr_top (w := nI 0) rfl ?_
  refine kr_zeq (tgt := 20) hx hcd (by omega) dX7_entry_13 (by decide) (fun (c_13 : 0 = 0) => ?_) (fun (c_13 : 0 < 0) => absurd c_13 (by omega))
  refine lv_aload_n hx hcd dX7_entry_20 rfl (lv_at hl 0 rfl) ?_
  refine lv_iload_n hx hcd dX7_entry_21 rfl (lv_at hl 1 rfl) ?_
  refine lv_iload_n hx hcd dX7_entry_22 rfl (lv_at hl 2 rfl) ?_
  refine kr_Vi (As := [.int (nI a), .int (nI b)]) (rest := []) (ws2 := wMo cI z (xu x 7 0) hh M) (q := (RX7, TX7, 10)) ⟨hx, hcd, hml, hown, hts⟩ (c_X7_state l D cI cB cW cL z (xu x 7 0) hh _ M a b (by omega) (by omega)) (cwV 2 hts gX7_entry_X7_state rfl rfl rfl (by decide +kernel) ⟨Nat.le_of_ble_eq_true rfl, Nat.le_of_ble_eq_true rfl⟩) hK hP hD hS hA [0, 1] wMo_allC (by decide) wMo_adr wMo_all 0 rfl rfl rfl hl.1 rfl (Nat.le_of_ble_eq_true rfl) dX7_entry_23 ⟨Nat.zero_le _, Nat.zero_le _⟩ (fun H locs hP hD hS => ?_)
  exact kr_iret hx hcd hr hlocks hK hP hD hS rfl rfl dX7_entry_26

set_option maxHeartbeats 4000000 in
set_option maxRecDepth 100000 in
theorem c_X7_areApart__bad (l : Launch) (D : va_G) (cI cB cW cL : ClassId) (z : Nat → Nat) (x : Nat → Int32) (hh : Int64) (sz : Nat) (M : kM) (u : Int32) (w : Int32) (n : Nat) (hw : g_why u w = nI n) (hn : 0 < n ∧ n < 3) : kMi l yX7_areApart wsX7_areApart ({ frames := 3, cells := 0, slots := 0, locals := 63 }) D vwCl (kT cI cB cW cL) sz [.ref (z 0), .int u, .int w] (wMo cI z x hh M) (wMo cI z (xu x 7 (nI n)) hh M) 0 := by
  refine kr_ofi (cc := cX7_areApart) (maxL := 3) (ret := (some .boolean)) (by decide) rfl (Nat.le_of_ble_eq_true rfl) ?_
  intro pp ee ss mm args below meth cc AA ls hx hcd hr hts hown hlocks hml hK hP hD hA hl
  have hS : va_S AA ss.heap ss.heap [] := va_S.rf
  have hown : ss.vm.findClass RX7 = some mm.cls := hown
  have hl : lv_has ls 3 [(0, .ref (z 0)), (1, .int u), (2, .int w)] := hl
  have uX7 : ∀ w ∈ u_ws RX7 TX7 10, w ∈ wsX7_areApart := by decide +kernel
  refine lv_aload_n hx hcd dX7_areApart_0 rfl (lv_at hl 0 rfl) ?_
  refine lv_iload_n hx hcd dX7_areApart_1 rfl (lv_at hl 1 rfl) ?_
  refine lv_iload_n hx hcd dX7_areApart_2 rfl (lv_at hl 2 rfl) ?_
  refine kr_Si (As := [.int u, .int w]) (rest := [.ref (z 0)]) (ws2 := wMo cI z x hh M) ⟨hx, hcd, hml, hown, hts⟩ (c_X7_whyNot l D cI cB cW cL  _ M u w) (va_cwS 2 hts gX7_areApart_X7_whyNot rfl rfl rfl (by decide +kernel) ⟨Nat.le_of_ble_eq_true rfl, Nat.le_of_ble_eq_true rfl⟩) hK hP hD hS hA [] rfl (by decide) rfl rfl rfl hl.1 rfl (Nat.le_of_ble_eq_true rfl) dX7_areApart_3 ⟨Nat.zero_le _, Nat.zero_le _⟩ (fun H locs hP hD hS => ?_)
  refine kr_top (w := nI n) hw ?_
  refine kr_put hx hcd hts uX7 tyX7 tyX7_ok nmX7 hown hK hP hD hS 0 rfl rfl 7 (by decide) (by decide +kernel) rfl rfl rfl (ws2 := wMo cI z (xu x 7 (nI n)) hh M) rfl dX7_areApart_6 (fun H locs hP hD hS => ?_)
  refine lv_aload_n hx hcd dX7_areApart_9 rfl (lv_at hl 0 rfl) ?_
  refine kr_get hx hcd hts uX7 hown hK hP 0 rfl rfl 7 (by decide) (by decide +kernel) (v := .int (nI n)) rfl dX7_areApart_10 ?_
  refine kr_zne (tgt := 29) hx hcd (by omega) dX7_areApart_13 (by decide) (fun (c_13 : 0 < n) => ?_) (fun (c_13 : n = 0) => absurd c_13 (by omega))
  refine lv_iconst (v := nI 0) hx hcd dX7_areApart_29 (by decide) ?_
  exact kr_zret hx hcd hr hlocks hK hP hD hS rfl rfl rfl dX7_areApart_30

set_option maxHeartbeats 4000000 in
set_option maxRecDepth 100000 in
theorem c_X7_areApart__ok (l : Launch) (D : va_G) (cI cB cW cL : ClassId) (z : Nat → Nat) (x : Nat → Int32) (hh : Int64) (sz : Nat) (M : kM) (a : Nat) (b : Nat) (ha : a < 6) (hb : b < 6) (hne : a ≠ b) : kMi l yX7_areApart wsX7_areApart ({ frames := 3, cells := 0, slots := 0, locals := 63 }) D vwCl (kT cI cB cW cL) sz [.ref (z 0), .int (nI a), .int (nI b)] (wMo cI z x hh M) (wMo cI z (xu x 7 0) hh M) (kI (g_apart M a b)) := by
  refine kr_ofi (cc := cX7_areApart) (maxL := 3) (ret := (some .boolean)) (by decide) rfl (Nat.le_of_ble_eq_true rfl) ?_
  intro pp ee ss mm args below meth cc AA ls hx hcd hr hts hown hlocks hml hK hP hD hA hl
  have hS : va_S AA ss.heap ss.heap [] := va_S.rf
  have hown : ss.vm.findClass RX7 = some mm.cls := hown
  have hl : lv_has ls 3 [(0, .ref (z 0)), (1, .int (nI a)), (2, .int (nI b))] := hl
  have uX7 : ∀ w ∈ u_ws RX7 TX7 10, w ∈ wsX7_areApart := by decide +kernel
  refine lv_aload_n hx hcd dX7_areApart_0 rfl (lv_at hl 0 rfl) ?_
  refine lv_iload_n hx hcd dX7_areApart_1 rfl (lv_at hl 1 rfl) ?_
  refine lv_iload_n hx hcd dX7_areApart_2 rfl (lv_at hl 2 rfl) ?_
  refine kr_Si (As := [.int (nI a), .int (nI b)]) (rest := [.ref (z 0)]) (ws2 := wMo cI z x hh M) ⟨hx, hcd, hml, hown, hts⟩ (c_X7_whyNot l D cI cB cW cL  _ M (nI a) (nI b)) (va_cwS 2 hts gX7_areApart_X7_whyNot rfl rfl rfl (by decide +kernel) ⟨Nat.le_of_ble_eq_true rfl, Nat.le_of_ble_eq_true rfl⟩) hK hP hD hS hA [] rfl (by decide) rfl rfl rfl hl.1 rfl (Nat.le_of_ble_eq_true rfl) dX7_areApart_3 ⟨Nat.zero_le _, Nat.zero_le _⟩ (fun H locs hP hD hS => ?_)
  refine kr_top (w := nI 0) (why_ok ha hb hne) ?_
  refine kr_put hx hcd hts uX7 tyX7 tyX7_ok nmX7 hown hK hP hD hS 0 rfl rfl 7 (by decide) (by decide +kernel) rfl rfl rfl (ws2 := wMo cI z (xu x 7 0) hh M) rfl dX7_areApart_6 (fun H locs hP hD hS => ?_)
  refine lv_aload_n hx hcd dX7_areApart_9 rfl (lv_at hl 0 rfl) ?_
  refine kr_get hx hcd hts uX7 hown hK hP 0 rfl rfl 7 (by decide) (by decide +kernel) (v := .int 0) rfl dX7_areApart_10 ?_
  refine kr_top (w := nI 0) rfl ?_
  refine kr_zne (tgt := 29) hx hcd (by omega) dX7_areApart_13 (by decide) (fun (c_13 : 0 < 0) => absurd c_13 (by omega)) (fun (c_13 : 0 = 0) => ?_)
  refine lv_aload_n hx hcd dX7_areApart_16 rfl (lv_at hl 0 rfl) ?_
  refine lv_iload_n hx hcd dX7_areApart_17 rfl (lv_at hl 1 rfl) ?_
  refine lv_iload_n hx hcd dX7_areApart_18 rfl (lv_at hl 2 rfl) ?_
  refine kr_Vi (As := [.int (nI a), .int (nI b)]) (rest := []) (ws2 := wMo cI z (xu x 7 0) hh M) (q := (RX7, TX7, 10)) ⟨hx, hcd, hml, hown, hts⟩ (c_X7_apart l D cI cB cW cL z (xu x 7 0) hh _ M a b (by omega) (by omega)) (cwV 2 hts gX7_areApart_X7_apart rfl rfl rfl (by decide +kernel) ⟨Nat.le_of_ble_eq_true rfl, Nat.le_of_ble_eq_true rfl⟩) hK hP hD hS hA [0, 1] wMo_allC (by decide) wMo_adr wMo_all 0 rfl rfl rfl hl.1 rfl (Nat.le_of_ble_eq_true rfl) dX7_areApart_19 ⟨Nat.zero_le _, Nat.zero_le _⟩ (fun H locs hP hD hS => ?_)
  refine kr_beq (tgt := 29) hx hcd dX7_areApart_22 (by decide) (fun (c_22 : g_apart M a b = false) => ?_) (fun (c_22 : g_apart M a b = true) => ?_)
  · refine lv_iconst (v := nI 0) hx hcd dX7_areApart_29 (by decide) ?_
    exact kr_zret hx hcd hr hlocks hK hP hD hS rfl (by simp [kI, c_13, c_22]; rfl) rfl dX7_areApart_30
  · refine lv_iconst (v := nI 1) hx hcd dX7_areApart_25 (by decide) ?_
    refine lv_goto (tgt := 30) hx hcd dX7_areApart_26 (by decide) ?_
    exact kr_zret hx hcd hr hlocks hK hP hD hS rfl (by simp [kI, c_13, c_22]; rfl) rfl dX7_areApart_30

set_option maxHeartbeats 4000000 in
set_option maxRecDepth 100000 in
theorem c_X7_agree__bad (l : Launch) (D : va_G) (cI cB cW cL : ClassId) (z : Nat → Nat) (x : Nat → Int32) (hh : Int64) (sz : Nat) (M : kM) (u : Int32) (w : Int32) (n : Nat) (hw : g_why u w = nI n) (hn : 0 < n ∧ n < 3) : kMi l yX7_agree wsX7_agree ({ frames := 3, cells := 0, slots := 0, locals := 63 }) D vwCl (kT cI cB cW cL) sz [.ref (z 0), .int u, .int w] (wMo cI z x hh M) (wMo cI z (xu x 7 (nI n)) hh M) 0 := by
  refine kr_ofi (cc := cX7_agree) (maxL := 3) (ret := (some .boolean)) (by decide) rfl (Nat.le_of_ble_eq_true rfl) ?_
  intro pp ee ss mm args below meth cc AA ls hx hcd hr hts hown hlocks hml hK hP hD hA hl
  have hS : va_S AA ss.heap ss.heap [] := va_S.rf
  have hown : ss.vm.findClass RX7 = some mm.cls := hown
  have hl : lv_has ls 3 [(0, .ref (z 0)), (1, .int u), (2, .int w)] := hl
  have uX7 : ∀ w ∈ u_ws RX7 TX7 10, w ∈ wsX7_agree := by decide +kernel
  refine lv_aload_n hx hcd dX7_agree_0 rfl (lv_at hl 0 rfl) ?_
  refine lv_iload_n hx hcd dX7_agree_1 rfl (lv_at hl 1 rfl) ?_
  refine lv_iload_n hx hcd dX7_agree_2 rfl (lv_at hl 2 rfl) ?_
  refine kr_Si (As := [.int u, .int w]) (rest := [.ref (z 0)]) (ws2 := wMo cI z x hh M) ⟨hx, hcd, hml, hown, hts⟩ (c_X7_whyNot l D cI cB cW cL  _ M u w) (va_cwS 2 hts gX7_agree_X7_whyNot rfl rfl rfl (by decide +kernel) ⟨Nat.le_of_ble_eq_true rfl, Nat.le_of_ble_eq_true rfl⟩) hK hP hD hS hA [] rfl (by decide) rfl rfl rfl hl.1 rfl (Nat.le_of_ble_eq_true rfl) dX7_agree_3 ⟨Nat.zero_le _, Nat.zero_le _⟩ (fun H locs hP hD hS => ?_)
  refine kr_top (w := nI n) hw ?_
  refine kr_put hx hcd hts uX7 tyX7 tyX7_ok nmX7 hown hK hP hD hS 0 rfl rfl 7 (by decide) (by decide +kernel) rfl rfl rfl (ws2 := wMo cI z (xu x 7 (nI n)) hh M) rfl dX7_agree_6 (fun H locs hP hD hS => ?_)
  refine lv_aload_n hx hcd dX7_agree_9 rfl (lv_at hl 0 rfl) ?_
  refine kr_get hx hcd hts uX7 hown hK hP 0 rfl rfl 7 (by decide) (by decide +kernel) (v := .int (nI n)) rfl dX7_agree_10 ?_
  refine kr_zne (tgt := 29) hx hcd (by omega) dX7_agree_13 (by decide) (fun (c_13 : 0 < n) => ?_) (fun (c_13 : n = 0) => absurd c_13 (by omega))
  refine lv_iconst (v := nI 0) hx hcd dX7_agree_29 (by decide) ?_
  exact kr_zret hx hcd hr hlocks hK hP hD hS rfl rfl rfl dX7_agree_30

set_option maxHeartbeats 4000000 in
set_option maxRecDepth 100000 in
theorem c_X7_agree__ok (l : Launch) (D : va_G) (cI cB cW cL : ClassId) (z : Nat → Nat) (x : Nat → Int32) (hh : Int64) (sz : Nat) (M : kM) (a : Nat) (b : Nat) (ha : a < 6) (hb : b < 6) (hne : a ≠ b) : kMi l yX7_agree wsX7_agree ({ frames := 3, cells := 0, slots := 0, locals := 67 }) D vwCl (kT cI cB cW cL) sz [.ref (z 0), .int (nI a), .int (nI b)] (wMo cI z x hh M) (wMo cI z (xu x 7 0) hh M) (kI (g_agr M a b)) := by
  refine kr_ofi (cc := cX7_agree) (maxL := 3) (ret := (some .boolean)) (by decide) rfl (Nat.le_of_ble_eq_true rfl) ?_
  intro pp ee ss mm args below meth cc AA ls hx hcd hr hts hown hlocks hml hK hP hD hA hl
  have hS : va_S AA ss.heap ss.heap [] := va_S.rf
  have hown : ss.vm.findClass RX7 = some mm.cls := hown
  have hl : lv_has ls 3 [(0, .ref (z 0)), (1, .int (nI a)), (2, .int (nI b))] := hl
  have uX7 : ∀ w ∈ u_ws RX7 TX7 10, w ∈ wsX7_agree := by decide +kernel
  refine lv_aload_n hx hcd dX7_agree_0 rfl (lv_at hl 0 rfl) ?_
  refine lv_iload_n hx hcd dX7_agree_1 rfl (lv_at hl 1 rfl) ?_
  refine lv_iload_n hx hcd dX7_agree_2 rfl (lv_at hl 2 rfl) ?_
  refine kr_Si (As := [.int (nI a), .int (nI b)]) (rest := [.ref (z 0)]) (ws2 := wMo cI z x hh M) ⟨hx, hcd, hml, hown, hts⟩ (c_X7_whyNot l D cI cB cW cL  _ M (nI a) (nI b)) (va_cwS 2 hts gX7_agree_X7_whyNot rfl rfl rfl (by decide +kernel) ⟨Nat.le_of_ble_eq_true rfl, Nat.le_of_ble_eq_true rfl⟩) hK hP hD hS hA [] rfl (by decide) rfl rfl rfl hl.1 rfl (Nat.le_of_ble_eq_true rfl) dX7_agree_3 ⟨Nat.zero_le _, Nat.zero_le _⟩ (fun H locs hP hD hS => ?_)
  refine kr_top (w := nI 0) (why_ok ha hb hne) ?_
  refine kr_put hx hcd hts uX7 tyX7 tyX7_ok nmX7 hown hK hP hD hS 0 rfl rfl 7 (by decide) (by decide +kernel) rfl rfl rfl (ws2 := wMo cI z (xu x 7 0) hh M) rfl dX7_agree_6 (fun H locs hP hD hS => ?_)
  refine lv_aload_n hx hcd dX7_agree_9 rfl (lv_at hl 0 rfl) ?_
  refine kr_get hx hcd hts uX7 hown hK hP 0 rfl rfl 7 (by decide) (by decide +kernel) (v := .int 0) rfl dX7_agree_10 ?_
  refine kr_top (w := nI 0) rfl ?_
  refine kr_zne (tgt := 29) hx hcd (by omega) dX7_agree_13 (by decide) (fun (c_13 : 0 < 0) => absurd c_13 (by omega)) (fun (c_13 : 0 = 0) => ?_)
  refine lv_aload_n hx hcd dX7_agree_16 rfl (lv_at hl 0 rfl) ?_
  refine lv_iload_n hx hcd dX7_agree_17 rfl (lv_at hl 1 rfl) ?_
  refine lv_iload_n hx hcd dX7_agree_18 rfl (lv_at hl 2 rfl) ?_
  refine kr_Vi (As := [.int (nI a), .int (nI b)]) (rest := []) (ws2 := wMo cI z (xu x 7 0) hh M) (q := (RX7, TX7, 10)) ⟨hx, hcd, hml, hown, hts⟩ (c_X7_agrees l D cI cB cW cL z (xu x 7 0) hh _ M a b (by omega) (by omega)) (cwV 2 hts gX7_agree_X7_agrees rfl rfl rfl (by decide +kernel) ⟨Nat.le_of_ble_eq_true rfl, Nat.le_of_ble_eq_true rfl⟩) hK hP hD hS hA [0, 1] wMo_allC (by decide) wMo_adr wMo_all 0 rfl rfl rfl hl.1 rfl (Nat.le_of_ble_eq_true rfl) dX7_agree_19 ⟨Nat.zero_le _, Nat.zero_le _⟩ (fun H locs hP hD hS => ?_)
  refine kr_beq (tgt := 29) hx hcd dX7_agree_22 (by decide) (fun (c_22 : g_agr M a b = false) => ?_) (fun (c_22 : g_agr M a b = true) => ?_)
  · refine lv_iconst (v := nI 0) hx hcd dX7_agree_29 (by decide) ?_
    exact kr_zret hx hcd hr hlocks hK hP hD hS rfl (by simp [kI, c_13, c_22]; rfl) rfl dX7_agree_30
  · refine lv_iconst (v := nI 1) hx hcd dX7_agree_25 (by decide) ?_
    refine lv_goto (tgt := 30) hx hcd dX7_agree_26 (by decide) ?_
    exact kr_zret hx hcd hr hlocks hK hP hD hS rfl (by simp [kI, c_13, c_22]; rfl) rfl dX7_agree_30
