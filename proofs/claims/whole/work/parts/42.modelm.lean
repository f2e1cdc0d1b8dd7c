set_option maxHeartbeats 4000000 in
set_option maxRecDepth 100000 in
theorem c_X7_readAll (l : Launch) (D : va_G) (cI cB cW cL : ClassId) (z : Nat → Nat) (x : Nat → Int32) (hh : Int64) (Sp Ot Sv Tx : Nat → Int32) (sz : Nat) (M : kM) (L : Nat) (hT : kTx Tx) (h6 : x 6 = nI L) (hL : L ≤ 100) : kMi l yX7_readAll wsX7_readAll ({ frames := 3, cells := 0, slots := 0, locals := 67 }) D vwCl (kT cI cB cW cL) sz [.ref (z 0)] (wMA cI z x hh M Sp Ot Sv Tx) (wMA cI z (xu x 8 (nI (c_pos Tx L))) hh M Sp Ot Sv Tx) (kI (c_okk Tx L)) := by
  refine kr_ofi (cc := cX7_readAll) (maxL := 2) (ret := (some .boolean)) (by decide) rfl (Nat.le_of_ble_eq_true rfl) ?_
  intro pp ee ss mm args below meth cc AA ls hx hcd hr hts hown hlocks hml hK hP hD hA hl
  have hS : va_S AA ss.heap ss.heap [] := va_S.rf
  have hown : ss.vm.findClass RX7 = some mm.cls := hown
  have hl : lv_has ls 2 [(0, .ref (z 0))] := hl
  have uX7 : ∀ w ∈ u_ws RX7 TX7 10, w ∈ wsX7_readAll := by decide +kernel
  refine lv_aload_n hx hcd dX7_readAll_0 rfl (lv_at hl 0 rfl) ?_
  refine lv_iconst (v := nI 0) hx hcd dX7_readAll_1 (by decide) ?_
  refine kr_put hx hcd hts uX7 tyX7 tyX7_ok nmX7 hown hK hP hD hS 0 rfl rfl 8 (by decide) (by decide +kernel) rfl rfl rfl (ws2 := wMA cI z (xu x 8 0) hh M Sp Ot Sv Tx) rfl dX7_readAll_2 (fun H locs hP hD hS => ?_)
  refine lv_iconst (v := nI 1) hx hcd dX7_readAll_5 (by decide) ?_
  refine lv_istore_n (lv' := [(1, .int (nI 1)), (0, .ref (z 0))]) hx hcd dX7_readAll_6 rfl hl (by decide) rfl (fun ls hl => ?_)
  refine kr_rec (σ := Nat × Bool) (fun y9 => wMA cI z (xu x 8 (nI y9.1)) hh M Sp Ot Sv Tx) (fun y9 => [(0, .ref (z 0)), (1, .int (kI y9.2))]) (fun y9 => raI Tx L y9.1 y9.2) (fun y9 => (if y9.2 = true then L + 1 - y9.1 else 0)) (nL := 2) (fun y9 hX ih_7 H locs ls hP hD hS hl => ?_) (0, true) ⟨Nat.zero_le _, fun _ => ⟨rfl, fun j hj => absurd hj (Nat.not_lt_zero j)⟩, fun q => by cases q⟩ hP hD hS (lv_sub hl [1, 0] rfl)
  obtain ⟨i, ok⟩ := y9
  obtain hX := hX
  have hl : lv_has ls 2 [(0, .ref (z 0)), (1, .int (kI ok))] := hl
  have hR : raI Tx L i ok := hX
  have hiL := hR.1
  refine lv_iload_n hx hcd dX7_readAll_7 rfl (lv_at hl 1 rfl) ?_
  refine kr_beq (tgt := 30) hx hcd dX7_readAll_8 (by decide) (fun (c_8 : ok = false) => ?_) (fun (c_8 : ok = true) => ?_)
  · refine lv_iload_n hx hcd dX7_readAll_30 rfl (lv_at hl 1 rfl) ?_
    exact kr_zret hx hcd hr hlocks hK hP hD hS kr_nb (by first | rw [c_8, (hR.2.2 c_8).1] | rw [c_8, (ra_end hR c_8 c_19).1]) (by first | rw [(hR.2.2 c_8).2] | rw [(ra_end hR c_8 c_19).2]) dX7_readAll_31
  · refine lv_aload_n hx hcd dX7_readAll_11 rfl (lv_at hl 0 rfl) ?_
    refine kr_get hx hcd hts uX7 hown hK hP 0 rfl rfl 8 (by decide) (by decide +kernel) (v := .int (nI i)) rfl dX7_readAll_12 ?_
    refine lv_aload_n hx hcd dX7_readAll_15 rfl (lv_at hl 0 rfl) ?_
    refine kr_get hx hcd hts uX7 hown hK hP 0 rfl rfl 6 (by decide) (by decide +kernel) (v := .int (x 6)) rfl dX7_readAll_16 ?_
    refine kr_top (w := nI L) h6 ?_
    refine kr_cge (tgt := 30) hx hcd (by omega) (by omega) dX7_readAll_19 (by decide) (fun (c_19 : L ≤ i) => ?_) (fun (c_19 : i < L) => ?_)
    · refine lv_iload_n hx hcd dX7_readAll_30 rfl (lv_at hl 1 rfl) ?_
      exact kr_zret hx hcd hr hlocks hK hP hD hS kr_nb (by first | rw [c_8, (hR.2.2 c_8).1] | rw [c_8, (ra_end hR c_8 c_19).1]) (by first | rw [(hR.2.2 c_8).2] | rw [(ra_end hR c_8 c_19).2]) dX7_readAll_31
    · refine lv_aload_n hx hcd dX7_readAll_22 rfl (lv_at hl 0 rfl) ?_
      refine kr_Vi (As := []) (rest := []) (ws2 := wMA cI z (xu (xu x 8 (nI i)) 8 (nI (r_pos Tx L i))) hh M Sp Ot Sv Tx) (q := (RX7, TX7, 10)) ⟨hx, hcd, hml, hown, hts⟩ (c_X7_readOrder l D cI cB cW cL z (xu x 8 (nI i)) hh Sp Ot Sv Tx _ M i L hT (show xu x 8 (nI i) 8 = nI i from rfl) h6 (by omega) (by omega)) (cwV 0 hts gX7_readAll_X7_readOrder rfl rfl rfl (by decide +kernel) ⟨Nat.le_of_ble_eq_true rfl, Nat.le_of_ble_eq_true rfl⟩) hK hP hD hS hA [0, 1, 2, 3, 4, 5] wMA_allC (by decide) wMA_adr wMA_all 0 rfl rfl rfl hl.1 rfl (Nat.le_of_ble_eq_true rfl) dX7_readAll_23 ⟨Nat.zero_le _, Nat.zero_le _⟩ (fun H locs hP hD hS => ?_)
      refine lv_istore_n (lv' := [(1, .int (kI (decide (r_pos Tx L i = i + 4)))), (0, .ref (z 0))]) hx hcd dX7_readAll_26 rfl hl (by decide) rfl (fun ls hl => ?_)
      refine lv_goto (tgt := 7) hx hcd dX7_readAll_27 (by decide) ?_
      obtain ⟨hP, hD⟩ := kr_re (ws2 := wMA cI z (xu x 8 (nI (r_pos Tx L i))) hh M Sp Ot Sv Tx) hP hD (congrArg (fun c9 => wMA cI z c9 hh M Sp Ot Sv Tx) xu_xu)
      exact ih_7 (r_pos Tx L i, decide (r_pos Tx L i = i + 4)) (ra_step hR c_8 c_19) (ra_mu hR c_8 c_19) H locs ls hP hD hS (lv_sub hl [1, 0] rfl)
