set_option maxHeartbeats 4000000 in
set_option maxRecDepth 100000 in
theorem c_X2_add (l : Launch) (D : va_G) (cI cB cW cL : ClassId) (t : Nat → Nat) (L : Nat) (T : Nat → Int32) (sz : Nat) (M : kM) (v : Nat) (hv : v < 128) (hL : L < 100) : kMi l yX2_add wsX2_add ({ frames := 0, cells := 0, slots := 0, locals := 0 }) D vwCl (kT cI cB cW cL) sz [.ref (t 0), .int (nI v)] (wSc cB t L T) (wSc cB t (L + 1) (upd T (L) (nI v))) (nI (L + 1)) := by
  refine kr_ofi (cc := cX2_add) (maxL := 2) (ret := (some .int)) (by decide) rfl (Nat.le_of_ble_eq_true rfl) ?_
  intro pp ee ss mm args below meth cc AA ls hx hcd hr hts hown hlocks hml hK hP hD hA hl
  have hS : va_S AA ss.heap ss.heap [] := va_S.rf
  have hown : ss.vm.findClass RX2 = some mm.cls := hown
  have hl : lv_has ls 2 [(0, .ref (t 0)), (1, .int (nI v))] := hl
  have uX2 : ∀ w ∈ u_ws RX2 TX2 2, w ∈ wsX2_add := by decide +kernel
  refine lv_aload_n hx hcd dX2_add_0 rfl (lv_at hl 0 rfl) ?_
  refine kr_get hx hcd hts uX2 hown hK hP 0 rfl rfl 0 (by decide) (by decide +kernel) (v := .ref (t 1)) rfl dX2_add_1 ?_
  refine lv_aload_n hx hcd dX2_add_4 rfl (lv_at hl 0 rfl) ?_
  refine kr_get hx hcd hts uX2 hown hK hP 0 rfl rfl 1 (by decide) (by decide +kernel) (v := .int (nI L)) rfl dX2_add_5 ?_
  refine lv_iload_n hx hcd dX2_add_8 rfl (lv_at hl 1 rfl) ?_
  refine kr_bast hx hcd hK hP hD hS 1 1 rfl rfl (by omega) (by decide) ((congrArg (fun y9 => upd _ _ y9) (by_nar v (by omega))).trans (congrArg (fun k9 => upd T k9 (nI v)) (by omega))) (ws2 := wSc cB t L (upd T (L) (nI v))) rfl dX2_add_9 (fun H locs hP hD hS => ?_)
  refine lv_aload_n hx hcd dX2_add_10 rfl (lv_at hl 0 rfl) ?_
  refine lv_dup hx hcd dX2_add_11 rfl ?_
  refine kr_get hx hcd hts uX2 hown hK hP 0 rfl rfl 1 (by decide) (by decide +kernel) (v := .int (nI L)) rfl dX2_add_12 ?_
  refine lv_iconst (v := nI 1) hx hcd dX2_add_15 (by decide) ?_
  refine kr_add hx hcd dX2_add_16 ?_
  refine kr_put hx hcd hts uX2 tyX2 tyX2_ok nmX2 hown hK hP hD hS 0 rfl rfl 1 (by decide) (by decide +kernel) rfl rfl rfl (ws2 := wSc cB t (L + 1) (upd T (L) (nI v))) rfl dX2_add_17 (fun H locs hP hD hS => ?_)
  refine lv_aload_n hx hcd dX2_add_20 rfl (lv_at hl 0 rfl) ?_
  refine kr_get hx hcd hts uX2 hown hK hP 0 rfl rfl 1 (by decide) (by decide +kernel) (v := .int (nI (L + 1))) rfl dX2_add_21 ?_
  exact kr_iret hx hcd hr hlocks hK hP hD hS rfl rfl dX2_add_24
