set_option maxHeartbeats 4000000 in
set_option maxRecDepth 100000 in
theorem c_X7_append__ok (l : Launch) (D : va_G) (cI cB cW cL : ClassId) (z : Nat → Nat) (x : Nat → Int32) (hh : Int64) (Sp Ot Sv Tx : Nat → Int32) (sz : Nat) (M : kM) (v : Nat) (L : Nat) (hv : v ≤ 127) (hL : x 6 = nI L) (hLt : L < 100) : kMi l yX7_append wsX7_append ({ frames := 1, cells := 0, slots := 0, locals := 22 }) D vwCl (kT cI cB cW cL) sz [.ref (z 0), .int (nI v)] (wMA cI z x hh M Sp Ot Sv Tx) (wMA cI z (xu (xu x 6 (nI (L + 1))) 7 0) hh M Sp Ot Sv (upd Tx (L) (nI v))) (nI (L + 1)) := by
  refine kr_ofi (cc := cX7_append) (maxL := 2) (ret := (some .int)) (by decide) rfl (Nat.le_of_ble_eq_true rfl) ?_
  intro pp ee ss mm args below meth cc AA ls hx hcd hr hts hown hlocks hml hK hP hD hA hl
  have hS : va_S AA ss.heap ss.heap [] := va_S.rf
  have hown : ss.vm.findClass RX7 = some mm.cls := hown
  have hl : lv_has ls 2 [(0, .ref (z 0)), (1, .int (nI v))] := hl
  have uX7 : ∀ w ∈ u_ws RX7 TX7 10, w ∈ wsX7_append := by decide +kernel
  refine lv_aload_n hx hcd dX7_append_0 rfl (lv_at hl 0 rfl) ?_
  refine lv_iload_n hx hcd dX7_append_1 rfl (lv_at hl 1 rfl) ?_
  refine lv_iconst (v := nI 0) hx hcd dX7_append_2 (by decide) ?_
  refine lv_bipush (v := nI 127) hx hcd dX7_append_3 (by decide) ?_
  refine kr_Si (As := [.int (nI v), .int (nI 0), .int (nI 127)]) (rest := [.ref (z 0)]) (ws2 := wMA cI z x hh M Sp Ot Sv Tx) ⟨hx, hcd, hml, hown, hts⟩ (c_X7_in l D cI cB cW cL  _ M (nI v) 0 127) (va_cwS 3 hts gX7_append_X7_in rfl rfl rfl (by decide +kernel) ⟨Nat.le_of_ble_eq_true rfl, Nat.le_of_ble_eq_true rfl⟩) hK hP hD hS hA [] rfl (by decide) rfl rfl rfl hl.1 rfl (Nat.le_of_ble_eq_true rfl) dX7_append_5 ⟨Nat.zero_le _, Nat.zero_le _⟩ (fun H locs hP hD hS => ?_)
  refine kr_top (w := nI 1) (kI_is (in_ok (lo := 0) (hi := 127) (by omega) (by omega) (by omega)) rfl) ?_
  refine kr_zne (tgt := 15) hx hcd (by omega) dX7_append_8 (by decide) (fun (c_8 : 0 < 1) => ?_) (fun (c_8 : 1 = 0) => absurd c_8 (by omega))
  refine lv_aload_n hx hcd dX7_append_15 rfl (lv_at hl 0 rfl) ?_
  refine kr_get hx hcd hts uX7 hown hK hP 0 rfl rfl 6 (by decide) (by decide +kernel) (v := .int (x 6)) rfl dX7_append_16 ?_
  refine kr_top (w := nI L) hL ?_
  refine lv_bipush (v := nI 100) hx hcd dX7_append_19 (by decide) ?_
  refine kr_cne (tgt := 28) hx hcd (by omega) (by omega) dX7_append_21 (by decide) (fun (c_21 : ¬ L = 100) => ?_) (fun (c_21 : L = 100) => absurd c_21 (by omega))
  refine lv_iconst (v := nI 0) hx hcd dX7_append_28 (by decide) ?_
  refine kr_put hx hcd hts uX7 tyX7 tyX7_ok nmX7 hown hK hP hD hS 0 rfl rfl 7 (by decide) (by decide +kernel) rfl rfl rfl (ws2 := wMA cI z (xu x 7 0) hh M Sp Ot Sv Tx) rfl dX7_append_29 (fun H locs hP hD hS => ?_)
  refine lv_aload_n hx hcd dX7_append_32 rfl (lv_at hl 0 rfl) ?_
  refine kr_get hx hcd hts uX7 hown hK hP 0 rfl rfl 7 (by decide) (by decide +kernel) (v := .int 0) rfl dX7_append_33 ?_
  refine kr_top (w := nI 0) rfl ?_
  refine kr_zeq (tgt := 41) hx hcd (by omega) dX7_append_36 (by decide) (fun (c_36 : 0 = 0) => ?_) (fun (c_36 : 0 < 0) => absurd c_36 (by omega))
  refine lv_aload_n hx hcd dX7_append_41 rfl (lv_at hl 0 rfl) ?_
  refine kr_get hx hcd hts uX7 hown hK hP 0 rfl rfl 5 (by decide) (by decide +kernel) (v := .ref (z 5)) rfl dX7_append_42 ?_
  refine lv_aload_n hx hcd dX7_append_45 rfl (lv_at hl 0 rfl) ?_
  refine kr_get hx hcd hts uX7 hown hK hP 0 rfl rfl 6 (by decide) (by decide +kernel) (v := .int (x 6)) rfl dX7_append_46 ?_
  refine kr_top (w := nI L) hL ?_
  refine lv_iload_n hx hcd dX7_append_49 rfl (lv_at hl 1 rfl) ?_
  refine kr_iast hx hcd hK hP hD hS 5 0 rfl rfl (by omega) (by decide) (congrArg (fun k9 => upd Tx k9 (nI v)) (by omega)) (ws2 := wMA cI z (xu x 7 0) hh M Sp Ot Sv (upd Tx (L) (nI v))) rfl dX7_append_50 (fun H locs hP hD hS => ?_)
  refine lv_aload_n hx hcd dX7_append_51 rfl (lv_at hl 0 rfl) ?_
  refine lv_dup hx hcd dX7_append_52 rfl ?_
  refine kr_get hx hcd hts uX7 hown hK hP 0 rfl rfl 6 (by decide) (by decide +kernel) (v := .int (x 6)) rfl dX7_append_53 ?_
  refine kr_top (w := nI L) hL ?_
  refine lv_iconst (v := nI 1) hx hcd dX7_append_56 (by decide) ?_
  refine kr_add hx hcd dX7_append_57 ?_
  refine kr_put hx hcd hts uX7 tyX7 tyX7_ok nmX7 hown hK hP hD hS 0 rfl rfl 6 (by decide) (by decide +kernel) rfl rfl rfl (ws2 := wMA cI z (xu (xu x 6 (nI (L + 1))) 7 0) hh M Sp Ot Sv (upd Tx (L) (nI v))) rfl dX7_append_58 (fun H locs hP hD hS => ?_)
  refine lv_aload_n hx hcd dX7_append_61 rfl (lv_at hl 0 rfl) ?_
  refine kr_get hx hcd hts uX7 hown hK hP 0 rfl rfl 6 (by decide) (by decide +kernel) (v := .int (nI (L + 1))) rfl dX7_append_62 ?_
  exact kr_iret hx hcd hr hlocks hK hP hD hS rfl rfl dX7_append_65

set_option maxHeartbeats 4000000 in
set_option maxRecDepth 100000 in
theorem c_X7_append__b2 (l : Launch) (D : va_G) (cI cB cW cL : ClassId) (z : Nat → Nat) (x : Nat → Int32) (hh : Int64) (Sp Ot Sv Tx : Nat → Int32) (sz : Nat) (M : kM) (v : Nat) (hv : v ≤ 127) (hL : x 6 = nI 100) : kMi l yX7_append wsX7_append ({ frames := 1, cells := 0, slots := 0, locals := 22 }) D vwCl (kT cI cB cW cL) sz [.ref (z 0), .int (nI v)] (wMA cI z x hh M Sp Ot Sv Tx) (wMA cI z (xu x 7 2) hh M Sp Ot Sv Tx) 0 := by
  refine kr_ofi (cc := cX7_append) (maxL := 2) (ret := (some .int)) (by decide) rfl (Nat.le_of_ble_eq_true rfl) ?_
  intro pp ee ss mm args below meth cc AA ls hx hcd hr hts hown hlocks hml hK hP hD hA hl
  have hS : va_S AA ss.heap ss.heap [] := va_S.rf
  have hown : ss.vm.findClass RX7 = some mm.cls := hown
  have hl : lv_has ls 2 [(0, .ref (z 0)), (1, .int (nI v))] := hl
  have uX7 : ∀ w ∈ u_ws RX7 TX7 10, w ∈ wsX7_append := by decide +kernel
  refine lv_aload_n hx hcd dX7_append_0 rfl (lv_at hl 0 rfl) ?_
  refine lv_iload_n hx hcd dX7_append_1 rfl (lv_at hl 1 rfl) ?_
  refine lv_iconst (v := nI 0) hx hcd dX7_append_2 (by decide) ?_
  refine lv_bipush (v := nI 127) hx hcd dX7_append_3 (by decide) ?_
  refine kr_Si (As := [.int (nI v), .int (nI 0), .int (nI 127)]) (rest := [.ref (z 0)]) (ws2 := wMA cI z x hh M Sp Ot Sv Tx) ⟨hx, hcd, hml, hown, hts⟩ (c_X7_in l D cI cB cW cL  _ M (nI v) 0 127) (va_cwS 3 hts gX7_append_X7_in rfl rfl rfl (by decide +kernel) ⟨Nat.le_of_ble_eq_true rfl, Nat.le_of_ble_eq_true rfl⟩) hK hP hD hS hA [] rfl (by decide) rfl rfl rfl hl.1 rfl (Nat.le_of_ble_eq_true rfl) dX7_append_5 ⟨Nat.zero_le _, Nat.zero_le _⟩ (fun H locs hP hD hS => ?_)
  refine kr_top (w := nI 1) (kI_is (in_ok (lo := 0) (hi := 127) (by omega) (by omega) (by omega)) rfl) ?_
  refine kr_zne (tgt := 15) hx hcd (by omega) dX7_append_8 (by decide) (fun (c_8 : 0 < 1) => ?_) (fun (c_8 : 1 = 0) => absurd c_8 (by omega))
  refine lv_aload_n hx hcd dX7_append_15 rfl (lv_at hl 0 rfl) ?_
  refine kr_get hx hcd hts uX7 hown hK hP 0 rfl rfl 6 (by decide) (by decide +kernel) (v := .int (x 6)) rfl dX7_append_16 ?_
  refine kr_top (w := nI 100) hL ?_
  refine lv_bipush (v := nI 100) hx hcd dX7_append_19 (by decide) ?_
  refine kr_cne (tgt := 28) hx hcd (by omega) (by omega) dX7_append_21 (by decide) (fun (c_21 : ¬ 100 = 100) => absurd c_21 (by omega)) (fun (c_21 : 100 = 100) => ?_)
  refine lv_iconst (v := nI 2) hx hcd dX7_append_24 (by decide) ?_
  refine lv_goto (tgt := 29) hx hcd dX7_append_25 (by decide) ?_
  refine kr_put hx hcd hts uX7 tyX7 tyX7_ok nmX7 hown hK hP hD hS 0 rfl rfl 7 (by decide) (by decide +kernel) rfl rfl rfl (ws2 := wMA cI z (xu x 7 2) hh M Sp Ot Sv Tx) rfl dX7_append_29 (fun H locs hP hD hS => ?_)
  refine lv_aload_n hx hcd dX7_append_32 rfl (lv_at hl 0 rfl) ?_
  refine kr_get hx hcd hts uX7 hown hK hP 0 rfl rfl 7 (by decide) (by decide +kernel) (v := .int 2) rfl dX7_append_33 ?_
  refine kr_top (w := nI 2) rfl ?_
  refine kr_zeq (tgt := 41) hx hcd (by omega) dX7_append_36 (by decide) (fun (c_36 : 2 = 0) => absurd c_36 (by omega)) (fun (c_36 : 0 < 2) => ?_)
  refine lv_iconst (v := nI 0) hx hcd dX7_append_39 (by decide) ?_
  exact kr_iret hx hcd hr hlocks hK hP hD hS rfl rfl dX7_append_40

set_option maxHeartbeats 4000000 in
set_option maxRecDepth 100000 in
theorem c_X7_append__b1 (l : Launch) (D : va_G) (cI cB cW cL : ClassId) (z : Nat → Nat) (x : Nat → Int32) (hh : Int64) (Sp Ot Sv Tx : Nat → Int32) (sz : Nat) (M : kM) (u : Int32) (g0 : g_in u 0 127 = false) : kMi l yX7_append wsX7_append ({ frames := 1, cells := 0, slots := 0, locals := 22 }) D vwCl (kT cI cB cW cL) sz [.ref (z 0), .int u] (wMA cI z x hh M Sp Ot Sv Tx) (wMA cI z (xu x 7 1) hh M Sp Ot Sv Tx) 0 := by
  refine kr_ofi (cc := cX7_append) (maxL := 2) (ret := (some .int)) (by decide) rfl (Nat.le_of_ble_eq_true rfl) ?_
  intro pp ee ss mm args below meth cc AA ls hx hcd hr hts hown hlocks hml hK hP hD hA hl
  have hS : va_S AA ss.heap ss.heap [] := va_S.rf
  have hown : ss.vm.findClass RX7 = some mm.cls := hown
  have hl : lv_has ls 2 [(0, .ref (z 0)), (1, .int u)] := hl
  have uX7 : ∀ w ∈ u_ws RX7 TX7 10, w ∈ wsX7_append := by decide +kernel
  refine lv_aload_n hx hcd dX7_append_0 rfl (lv_at hl 0 rfl) ?_
  refine lv_iload_n hx hcd dX7_append_1 rfl (lv_at hl 1 rfl) ?_
  refine lv_iconst (v := nI 0) hx hcd dX7_append_2 (by decide) ?_
  refine lv_bipush (v := nI 127) hx hcd dX7_append_3 (by decide) ?_
  refine kr_Si (As := [.int u, .int (nI 0), .int (nI 127)]) (rest := [.ref (z 0)]) (ws2 := wMA cI z x hh M Sp Ot Sv Tx) ⟨hx, hcd, hml, hown, hts⟩ (c_X7_in l D cI cB cW cL  _ M u 0 127) (va_cwS 3 hts gX7_append_X7_in rfl rfl rfl (by decide +kernel) ⟨Nat.le_of_ble_eq_true rfl, Nat.le_of_ble_eq_true rfl⟩) hK hP hD hS hA [] rfl (by decide) rfl rfl rfl hl.1 rfl (Nat.le_of_ble_eq_true rfl) dX7_append_5 ⟨Nat.zero_le _, Nat.zero_le _⟩ (fun H locs hP hD hS => ?_)
  refine kr_top (w := nI 0) (kI_no g0 rfl) ?_
  refine kr_zne (tgt := 15) hx hcd (by omega) dX7_append_8 (by decide) (fun (c_8 : 0 < 0) => absurd c_8 (by omega)) (fun (c_8 : 0 = 0) => ?_)
  refine lv_iconst (v := nI 1) hx hcd dX7_append_11 (by decide) ?_
  refine lv_goto (tgt := 29) hx hcd dX7_append_12 (by decide) ?_
  refine kr_put hx hcd hts uX7 tyX7 tyX7_ok nmX7 hown hK hP hD hS 0 rfl rfl 7 (by decide) (by decide +kernel) rfl rfl rfl (ws2 := wMA cI z (xu x 7 1) hh M Sp Ot Sv Tx) rfl dX7_append_29 (fun H locs hP hD hS => ?_)
  refine lv_aload_n hx hcd dX7_append_32 rfl (lv_at hl 0 rfl) ?_
  refine kr_get hx hcd hts uX7 hown hK hP 0 rfl rfl 7 (by decide) (by decide +kernel) (v := .int 1) rfl dX7_append_33 ?_
  refine kr_top (w := nI 1) rfl ?_
  refine kr_zeq (tgt := 41) hx hcd (by omega) dX7_append_36 (by decide) (fun (c_36 : 1 = 0) => absurd c_36 (by omega)) (fun (c_36 : 0 < 1) => ?_)
  refine lv_iconst (v := nI 0) hx hcd dX7_append_39 (by decide) ?_
  exact kr_iret hx hcd hr hlocks hK hP hD hS rfl rfl dX7_append_40

set_option maxHeartbeats 4000000 in
set_option maxRecDepth 100000 in
theorem c_X7_clearText__ok (l : Launch) (D : va_G) (cI cB cW cL : ClassId) (z : Nat → Nat) (x : Nat → Int32) (hh : Int64) (sz : Nat) (M : kM) (L : Nat) (hL : x 6 = nI L) : kMi l yX7_clearText wsX7_clearText ({ frames := 0, cells := 0, slots := 0, locals := 0 }) D vwCl (kT cI cB cW cL) sz [.ref (z 0)] (wMo cI z x hh M) (wMo cI z (xu (xu x 6 0) 7 0) hh M) (nI L) := by
  refine kr_ofi (cc := cX7_clearText) (maxL := 2) (ret := (some .int)) (by decide) rfl (Nat.le_of_ble_eq_true rfl) ?_
  intro pp ee ss mm args below meth cc AA ls hx hcd hr hts hown hlocks hml hK hP hD hA hl
  have hS : va_S AA ss.heap ss.heap [] := va_S.rf
  have hown : ss.vm.findClass RX7 = some mm.cls := hown
  have hl : lv_has ls 2 [(0, .ref (z 0))] := hl
  have uX7 : ∀ w ∈ u_ws RX7 TX7 10, w ∈ wsX7_clearText := by decide +kernel
  refine lv_aload_n hx hcd dX7_clearText_0 rfl (lv_at hl 0 rfl) ?_
  refine lv_iconst (v := nI 0) hx hcd dX7_clearText_1 (by decide) ?_
  refine kr_put hx hcd hts uX7 tyX7 tyX7_ok nmX7 hown hK hP hD hS 0 rfl rfl 7 (by decide) (by decide +kernel) rfl rfl rfl (ws2 := wMo cI z (xu x 7 0) hh M) rfl dX7_clearText_2 (fun H locs hP hD hS => ?_)
  refine lv_aload_n hx hcd dX7_clearText_5 rfl (lv_at hl 0 rfl) ?_
  refine kr_get hx hcd hts uX7 hown hK hP 0 rfl rfl 6 (by decide) (by decide +kernel) (v := .int (x 6)) rfl dX7_clearText_6 ?_
  refine kr_top (w := nI L) hL ?_
  refine lv_istore_n (lv' := [(1, .int (nI L)), (0, .ref (z 0))]) hx hcd dX7_clearText_9 rfl hl (by decide) rfl (fun ls hl => ?_)
  refine lv_aload_n hx hcd dX7_clearText_10 rfl (lv_at hl 1 rfl) ?_
  refine lv_iconst (v := nI 0) hx hcd dX7_clearText_11 (by decide) ?_
  refine kr_put hx hcd hts uX7 tyX7 tyX7_ok nmX7 hown hK hP hD hS 0 rfl rfl 6 (by decide) (by decide +kernel) rfl rfl rfl (ws2 := wMo cI z (xu (xu x 6 0) 7 0) hh M) rfl dX7_clearText_12 (fun H locs hP hD hS => ?_)
  refine lv_iload_n hx hcd dX7_clearText_15 rfl (lv_at hl 0 rfl) ?_
  exact kr_iret hx hcd hr hlocks hK hP hD hS rfl rfl dX7_clearText_16

set_option maxHeartbeats 4000000 in
set_option maxRecDepth 100000 in
theorem c_X7_undo__ok (l : Launch) (D : va_G) (cI cB cW cL : ClassId) (z : Nat → Nat) (x : Nat → Int32) (hh : Int64) (Sp Ot Sv Tx : Nat → Int32) (sz : Nat) (M : kM) (n : Nat) (hn4 : x 4 = nI (n + 1)) (hn : n < 4) : kMi l yX7_undo wsX7_undo ({ frames := 1, cells := 0, slots := 0, locals := 24 }) D vwCl (kT cI cB cW cL) sz [.ref (z 0)] (wMA cI z x hh M Sp Ot Sv Tx) (wMA cI z (xu (xu x 4 (nI n)) 7 0) hh (va_cpy Sv M (581 * n) 0 581) Sp Ot Sv Tx) (nI n) := by
  refine kr_ofi (cc := cX7_undo) (maxL := 1) (ret := (some .int)) (by decide) rfl (Nat.le_of_ble_eq_true rfl) ?_
  intro pp ee ss mm args below meth cc AA ls hx hcd hr hts hown hlocks hml hK hP hD hA hl
  have hS : va_S AA ss.heap ss.heap [] := va_S.rf
  have hown : ss.vm.findClass RX7 = some mm.cls := hown
  have hl : lv_has ls 1 [(0, .ref (z 0))] := hl
  have uX7 : ∀ w ∈ u_ws RX7 TX7 10, w ∈ wsX7_undo := by decide +kernel
  refine lv_aload_n hx hcd dX7_undo_0 rfl (lv_at hl 0 rfl) ?_
  refine lv_aload_n hx hcd dX7_undo_1 rfl (lv_at hl 0 rfl) ?_
  refine kr_get hx hcd hts uX7 hown hK hP 0 rfl rfl 4 (by decide) (by decide +kernel) (v := .int (x 4)) rfl dX7_undo_2 ?_
  refine kr_top (w := nI (n + 1)) hn4 ?_
  refine kr_zne (tgt := 12) hx hcd (by omega) dX7_undo_5 (by decide) (fun (c_5 : 0 < n + 1) => ?_) (fun (c_5 : n + 1 = 0) => absurd c_5 (by omega))
  refine lv_iconst (v := nI 0) hx hcd dX7_undo_12 (by decide) ?_
  refine kr_put hx hcd hts uX7 tyX7 tyX7_ok nmX7 hown hK hP hD hS 0 rfl rfl 7 (by decide) (by decide +kernel) rfl rfl rfl (ws2 := wMA cI z (xu x 7 0) hh M Sp Ot Sv Tx) rfl dX7_undo_13 (fun H locs hP hD hS => ?_)
  refine lv_aload_n hx hcd dX7_undo_16 rfl (lv_at hl 0 rfl) ?_
  refine kr_get hx hcd hts uX7 hown hK hP 0 rfl rfl 7 (by decide) (by decide +kernel) (v := .int 0) rfl dX7_undo_17 ?_
  refine kr_top (w := nI 0) rfl ?_
  refine kr_zeq (tgt := 25) hx hcd (by omega) dX7_undo_20 (by decide) (fun (c_20 : 0 = 0) => ?_) (fun (c_20 : 0 < 0) => absurd c_20 (by omega))
  refine lv_aload_n hx hcd dX7_undo_25 rfl (lv_at hl 0 rfl) ?_
  refine lv_dup hx hcd dX7_undo_26 rfl ?_
  refine kr_get hx hcd hts uX7 hown hK hP 0 rfl rfl 4 (by decide) (by decide +kernel) (v := .int (x 4)) rfl dX7_undo_27 ?_
  refine kr_top (w := nI (n + 1)) hn4 ?_
  refine lv_iconst (v := nI 1) hx hcd dX7_undo_30 (by decide) ?_
  refine kr_sub hx hcd (by omega) dX7_undo_31 ?_
  refine kr_top (w := nI n) (congrArg nI (by omega)) ?_
  refine kr_put hx hcd hts uX7 tyX7 tyX7_ok nmX7 hown hK hP hD hS 0 rfl rfl 4 (by decide) (by decide +kernel) rfl rfl rfl (ws2 := wMA cI z (xu (xu x 4 (nI n)) 7 0) hh M Sp Ot Sv Tx) rfl dX7_undo_32 (fun H locs hP hD hS => ?_)
  refine lv_aload_n hx hcd dX7_undo_35 rfl (lv_at hl 0 rfl) ?_
  refine kr_get hx hcd hts uX7 hown hK hP 0 rfl rfl 3 (by decide) (by decide +kernel) (v := .ref (z 4)) rfl dX7_undo_36 ?_
  refine lv_sipush (v := nI 581) hx hcd dX7_undo_39 (by decide) ?_
  refine lv_aload_n hx hcd dX7_undo_42 rfl (lv_at hl 0 rfl) ?_
  refine kr_get hx hcd hts uX7 hown hK hP 0 rfl rfl 4 (by decide) (by decide +kernel) (v := .int (nI n)) rfl dX7_undo_43 ?_
  refine kr_mul hx hcd dX7_undo_46 ?_
  refine lv_aload_n hx hcd dX7_undo_47 rfl (lv_at hl 0 rfl) ?_
  refine kr_get hx hcd hts uX7 hown hK hP 0 rfl rfl 0 (by decide) (by decide +kernel) (v := .ref (z 1)) rfl dX7_undo_48 ?_
  refine lv_iconst (v := nI 0) hx hcd dX7_undo_51 (by decide) ?_
  refine kr_Sv (As := [.ref (z 4), .int (nI (581 * n)), .ref (z 1), .int (nI 0)]) (rest := []) (ws2 := wMA cI z (xu (xu x 4 (nI n)) 7 0) hh (va_cpy Sv M (581 * n) 0 581) Sp Ot Sv Tx) ⟨hx, hcd, hml, hown, hts⟩ (c_X7_bring l D cI cB cW cL (z 4) (z 1) 2324 581 Sv M _ M (581 * n) 0 (by omega) (by omega) (by omega) (by omega)) (va_cwS 4 hts gX7_undo_X7_bring rfl rfl rfl (by decide +kernel) ⟨Nat.le_of_ble_eq_true rfl, Nat.le_of_ble_eq_true rfl⟩) hK hP hD hS hA [4, 1] rfl (by decide) wBr_adr rfl rfl hl.1 rfl (Nat.le_of_ble_eq_true rfl) dX7_undo_52 ⟨Nat.zero_le _, Nat.zero_le _⟩ (fun H locs hP hD hS => ?_)
  refine lv_aload_n hx hcd dX7_undo_55 rfl (lv_at hl 0 rfl) ?_
  refine kr_get hx hcd hts uX7 hown hK hP 0 rfl rfl 4 (by decide) (by decide +kernel) (v := .int (nI n)) rfl dX7_undo_56 ?_
  exact kr_iret hx hcd hr hlocks hK hP hD hS rfl rfl dX7_undo_59

set_option maxHeartbeats 4000000 in
set_option maxRecDepth 100000 in
theorem c_X7_undo__b1 (l : Launch) (D : va_G) (cI cB cW cL : ClassId) (z : Nat → Nat) (x : Nat → Int32) (hh : Int64) (Sp Ot Sv Tx : Nat → Int32) (sz : Nat) (M : kM) (hn4 : x 4 = nI 0) : kMi l yX7_undo wsX7_undo ({ frames := 0, cells := 0, slots := 0, locals := 0 }) D vwCl (kT cI cB cW cL) sz [.ref (z 0)] (wMA cI z x hh M Sp Ot Sv Tx) (wMA cI z (xu x 7 1) hh M Sp Ot Sv Tx) 0 := by
  refine kr_ofi (cc := cX7_undo) (maxL := 1) (ret := (some .int)) (by decide) rfl (Nat.le_of_ble_eq_true rfl) ?_
  intro pp ee ss mm args below meth cc AA ls hx hcd hr hts hown hlocks hml hK hP hD hA hl
  have hS : va_S AA ss.heap ss.heap [] := va_S.rf
  have hown : ss.vm.findClass RX7 = some mm.cls := hown
  have hl : lv_has ls 1 [(0, .ref (z 0))] := hl
  have uX7 : ∀ w ∈ u_ws RX7 TX7 10, w ∈ wsX7_undo := by decide +kernel
  refine lv_aload_n hx hcd dX7_undo_0 rfl (lv_at hl 0 rfl) ?_
  refine lv_aload_n hx hcd dX7_undo_1 rfl (lv_at hl 0 rfl) ?_
  refine kr_get hx hcd hts uX7 hown hK hP 0 rfl rfl 4 (by decide) (by decide +kernel) (v := .int (x 4)) rfl dX7_undo_2 ?_
  refine kr_top (w := nI 0) hn4 ?_
  refine kr_zne (tgt := 12) hx hcd (by omega) dX7_undo_5 (by decide) (fun (c_5 : 0 < 0) => absurd c_5 (by omega)) (fun (c_5 : 0 = 0) => ?_)
  refine lv_iconst (v := nI 1) hx hcd dX7_undo_8 (by decide) ?_
  refine lv_goto (tgt := 13) hx hcd dX7_undo_9 (by decide) ?_
  refine kr_put hx hcd hts uX7 tyX7 tyX7_ok nmX7 hown hK hP hD hS 0 rfl rfl 7 (by decide) (by decide +kernel) rfl rfl rfl (ws2 := wMA cI z (xu x 7 1) hh M Sp Ot Sv Tx) rfl dX7_undo_13 (fun H locs hP hD hS => ?_)
  refine lv_aload_n hx hcd dX7_undo_16 rfl (lv_at hl 0 rfl) ?_
  refine kr_get hx hcd hts uX7 hown hK hP 0 rfl rfl 7 (by decide) (by decide +kernel) (v := .int 1) rfl dX7_undo_17 ?_
  refine kr_top (w := nI 1) rfl ?_
  refine kr_zeq (tgt := 25) hx hcd (by omega) dX7_undo_20 (by decide) (fun (c_20 : 1 = 0) => absurd c_20 (by omega)) (fun (c_20 : 0 < 1) => ?_)
  refine lv_iconst (v := nI 0) hx hcd dX7_undo_23 (by decide) ?_
  exact kr_iret hx hcd hr hlocks hK hP hD hS rfl rfl dX7_undo_24

set_option maxHeartbeats 4000000 in
set_option maxRecDepth 100000 in
theorem c_X7_untilRest__ok (l : Launch) (D : va_G) (cI cB cW cL : ClassId) (z : Nat → Nat) (x : Nat → Int32) (hh : Int64) (Sp Ot Sv Tx : Nat → Int32) (sz : Nat) (M : kM) (hI : kInv M) : kMi l yX7_untilRest wsX7_untilRest ({ frames := 6, cells := 0, slots := 0, locals := 139 }) D vwCl (kT cI cB cW cL) sz [.ref (z 0)] (wMA cI z x hh M Sp Ot Sv Tx) (wMA cI z (xu x 7 0) hh M (va_cpy M Sp 0 0 581) Ot Sv Tx) (nI (g_delC 1000 M)) := by
  refine kr_ofi (cc := cX7_untilRest) (maxL := 2) (ret := (some .int)) (by decide) rfl (Nat.le_of_ble_eq_true rfl) ?_
  intro pp ee ss mm args below meth cc AA ls hx hcd hr hts hown hlocks hml hK hP hD hA hl
  have hS : va_S AA ss.heap ss.heap [] := va_S.rf
  have hown : ss.vm.findClass RX7 = some mm.cls := hown
  have hl : lv_has ls 2 [(0, .ref (z 0))] := hl
  have uX7 : ∀ w ∈ u_ws RX7 TX7 10, w ∈ wsX7_untilRest := by decide +kernel
  refine lv_aload_n hx hcd dX7_untilRest_0 rfl (lv_at hl 0 rfl) ?_
  refine lv_iconst (v := nI 0) hx hcd dX7_untilRest_1 (by decide) ?_
  refine kr_put hx hcd hts uX7 tyX7 tyX7_ok nmX7 hown hK hP hD hS 0 rfl rfl 7 (by decide) (by decide +kernel) rfl rfl rfl (ws2 := wMA cI z (xu x 7 0) hh M Sp Ot Sv Tx) rfl dX7_untilRest_2 (fun H locs hP hD hS => ?_)
  refine lv_aload_n hx hcd dX7_untilRest_5 rfl (lv_at hl 0 rfl) ?_
  refine kr_get hx hcd hts uX7 hown hK hP 0 rfl rfl 0 (by decide) (by decide +kernel) (v := .ref (z 1)) rfl dX7_untilRest_6 ?_
  refine lv_iconst (v := nI 0) hx hcd dX7_untilRest_9 (by decide) ?_
  refine lv_aload_n hx hcd dX7_untilRest_10 rfl (lv_at hl 0 rfl) ?_
  refine kr_get hx hcd hts uX7 hown hK hP 0 rfl rfl 1 (by decide) (by decide +kernel) (v := .ref (z 2)) rfl dX7_untilRest_11 ?_
  refine lv_iconst (v := nI 0) hx hcd dX7_untilRest_14 (by decide) ?_
  refine kr_Sv (As := [.ref (z 1), .int (nI 0), .ref (z 2), .int (nI 0)]) (rest := []) (ws2 := wMA cI z (xu x 7 0) hh M (va_cpy M Sp 0 0 581) Ot Sv Tx) ⟨hx, hcd, hml, hown, hts⟩ (c_X7_bring l D cI cB cW cL (z 1) (z 2) 581 581 M Sp _ M 0 0 (by omega) (by omega) (by omega) (by omega)) (va_cwS 4 hts gX7_untilRest_X7_bring rfl rfl rfl (by decide +kernel) ⟨Nat.le_of_ble_eq_true rfl, Nat.le_of_ble_eq_true rfl⟩) hK hP hD hS hA [1, 2] rfl (by decide) wBr_adr rfl rfl hl.1 rfl (Nat.le_of_ble_eq_true rfl) dX7_untilRest_15 ⟨Nat.zero_le _, Nat.zero_le _⟩ (fun H locs hP hD hS => ?_)
  refine lv_aload_n hx hcd dX7_untilRest_18 rfl (lv_at hl 0 rfl) ?_
  refine kr_Vi (As := []) (rest := []) (ws2 := wMA cI z (xu x 7 0) hh (g_del 1000 M) (va_cpy M Sp 0 0 581) Ot Sv Tx) (q := (RX7, TX7, 10)) ⟨hx, hcd, hml, hown, hts⟩ (c_X7_rest l D cI cB cW cL z (xu x 7 0) hh _ M hI) (cwV 0 hts gX7_untilRest_X7_rest rfl rfl rfl (by decide +kernel) ⟨Nat.le_of_ble_eq_true rfl, Nat.le_of_ble_eq_true rfl⟩) hK hP hD hS hA [0, 1] wMA_MoC (by decide) wMo_adr2 wMA_Mo 0 rfl rfl rfl hl.1 rfl (Nat.le_of_ble_eq_true rfl) dX7_untilRest_19 ⟨Nat.zero_le _, Nat.zero_le _⟩ (fun H locs hP hD hS => ?_)
  have hI_1 : kInv (g_del 1000 M) := i_del 1000 hI
  refine kr_top (w := nI (g_delC 1000 M)) (if_pos (rest_ok hI)) ?_
  refine lv_istore_n (lv' := [(1, .int (nI (g_delC 1000 M))), (0, .ref (z 0))]) hx hcd dX7_untilRest_22 rfl hl (by decide) rfl (fun ls hl => ?_)
  refine lv_aload_n hx hcd dX7_untilRest_23 rfl (lv_at hl 1 rfl) ?_
  refine kr_get hx hcd hts uX7 hown hK hP 0 rfl rfl 1 (by decide) (by decide +kernel) (v := .ref (z 2)) rfl dX7_untilRest_24 ?_
  refine lv_iconst (v := nI 0) hx hcd dX7_untilRest_27 (by decide) ?_
  refine lv_aload_n hx hcd dX7_untilRest_28 rfl (lv_at hl 1 rfl) ?_
  refine kr_get hx hcd hts uX7 hown hK hP 0 rfl rfl 0 (by decide) (by decide +kernel) (v := .ref (z 1)) rfl dX7_untilRest_29 ?_
  refine lv_iconst (v := nI 0) hx hcd dX7_untilRest_32 (by decide) ?_
  refine kr_Sv (As := [.ref (z 2), .int (nI 0), .ref (z 1), .int (nI 0)]) (rest := []) (ws2 := wMA cI z (xu x 7 0) hh (va_cpy (va_cpy M Sp 0 0 581) (g_del 1000 M) 0 0 581) (va_cpy M Sp 0 0 581) Ot Sv Tx) ⟨hx, hcd, hml, hown, hts⟩ (c_X7_bring l D cI cB cW cL (z 2) (z 1) 581 581 (va_cpy M Sp 0 0 581) (g_del 1000 M) _ (g_del 1000 M) 0 0 (by omega) (by omega) (by omega) (by omega)) (va_cwS 4 hts gX7_untilRest_X7_bring rfl rfl rfl (by decide +kernel) ⟨Nat.le_of_ble_eq_true rfl, Nat.le_of_ble_eq_true rfl⟩) hK hP hD hS hA [2, 1] rfl (by decide) wBr_adr rfl rfl hl.1 rfl (Nat.le_of_ble_eq_true rfl) dX7_untilRest_33 ⟨Nat.zero_le _, Nat.zero_le _⟩ (fun H locs hP hD hS => ?_)
  refine lv_iload_n hx hcd dX7_untilRest_36 rfl (lv_at hl 0 rfl) ?_
  exact kr_iret hx hcd hr hlocks hK hP hD hS rfl (congrArg (fun M9 => wMA cI z (xu x 7 0) hh M9 (va_cpy M Sp 0 0 581) Ot Sv Tx) (by exact back_del hI)) dX7_untilRest_37

set_option maxHeartbeats 4000000 in
set_option maxRecDepth 100000 in
theorem c_X7_agreeingAtRest__ok (l : Launch) (D : va_G) (cI cB cW cL : ClassId) (z : Nat → Nat) (x : Nat → Int32) (hh : Int64) (Sp Ot Sv Tx : Nat → Int32) (sz : Nat) (M : kM) (hI : kInv M) : kMi l yX7_agreeingAtRest wsX7_agreeingAtRest ({ frames := 6, cells := 0, slots := 0, locals := 139 }) D vwCl (kT cI cB cW cL) sz [.ref (z 0)] (wMA cI z x hh M Sp Ot Sv Tx) (wMA cI z (xu x 7 0) hh M (va_cpy M Sp 0 0 581) Ot Sv Tx) (nI (g_pairs (g_del 1000 M))) := by
  refine kr_ofi (cc := cX7_agreeingAtRest) (maxL := 2) (ret := (some .int)) (by decide) rfl (Nat.le_of_ble_eq_true rfl) ?_
  intro pp ee ss mm args below meth cc AA ls hx hcd hr hts hown hlocks hml hK hP hD hA hl
  have hS : va_S AA ss.heap ss.heap [] := va_S.rf
  have hown : ss.vm.findClass RX7 = some mm.cls := hown
  have hl : lv_has ls 2 [(0, .ref (z 0))] := hl
  have uX7 : ∀ w ∈ u_ws RX7 TX7 10, w ∈ wsX7_agreeingAtRest := by decide +kernel
  refine lv_aload_n hx hcd dX7_agreeingAtRest_0 rfl (lv_at hl 0 rfl) ?_
  refine lv_iconst (v := nI 0) hx hcd dX7_agreeingAtRest_1 (by decide) ?_
  refine kr_put hx hcd hts uX7 tyX7 tyX7_ok nmX7 hown hK hP hD hS 0 rfl rfl 7 (by decide) (by decide +kernel) rfl rfl rfl (ws2 := wMA cI z (xu x 7 0) hh M Sp Ot Sv Tx) rfl dX7_agreeingAtRest_2 (fun H locs hP hD hS => ?_)
  refine lv_aload_n hx hcd dX7_agreeingAtRest_5 rfl (lv_at hl 0 rfl) ?_
  refine kr_get hx hcd hts uX7 hown hK hP 0 rfl rfl 0 (by decide) (by decide +kernel) (v := .ref (z 1)) rfl dX7_agreeingAtRest_6 ?_
  refine lv_iconst (v := nI 0) hx hcd dX7_agreeingAtRest_9 (by decide) ?_
  refine lv_aload_n hx hcd dX7_agreeingAtRest_10 rfl (lv_at hl 0 rfl) ?_
  refine kr_get hx hcd hts uX7 hown hK hP 0 rfl rfl 1 (by decide) (by decide +kernel) (v := .ref (z 2)) rfl dX7_agreeingAtRest_11 ?_
  refine lv_iconst (v := nI 0) hx hcd dX7_agreeingAtRest_14 (by decide) ?_
  refine kr_Sv (As := [.ref (z 1), .int (nI 0), .ref (z 2), .int (nI 0)]) (rest := []) (ws2 := wMA cI z (xu x 7 0) hh M (va_cpy M Sp 0 0 581) Ot Sv Tx) ⟨hx, hcd, hml, hown, hts⟩ (c_X7_bring l D cI cB cW cL (z 1) (z 2) 581 581 M Sp _ M 0 0 (by omega) (by omega) (by omega) (by omega)) (va_cwS 4 hts gX7_agreeingAtRest_X7_bring rfl rfl rfl (by decide +kernel) ⟨Nat.le_of_ble_eq_true rfl, Nat.le_of_ble_eq_true rfl⟩) hK hP hD hS hA [1, 2] rfl (by decide) wBr_adr rfl rfl hl.1 rfl (Nat.le_of_ble_eq_true rfl) dX7_agreeingAtRest_15 ⟨Nat.zero_le _, Nat.zero_le _⟩ (fun H locs hP hD hS => ?_)
  refine lv_aload_n hx hcd dX7_agreeingAtRest_18 rfl (lv_at hl 0 rfl) ?_
  refine kr_Vi (As := []) (rest := []) (ws2 := wMA cI z (xu x 7 0) hh (g_del 1000 M) (va_cpy M Sp 0 0 581) Ot Sv Tx) (q := (RX7, TX7, 10)) ⟨hx, hcd, hml, hown, hts⟩ (c_X7_rest l D cI cB cW cL z (xu x 7 0) hh _ M hI) (cwV 0 hts gX7_agreeingAtRest_X7_rest rfl rfl rfl (by decide +kernel) ⟨Nat.le_of_ble_eq_true rfl, Nat.le_of_ble_eq_true rfl⟩) hK hP hD hS hA [0, 1] wMA_MoC (by decide) wMo_adr2 wMA_Mo 0 rfl rfl rfl hl.1 rfl (Nat.le_of_ble_eq_true rfl) dX7_agreeingAtRest_19 ⟨Nat.zero_le _, Nat.zero_le _⟩ (fun H locs hP hD hS => ?_)
  have hI_1 : kInv (g_del 1000 M) := i_del 1000 hI
  refine kr_top (w := nI (g_delC 1000 M)) (if_pos (rest_ok hI)) ?_
  refine lv_iconst (v := (-1)) hx hcd dX7_agreeingAtRest_22 (by decide) ?_
  refine lv_icmp_ne (tgt := 30) hx hcd dX7_agreeingAtRest_23 (by decide) (fun (c_23 : ¬ (nI (g_delC 1000 M)) = (-1)) => ?_) (fun (c_23 : (nI (g_delC 1000 M)) = (-1)) => absurd c_23 (nI_m1 (by have := delC_le 1000 M; omega)))
  refine lv_aload_n hx hcd dX7_agreeingAtRest_30 rfl (lv_at hl 0 rfl) ?_
  refine kr_Vi (As := []) (rest := []) (ws2 := wMA cI z (xu x 7 0) hh (g_del 1000 M) (va_cpy M Sp 0 0 581) Ot Sv Tx) (q := (RX7, TX7, 10)) ⟨hx, hcd, hml, hown, hts⟩ (c_X7_pairsAgreeing l D cI cB cW cL z (xu x 7 0) hh _ (g_del 1000 M) ) (cwV 0 hts gX7_agreeingAtRest_X7_pairsAgreeing rfl rfl rfl (by decide +kernel) ⟨Nat.le_of_ble_eq_true rfl, Nat.le_of_ble_eq_true rfl⟩) hK hP hD hS hA [0, 1] wMA_MoC (by decide) wMo_adr2 wMA_Mo 0 rfl rfl rfl hl.1 rfl (Nat.le_of_ble_eq_true rfl) dX7_agreeingAtRest_31 ⟨Nat.zero_le _, Nat.zero_le _⟩ (fun H locs hP hD hS => ?_)
  refine lv_istore_n (lv' := [(1, .int (nI (g_pairs (g_del 1000 M)))), (0, .ref (z 0))]) hx hcd dX7_agreeingAtRest_34 rfl hl (by decide) rfl (fun ls hl => ?_)
  refine lv_aload_n hx hcd dX7_agreeingAtRest_35 rfl (lv_at hl 1 rfl) ?_
  refine kr_get hx hcd hts uX7 hown hK hP 0 rfl rfl 1 (by decide) (by decide +kernel) (v := .ref (z 2)) rfl dX7_agreeingAtRest_36 ?_
  refine lv_iconst (v := nI 0) hx hcd dX7_agreeingAtRest_39 (by decide) ?_
  refine lv_aload_n hx hcd dX7_agreeingAtRest_40 rfl (lv_at hl 1 rfl) ?_
  refine kr_get hx hcd hts uX7 hown hK hP 0 rfl rfl 0 (by decide) (by decide +kernel) (v := .ref (z 1)) rfl dX7_agreeingAtRest_41 ?_
  refine lv_iconst (v := nI 0) hx hcd dX7_agreeingAtRest_44 (by decide) ?_
  refine kr_Sv (As := [.ref (z 2), .int (nI 0), .ref (z 1), .int (nI 0)]) (rest := []) (ws2 := wMA cI z (xu x 7 0) hh (va_cpy (va_cpy M Sp 0 0 581) (g_del 1000 M) 0 0 581) (va_cpy M Sp 0 0 581) Ot Sv Tx) ⟨hx, hcd, hml, hown, hts⟩ (c_X7_bring l D cI cB cW cL (z 2) (z 1) 581 581 (va_cpy M Sp 0 0 581) (g_del 1000 M) _ (g_del 1000 M) 0 0 (by omega) (by omega) (by omega) (by omega)) (va_cwS 4 hts gX7_agreeingAtRest_X7_bring rfl rfl rfl (by decide +kernel) ⟨Nat.le_of_ble_eq_true rfl, Nat.le_of_ble_eq_true rfl⟩) hK hP hD hS hA [2, 1] rfl (by decide) wBr_adr rfl rfl hl.1 rfl (Nat.le_of_ble_eq_true rfl) dX7_agreeingAtRest_45 ⟨Nat.zero_le _, Nat.zero_le _⟩ (fun H locs hP hD hS => ?_)
  refine lv_iload_n hx hcd dX7_agreeingAtRest_48 rfl (lv_at hl 0 rfl) ?_
  exact kr_iret hx hcd hr hlocks hK hP hD hS rfl (congrArg (fun M9 => wMA cI z (xu x 7 0) hh M9 (va_cpy M Sp 0 0 581) Ot Sv Tx) (by exact back_del hI)) dX7_agreeingAtRest_49

set_option maxHeartbeats 4000000 in
set_option maxRecDepth 100000 in
theorem c_X7_thrown (l : Launch) (D : va_G) (cI cB cW cL : ClassId) (z : Nat → Nat) (x : Nat → Int32) (hh : Int64) (sz : Nat) (M : kM)  : kMi l yX7_thrown wsX7_thrown ({ frames := 0, cells := 0, slots := 0, locals := 0 }) D vwCl (kT cI cB cW cL) sz [.ref (z 0)] (wMo cI z x hh M) (wMo cI z x hh M) (x 7) := by
  refine kr_ofi (cc := cX7_thrown) (maxL := 1) (ret := (some .int)) (by decide) rfl (Nat.le_of_ble_eq_true rfl) ?_
  intro pp ee ss mm args below meth cc AA ls hx hcd hr hts hown hlocks hml hK hP hD hA hl
  have hS : va_S AA ss.heap ss.heap [] := va_S.rf
  have hown : ss.vm.findClass RX7 = some mm.cls := hown
  have hl : lv_has ls 1 [(0, .ref (z 0))] := hl
  have uX7 : ∀ w ∈ u_ws RX7 TX7 10, w ∈ wsX7_thrown := by decide +kernel
  refine lv_aload_n hx hcd dX7_thrown_0 rfl (lv_at hl 0 rfl) ?_
  refine kr_get hx hcd hts uX7 hown hK hP 0 rfl rfl 7 (by decide) (by decide +kernel) (v := .int (x 7)) rfl dX7_thrown_1 ?_
  exact kr_iret hx hcd hr hlocks hK hP hD hS rfl rfl dX7_thrown_4
