set_option maxHeartbeats 4000000 in
set_option maxRecDepth 100000 in
theorem c_X3_copyFrom (l : Launch) (D : va_G) (cI cB cW cL : ClassId) (q p : Nat → Nat) (f g h : Nat → Int32) (sz : Nat) (M : kM) (hf : ∀ j, 18 ≤ j → f j = 0) (hg : ∀ j, 18 ≤ j → g j = 0) (hh : ∀ j, 18 ≤ j → h j = 0) : kMv l yX3_copyFrom wsX3_copyFrom ({ frames := 1, cells := 0, slots := 0, locals := 80 }) D vwCl (kT cI cB cW cL) sz [.ref (q 1), .ref (p 1)] (w2Se cI q p f g h M) (w2Se cI q p (vs 0 M) (vs 1 M) (vs 2 M) M) := by
  refine kr_ofv (cc := cX3_copyFrom) (maxL := 2) (ret := none) (by decide) rfl (Nat.le_of_ble_eq_true rfl) ?_
  intro pp ee ss mm args below meth cc AA ls hx hcd hr hts hown hlocks hml hK hP hD hA hl
  have hS : va_S AA ss.heap ss.heap [] := va_S.rf
  have hown : ss.vm.findClass RX3 = some mm.cls := hown
  have hl : lv_has ls 2 [(0, .ref (q 1)), (1, .ref (p 1))] := hl
  have uX3 : ∀ w ∈ u_ws RX3 TX3 3, w ∈ wsX3_copyFrom := by decide +kernel
  refine lv_aload_n hx hcd dX3_copyFrom_0 rfl (lv_at hl 1 rfl) ?_
  refine kr_get hx hcd hts uX3 hown hK hP 4 rfl rfl 0 (by decide) (by decide +kernel) (v := .ref (p 2)) rfl dX3_copyFrom_1 ?_
  refine lv_iconst (v := nI 0) hx hcd dX3_copyFrom_4 (by decide) ?_
  refine lv_aload_n hx hcd dX3_copyFrom_5 rfl (lv_at hl 0 rfl) ?_
  refine kr_get hx hcd hts uX3 hown hK hP 0 rfl rfl 0 (by decide) (by decide +kernel) (v := .ref (q 2)) rfl dX3_copyFrom_6 ?_
  refine lv_iconst (v := nI 0) hx hcd dX3_copyFrom_9 (by decide) ?_
  refine lv_bipush (v := nI 18) hx hcd dX3_copyFrom_10 (by decide) ?_
  refine kr_copy hx hcd hml hl.1 hts hown (by decide +kernel) (by decide +kernel) (by decide +kernel) (by decide +kernel) hK hP hD hS 5 1 0 rfl rfl rfl (n := 18) (Nat.le_of_ble_eq_true rfl) (Nat.le_of_ble_eq_true rfl) (by decide) (cpy_vs hf) (ws2 := w2Se cI q p (vs 0 M) g h M) rfl (Nat.le_of_ble_eq_true rfl) (Nat.le_of_ble_eq_true rfl) dX3_copyFrom_12 (fun H locs hP hD hS => ?_)
  refine lv_aload_n hx hcd dX3_copyFrom_15 rfl (lv_at hl 1 rfl) ?_
  refine kr_get hx hcd hts uX3 hown hK hP 4 rfl rfl 1 (by decide) (by decide +kernel) (v := .ref (p 3)) rfl dX3_copyFrom_16 ?_
  refine lv_iconst (v := nI 0) hx hcd dX3_copyFrom_19 (by decide) ?_
  refine lv_aload_n hx hcd dX3_copyFrom_20 rfl (lv_at hl 0 rfl) ?_
  refine kr_get hx hcd hts uX3 hown hK hP 0 rfl rfl 1 (by decide) (by decide +kernel) (v := .ref (q 3)) rfl dX3_copyFrom_21 ?_
  refine lv_iconst (v := nI 0) hx hcd dX3_copyFrom_24 (by decide) ?_
  refine lv_bipush (v := nI 18) hx hcd dX3_copyFrom_25 (by decide) ?_
  refine kr_copy hx hcd hml hl.1 hts hown (by decide +kernel) (by decide +kernel) (by decide +kernel) (by decide +kernel) hK hP hD hS 6 2 0 rfl rfl rfl (n := 18) (Nat.le_of_ble_eq_true rfl) (Nat.le_of_ble_eq_true rfl) (by decide) (cpy_vs hg) (ws2 := w2Se cI q p (vs 0 M) (vs 1 M) h M) rfl (Nat.le_of_ble_eq_true rfl) (Nat.le_of_ble_eq_true rfl) dX3_copyFrom_27 (fun H locs hP hD hS => ?_)
  refine lv_aload_n hx hcd dX3_copyFrom_30 rfl (lv_at hl 1 rfl) ?_
  refine kr_get hx hcd hts uX3 hown hK hP 4 rfl rfl 2 (by decide) (by decide +kernel) (v := .ref (p 4)) rfl dX3_copyFrom_31 ?_
  refine lv_iconst (v := nI 0) hx hcd dX3_copyFrom_34 (by decide) ?_
  refine lv_aload_n hx hcd dX3_copyFrom_35 rfl (lv_at hl 0 rfl) ?_
  refine kr_get hx hcd hts uX3 hown hK hP 0 rfl rfl 2 (by decide) (by decide +kernel) (v := .ref (q 4)) rfl dX3_copyFrom_36 ?_
  refine lv_iconst (v := nI 0) hx hcd dX3_copyFrom_39 (by decide) ?_
  refine lv_bipush (v := nI 18) hx hcd dX3_copyFrom_40 (by decide) ?_
  refine kr_copy hx hcd hml hl.1 hts hown (by decide +kernel) (by decide +kernel) (by decide +kernel) (by decide +kernel) hK hP hD hS 7 3 0 rfl rfl rfl (n := 18) (Nat.le_of_ble_eq_true rfl) (Nat.le_of_ble_eq_true rfl) (by decide) (cpy_vs hh) (ws2 := w2Se cI q p (vs 0 M) (vs 1 M) (vs 2 M) M) rfl (Nat.le_of_ble_eq_true rfl) (Nat.le_of_ble_eq_true rfl) dX3_copyFrom_42 (fun H locs hP hD hS => ?_)
  exact kr_vret hx hcd hr hlocks hK hP hD hS rfl dX3_copyFrom_45

set_option maxHeartbeats 4000000 in
set_option maxRecDepth 100000 in
theorem c_X1_copyFrom (l : Launch) (D : va_G) (cI cB cW cL : ClassId) (q p : Nat → Nat) (f g h : Nat → Int32) (sz : Nat) (M : kM) (hf : ∀ j, 36 ≤ j → f j = 0) (hg : ∀ j, 36 ≤ j → g j = 0) (hh : ∀ j, 6 ≤ j → h j = 0) : kMv l yX1_copyFrom wsX1_copyFrom ({ frames := 1, cells := 0, slots := 0, locals := 80 }) D vwCl (kT cI cB cW cL) sz [.ref (q 5), .ref (p 5)] (w2Ro cI q p f g h M) (w2Ro cI q p (vw 54 36 M) (vw 90 36 M) (vw 126 6 M) M) := by
  refine kr_ofv (cc := cX1_copyFrom) (maxL := 2) (ret := none) (by decide) rfl (Nat.le_of_ble_eq_true rfl) ?_
  intro pp ee ss mm args below meth cc AA ls hx hcd hr hts hown hlocks hml hK hP hD hA hl
  have hS : va_S AA ss.heap ss.heap [] := va_S.rf
  have hown : ss.vm.findClass RX1 = some mm.cls := hown
  have hl : lv_has ls 2 [(0, .ref (q 5)), (1, .ref (p 5))] := hl
  have uX1 : ∀ w ∈ u_ws RX1 TX1 3, w ∈ wsX1_copyFrom := by decide +kernel
  refine lv_aload_n hx hcd dX1_copyFrom_0 rfl (lv_at hl 1 rfl) ?_
  refine kr_get hx hcd hts uX1 hown hK hP 4 rfl rfl 0 (by decide) (by decide +kernel) (v := .ref (p 6)) rfl dX1_copyFrom_1 ?_
  refine lv_iconst (v := nI 0) hx hcd dX1_copyFrom_4 (by decide) ?_
  refine lv_aload_n hx hcd dX1_copyFrom_5 rfl (lv_at hl 0 rfl) ?_
  refine kr_get hx hcd hts uX1 hown hK hP 0 rfl rfl 0 (by decide) (by decide +kernel) (v := .ref (q 6)) rfl dX1_copyFrom_6 ?_
  refine lv_iconst (v := nI 0) hx hcd dX1_copyFrom_9 (by decide) ?_
  refine lv_bipush (v := nI 36) hx hcd dX1_copyFrom_10 (by decide) ?_
  refine kr_copy hx hcd hml hl.1 hts hown (by decide +kernel) (by decide +kernel) (by decide +kernel) (by decide +kernel) hK hP hD hS 5 1 0 rfl rfl rfl (n := 36) (Nat.le_of_ble_eq_true rfl) (Nat.le_of_ble_eq_true rfl) (by decide) (cpy_vw hf) (ws2 := w2Ro cI q p (vw 54 36 M) g h M) rfl (Nat.le_of_ble_eq_true rfl) (Nat.le_of_ble_eq_true rfl) dX1_copyFrom_12 (fun H locs hP hD hS => ?_)
  refine lv_aload_n hx hcd dX1_copyFrom_15 rfl (lv_at hl 1 rfl) ?_
  refine kr_get hx hcd hts uX1 hown hK hP 4 rfl rfl 1 (by decide) (by decide +kernel) (v := .ref (p 7)) rfl dX1_copyFrom_16 ?_
  refine lv_iconst (v := nI 0) hx hcd dX1_copyFrom_19 (by decide) ?_
  refine lv_aload_n hx hcd dX1_copyFrom_20 rfl (lv_at hl 0 rfl) ?_
  refine kr_get hx hcd hts uX1 hown hK hP 0 rfl rfl 1 (by decide) (by decide +kernel) (v := .ref (q 7)) rfl dX1_copyFrom_21 ?_
  refine lv_iconst (v := nI 0) hx hcd dX1_copyFrom_24 (by decide) ?_
  refine lv_bipush (v := nI 36) hx hcd dX1_copyFrom_25 (by decide) ?_
  refine kr_copy hx hcd hml hl.1 hts hown (by decide +kernel) (by decide +kernel) (by decide +kernel) (by decide +kernel) hK hP hD hS 6 2 0 rfl rfl rfl (n := 36) (Nat.le_of_ble_eq_true rfl) (Nat.le_of_ble_eq_true rfl) (by decide) (cpy_vw hg) (ws2 := w2Ro cI q p (vw 54 36 M) (vw 90 36 M) h M) rfl (Nat.le_of_ble_eq_true rfl) (Nat.le_of_ble_eq_true rfl) dX1_copyFrom_27 (fun H locs hP hD hS => ?_)
  refine lv_aload_n hx hcd dX1_copyFrom_30 rfl (lv_at hl 1 rfl) ?_
  refine kr_get hx hcd hts uX1 hown hK hP 4 rfl rfl 2 (by decide) (by decide +kernel) (v := .ref (p 8)) rfl dX1_copyFrom_31 ?_
  refine lv_iconst (v := nI 0) hx hcd dX1_copyFrom_34 (by decide) ?_
  refine lv_aload_n hx hcd dX1_copyFrom_35 rfl (lv_at hl 0 rfl) ?_
  refine kr_get hx hcd hts uX1 hown hK hP 0 rfl rfl 2 (by decide) (by decide +kernel) (v := .ref (q 8)) rfl dX1_copyFrom_36 ?_
  refine lv_iconst (v := nI 0) hx hcd dX1_copyFrom_39 (by decide) ?_
  refine lv_bipush (v := nI 6) hx hcd dX1_copyFrom_40 (by decide) ?_
  refine kr_copy hx hcd hml hl.1 hts hown (by decide +kernel) (by decide +kernel) (by decide +kernel) (by decide +kernel) hK hP hD hS 7 3 0 rfl rfl rfl (n := 6) (Nat.le_of_ble_eq_true rfl) (Nat.le_of_ble_eq_true rfl) (by decide) (cpy_vw hh) (ws2 := w2Ro cI q p (vw 54 36 M) (vw 90 36 M) (vw 126 6 M) M) rfl (Nat.le_of_ble_eq_true rfl) (Nat.le_of_ble_eq_true rfl) dX1_copyFrom_42 (fun H locs hP hD hS => ?_)
  exact kr_vret hx hcd hr hlocks hK hP hD hS rfl dX1_copyFrom_45

set_option maxHeartbeats 4000000 in
set_option maxRecDepth 100000 in
theorem c_X4_copyFrom (l : Launch) (D : va_G) (cI cB cW cL : ClassId) (q p : Nat → Nat) (f : Nat → Int32) (sz : Nat) (M : kM) (hf : ∀ j, 108 ≤ j → f j = 0) : kMv l yX4_copyFrom wsX4_copyFrom ({ frames := 1, cells := 0, slots := 0, locals := 80 }) D vwCl (kT cI cB cW cL) sz [.ref (q 9), .ref (p 9)] (w2Vi cI q p f M) (w2Vi cI q p (vw 132 108 M) M) := by
  refine kr_ofv (cc := cX4_copyFrom) (maxL := 2) (ret := none) (by decide) rfl (Nat.le_of_ble_eq_true rfl) ?_
  intro pp ee ss mm args below meth cc AA ls hx hcd hr hts hown hlocks hml hK hP hD hA hl
  have hS : va_S AA ss.heap ss.heap [] := va_S.rf
  have hown : ss.vm.findClass RX4 = some mm.cls := hown
  have hl : lv_has ls 2 [(0, .ref (q 9)), (1, .ref (p 9))] := hl
  have uX4 : ∀ w ∈ u_ws RX4 TX4 1, w ∈ wsX4_copyFrom := by decide +kernel
  refine lv_aload_n hx hcd dX4_copyFrom_0 rfl (lv_at hl 1 rfl) ?_
  refine kr_get hx hcd hts uX4 hown hK hP 2 rfl rfl 0 (by decide) (by decide +kernel) (v := .ref (p 10)) rfl dX4_copyFrom_1 ?_
  refine lv_iconst (v := nI 0) hx hcd dX4_copyFrom_4 (by decide) ?_
  refine lv_aload_n hx hcd dX4_copyFrom_5 rfl (lv_at hl 0 rfl) ?_
  refine kr_get hx hcd hts uX4 hown hK hP 0 rfl rfl 0 (by decide) (by decide +kernel) (v := .ref (q 10)) rfl dX4_copyFrom_6 ?_
  refine lv_iconst (v := nI 0) hx hcd dX4_copyFrom_9 (by decide) ?_
  refine lv_bipush (v := nI 108) hx hcd dX4_copyFrom_10 (by decide) ?_
  refine kr_copy hx hcd hml hl.1 hts hown (by decide +kernel) (by decide +kernel) (by decide +kernel) (by decide +kernel) hK hP hD hS 3 1 0 rfl rfl rfl (n := 108) (Nat.le_of_ble_eq_true rfl) (Nat.le_of_ble_eq_true rfl) (by decide) (cpy_vw hf) (ws2 := w2Vi cI q p (vw 132 108 M) M) rfl (Nat.le_of_ble_eq_true rfl) (Nat.le_of_ble_eq_true rfl) dX4_copyFrom_12 (fun H locs hP hD hS => ?_)
  exact kr_vret hx hcd hr hlocks hK hP hD hS rfl dX4_copyFrom_15

set_option maxHeartbeats 4000000 in
set_option maxRecDepth 100000 in
theorem c_X0_copyFrom (l : Launch) (D : va_G) (cI cB cW cL : ClassId) (q p : Nat → Nat) (f g : Nat → Int32) (u v : Int32) (sz : Nat) (M : kM) (hf : ∀ j, 300 ≤ j → f j = 0) (hg : ∀ j, 3 ≤ j → g j = 0) : kMv l yX0_copyFrom wsX0_copyFrom ({ frames := 1, cells := 0, slots := 0, locals := 80 }) D vwCl (kT cI cB cW cL) sz [.ref (q 11), .ref (p 11)] (w2Po cI q p f g u v M) (w2Po cI q p (vr M) (vw 578 3 M) (M 576) (M 577) M) := by
  refine kr_ofv (cc := cX0_copyFrom) (maxL := 2) (ret := none) (by decide) rfl (Nat.le_of_ble_eq_true rfl) ?_
  intro pp ee ss mm args below meth cc AA ls hx hcd hr hts hown hlocks hml hK hP hD hA hl
  have hS : va_S AA ss.heap ss.heap [] := va_S.rf
  have hown : ss.vm.findClass RX0 = some mm.cls := hown
  have hl : lv_has ls 2 [(0, .ref (q 11)), (1, .ref (p 11))] := hl
  have uX0 : ∀ w ∈ u_ws RX0 TX0 4, w ∈ wsX0_copyFrom := by decide +kernel
  refine lv_aload_n hx hcd dX0_copyFrom_0 rfl (lv_at hl 1 rfl) ?_
  refine kr_get hx hcd hts uX0 hown hK hP 3 rfl rfl 0 (by decide) (by decide +kernel) (v := .ref (p 12)) rfl dX0_copyFrom_1 ?_
  refine lv_iconst (v := nI 0) hx hcd dX0_copyFrom_4 (by decide) ?_
  refine lv_aload_n hx hcd dX0_copyFrom_5 rfl (lv_at hl 0 rfl) ?_
  refine kr_get hx hcd hts uX0 hown hK hP 0 rfl rfl 0 (by decide) (by decide +kernel) (v := .ref (q 12)) rfl dX0_copyFrom_6 ?_
  refine lv_iconst (v := nI 0) hx hcd dX0_copyFrom_9 (by decide) ?_
  refine lv_sipush (v := nI 300) hx hcd dX0_copyFrom_10 (by decide) ?_
  refine kr_copy hx hcd hml hl.1 hts hown (by decide +kernel) (by decide +kernel) (by decide +kernel) (by decide +kernel) hK hP hD hS 4 1 0 rfl rfl rfl (n := 300) (Nat.le_of_ble_eq_true rfl) (Nat.le_of_ble_eq_true rfl) (by decide) (cpy_vr hf) (ws2 := w2Po cI q p (vr M) g u v M) rfl (Nat.le_of_ble_eq_true rfl) (Nat.le_of_ble_eq_true rfl) dX0_copyFrom_13 (fun H locs hP hD hS => ?_)
  refine lv_aload_n hx hcd dX0_copyFrom_16 rfl (lv_at hl 1 rfl) ?_
  refine kr_get hx hcd hts uX0 hown hK hP 3 rfl rfl 3 (by decide) (by decide +kernel) (v := .ref (p 13)) rfl dX0_copyFrom_17 ?_
  refine lv_iconst (v := nI 0) hx hcd dX0_copyFrom_20 (by decide) ?_
  refine lv_aload_n hx hcd dX0_copyFrom_21 rfl (lv_at hl 0 rfl) ?_
  refine kr_get hx hcd hts uX0 hown hK hP 0 rfl rfl 3 (by decide) (by decide +kernel) (v := .ref (q 13)) rfl dX0_copyFrom_22 ?_
  refine lv_iconst (v := nI 0) hx hcd dX0_copyFrom_25 (by decide) ?_
  refine lv_iconst (v := nI 3) hx hcd dX0_copyFrom_26 (by decide) ?_
  refine kr_copy hx hcd hml hl.1 hts hown (by decide +kernel) (by decide +kernel) (by decide +kernel) (by decide +kernel) hK hP hD hS 5 2 0 rfl rfl rfl (n := 3) (Nat.le_of_ble_eq_true rfl) (Nat.le_of_ble_eq_true rfl) (by decide) (cpy_vw hg) (ws2 := w2Po cI q p (vr M) (vw 578 3 M) u v M) rfl (Nat.le_of_ble_eq_true rfl) (Nat.le_of_ble_eq_true rfl) dX0_copyFrom_27 (fun H locs hP hD hS => ?_)
  refine lv_aload_n hx hcd dX0_copyFrom_30 rfl (lv_at hl 0 rfl) ?_
  refine lv_aload_n hx hcd dX0_copyFrom_31 rfl (lv_at hl 1 rfl) ?_
  refine kr_get hx hcd hts uX0 hown hK hP 3 rfl rfl 1 (by decide) (by decide +kernel) (v := .int (M 576)) rfl dX0_copyFrom_32 ?_
  refine kr_put hx hcd hts uX0 tyX0 tyX0_ok nmX0 hown hK hP hD hS 0 rfl rfl 1 (by decide) (by decide +kernel) rfl rfl rfl (ws2 := w2Po cI q p (vr M) (vw 578 3 M) (M 576) v M) rfl dX0_copyFrom_35 (fun H locs hP hD hS => ?_)
  refine lv_aload_n hx hcd dX0_copyFrom_38 rfl (lv_at hl 0 rfl) ?_
  refine lv_aload_n hx hcd dX0_copyFrom_39 rfl (lv_at hl 1 rfl) ?_
  refine kr_get hx hcd hts uX0 hown hK hP 3 rfl rfl 2 (by decide) (by decide +kernel) (v := .int (M 577)) rfl dX0_copyFrom_40 ?_
  refine kr_put hx hcd hts uX0 tyX0 tyX0_ok nmX0 hown hK hP hD hS 0 rfl rfl 2 (by decide) (by decide +kernel) rfl rfl rfl (ws2 := w2Po cI q p (vr M) (vw 578 3 M) (M 576) (M 577) M) rfl dX0_copyFrom_43 (fun H locs hP hD hS => ?_)
  exact kr_vret hx hcd hr hlocks hK hP hD hS rfl dX0_copyFrom_46

set_option maxHeartbeats 4000000 in
set_option maxRecDepth 100000 in
theorem c_X5_copyFrom (l : Launch) (D : va_G) (cI cB cW cL : ClassId) (q p : Nat → Nat) (N : kM) (sz : Nat) (M : kM)  : kMv l yX5_copyFrom wsX5_copyFrom ({ frames := 2, cells := 0, slots := 0, locals := 101 }) D vwCl (kT cI cB cW cL) sz [.ref (q 0), .ref (p 0)] (w2W cI q p N M) (w2W cI q p M M) := by
  refine kr_ofv (cc := cX5_copyFrom) (maxL := 2) (ret := none) (by decide) rfl (Nat.le_of_ble_eq_true rfl) ?_
  intro pp ee ss mm args below meth cc AA ls hx hcd hr hts hown hlocks hml hK hP hD hA hl
  have hS : va_S AA ss.heap ss.heap [] := va_S.rf
  have hown : ss.vm.findClass RX5 = some mm.cls := hown
  have hl : lv_has ls 2 [(0, .ref (q 0)), (1, .ref (p 0))] := hl
  have uX5 : ∀ w ∈ u_ws RX5 TX5 5, w ∈ wsX5_copyFrom := by decide +kernel
  refine lv_aload_n hx hcd dX5_copyFrom_0 rfl (lv_at hl 0 rfl) ?_
  refine kr_get hx hcd hts uX5 hown hK hP 0 rfl rfl 0 (by decide) (by decide +kernel) (v := .ref (q 1)) rfl dX5_copyFrom_1 ?_
  refine lv_aload_n hx hcd dX5_copyFrom_4 rfl (lv_at hl 1 rfl) ?_
  refine kr_get hx hcd hts uX5 hown hK hP 15 rfl rfl 0 (by decide) (by decide +kernel) (v := .ref (p 1)) rfl dX5_copyFrom_5 ?_
  refine kr_Vv (As := [.ref (p 1)]) (rest := []) (ws2 := w2W cI q p (kmx M N 0 54) M) (q := (RX3, TX3, 3)) ⟨hx, hcd, hml, hown, hts⟩ (c_X3_copyFrom l D cI cB cW cL q p (vs 0 N) (vs 1 N) (vs 2 N) _ M z_vs z_vs z_vs) (cwV 1 hts gX5_copyFrom_X3_copyFrom rfl rfl rfl (by decide +kernel) ⟨Nat.le_of_ble_eq_true rfl, Nat.le_of_ble_eq_true rfl⟩) hK hP hD hS hA [1, 2, 3, 4, 16, 17, 18, 19] w2SeC (by decide) w2Se_adr w2Se1 1 rfl rfl rfl hl.1 rfl (Nat.le_of_ble_eq_true rfl) dX5_copyFrom_8 ⟨Nat.zero_le _, Nat.zero_le _⟩ (fun H locs hP hD hS => ?_)
  refine lv_aload_n hx hcd dX5_copyFrom_11 rfl (lv_at hl 0 rfl) ?_
  refine kr_get hx hcd hts uX5 hown hK hP 0 rfl rfl 1 (by decide) (by decide +kernel) (v := .ref (q 5)) rfl dX5_copyFrom_12 ?_
  refine lv_aload_n hx hcd dX5_copyFrom_15 rfl (lv_at hl 1 rfl) ?_
  refine kr_get hx hcd hts uX5 hown hK hP 15 rfl rfl 1 (by decide) (by decide +kernel) (v := .ref (p 5)) rfl dX5_copyFrom_16 ?_
  refine kr_Vv (As := [.ref (p 5)]) (rest := []) (ws2 := w2W cI q p (kmx M (kmx M N 0 54) 54 132) M) (q := (RX1, TX1, 3)) ⟨hx, hcd, hml, hown, hts⟩ (c_X1_copyFrom l D cI cB cW cL q p (vw 54 36 (kmx M N 0 54)) (vw 90 36 (kmx M N 0 54)) (vw 126 6 (kmx M N 0 54)) _ M z_vw z_vw z_vw) (cwV 1 hts gX5_copyFrom_X1_copyFrom rfl rfl rfl (by decide +kernel) ⟨Nat.le_of_ble_eq_true rfl, Nat.le_of_ble_eq_true rfl⟩) hK hP hD hS hA [5, 6, 7, 8, 20, 21, 22, 23] w2RoC (by decide) w2Ro_adr w2Ro1 5 rfl rfl rfl hl.1 rfl (Nat.le_of_ble_eq_true rfl) dX5_copyFrom_19 ⟨Nat.zero_le _, Nat.zero_le _⟩ (fun H locs hP hD hS => ?_)
  refine lv_aload_n hx hcd dX5_copyFrom_22 rfl (lv_at hl 0 rfl) ?_
  refine kr_get hx hcd hts uX5 hown hK hP 0 rfl rfl 2 (by decide) (by decide +kernel) (v := .ref (q 9)) rfl dX5_copyFrom_23 ?_
  refine lv_aload_n hx hcd dX5_copyFrom_26 rfl (lv_at hl 1 rfl) ?_
  refine kr_get hx hcd hts uX5 hown hK hP 15 rfl rfl 2 (by decide) (by decide +kernel) (v := .ref (p 9)) rfl dX5_copyFrom_27 ?_
  refine kr_Vv (As := [.ref (p 9)]) (rest := []) (ws2 := w2W cI q p (kmx M (kmx M (kmx M N 0 54) 54 132) 132 240) M) (q := (RX4, TX4, 1)) ⟨hx, hcd, hml, hown, hts⟩ (c_X4_copyFrom l D cI cB cW cL q p (vw 132 108 (kmx M (kmx M N 0 54) 54 132)) _ M z_vw) (cwV 1 hts gX5_copyFrom_X4_copyFrom rfl rfl rfl (by decide +kernel) ⟨Nat.le_of_ble_eq_true rfl, Nat.le_of_ble_eq_true rfl⟩) hK hP hD hS hA [9, 10, 24, 25] w2ViC (by decide) w2Vi_adr w2Vi1 9 rfl rfl rfl hl.1 rfl (Nat.le_of_ble_eq_true rfl) dX5_copyFrom_30 ⟨Nat.zero_le _, Nat.zero_le _⟩ (fun H locs hP hD hS => ?_)
  refine lv_aload_n hx hcd dX5_copyFrom_33 rfl (lv_at hl 0 rfl) ?_
  refine kr_get hx hcd hts uX5 hown hK hP 0 rfl rfl 3 (by decide) (by decide +kernel) (v := .ref (q 11)) rfl dX5_copyFrom_34 ?_
  refine lv_aload_n hx hcd dX5_copyFrom_37 rfl (lv_at hl 1 rfl) ?_
  refine kr_get hx hcd hts uX5 hown hK hP 15 rfl rfl 3 (by decide) (by decide +kernel) (v := .ref (p 11)) rfl dX5_copyFrom_38 ?_
  refine kr_Vv (As := [.ref (p 11)]) (rest := []) (ws2 := w2W cI q p (kmx M (kmx M (kmx M (kmx M N 0 54) 54 132) 132 240) 276 581) M) (q := (RX0, TX0, 4)) ⟨hx, hcd, hml, hown, hts⟩ (c_X0_copyFrom l D cI cB cW cL q p (vr (kmx M (kmx M (kmx M N 0 54) 54 132) 132 240)) (vw 578 3 (kmx M (kmx M (kmx M N 0 54) 54 132) 132 240)) ((kmx M (kmx M (kmx M N 0 54) 54 132) 132 240) 576) ((kmx M (kmx M (kmx M N 0 54) 54 132) 132 240) 577) _ M z_vr z_vw) (cwV 1 hts gX5_copyFrom_X0_copyFrom rfl rfl rfl (by decide +kernel) ⟨Nat.le_of_ble_eq_true rfl, Nat.le_of_ble_eq_true rfl⟩) hK hP hD hS hA [11, 12, 13, 26, 27, 28] w2PoC (by decide) w2Po_adr w2Po1 11 rfl rfl rfl hl.1 rfl (Nat.le_of_ble_eq_true rfl) dX5_copyFrom_41 ⟨Nat.zero_le _, Nat.zero_le _⟩ (fun H locs hP hD hS => ?_)
  refine lv_aload_n hx hcd dX5_copyFrom_44 rfl (lv_at hl 1 rfl) ?_
  refine kr_get hx hcd hts uX5 hown hK hP 15 rfl rfl 4 (by decide) (by decide +kernel) (v := .ref (p 14)) rfl dX5_copyFrom_45 ?_
  refine lv_iconst (v := nI 0) hx hcd dX5_copyFrom_48 (by decide) ?_
  refine lv_aload_n hx hcd dX5_copyFrom_49 rfl (lv_at hl 0 rfl) ?_
  refine kr_get hx hcd hts uX5 hown hK hP 0 rfl rfl 4 (by decide) (by decide +kernel) (v := .ref (q 14)) rfl dX5_copyFrom_50 ?_
  refine lv_iconst (v := nI 0) hx hcd dX5_copyFrom_53 (by decide) ?_
  refine lv_bipush (v := nI 36) hx hcd dX5_copyFrom_54 (by decide) ?_
  refine kr_copy hx hcd hml hl.1 hts hown (by decide +kernel) (by decide +kernel) (by decide +kernel) (by decide +kernel) hK hP hD hS 29 14 0 rfl rfl rfl (n := 36) (Nat.le_of_ble_eq_true rfl) (Nat.le_of_ble_eq_true rfl) (by decide) (cpy_vw z_vw) (ws2 := w2W cI q p (kmx M (kmx M (kmx M (kmx M (kmx M N 0 54) 54 132) 132 240) 276 581) 240 276) M) w2Bl1 (Nat.le_of_ble_eq_true rfl) (Nat.le_of_ble_eq_true rfl) dX5_copyFrom_56 (fun H locs hP hD hS => ?_)
  exact kr_vret hx hcd hr hlocks hK hP hD hS (by exact w2_all) dX5_copyFrom_59
