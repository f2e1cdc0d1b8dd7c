set_option maxHeartbeats 4000000 in
set_option maxRecDepth 100000 in
theorem c_X2_add (l : Launch) (D : va_G) (cI cB cW cL : ClassId) (t : Nat → Nat) (L : Nat) (T : Nat → Int32) (sz : Nat) (M : kM) (v : Nat) (hv : v < 128) (hL : L < 100) : kMi l yX2_add wsX2_add ({ frames := 0, cells := 0, slots := 0, locals := 0 }) D vwCl (kT cI cB cW cL) sz [.ref (t 0), .int (nI v)] (wSc cB t L T) (wSc cB t (L + 1) (upd T (L) (nI v))) (nI (L + 1)) := by
  refine kr_ofi (cc := cX2_add) (maxL := 2) (ret := (some .int)) (by decide) rfl (Nat.le_of_ble_eq_true rfl) ?_
  intro pp ee ss mm args below meth cc AA ls hx hcd hr hts hown hlocks hml hK hP hD hA hl
  have hS : va_S AA ss.heap ss.heap [] := va_S.rf
  have hown : ss.vm.findClass RX2 = some mm.cls := hown
  have hl : lv_has ls 2 [(0, .ref (t 0)), (1, .int (nI v))] := hl
  have uX2 : ∀ w ∈ u_ws RX2 TX2 2, w ∈ wsX2_add := by decide +kernel
  refine lv_aload_n hx hcd dX2_add_0 rfl (lv_at hl 0 rfl) ?_
  refine kr_get hx hcd hts uX2 hown hK hP 0 rfl rfl 0 (by decide) (by decide +kernel) (v := .ref (t 1)) rfl dX2_add_1 ?_
  refine lv_aload_n hx hcd dX2_add_4 rfl (lv_at hl 0 rfl) ?_
  refine kr_get hx hcd hts uX2 hown hK hP 0 rfl rfl 1 (by decide) (by decide +kernel) (v := .int (nI L)) rfl dX2_add_5 ?_
  refine lv_iload_n hx hcd dX2_add_8 rfl (lv_at hl 1 rfl) ?_
  refine kr_bast hx hcd hK hP hD hS 1 1 rfl rfl (by omega) (by decide) ((congrArg (fun y9 => upd _ _ y9) (by_nar v (by omega))).trans (congrArg (fun k9 => upd T k9 (nI v)) (by omega))) (ws2 := wSc cB t L (upd T (L) (nI v))) rfl dX2_add_9 (fun H locs hP hD hS => ?_)
  refine lv_aload_n hx hcd dX2_add_10 rfl (lv_at hl 0 rfl) ?_
  refine lv_dup hx hcd dX2_add_11 rfl ?_
  refine kr_get hx hcd hts uX2 hown hK hP 0 rfl rfl 1 (by decide) (by decide +kernel) (v := .int (nI L)) rfl dX2_add_12 ?_
  refine lv_iconst (v := nI 1) hx hcd dX2_add_15 (by decide) ?_
  refine kr_add hx hcd dX2_add_16 ?_
  refine kr_put hx hcd hts uX2 tyX2 tyX2_ok nmX2 hown hK hP hD hS 0 rfl rfl 1 (by decide) (by decide +kernel) rfl rfl rfl (ws2 := wSc cB t (L + 1) (upd T (L) (nI v))) rfl dX2_add_17 (fun H locs hP hD hS => ?_)
  refine lv_aload_n hx hcd dX2_add_20 rfl (lv_at hl 0 rfl) ?_
  refine kr_get hx hcd hts uX2 hown hK hP 0 rfl rfl 1 (by decide) (by decide +kernel) (v := .int (nI (L + 1))) rfl dX2_add_21 ?_
  exact kr_iret hx hcd hr hlocks hK hP hD hS rfl rfl dX2_add_24

set_option maxHeartbeats 4000000 in
set_option maxRecDepth 100000 in
theorem c_X2_orders (l : Launch) (D : va_G) (cI cB cW cL : ClassId) (t : Nat → Nat) (L : Nat) (T : Nat → Int32) (sz : Nat) (M : kM) (hL : L ≤ 100) : kMi l yX2_orders wsX2_orders ({ frames := 0, cells := 0, slots := 0, locals := 0 }) D vwCl (kT cI cB cW cL) sz [.ref (t 0)] (wSc cB t L T) (wSc cB t L T) (nI (L / 4)) := by
  refine kr_ofi (cc := cX2_orders) (maxL := 1) (ret := (some .int)) (by decide) rfl (Nat.le_of_ble_eq_true rfl) ?_
  intro pp ee ss mm args below meth cc AA ls hx hcd hr hts hown hlocks hml hK hP hD hA hl
  have hS : va_S AA ss.heap ss.heap [] := va_S.rf
  have hown : ss.vm.findClass RX2 = some mm.cls := hown
  have hl : lv_has ls 1 [(0, .ref (t 0))] := hl
  have uX2 : ∀ w ∈ u_ws RX2 TX2 2, w ∈ wsX2_orders := by decide +kernel
  refine lv_aload_n hx hcd dX2_orders_0 rfl (lv_at hl 0 rfl) ?_
  refine kr_get hx hcd hts uX2 hown hK hP 0 rfl rfl 1 (by decide) (by decide +kernel) (v := .int (nI L)) rfl dX2_orders_1 ?_
  refine lv_iconst (v := nI 4) hx hcd dX2_orders_4 (by decide) ?_
  refine kr_div hx hcd (by omega) (by decide) (by decide) dX2_orders_5 ?_
  exact kr_iret hx hcd hr hlocks hK hP hD hS rfl rfl dX2_orders_6

set_option maxHeartbeats 4000000 in
set_option maxRecDepth 100000 in
theorem c_X2_letter (l : Launch) (D : va_G) (cI cB cW cL : ClassId) (t : Nat → Nat) (L : Nat) (T : Nat → Int32) (sz : Nat) (M : kM) (o : Nat) (hT : kTx T) (ho : o < 25) : kMi l yX2_letter wsX2_letter ({ frames := 0, cells := 0, slots := 0, locals := 0 }) D vwCl (kT cI cB cW cL) sz [.ref (t 0), .int (nI o)] (wSc cB t L T) (wSc cB t L T) (nI (ch T (4 * o))) := by
  refine kr_ofi (cc := cX2_letter) (maxL := 2) (ret := (some .int)) (by decide) rfl (Nat.le_of_ble_eq_true rfl) ?_
  intro pp ee ss mm args below meth cc AA ls hx hcd hr hts hown hlocks hml hK hP hD hA hl
  have hS : va_S AA ss.heap ss.heap [] := va_S.rf
  have hown : ss.vm.findClass RX2 = some mm.cls := hown
  have hl : lv_has ls 2 [(0, .ref (t 0)), (1, .int (nI o))] := hl
  have uX2 : ∀ w ∈ u_ws RX2 TX2 2, w ∈ wsX2_letter := by decide +kernel
  refine lv_aload_n hx hcd dX2_letter_0 rfl (lv_at hl 0 rfl) ?_
  refine kr_get hx hcd hts uX2 hown hK hP 0 rfl rfl 0 (by decide) (by decide +kernel) (v := .ref (t 1)) rfl dX2_letter_1 ?_
  refine lv_iload_n hx hcd dX2_letter_4 rfl (lv_at hl 1 rfl) ?_
  refine lv_iconst (v := nI 4) hx hcd dX2_letter_5 (by decide) ?_
  refine kr_mul hx hcd dX2_letter_6 ?_
  refine kr_bald hx hcd hK hP 1 1 rfl rfl (v := T (4 * o)) (by omega) (by decide) (congrArg T (by omega)) dX2_letter_7 ?_
  refine kr_top (w := nI (ch T (4 * o))) (t_ch hT (by omega)) ?_
  exact kr_iret hx hcd hr hlocks hK hP hD hS rfl rfl dX2_letter_8

set_option maxHeartbeats 4000000 in
set_option maxRecDepth 100000 in
theorem c_X2_digit (l : Launch) (D : va_G) (cI cB cW cL : ClassId) (t : Nat → Nat) (L : Nat) (T : Nat → Int32) (sz : Nat) (M : kM) (o : Nat) (k : Nat) (hT : kTx T) (ho : o < 25) (hk : k < 4) : kMi l yX2_digit wsX2_digit ({ frames := 0, cells := 0, slots := 0, locals := 0 }) D vwCl (kT cI cB cW cL) sz [.ref (t 0), .int (nI o), .int (nI k)] (wSc cB t L T) (wSc cB t L T) ((nI (ch T (4 * o + k))) - 48) := by
  refine kr_ofi (cc := cX2_digit) (maxL := 3) (ret := (some .int)) (by decide) rfl (Nat.le_of_ble_eq_true rfl) ?_
  intro pp ee ss mm args below meth cc AA ls hx hcd hr hts hown hlocks hml hK hP hD hA hl
  have hS : va_S AA ss.heap ss.heap [] := va_S.rf
  have hown : ss.vm.findClass RX2 = some mm.cls := hown
  have hl : lv_has ls 3 [(0, .ref (t 0)), (1, .int (nI o)), (2, .int (nI k))] := hl
  have uX2 : ∀ w ∈ u_ws RX2 TX2 2, w ∈ wsX2_digit := by decide +kernel
  refine lv_aload_n hx hcd dX2_digit_0 rfl (lv_at hl 0 rfl) ?_
  refine kr_get hx hcd hts uX2 hown hK hP 0 rfl rfl 0 (by decide) (by decide +kernel) (v := .ref (t 1)) rfl dX2_digit_1 ?_
  refine lv_iload_n hx hcd dX2_digit_4 rfl (lv_at hl 1 rfl) ?_
  refine lv_iconst (v := nI 4) hx hcd dX2_digit_5 (by decide) ?_
  refine kr_mul hx hcd dX2_digit_6 ?_
  refine lv_iload_n hx hcd dX2_digit_7 rfl (lv_at hl 2 rfl) ?_
  refine kr_add hx hcd dX2_digit_8 ?_
  refine kr_bald hx hcd hK hP 1 1 rfl rfl (v := T (4 * o + k)) (by omega) (by decide) (congrArg T (by omega)) dX2_digit_9 ?_
  refine kr_top (w := nI (ch T (4 * o + k))) (t_ch hT (by omega)) ?_
  refine lv_bipush (v := nI 48) hx hcd dX2_digit_10 (by decide) ?_
  refine lv_isub hx hcd dX2_digit_12 ?_
  exact kr_iret hx hcd hr hlocks hK hP hD hS rfl rfl dX2_digit_13

set_option maxHeartbeats 4000000 in
set_option maxRecDepth 100000 in
theorem c_X2_isDigitBelow (l : Launch) (D : va_G) (cI cB cW cL : ClassId)  (sz : Nat) (M : kM) (d : Int32) (lim : Nat) (c : Nat) (hd : d = nI c - 48) (hc : c < 128) (hm : lim < 128) : kMi l yX2_isDigitBelow wsX2_isDigitBelow ({ frames := 0, cells := 0, slots := 0, locals := 0 }) D vwCl (kT cI cB cW cL) sz [.int d, .int (nI lim)] ([]) ([]) (kI (c_dig c lim)) := by
  refine kr_ofi (cc := cX2_isDigitBelow) (maxL := 2) (ret := (some .boolean)) (by decide) rfl (Nat.le_of_ble_eq_true rfl) ?_
  intro pp ee ss mm args below meth cc AA ls hx hcd hr hts hown hlocks hml hK hP hD hA hl
  have hS : va_S AA ss.heap ss.heap [] := va_S.rf
  have hown : ss.vm.findClass RX2 = some mm.cls := hown
  have hl : lv_has ls 2 [(0, .int d), (1, .int (nI lim))] := hl
  refine lv_iload_n hx hcd dX2_isDigitBelow_0 rfl (lv_at hl 0 rfl) ?_
  refine lv_if_lt (tgt := 13) hx hcd dX2_isDigitBelow_1 (by decide) (fun (c_1 : d < 0) => ?_) (fun (c_1 : ¬ d < 0) => ?_)
  · refine lv_iconst (v := nI 0) hx hcd dX2_isDigitBelow_13 (by decide) ?_
    exact kr_zret hx hcd hr hlocks hK hP hD hS rfl (by rw [dig_e hc hm, ← hd]; simp [kI, c_1]; rfl) rfl dX2_isDigitBelow_14
  · refine lv_iload_n hx hcd dX2_isDigitBelow_4 rfl (lv_at hl 0 rfl) ?_
    refine lv_iload_n hx hcd dX2_isDigitBelow_5 rfl (lv_at hl 1 rfl) ?_
    refine lv_icmp_ge (tgt := 13) hx hcd dX2_isDigitBelow_6 (by decide) (fun (c_6 : (nI lim) ≤ d) => ?_) (fun (c_6 : ¬ (nI lim) ≤ d) => ?_)
    · refine lv_iconst (v := nI 0) hx hcd dX2_isDigitBelow_13 (by decide) ?_
      exact kr_zret hx hcd hr hlocks hK hP hD hS rfl (by rw [dig_e hc hm, ← hd]; simp [kI, c_1, c_6]; rfl) rfl dX2_isDigitBelow_14
    · refine lv_iconst (v := nI 1) hx hcd dX2_isDigitBelow_9 (by decide) ?_
      refine lv_goto (tgt := 14) hx hcd dX2_isDigitBelow_10 (by decide) ?_
      exact kr_zret hx hcd hr hlocks hK hP hD hS rfl (by rw [dig_e hc hm, ← hd]; simp [kI, c_1, c_6]; rfl) rfl dX2_isDigitBelow_14

set_option maxHeartbeats 4000000 in
set_option maxRecDepth 100000 in
theorem c_X2_isLetter (l : Launch) (D : va_G) (cI cB cW cL : ClassId)  (sz : Nat) (M : kM) (c : Nat) (hc : c < 128) : kMi l yX2_isLetter wsX2_isLetter ({ frames := 0, cells := 0, slots := 0, locals := 0 }) D vwCl (kT cI cB cW cL) sz [.int (nI c)] ([]) ([]) (kI (c_isl c)) := by
  refine kr_ofi (cc := cX2_isLetter) (maxL := 1) (ret := (some .boolean)) (by decide) rfl (Nat.le_of_ble_eq_true rfl) ?_
  intro pp ee ss mm args below meth cc AA ls hx hcd hr hts hown hlocks hml hK hP hD hA hl
  have hS : va_S AA ss.heap ss.heap [] := va_S.rf
  have hown : ss.vm.findClass RX2 = some mm.cls := hown
  have hl : lv_has ls 1 [(0, .int (nI c))] := hl
  refine lv_iload_n hx hcd dX2_isLetter_0 rfl (lv_at hl 0 rfl) ?_
  rcases (show c < 97 ∨ 115 < c ∨ c = 97 ∨ c = 98 ∨ c = 99 ∨ c = 100 ∨ c = 101 ∨ c = 102 ∨ c = 103 ∨ c = 104 ∨ c = 105 ∨ c = 106 ∨ c = 107 ∨ c = 108 ∨ c = 109 ∨ c = 110 ∨ c = 111 ∨ c = 112 ∨ c = 113 ∨ c = 114 ∨ c = 115 by omega) with h9 | h9 | rfl | rfl | rfl | rfl | rfl | rfl | rfl | rfl | rfl | rfl | rfl | rfl | rfl | rfl | rfl | rfl | rfl | rfl | rfl
  · refine lv_tableOut (tgt := 94) hx hcd dX2_isLetter_1 (by rw [nI_toInt (by omega)]; omega) (by decide) ?_
    refine lv_iconst (v := nI 0) hx hcd dX2_isLetter_94 (by decide) ?_
    exact kr_zret hx hcd hr hlocks hK hP hD hS rfl (by first | decide | exact isl_no (by omega)) rfl dX2_isLetter_95
  · refine lv_tableOut (tgt := 94) hx hcd dX2_isLetter_1 (by rw [nI_toInt (by omega)]; omega) (by decide) ?_
    refine lv_iconst (v := nI 0) hx hcd dX2_isLetter_94 (by decide) ?_
    exact kr_zret hx hcd hr hlocks hK hP hD hS rfl (by first | decide | exact isl_no (by omega)) rfl dX2_isLetter_95
  · refine lv_tableIn (x := nI 97) (off := 91) (tgt := 92) hx hcd dX2_isLetter_1 (by decide) (by decide) (by decide) (by decide) ?_
    refine lv_iconst (v := nI 1) hx hcd dX2_isLetter_92 (by decide) ?_
    exact kr_zret hx hcd hr hlocks hK hP hD hS rfl (by decide) rfl dX2_isLetter_93
  · refine lv_tableIn (x := nI 98) (off := 93) (tgt := 94) hx hcd dX2_isLetter_1 (by decide) (by decide) (by decide) (by decide) ?_
    refine lv_iconst (v := nI 0) hx hcd dX2_isLetter_94 (by decide) ?_
    exact kr_zret hx hcd hr hlocks hK hP hD hS rfl (by first | decide | exact isl_no (by omega)) rfl dX2_isLetter_95
  · refine lv_tableIn (x := nI 99) (off := 93) (tgt := 94) hx hcd dX2_isLetter_1 (by decide) (by decide) (by decide) (by decide) ?_
    refine lv_iconst (v := nI 0) hx hcd dX2_isLetter_94 (by decide) ?_
    exact kr_zret hx hcd hr hlocks hK hP hD hS rfl (by first | decide | exact isl_no (by omega)) rfl dX2_isLetter_95
  · refine lv_tableIn (x := nI 100) (off := 91) (tgt := 92) hx hcd dX2_isLetter_1 (by decide) (by decide) (by decide) (by decide) ?_
    refine lv_iconst (v := nI 1) hx hcd dX2_isLetter_92 (by decide) ?_
    exact kr_zret hx hcd hr hlocks hK hP hD hS rfl (by decide) rfl dX2_isLetter_93
  · refine lv_tableIn (x := nI 101) (off := 93) (tgt := 94) hx hcd dX2_isLetter_1 (by decide) (by decide) (by decide) (by decide) ?_
    refine lv_iconst (v := nI 0) hx hcd dX2_isLetter_94 (by decide) ?_
    exact kr_zret hx hcd hr hlocks hK hP hD hS rfl (by first | decide | exact isl_no (by omega)) rfl dX2_isLetter_95
  · refine lv_tableIn (x := nI 102) (off := 93) (tgt := 94) hx hcd dX2_isLetter_1 (by decide) (by decide) (by decide) (by decide) ?_
    refine lv_iconst (v := nI 0) hx hcd dX2_isLetter_94 (by decide) ?_
    exact kr_zret hx hcd hr hlocks hK hP hD hS rfl (by first | decide | exact isl_no (by omega)) rfl dX2_isLetter_95
  · refine lv_tableIn (x := nI 103) (off := 91) (tgt := 92) hx hcd dX2_isLetter_1 (by decide) (by decide) (by decide) (by decide) ?_
    refine lv_iconst (v := nI 1) hx hcd dX2_isLetter_92 (by decide) ?_
    exact kr_zret hx hcd hr hlocks hK hP hD hS rfl (by decide) rfl dX2_isLetter_93
  · refine lv_tableIn (x := nI 104) (off := 93) (tgt := 94) hx hcd dX2_isLetter_1 (by decide) (by decide) (by decide) (by decide) ?_
    refine lv_iconst (v := nI 0) hx hcd dX2_isLetter_94 (by decide) ?_
    exact kr_zret hx hcd hr hlocks hK hP hD hS rfl (by first | decide | exact isl_no (by omega)) rfl dX2_isLetter_95
  · refine lv_tableIn (x := nI 105) (off := 91) (tgt := 92) hx hcd dX2_isLetter_1 (by decide) (by decide) (by decide) (by decide) ?_
    refine lv_iconst (v := nI 1) hx hcd dX2_isLetter_92 (by decide) ?_
    exact kr_zret hx hcd hr hlocks hK hP hD hS rfl (by decide) rfl dX2_isLetter_93
  · refine lv_tableIn (x := nI 106) (off := 93) (tgt := 94) hx hcd dX2_isLetter_1 (by decide) (by decide) (by decide) (by decide) ?_
    refine lv_iconst (v := nI 0) hx hcd dX2_isLetter_94 (by decide) ?_
    exact kr_zret hx hcd hr hlocks hK hP hD hS rfl (by first | decide | exact isl_no (by omega)) rfl dX2_isLetter_95
  · refine lv_tableIn (x := nI 107) (off := 93) (tgt := 94) hx hcd dX2_isLetter_1 (by decide) (by decide) (by decide) (by decide) ?_
    refine lv_iconst (v := nI 0) hx hcd dX2_isLetter_94 (by decide) ?_
    exact kr_zret hx hcd hr hlocks hK hP hD hS rfl (by first | decide | exact isl_no (by omega)) rfl dX2_isLetter_95
  · refine lv_tableIn (x := nI 108) (off := 93) (tgt := 94) hx hcd dX2_isLetter_1 (by decide) (by decide) (by decide) (by decide) ?_
    refine lv_iconst (v := nI 0) hx hcd dX2_isLetter_94 (by decide) ?_
    exact kr_zret hx hcd hr hlocks hK hP hD hS rfl (by first | decide | exact isl_no (by omega)) rfl dX2_isLetter_95
  · refine lv_tableIn (x := nI 109) (off := 93) (tgt := 94) hx hcd dX2_isLetter_1 (by decide) (by decide) (by decide) (by decide) ?_
    refine lv_iconst (v := nI 0) hx hcd dX2_isLetter_94 (by decide) ?_
    exact kr_zret hx hcd hr hlocks hK hP hD hS rfl (by first | decide | exact isl_no (by omega)) rfl dX2_isLetter_95
  · refine lv_tableIn (x := nI 110) (off := 93) (tgt := 94) hx hcd dX2_isLetter_1 (by decide) (by decide) (by decide) (by decide) ?_
    refine lv_iconst (v := nI 0) hx hcd dX2_isLetter_94 (by decide) ?_
    exact kr_zret hx hcd hr hlocks hK hP hD hS rfl (by first | decide | exact isl_no (by omega)) rfl dX2_isLetter_95
  · refine lv_tableIn (x := nI 111) (off := 91) (tgt := 92) hx hcd dX2_isLetter_1 (by decide) (by decide) (by decide) (by decide) ?_
    refine lv_iconst (v := nI 1) hx hcd dX2_isLetter_92 (by decide) ?_
    exact kr_zret hx hcd hr hlocks hK hP hD hS rfl (by decide) rfl dX2_isLetter_93
  · refine lv_tableIn (x := nI 112) (off := 93) (tgt := 94) hx hcd dX2_isLetter_1 (by decide) (by decide) (by decide) (by decide) ?_
    refine lv_iconst (v := nI 0) hx hcd dX2_isLetter_94 (by decide) ?_
    exact kr_zret hx hcd hr hlocks hK hP hD hS rfl (by first | decide | exact isl_no (by omega)) rfl dX2_isLetter_95
  · refine lv_tableIn (x := nI 113) (off := 93) (tgt := 94) hx hcd dX2_isLetter_1 (by decide) (by decide) (by decide) (by decide) ?_
    refine lv_iconst (v := nI 0) hx hcd dX2_isLetter_94 (by decide) ?_
    exact kr_zret hx hcd hr hlocks hK hP hD hS rfl (by first | decide | exact isl_no (by omega)) rfl dX2_isLetter_95
  · refine lv_tableIn (x := nI 114) (off := 91) (tgt := 92) hx hcd dX2_isLetter_1 (by decide) (by decide) (by decide) (by decide) ?_
    refine lv_iconst (v := nI 1) hx hcd dX2_isLetter_92 (by decide) ?_
    exact kr_zret hx hcd hr hlocks hK hP hD hS rfl (by decide) rfl dX2_isLetter_93
  · refine lv_tableIn (x := nI 115) (off := 91) (tgt := 92) hx hcd dX2_isLetter_1 (by decide) (by decide) (by decide) (by decide) ?_
    refine lv_iconst (v := nI 1) hx hcd dX2_isLetter_92 (by decide) ?_
    exact kr_zret hx hcd hr hlocks hK hP hD hS rfl (by decide) rfl dX2_isLetter_93

set_option maxHeartbeats 4000000 in
set_option maxRecDepth 100000 in
theorem c_X2_canBeSecond (l : Launch) (D : va_G) (cI cB cW cL : ClassId)  (sz : Nat) (M : kM) (lc : Nat) (f : Int32) (s : Int32) (cf cs : Nat) (hlt : lc < 128) (hf : f = nI cf - 48) (hs : s = nI cs - 48) (hcf : cf < 128) (hcs : cs < 128) : kMi l yX2_canBeSecond wsX2_canBeSecond ({ frames := 1, cells := 0, slots := 0, locals := 21 }) D vwCl (kT cI cB cW cL) sz [.int (nI lc), .int f, .int s] ([]) ([]) (kI (c_snd lc cf cs)) := by
  refine kr_ofi (cc := cX2_canBeSecond) (maxL := 3) (ret := (some .boolean)) (by decide) rfl (Nat.le_of_ble_eq_true rfl) ?_
  intro pp ee ss mm args below meth cc AA ls hx hcd hr hts hown hlocks hml hK hP hD hA hl
  have hS : va_S AA ss.heap ss.heap [] := va_S.rf
  have hown : ss.vm.findClass RX2 = some mm.cls := hown
  have hl : lv_has ls 3 [(0, .int (nI lc)), (1, .int f), (2, .int s)] := hl
  refine lv_iload_n hx hcd dX2_canBeSecond_0 rfl (lv_at hl 0 rfl) ?_
  rcases (show lc = 100 ∨ lc = 105 ∨ lc = 111 ∨ (lc ≠ 100 ∧ lc ≠ 105 ∧ lc ≠ 111) by omega) with rfl | rfl | rfl | h9
  · refine lv_lookup (x := nI 100) (off := 35) (tgt := 36) hx hcd dX2_canBeSecond_1 (by decide) (by decide) (by decide) ?_
    refine lv_iload_n hx hcd dX2_canBeSecond_36 rfl (lv_at hl 2 rfl) ?_
    refine lv_bipush (v := nI 10) hx hcd dX2_canBeSecond_37 (by decide) ?_
    refine kr_Si (As := [.int s, .int (nI 10)]) (rest := []) (ws2 := []) ⟨hx, hcd, hml, hown, hts⟩ (c_X2_isDigitBelow l D cI cB cW cL  _ M s 10 cs hs hcs (by omega)) (va_cwS 2 hts gX2_canBeSecond_X2_isDigitBelow rfl rfl rfl (by decide +kernel) ⟨Nat.le_of_ble_eq_true rfl, Nat.le_of_ble_eq_true rfl⟩) hK hP hD hS hA [] rfl (by decide) rfl rfl rfl hl.1 rfl (Nat.le_of_ble_eq_true rfl) dX2_canBeSecond_39 ⟨Nat.zero_le _, Nat.zero_le _⟩ (fun H locs hP hD hS => ?_)
    exact kr_zret hx hcd hr hlocks hK hP hD hS kr_nb (by rfl) rfl dX2_canBeSecond_42
  · refine lv_lookup (x := nI 105) (off := 42) (tgt := 43) hx hcd dX2_canBeSecond_1 (by decide) (by decide) (by decide) ?_
    refine lv_iload_n hx hcd dX2_canBeSecond_43 rfl (lv_at hl 2 rfl) ?_
    refine lv_iconst (v := nI 3) hx hcd dX2_canBeSecond_44 (by decide) ?_
    refine kr_Si (As := [.int s, .int (nI 3)]) (rest := []) (ws2 := []) ⟨hx, hcd, hml, hown, hts⟩ (c_X2_isDigitBelow l D cI cB cW cL  _ M s 3 cs hs hcs (by omega)) (va_cwS 2 hts gX2_canBeSecond_X2_isDigitBelow rfl rfl rfl (by decide +kernel) ⟨Nat.le_of_ble_eq_true rfl, Nat.le_of_ble_eq_true rfl⟩) hK hP hD hS hA [] rfl (by decide) rfl rfl rfl hl.1 rfl (Nat.le_of_ble_eq_true rfl) dX2_canBeSecond_45 ⟨Nat.zero_le _, Nat.zero_le _⟩ (fun H locs hP hD hS => ?_)
    exact kr_zret hx hcd hr hlocks hK hP hD hS kr_nb (by rfl) rfl dX2_canBeSecond_48
  · refine lv_lookup (x := nI 111) (off := 42) (tgt := 43) hx hcd dX2_canBeSecond_1 (by decide) (by decide) (by decide) ?_
    refine lv_iload_n hx hcd dX2_canBeSecond_43 rfl (lv_at hl 2 rfl) ?_
    refine lv_iconst (v := nI 3) hx hcd dX2_canBeSecond_44 (by decide) ?_
    refine kr_Si (As := [.int s, .int (nI 3)]) (rest := []) (ws2 := []) ⟨hx, hcd, hml, hown, hts⟩ (c_X2_isDigitBelow l D cI cB cW cL  _ M s 3 cs hs hcs (by omega)) (va_cwS 2 hts gX2_canBeSecond_X2_isDigitBelow rfl rfl rfl (by decide +kernel) ⟨Nat.le_of_ble_eq_true rfl, Nat.le_of_ble_eq_true rfl⟩) hK hP hD hS hA [] rfl (by decide) rfl rfl rfl hl.1 rfl (Nat.le_of_ble_eq_true rfl) dX2_canBeSecond_45 ⟨Nat.zero_le _, Nat.zero_le _⟩ (fun H locs hP hD hS => ?_)
    exact kr_zret hx hcd hr hlocks hK hP hD hS kr_nb (by rfl) rfl dX2_canBeSecond_48
  · refine lv_lookup (off := 48) (tgt := 49) hx hcd dX2_canBeSecond_1 (by decide) (lk3 hlt h9.1 h9.2.1 h9.2.2) (by decide) ?_
    refine lv_iload_n hx hcd dX2_canBeSecond_49 rfl (lv_at hl 2 rfl) ?_
    refine lv_bipush (v := nI 6) hx hcd dX2_canBeSecond_50 (by decide) ?_
    refine kr_Si (As := [.int s, .int (nI 6)]) (rest := []) (ws2 := []) ⟨hx, hcd, hml, hown, hts⟩ (c_X2_isDigitBelow l D cI cB cW cL  _ M s 6 cs hs hcs (by omega)) (va_cwS 2 hts gX2_canBeSecond_X2_isDigitBelow rfl rfl rfl (by decide +kernel) ⟨Nat.le_of_ble_eq_true rfl, Nat.le_of_ble_eq_true rfl⟩) hK hP hD hS hA [] rfl (by decide) rfl rfl rfl hl.1 rfl (Nat.le_of_ble_eq_true rfl) dX2_canBeSecond_52 ⟨Nat.zero_le _, Nat.zero_le _⟩ (fun H locs hP hD hS => ?_)
    refine kr_beq (tgt := 67) hx hcd dX2_canBeSecond_55 (by decide) (fun (c_55 : c_dig cs 6 = false) => ?_) (fun (c_55 : c_dig cs 6 = true) => ?_)
    · refine lv_iconst (v := nI 0) hx hcd dX2_canBeSecond_67 (by decide) ?_
      exact kr_zret hx hcd hr hlocks hK hP hD hS rfl (by rw [snd_o h9.1 h9.2.1 h9.2.2, show decide (¬ cs = cf) = decide (¬ s = f) by rw [hs, hf]; exact decide_eq_decide.mpr (not_congr (sub48 hcs hcf).symm)]; simp [kI, c_55]; rfl) rfl dX2_canBeSecond_68
    · refine lv_iload_n hx hcd dX2_canBeSecond_58 rfl (lv_at hl 2 rfl) ?_
      refine lv_iload_n hx hcd dX2_canBeSecond_59 rfl (lv_at hl 1 rfl) ?_
      refine lv_icmp_eq (tgt := 67) hx hcd dX2_canBeSecond_60 (by decide) (fun (c_60 : s = f) => ?_) (fun (c_60 : ¬ s = f) => ?_)
      · refine lv_iconst (v := nI 0) hx hcd dX2_canBeSecond_67 (by decide) ?_
        exact kr_zret hx hcd hr hlocks hK hP hD hS rfl (by rw [snd_o h9.1 h9.2.1 h9.2.2, show decide (¬ cs = cf) = decide (¬ s = f) by rw [hs, hf]; exact decide_eq_decide.mpr (not_congr (sub48 hcs hcf).symm)]; simp [kI, c_55, c_60]; rfl) rfl dX2_canBeSecond_68
      · refine lv_iconst (v := nI 1) hx hcd dX2_canBeSecond_63 (by decide) ?_
        refine lv_goto (tgt := 68) hx hcd dX2_canBeSecond_64 (by decide) ?_
        exact kr_zret hx hcd hr hlocks hK hP hD hS rfl (by rw [snd_o h9.1 h9.2.1 h9.2.2, show decide (¬ cs = cf) = decide (¬ s = f) by rw [hs, hf]; exact decide_eq_decide.mpr (not_congr (sub48 hcs hcf).symm)]; simp [kI, c_55, c_60]; rfl) rfl dX2_canBeSecond_68

set_option maxHeartbeats 4000000 in
set_option maxRecDepth 100000 in
theorem c_X2_canStand (l : Launch) (D : va_G) (cI cB cW cL : ClassId) (t : Nat → Nat) (L : Nat) (T : Nat → Int32) (sz : Nat) (M : kM) (i : Nat) (hT : kTx T) (hi : i < 100) : kMi l yX2_canStand wsX2_canStand ({ frames := 2, cells := 0, slots := 0, locals := 43 }) D vwCl (kT cI cB cW cL) sz [.ref (t 0), .int (nI i)] (wSc cB t L T) (wSc cB t L T) (kI (c_can T i)) := by
  refine kr_ofi (cc := cX2_canStand) (maxL := 4) (ret := (some .boolean)) (by decide) rfl (Nat.le_of_ble_eq_true rfl) ?_
  intro pp ee ss mm args below meth cc AA ls hx hcd hr hts hown hlocks hml hK hP hD hA hl
  have hS : va_S AA ss.heap ss.heap [] := va_S.rf
  have hown : ss.vm.findClass RX2 = some mm.cls := hown
  have hl : lv_has ls 4 [(0, .ref (t 0)), (1, .int (nI i))] := hl
  have uX2 : ∀ w ∈ u_ws RX2 TX2 2, w ∈ wsX2_canStand := by decide +kernel
  have hz := t_lt hT (show 4 * (i / 4) < 100 by omega)
  have hz2 := t_lt hT hi
  refine lv_iload_n hx hcd dX2_canStand_0 rfl (lv_at hl 1 rfl) ?_
  refine lv_iconst (v := nI 4) hx hcd dX2_canStand_1 (by decide) ?_
  refine kr_div hx hcd (by omega) (by decide) (by decide) dX2_canStand_2 ?_
  refine lv_istore_n (lv' := [(2, .int (nI (i / 4))), (0, .ref (t 0)), (1, .int (nI i))]) hx hcd dX2_canStand_3 rfl hl (by decide) rfl (fun ls hl => ?_)
  refine lv_aload_n hx hcd dX2_canStand_4 rfl (lv_at hl 1 rfl) ?_
  refine lv_iload_n hx hcd dX2_canStand_5 rfl (lv_at hl 0 rfl) ?_
  refine kr_Vi (As := [.int (nI (i / 4))]) (rest := []) (ws2 := wSc cB t L T) (q := (RX2, TX2, 2)) ⟨hx, hcd, hml, hown, hts⟩ (c_X2_letter l D cI cB cW cL t L T _ M (i / 4) hT (by omega)) (cwV 1 hts gX2_canStand_X2_letter rfl rfl rfl (by decide +kernel) ⟨Nat.le_of_ble_eq_true rfl, Nat.le_of_ble_eq_true rfl⟩) hK hP hD hS hA [0, 1] wSc_allC (by decide) wSc_adr wSc_all 0 rfl rfl rfl hl.1 rfl (Nat.le_of_ble_eq_true rfl) dX2_canStand_6 ⟨Nat.zero_le _, Nat.zero_le _⟩ (fun H locs hP hD hS => ?_)
  refine lv_istore_n (lv' := [(3, .int (nI (ch T (4 * (i / 4))))), (2, .int (nI (i / 4))), (0, .ref (t 0)), (1, .int (nI i))]) hx hcd dX2_canStand_9 rfl hl (by decide) rfl (fun ls hl => ?_)
  refine lv_iload_n hx hcd dX2_canStand_10 rfl (lv_at hl 3 rfl) ?_
  refine lv_iconst (v := nI 4) hx hcd dX2_canStand_11 (by decide) ?_
  refine kr_rem hx hcd (by omega) (by decide) (by decide) dX2_canStand_12 ?_
  rcases (show i % 4 = 0 ∨ i % 4 = 1 ∨ i % 4 = 2 ∨ i % 4 = 3 by omega) with hk | hk | hk | hk
  · refine kr_top (w := nI 0) (congrArg nI hk) ?_
    refine lv_tableIn (x := nI 0) (off := 27) (tgt := 40) hx hcd dX2_canStand_13 (by decide) (by decide) (by decide) (by decide) ?_
    refine lv_iload_n hx hcd dX2_canStand_40 rfl (lv_at hl 0 rfl) ?_
    refine kr_Si (As := [.int (nI (ch T (4 * (i / 4))))]) (rest := []) (ws2 := wSc cB t L T) ⟨hx, hcd, hml, hown, hts⟩ (c_X2_isLetter l D cI cB cW cL  _ M (ch T (4 * (i / 4))) hz) (va_cwS 1 hts gX2_canStand_X2_isLetter rfl rfl rfl (by decide +kernel) ⟨Nat.le_of_ble_eq_true rfl, Nat.le_of_ble_eq_true rfl⟩) hK hP hD hS hA [] rfl (by decide) rfl rfl rfl hl.1 rfl (Nat.le_of_ble_eq_true rfl) dX2_canStand_41 ⟨Nat.zero_le _, Nat.zero_le _⟩ (fun H locs hP hD hS => ?_)
    exact kr_zret hx hcd hr hlocks hK hP hD hS kr_nb (by rw [c_can, if_pos hk, show 4 * (i / 4) = i by omega]) rfl dX2_canStand_44
  · refine kr_top (w := nI 1) (congrArg nI hk) ?_
    refine lv_tableIn (x := nI 1) (off := 32) (tgt := 45) hx hcd dX2_canStand_13 (by decide) (by decide) (by decide) (by decide) ?_
    refine lv_aload_n hx hcd dX2_canStand_45 rfl (lv_at hl 2 rfl) ?_
    refine lv_iload_n hx hcd dX2_canStand_46 rfl (lv_at hl 1 rfl) ?_
    refine lv_iconst (v := nI 1) hx hcd dX2_canStand_47 (by decide) ?_
    refine kr_Vi (As := [.int (nI (i / 4)), .int (nI 1)]) (rest := []) (ws2 := wSc cB t L T) (q := (RX2, TX2, 2)) ⟨hx, hcd, hml, hown, hts⟩ (c_X2_digit l D cI cB cW cL t L T _ M (i / 4) 1 hT (by omega) (by omega)) (cwV 2 hts gX2_canStand_X2_digit rfl rfl rfl (by decide +kernel) ⟨Nat.le_of_ble_eq_true rfl, Nat.le_of_ble_eq_true rfl⟩) hK hP hD hS hA [0, 1] wSc_allC (by decide) wSc_adr wSc_all 0 rfl rfl rfl hl.1 rfl (Nat.le_of_ble_eq_true rfl) dX2_canStand_48 ⟨Nat.zero_le _, Nat.zero_le _⟩ (fun H locs hP hD hS => ?_)
    refine lv_iload_n hx hcd dX2_canStand_51 rfl (lv_at hl 0 rfl) ?_
    refine lv_bipush (v := nI 100) hx hcd dX2_canStand_52 (by decide) ?_
    refine kr_cne (tgt := 62) hx hcd (by omega) (by omega) dX2_canStand_54 (by decide) (fun (c_54 : ¬ ch T (4 * (i / 4)) = 100) => ?_) (fun (c_54 : ch T (4 * (i / 4)) = 100) => ?_)
    · refine lv_bipush (v := nI 6) hx hcd dX2_canStand_62 (by decide) ?_
      refine kr_Si (As := [.int ((nI (ch T (4 * (i / 4) + 1))) - 48), .int (nI 6)]) (rest := []) (ws2 := wSc cB t L T) ⟨hx, hcd, hml, hown, hts⟩ (c_X2_isDigitBelow l D cI cB cW cL  _ M ((nI (ch T (4 * (i / 4) + 1))) - 48) 6 (ch T (4 * (i / 4) + 1)) rfl (t_lt hT (show 4 * (i / 4) + 1 < 100 by omega)) (by omega)) (va_cwS 2 hts gX2_canStand_X2_isDigitBelow rfl rfl rfl (by decide +kernel) ⟨Nat.le_of_ble_eq_true rfl, Nat.le_of_ble_eq_true rfl⟩) hK hP hD hS hA [] rfl (by decide) rfl rfl rfl hl.1 rfl (Nat.le_of_ble_eq_true rfl) dX2_canStand_64 ⟨Nat.zero_le _, Nat.zero_le _⟩ (fun H locs hP hD hS => ?_)
      exact kr_zret hx hcd hr hlocks hK hP hD hS kr_nb (by first | (rw [c_can, if_neg (by omega), if_pos hk, if_pos c_54, show 4 * (i / 4) + 1 = i by omega]; done) | (rw [c_can, if_neg (by omega), if_pos hk, if_neg c_54, show 4 * (i / 4) + 1 = i by omega]; done)) rfl dX2_canStand_67
    · refine lv_bipush (v := nI 10) hx hcd dX2_canStand_57 (by decide) ?_
      refine lv_goto (tgt := 64) hx hcd dX2_canStand_59 (by decide) ?_
      refine kr_Si (As := [.int ((nI (ch T (4 * (i / 4) + 1))) - 48), .int (nI 10)]) (rest := []) (ws2 := wSc cB t L T) ⟨hx, hcd, hml, hown, hts⟩ (c_X2_isDigitBelow l D cI cB cW cL  _ M ((nI (ch T (4 * (i / 4) + 1))) - 48) 10 (ch T (4 * (i / 4) + 1)) rfl (t_lt hT (show 4 * (i / 4) + 1 < 100 by omega)) (by omega)) (va_cwS 2 hts gX2_canStand_X2_isDigitBelow rfl rfl rfl (by decide +kernel) ⟨Nat.le_of_ble_eq_true rfl, Nat.le_of_ble_eq_true rfl⟩) hK hP hD hS hA [] rfl (by decide) rfl rfl rfl hl.1 rfl (Nat.le_of_ble_eq_true rfl) dX2_canStand_64 ⟨Nat.zero_le _, Nat.zero_le _⟩ (fun H locs hP hD hS => ?_)
      exact kr_zret hx hcd hr hlocks hK hP hD hS kr_nb (by first | (rw [c_can, if_neg (by omega), if_pos hk, if_pos c_54, show 4 * (i / 4) + 1 = i by omega]; done) | (rw [c_can, if_neg (by omega), if_pos hk, if_neg c_54, show 4 * (i / 4) + 1 = i by omega]; done)) rfl dX2_canStand_67
  · refine kr_top (w := nI 2) (congrArg nI hk) ?_
    refine lv_tableIn (x := nI 2) (off := 55) (tgt := 68) hx hcd dX2_canStand_13 (by decide) (by decide) (by decide) (by decide) ?_
    refine lv_iload_n hx hcd dX2_canStand_68 rfl (lv_at hl 0 rfl) ?_
    refine lv_aload_n hx hcd dX2_canStand_69 rfl (lv_at hl 2 rfl) ?_
    refine lv_iload_n hx hcd dX2_canStand_70 rfl (lv_at hl 1 rfl) ?_
    refine lv_iconst (v := nI 1) hx hcd dX2_canStand_71 (by decide) ?_
    refine kr_Vi (As := [.int (nI (i / 4)), .int (nI 1)]) (rest := [.int (nI (ch T (4 * (i / 4))))]) (ws2 := wSc cB t L T) (q := (RX2, TX2, 2)) ⟨hx, hcd, hml, hown, hts⟩ (c_X2_digit l D cI cB cW cL t L T _ M (i / 4) 1 hT (by omega) (by omega)) (cwV 2 hts gX2_canStand_X2_digit rfl rfl rfl (by decide +kernel) ⟨Nat.le_of_ble_eq_true rfl, Nat.le_of_ble_eq_true rfl⟩) hK hP hD hS hA [0, 1] wSc_allC (by decide) wSc_adr wSc_all 0 rfl rfl rfl hl.1 rfl (Nat.le_of_ble_eq_true rfl) dX2_canStand_72 ⟨Nat.zero_le _, Nat.zero_le _⟩ (fun H locs hP hD hS => ?_)
    refine lv_aload_n hx hcd dX2_canStand_75 rfl (lv_at hl 2 rfl) ?_
    refine lv_iload_n hx hcd dX2_canStand_76 rfl (lv_at hl 1 rfl) ?_
    refine lv_iconst (v := nI 2) hx hcd dX2_canStand_77 (by decide) ?_
    refine kr_Vi (As := [.int (nI (i / 4)), .int (nI 2)]) (rest := [.int ((nI (ch T (4 * (i / 4) + 1))) - 48), .int (nI (ch T (4 * (i / 4))))]) (ws2 := wSc cB t L T) (q := (RX2, TX2, 2)) ⟨hx, hcd, hml, hown, hts⟩ (c_X2_digit l D cI cB cW cL t L T _ M (i / 4) 2 hT (by omega) (by omega)) (cwV 2 hts gX2_canStand_X2_digit rfl rfl rfl (by decide +kernel) ⟨Nat.le_of_ble_eq_true rfl, Nat.le_of_ble_eq_true rfl⟩) hK hP hD hS hA [0, 1] wSc_allC (by decide) wSc_adr wSc_all 0 rfl rfl rfl hl.1 rfl (Nat.le_of_ble_eq_true rfl) dX2_canStand_78 ⟨Nat.zero_le _, Nat.zero_le _⟩ (fun H locs hP hD hS => ?_)
    refine kr_Si (As := [.int (nI (ch T (4 * (i / 4)))), .int ((nI (ch T (4 * (i / 4) + 1))) - 48), .int ((nI (ch T (4 * (i / 4) + 2))) - 48)]) (rest := []) (ws2 := wSc cB t L T) ⟨hx, hcd, hml, hown, hts⟩ (c_X2_canBeSecond l D cI cB cW cL  _ M (ch T (4 * (i / 4))) ((nI (ch T (4 * (i / 4) + 1))) - 48) ((nI (ch T (4 * (i / 4) + 2))) - 48) (ch T (4 * (i / 4) + 1)) (ch T (4 * (i / 4) + 2)) hz rfl rfl (t_lt hT (show 4 * (i / 4) + 1 < 100 by omega)) (t_lt hT (show 4 * (i / 4) + 2 < 100 by omega))) (va_cwS 3 hts gX2_canStand_X2_canBeSecond rfl rfl rfl (by decide +kernel) ⟨Nat.le_of_ble_eq_true rfl, Nat.le_of_ble_eq_true rfl⟩) hK hP hD hS hA [] rfl (by decide) rfl rfl rfl hl.1 rfl (Nat.le_of_ble_eq_true rfl) dX2_canStand_81 ⟨Nat.zero_le _, Nat.zero_le _⟩ (fun H locs hP hD hS => ?_)
    exact kr_zret hx hcd hr hlocks hK hP hD hS kr_nb (by rw [c_can, if_neg (by omega), if_neg (by omega), if_pos hk]) rfl dX2_canStand_84
  · refine kr_top (w := nI 3) (congrArg nI hk) ?_
    refine lv_tableOut (x := nI 3) (tgt := 85) hx hcd dX2_canStand_13 (by decide) (by decide) ?_
    refine lv_aload_n hx hcd dX2_canStand_85 rfl (lv_at hl 2 rfl) ?_
    refine kr_get hx hcd hts uX2 hown hK hP 0 rfl rfl 0 (by decide) (by decide +kernel) (v := .ref (t 1)) rfl dX2_canStand_86 ?_
    refine lv_iload_n hx hcd dX2_canStand_89 rfl (lv_at hl 3 rfl) ?_
    refine kr_bald hx hcd hK hP 1 1 rfl rfl (v := T i) (by omega) (by decide) (congrArg T (by omega)) dX2_canStand_90 ?_
    refine kr_top (w := nI (ch T i)) (t_ch hT (by omega)) ?_
    refine lv_bipush (v := nI 59) hx hcd dX2_canStand_91 (by decide) ?_
    refine kr_cne (tgt := 100) hx hcd (by omega) (by omega) dX2_canStand_93 (by decide) (fun (c_93 : ¬ ch T i = 59) => ?_) (fun (c_93 : ch T i = 59) => ?_)
    · refine lv_iconst (v := nI 0) hx hcd dX2_canStand_100 (by decide) ?_
      exact kr_zret hx hcd hr hlocks hK hP hD hS rfl (by rw [c_can, if_neg (by omega), if_neg (by omega), if_neg (by omega)]; simp [kI, c_93]; rfl) rfl dX2_canStand_101
    · refine lv_iconst (v := nI 1) hx hcd dX2_canStand_96 (by decide) ?_
      refine lv_goto (tgt := 101) hx hcd dX2_canStand_97 (by decide) ?_
      exact kr_zret hx hcd hr hlocks hK hP hD hS rfl (by rw [c_can, if_neg (by omega), if_neg (by omega), if_neg (by omega)]; simp [kI, c_93]; rfl) rfl dX2_canStand_101

set_option maxHeartbeats 4000000 in
set_option maxRecDepth 100000 in
theorem c_X2_errorPosition (l : Launch) (D : va_G) (cI cB cW cL : ClassId) (t : Nat → Nat) (L : Nat) (T : Nat → Int32) (sz : Nat) (M : kM) (hT : kTx T) (hL : L ≤ 100) : kMi l yX2_errorPosition wsX2_errorPosition ({ frames := 3, cells := 0, slots := 0, locals := 66 }) D vwCl (kT cI cB cW cL) sz [.ref (t 0)] (wSc cB t L T) (wSc cB t L T) (c_err T L) := by
  refine kr_ofi (cc := cX2_errorPosition) (maxL := 2) (ret := (some .int)) (by decide) rfl (Nat.le_of_ble_eq_true rfl) ?_
  intro pp ee ss mm args below meth cc AA ls hx hcd hr hts hown hlocks hml hK hP hD hA hl
  have hS : va_S AA ss.heap ss.heap [] := va_S.rf
  have hown : ss.vm.findClass RX2 = some mm.cls := hown
  have hl : lv_has ls 2 [(0, .ref (t 0))] := hl
  have uX2 : ∀ w ∈ u_ws RX2 TX2 2, w ∈ wsX2_errorPosition := by decide +kernel
  refine lv_iconst (v := nI 0) hx hcd dX2_errorPosition_0 (by decide) ?_
  refine lv_istore_n (lv' := [(1, .int (nI 0)), (0, .ref (t 0))]) hx hcd dX2_errorPosition_1 rfl hl (by decide) rfl (fun ls hl => ?_)
  refine kr_rec (σ := Nat) (fun y9 => wSc cB t L T) (fun y9 => [(0, .ref (t 0)), (1, .int (nI y9))]) (fun y9 => y9 ≤ L ∧ ∀ j, j < y9 → c_can T j = true) (fun y9 => L - y9) (nL := 2) (fun y9 hX ih_2 H locs ls hP hD hS hl => ?_) 0 ⟨Nat.zero_le _, fun j hj => absurd hj (Nat.not_lt_zero j)⟩ hP hD hS (lv_sub hl [1, 0] rfl)
  obtain ⟨i, hy9⟩ : ∃ y8, y8 = y9 := ⟨_, rfl⟩
  subst hy9
  obtain ⟨hiL, hall⟩ := hX
  have hl : lv_has ls 2 [(0, .ref (t 0)), (1, .int (nI i))] := hl
  refine lv_iload_n hx hcd dX2_errorPosition_2 rfl (lv_at hl 1 rfl) ?_
  refine lv_aload_n hx hcd dX2_errorPosition_3 rfl (lv_at hl 0 rfl) ?_
  refine kr_get hx hcd hts uX2 hown hK hP 0 rfl rfl 1 (by decide) (by decide +kernel) (v := .int (nI L)) rfl dX2_errorPosition_4 ?_
  refine kr_cge (tgt := 26) hx hcd (by omega) (by omega) dX2_errorPosition_7 (by decide) (fun (c_7 : L ≤ i) => ?_) (fun (c_7 : i < L) => ?_)
  · refine lv_aload_n hx hcd dX2_errorPosition_26 rfl (lv_at hl 0 rfl) ?_
    refine kr_get hx hcd hts uX2 hown hK hP 0 rfl rfl 1 (by decide) (by decide +kernel) (v := .int (nI L)) rfl dX2_errorPosition_27 ?_
    refine lv_iconst (v := nI 4) hx hcd dX2_errorPosition_30 (by decide) ?_
    refine kr_rem hx hcd (by omega) (by decide) (by decide) dX2_errorPosition_31 ?_
    refine kr_zne (tgt := 39) hx hcd (by omega) dX2_errorPosition_32 (by decide) (fun (c_32 : 0 < L % 4) => ?_) (fun (c_32 : L % 4 = 0) => ?_)
    · refine lv_aload_n hx hcd dX2_errorPosition_39 rfl (lv_at hl 0 rfl) ?_
      refine kr_get hx hcd hts uX2 hown hK hP 0 rfl rfl 1 (by decide) (by decide +kernel) (v := .int (nI L)) rfl dX2_errorPosition_40 ?_
      exact kr_iret hx hcd hr hlocks hK hP hD hS (by rw [err_end (fun j hj => hall j (by omega))]; first | rw [if_pos c_32] | rw [if_neg (by omega)]) rfl dX2_errorPosition_43
    · refine lv_iconst (v := (-1)) hx hcd dX2_errorPosition_35 (by decide) ?_
      refine lv_goto (tgt := 43) hx hcd dX2_errorPosition_36 (by decide) ?_
      exact kr_iret hx hcd hr hlocks hK hP hD hS (by rw [err_end (fun j hj => hall j (by omega))]; first | rw [if_pos c_32] | rw [if_neg (by omega)]) rfl dX2_errorPosition_43
  · refine lv_aload_n hx hcd dX2_errorPosition_10 rfl (lv_at hl 0 rfl) ?_
    refine lv_iload_n hx hcd dX2_errorPosition_11 rfl (lv_at hl 1 rfl) ?_
    refine kr_Vi (As := [.int (nI i)]) (rest := []) (ws2 := wSc cB t L T) (q := (RX2, TX2, 2)) ⟨hx, hcd, hml, hown, hts⟩ (c_X2_canStand l D cI cB cW cL t L T _ M i hT (by omega)) (cwV 1 hts gX2_errorPosition_X2_canStand rfl rfl rfl (by decide +kernel) ⟨Nat.le_of_ble_eq_true rfl, Nat.le_of_ble_eq_true rfl⟩) hK hP hD hS hA [0, 1] wSc_allC (by decide) wSc_adr wSc_all 0 rfl rfl rfl hl.1 rfl (Nat.le_of_ble_eq_true rfl) dX2_errorPosition_12 ⟨Nat.zero_le _, Nat.zero_le _⟩ (fun H locs hP hD hS => ?_)
    refine kr_bne (tgt := 20) hx hcd dX2_errorPosition_15 (by decide) (fun (c_15 : c_can T i = true) => ?_) (fun (c_15 : c_can T i = false) => ?_)
    · refine kr_iinc (lv' := [(1, .int (nI (i + 1))), (0, .ref (t 0))]) hx hcd dX2_errorPosition_20 hl (k := 1) rfl (by decide) rfl (fun ls hl => ?_)
      refine lv_goto (tgt := 2) hx hcd dX2_errorPosition_23 (by decide) ?_
      exact ih_2 (i + 1) ⟨by omega, fun j hj => by rcases Nat.lt_or_ge j i with h8 | h8; exact hall j h8; rw [show j = i by omega]; exact c_15⟩ (by omega) H locs ls hP hD hS (lv_sub hl [1, 0] rfl)
    · refine lv_iload_n hx hcd dX2_errorPosition_18 rfl (lv_at hl 1 rfl) ?_
      exact kr_iret hx hcd hr hlocks hK hP hD hS (by rw [err_at (by omega) hall c_15]) rfl dX2_errorPosition_19
