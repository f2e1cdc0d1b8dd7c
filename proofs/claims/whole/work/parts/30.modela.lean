set_option maxHeartbeats 4000000 in
set_option maxRecDepth 100000 in
theorem c_X7_in (l : Launch) (D : va_G) (cI cB cW cL : ClassId)  (sz : Nat) (M : kM) (v : Int32) (lo : Int32) (hi : Int32) : kMi l yX7_in wsX7_in ({ frames := 0, cells := 0, slots := 0, locals := 0 }) D vwCl (kT cI cB cW cL) sz [.int v, .int lo, .int hi] ([]) ([]) (kI (g_in v lo hi)) := by
  refine kr_ofi (cc := cX7_in) (maxL := 3) (ret := (some .boolean)) (by decide) rfl (Nat.le_of_ble_eq_true rfl) ?_
  intro pp ee ss mm args below meth cc AA ls hx hcd hr hts hown hlocks hml hK hP hD hA hl
  have hS : va_S AA ss.heap ss.heap [] := va_S.rf
  have hown : ss.vm.findClass RX7 = some mm.cls := hown
  have hl : lv_has ls 3 [(0, .int v), (1, .int lo), (2, .int hi)] := hl
  refine lv_iload_n hx hcd dX7_in_0 rfl (lv_at hl 0 rfl) ?_
  refine lv_iload_n hx hcd dX7_in_1 rfl (lv_at hl 1 rfl) ?_
  refine lv_icmp_lt (tgt := 14) hx hcd dX7_in_2 (by decide) (fun (c_2 : v < lo) => ?_) (fun (c_2 : ¬ v < lo) => ?_)
  · refine lv_iconst (v := nI 0) hx hcd dX7_in_14 (by decide) ?_
    exact kr_zret hx hcd hr hlocks hK hP hD hS rfl (by simp [g_in, kI, c_2]; rfl) rfl dX7_in_15
  · refine lv_iload_n hx hcd dX7_in_5 rfl (lv_at hl 0 rfl) ?_
    refine lv_iload_n hx hcd dX7_in_6 rfl (lv_at hl 2 rfl) ?_
    refine lv_icmp_gt (tgt := 14) hx hcd dX7_in_7 (by decide) (fun (c_7 : hi < v) => ?_) (fun (c_7 : ¬ hi < v) => ?_)
    · refine lv_iconst (v := nI 0) hx hcd dX7_in_14 (by decide) ?_
      exact kr_zret hx hcd hr hlocks hK hP hD hS rfl (by simp [g_in, kI, c_2, c_7]; rfl) rfl dX7_in_15
    · refine lv_iconst (v := nI 1) hx hcd dX7_in_10 (by decide) ?_
      refine lv_goto (tgt := 15) hx hcd dX7_in_11 (by decide) ?_
      exact kr_zret hx hcd hr hlocks hK hP hD hS rfl (by simp [g_in, kI, c_2, c_7]; rfl) rfl dX7_in_15

set_option maxHeartbeats 4000000 in
set_option maxRecDepth 100000 in
theorem c_X7_isUser (l : Launch) (D : va_G) (cI cB cW cL : ClassId)  (sz : Nat) (M : kM) (a : Int32) : kMi l yX7_isUser wsX7_isUser ({ frames := 1, cells := 0, slots := 0, locals := 22 }) D vwCl (kT cI cB cW cL) sz [.int a] ([]) ([]) (kI (g_usr a)) := by
  refine kr_ofi (cc := cX7_isUser) (maxL := 1) (ret := (some .boolean)) (by decide) rfl (Nat.le_of_ble_eq_true rfl) ?_
  intro pp ee ss mm args below meth cc AA ls hx hcd hr hts hown hlocks hml hK hP hD hA hl
  have hS : va_S AA ss.heap ss.heap [] := va_S.rf
  have hown : ss.vm.findClass RX7 = some mm.cls := hown
  have hl : lv_has ls 1 [(0, .int a)] := hl
  refine lv_iload_n hx hcd dX7_isUser_0 rfl (lv_at hl 0 rfl) ?_
  refine lv_iconst (v := nI 0) hx hcd dX7_isUser_1 (by decide) ?_
  refine lv_iconst (v := nI 5) hx hcd dX7_isUser_2 (by decide) ?_
  refine kr_Si (As := [.int a, .int (nI 0), .int (nI 5)]) (rest := []) (ws2 := []) ⟨hx, hcd, hml, hown, hts⟩ (c_X7_in l D cI cB cW cL  _ M a 0 5) (va_cwS 3 hts gX7_isUser_X7_in rfl rfl rfl (by decide +kernel) ⟨Nat.le_of_ble_eq_true rfl, Nat.le_of_ble_eq_true rfl⟩) hK hP hD hS hA [] rfl (by decide) rfl rfl rfl hl.1 rfl (Nat.le_of_ble_eq_true rfl) dX7_isUser_3 ⟨Nat.zero_le _, Nat.zero_le _⟩ (fun H locs hP hD hS => ?_)
  exact kr_zret hx hcd hr hlocks hK hP hD hS kr_nb rfl rfl dX7_isUser_6

set_option maxHeartbeats 4000000 in
set_option maxRecDepth 100000 in
theorem c_X7_whyNot (l : Launch) (D : va_G) (cI cB cW cL : ClassId)  (sz : Nat) (M : kM) (a : Int32) (b : Int32) : kMi l yX7_whyNot wsX7_whyNot ({ frames := 2, cells := 0, slots := 0, locals := 42 }) D vwCl (kT cI cB cW cL) sz [.int a, .int b] ([]) ([]) (g_why a b) := by
  refine kr_ofi (cc := cX7_whyNot) (maxL := 2) (ret := (some .int)) (by decide) rfl (Nat.le_of_ble_eq_true rfl) ?_
  intro pp ee ss mm args below meth cc AA ls hx hcd hr hts hown hlocks hml hK hP hD hA hl
  have hS : va_S AA ss.heap ss.heap [] := va_S.rf
  have hown : ss.vm.findClass RX7 = some mm.cls := hown
  have hl : lv_has ls 2 [(0, .int a), (1, .int b)] := hl
  refine lv_iload_n hx hcd dX7_whyNot_0 rfl (lv_at hl 0 rfl) ?_
  refine kr_Si (As := [.int a]) (rest := []) (ws2 := []) ⟨hx, hcd, hml, hown, hts⟩ (c_X7_isUser l D cI cB cW cL  _ M a) (va_cwS 1 hts gX7_whyNot_X7_isUser rfl rfl rfl (by decide +kernel) ⟨Nat.le_of_ble_eq_true rfl, Nat.le_of_ble_eq_true rfl⟩) hK hP hD hS hA [] rfl (by decide) rfl rfl rfl hl.1 rfl (Nat.le_of_ble_eq_true rfl) dX7_whyNot_1 ⟨Nat.zero_le _, Nat.zero_le _⟩ (fun H locs hP hD hS => ?_)
  refine kr_beq (tgt := 14) hx hcd dX7_whyNot_4 (by decide) (fun (c_4 : g_usr a = false) => ?_) (fun (c_4 : g_usr a = true) => ?_)
  · refine lv_iconst (v := nI 1) hx hcd dX7_whyNot_14 (by decide) ?_
    refine lv_goto (tgt := 28) hx hcd dX7_whyNot_15 (by decide) ?_
    exact kr_iret hx hcd hr hlocks hK hP hD hS (by simp [g_why, c_4]; rfl) rfl dX7_whyNot_28
  · refine lv_iload_n hx hcd dX7_whyNot_7 rfl (lv_at hl 1 rfl) ?_
    refine kr_Si (As := [.int b]) (rest := []) (ws2 := []) ⟨hx, hcd, hml, hown, hts⟩ (c_X7_isUser l D cI cB cW cL  _ M b) (va_cwS 1 hts gX7_whyNot_X7_isUser rfl rfl rfl (by decide +kernel) ⟨Nat.le_of_ble_eq_true rfl, Nat.le_of_ble_eq_true rfl⟩) hK hP hD hS hA [] rfl (by decide) rfl rfl rfl hl.1 rfl (Nat.le_of_ble_eq_true rfl) dX7_whyNot_8 ⟨Nat.zero_le _, Nat.zero_le _⟩ (fun H locs hP hD hS => ?_)
    refine kr_bne (tgt := 18) hx hcd dX7_whyNot_11 (by decide) (fun (c_11 : g_usr b = true) => ?_) (fun (c_11 : g_usr b = false) => ?_)
    · refine lv_iload_n hx hcd dX7_whyNot_18 rfl (lv_at hl 0 rfl) ?_
      refine lv_iload_n hx hcd dX7_whyNot_19 rfl (lv_at hl 1 rfl) ?_
      refine lv_icmp_ne (tgt := 27) hx hcd dX7_whyNot_20 (by decide) (fun (c_20 : ¬ a = b) => ?_) (fun (c_20 : a = b) => ?_)
      · refine lv_iconst (v := nI 0) hx hcd dX7_whyNot_27 (by decide) ?_
        exact kr_iret hx hcd hr hlocks hK hP hD hS (by simp [g_why, c_4, c_11, c_20]; rfl) rfl dX7_whyNot_28
      · refine lv_iconst (v := nI 2) hx hcd dX7_whyNot_23 (by decide) ?_
        refine lv_goto (tgt := 28) hx hcd dX7_whyNot_24 (by decide) ?_
        exact kr_iret hx hcd hr hlocks hK hP hD hS (by simp [g_why, c_4, c_11, c_20]; rfl) rfl dX7_whyNot_28
    · refine lv_iconst (v := nI 1) hx hcd dX7_whyNot_14 (by decide) ?_
      refine lv_goto (tgt := 28) hx hcd dX7_whyNot_15 (by decide) ?_
      exact kr_iret hx hcd hr hlocks hK hP hD hS (by simp [g_why, c_4, c_11]; rfl) rfl dX7_whyNot_28

set_option maxHeartbeats 4000000 in
set_option maxRecDepth 100000 in
theorem c_X7_isSeat (l : Launch) (D : va_G) (cI cB cW cL : ClassId)  (sz : Nat) (M : kM) (a : Int32) (t : Int32) : kMi l yX7_isSeat wsX7_isSeat ({ frames := 2, cells := 0, slots := 0, locals := 42 }) D vwCl (kT cI cB cW cL) sz [.int a, .int t] ([]) ([]) (kI (g_seatok a t)) := by
  refine kr_ofi (cc := cX7_isSeat) (maxL := 2) (ret := (some .boolean)) (by decide) rfl (Nat.le_of_ble_eq_true rfl) ?_
  intro pp ee ss mm args below meth cc AA ls hx hcd hr hts hown hlocks hml hK hP hD hA hl
  have hS : va_S AA ss.heap ss.heap [] := va_S.rf
  have hown : ss.vm.findClass RX7 = some mm.cls := hown
  have hl : lv_has ls 2 [(0, .int a), (1, .int t)] := hl
  refine lv_iload_n hx hcd dX7_isSeat_0 rfl (lv_at hl 0 rfl) ?_
  refine kr_Si (As := [.int a]) (rest := []) (ws2 := []) ⟨hx, hcd, hml, hown, hts⟩ (c_X7_isUser l D cI cB cW cL  _ M a) (va_cwS 1 hts gX7_isSeat_X7_isUser rfl rfl rfl (by decide +kernel) ⟨Nat.le_of_ble_eq_true rfl, Nat.le_of_ble_eq_true rfl⟩) hK hP hD hS hA [] rfl (by decide) rfl rfl rfl hl.1 rfl (Nat.le_of_ble_eq_true rfl) dX7_isSeat_1 ⟨Nat.zero_le _, Nat.zero_le _⟩ (fun H locs hP hD hS => ?_)
  refine kr_beq (tgt := 20) hx hcd dX7_isSeat_4 (by decide) (fun (c_4 : g_usr a = false) => ?_) (fun (c_4 : g_usr a = true) => ?_)
  · refine lv_iconst (v := nI 0) hx hcd dX7_isSeat_20 (by decide) ?_
    exact kr_zret hx hcd hr hlocks hK hP hD hS rfl (by simp [g_seatok, kI, c_4]; rfl) rfl dX7_isSeat_21
  · refine lv_iload_n hx hcd dX7_isSeat_7 rfl (lv_at hl 1 rfl) ?_
    refine lv_iconst (v := nI 0) hx hcd dX7_isSeat_8 (by decide) ?_
    refine lv_iconst (v := nI 2) hx hcd dX7_isSeat_9 (by decide) ?_
    refine kr_Si (As := [.int t, .int (nI 0), .int (nI 2)]) (rest := []) (ws2 := []) ⟨hx, hcd, hml, hown, hts⟩ (c_X7_in l D cI cB cW cL  _ M t 0 2) (va_cwS 3 hts gX7_isSeat_X7_in rfl rfl rfl (by decide +kernel) ⟨Nat.le_of_ble_eq_true rfl, Nat.le_of_ble_eq_true rfl⟩) hK hP hD hS hA [] rfl (by decide) rfl rfl rfl hl.1 rfl (Nat.le_of_ble_eq_true rfl) dX7_isSeat_10 ⟨Nat.zero_le _, Nat.zero_le _⟩ (fun H locs hP hD hS => ?_)
    refine kr_beq (tgt := 20) hx hcd dX7_isSeat_13 (by decide) (fun (c_13 : g_in t 0 2 = false) => ?_) (fun (c_13 : g_in t 0 2 = true) => ?_)
    · refine lv_iconst (v := nI 0) hx hcd dX7_isSeat_20 (by decide) ?_
      exact kr_zret hx hcd hr hlocks hK hP hD hS rfl (by simp [g_seatok, kI, c_4, c_13]; rfl) rfl dX7_isSeat_21
    · refine lv_iconst (v := nI 1) hx hcd dX7_isSeat_16 (by decide) ?_
      refine lv_goto (tgt := 21) hx hcd dX7_isSeat_17 (by decide) ?_
      exact kr_zret hx hcd hr hlocks hK hP hD hS rfl (by simp [g_seatok, kI, c_4, c_13]; rfl) rfl dX7_isSeat_21

set_option maxHeartbeats 4000000 in
set_option maxRecDepth 100000 in
theorem c_X7_seatCell (l : Launch) (D : va_G) (cI cB cW cL : ClassId)  (sz : Nat) (M : kM) (a : Nat) (s : Nat) : kMi l yX7_seatCell wsX7_seatCell ({ frames := 0, cells := 0, slots := 0, locals := 0 }) D vwCl (kT cI cB cW cL) sz [.int (nI a), .int (nI s)] ([]) ([]) (nI (9 * a + 3 * s)) := by
  refine kr_ofi (cc := cX7_seatCell) (maxL := 2) (ret := (some .int)) (by decide) rfl (Nat.le_of_ble_eq_true rfl) ?_
  intro pp ee ss mm args below meth cc AA ls hx hcd hr hts hown hlocks hml hK hP hD hA hl
  have hS : va_S AA ss.heap ss.heap [] := va_S.rf
  have hown : ss.vm.findClass RX7 = some mm.cls := hown
  have hl : lv_has ls 2 [(0, .int (nI a)), (1, .int (nI s))] := hl
  refine lv_iconst (v := nI 0) hx hcd dX7_seatCell_0 (by decide) ?_
  refine lv_bipush (v := nI 9) hx hcd dX7_seatCell_1 (by decide) ?_
  refine lv_iload_n hx hcd dX7_seatCell_3 rfl (lv_at hl 0 rfl) ?_
  refine kr_mul hx hcd dX7_seatCell_4 ?_
  refine kr_add hx hcd dX7_seatCell_5 ?_
  refine lv_iconst (v := nI 3) hx hcd dX7_seatCell_6 (by decide) ?_
  refine lv_iload_n hx hcd dX7_seatCell_7 rfl (lv_at hl 1 rfl) ?_
  refine kr_mul hx hcd dX7_seatCell_8 ?_
  refine kr_add hx hcd dX7_seatCell_9 ?_
  exact kr_iret hx hcd hr hlocks hK hP hD hS (by exact congrArg nI (by omega)) rfl dX7_seatCell_10

set_option maxHeartbeats 4000000 in
set_option maxRecDepth 100000 in
theorem c_X7_viewCell (l : Launch) (D : va_G) (cI cB cW cL : ClassId)  (sz : Nat) (M : kM) (a : Nat) (b : Nat) (s : Nat) : kMi l yX7_viewCell wsX7_viewCell ({ frames := 0, cells := 0, slots := 0, locals := 0 }) D vwCl (kT cI cB cW cL) sz [.int (nI a), .int (nI b), .int (nI s)] ([]) ([]) (nI (132 + 18 * a + 3 * b + s)) := by
  refine kr_ofi (cc := cX7_viewCell) (maxL := 3) (ret := (some .int)) (by decide) rfl (Nat.le_of_ble_eq_true rfl) ?_
  intro pp ee ss mm args below meth cc AA ls hx hcd hr hts hown hlocks hml hK hP hD hA hl
  have hS : va_S AA ss.heap ss.heap [] := va_S.rf
  have hown : ss.vm.findClass RX7 = some mm.cls := hown
  have hl : lv_has ls 3 [(0, .int (nI a)), (1, .int (nI b)), (2, .int (nI s))] := hl
  refine lv_sipush (v := nI 132) hx hcd dX7_viewCell_0 (by decide) ?_
  refine lv_bipush (v := nI 18) hx hcd dX7_viewCell_3 (by decide) ?_
  refine lv_iload_n hx hcd dX7_viewCell_5 rfl (lv_at hl 0 rfl) ?_
  refine kr_mul hx hcd dX7_viewCell_6 ?_
  refine kr_add hx hcd dX7_viewCell_7 ?_
  refine lv_iconst (v := nI 3) hx hcd dX7_viewCell_8 (by decide) ?_
  refine lv_iload_n hx hcd dX7_viewCell_9 rfl (lv_at hl 1 rfl) ?_
  refine kr_mul hx hcd dX7_viewCell_10 ?_
  refine kr_add hx hcd dX7_viewCell_11 ?_
  refine lv_iload_n hx hcd dX7_viewCell_12 rfl (lv_at hl 2 rfl) ?_
  refine kr_add hx hcd dX7_viewCell_13 ?_
  exact kr_iret hx hcd hr hlocks hK hP hD hS (by exact congrArg nI (by omega)) rfl dX7_viewCell_14

set_option maxHeartbeats 4000000 in
set_option maxRecDepth 100000 in
theorem c_X7_isOn (l : Launch) (D : va_G) (cI cB cW cL : ClassId) (z : Nat → Nat) (x : Nat → Int32) (hh : Int64) (sz : Nat) (M : kM) (a : Nat) (s : Nat) (ha : a < 6) (hs : s < 3) : kMi l yX7_isOn wsX7_isOn ({ frames := 1, cells := 0, slots := 0, locals := 21 }) D vwCl (kT cI cB cW cL) sz [.ref (z 0), .int (nI a), .int (nI s)] (wMo cI z x hh M) (wMo cI z x hh M) (kI (g_on M a s)) := by
  refine kr_ofi (cc := cX7_isOn) (maxL := 3) (ret := (some .boolean)) (by decide) rfl (Nat.le_of_ble_eq_true rfl) ?_
  intro pp ee ss mm args below meth cc AA ls hx hcd hr hts hown hlocks hml hK hP hD hA hl
  have hS : va_S AA ss.heap ss.heap [] := va_S.rf
  have hown : ss.vm.findClass RX7 = some mm.cls := hown
  have hl : lv_has ls 3 [(0, .ref (z 0)), (1, .int (nI a)), (2, .int (nI s))] := hl
  have uX7 : ∀ w ∈ u_ws RX7 TX7 10, w ∈ wsX7_isOn := by decide +kernel
  refine lv_aload_n hx hcd dX7_isOn_0 rfl (lv_at hl 0 rfl) ?_
  refine kr_get hx hcd hts uX7 hown hK hP 0 rfl rfl 0 (by decide) (by decide +kernel) (v := .ref (z 1)) rfl dX7_isOn_1 ?_
  refine lv_iload_n hx hcd dX7_isOn_4 rfl (lv_at hl 1 rfl) ?_
  refine lv_iload_n hx hcd dX7_isOn_5 rfl (lv_at hl 2 rfl) ?_
  refine kr_Si (As := [.int (nI a), .int (nI s)]) (rest := [.ref (z 1)]) (ws2 := wMo cI z x hh M) ⟨hx, hcd, hml, hown, hts⟩ (c_X7_seatCell l D cI cB cW cL  _ M a s) (va_cwS 2 hts gX7_isOn_X7_seatCell rfl rfl rfl (by decide +kernel) ⟨Nat.le_of_ble_eq_true rfl, Nat.le_of_ble_eq_true rfl⟩) hK hP hD hS hA [] rfl (by decide) rfl rfl rfl hl.1 rfl (Nat.le_of_ble_eq_true rfl) dX7_isOn_6 ⟨Nat.zero_le _, Nat.zero_le _⟩ (fun H locs hP hD hS => ?_)
  refine kr_iald hx hcd hK hP 1 0 rfl rfl (v := M (9 * a + 3 * s)) (by omega) (by decide) (congrArg M (by omega)) dX7_isOn_9 ?_
  refine lv_iconst (v := nI 1) hx hcd dX7_isOn_10 (by decide) ?_
  refine lv_icmp_ne (tgt := 18) hx hcd dX7_isOn_11 (by decide) (fun (c_11 : ¬ (M (9 * a + 3 * s)) = 1) => ?_) (fun (c_11 : (M (9 * a + 3 * s)) = 1) => ?_)
  · refine lv_iconst (v := nI 0) hx hcd dX7_isOn_18 (by decide) ?_
    exact kr_zret hx hcd hr hlocks hK hP hD hS rfl (by simp [g_on, kI, c_11]; rfl) rfl dX7_isOn_19
  · refine lv_iconst (v := nI 1) hx hcd dX7_isOn_14 (by decide) ?_
    refine lv_goto (tgt := 19) hx hcd dX7_isOn_15 (by decide) ?_
    exact kr_zret hx hcd hr hlocks hK hP hD hS rfl (by simp [g_on, kI, c_11]; rfl) rfl dX7_isOn_19

set_option maxHeartbeats 4000000 in
set_option maxRecDepth 100000 in
theorem c_X7_seatsOn (l : Launch) (D : va_G) (cI cB cW cL : ClassId) (z : Nat → Nat) (x : Nat → Int32) (hh : Int64) (sz : Nat) (M : kM) (a : Nat) (ha : a < 6) : kMi l yX7_seatsOn wsX7_seatsOn ({ frames := 1, cells := 0, slots := 0, locals := 21 }) D vwCl (kT cI cB cW cL) sz [.ref (z 0), .int (nI a)] (wMo cI z x hh M) (wMo cI z x hh M) (g_cnt M a) := by
  refine kr_ofi (cc := cX7_seatsOn) (maxL := 4) (ret := (some .int)) (by decide) rfl (Nat.le_of_ble_eq_true rfl) ?_
  intro pp ee ss mm args below meth cc AA ls hx hcd hr hts hown hlocks hml hK hP hD hA hl
  have hS : va_S AA ss.heap ss.heap [] := va_S.rf
  have hown : ss.vm.findClass RX7 = some mm.cls := hown
  have hl : lv_has ls 4 [(0, .ref (z 0)), (1, .int (nI a))] := hl
  have uX7 : ∀ w ∈ u_ws RX7 TX7 10, w ∈ wsX7_seatsOn := by decide +kernel
  refine lv_iconst (v := nI 0) hx hcd dX7_seatsOn_0 (by decide) ?_
  refine lv_istore_n (lv' := [(2, .int (nI 0)), (0, .ref (z 0)), (1, .int (nI a))]) hx hcd dX7_seatsOn_1 rfl hl (by decide) rfl (fun ls hl => ?_)
  refine lv_iconst (v := nI 0) hx hcd dX7_seatsOn_2 (by decide) ?_
  refine lv_istore_n (lv' := [(3, .int (nI 0)), (2, .int (nI 0)), (0, .ref (z 0)), (1, .int (nI a))]) hx hcd dX7_seatsOn_3 rfl hl (by decide) rfl (fun ls hl => ?_)
  refine kr_up (fun i => wMo cI z x hh M) (fun i => [(0, .ref (z 0)), (1, .int (nI a)), (2, .int (g_cntN M a i)), (3, .int (nI i))]) 3 (nL := 4) (fun i hi ih_4 H locs ls hP hD hS hl => ?_) (fun H locs ls hP hD hS hl => ?_) 0 (by omega) hP hD hS (lv_sub hl [2, 3, 1, 0] rfl)
  · have hl : lv_has ls 4 [(0, .ref (z 0)), (1, .int (nI a)), (2, .int (g_cntN M a i)), (3, .int (nI i))] := hl
    refine lv_iload_n hx hcd dX7_seatsOn_4 rfl (lv_at hl 3 rfl) ?_
    refine lv_iconst (v := nI 3) hx hcd dX7_seatsOn_5 (by decide) ?_
    refine kr_cge (tgt := 28) hx hcd (by omega) (by omega) dX7_seatsOn_6 (by decide) (fun (c_6 : 3 ≤ i) => absurd c_6 (by omega)) (fun (c_6 : i < 3) => ?_)
    refine lv_iload_n hx hcd dX7_seatsOn_9 rfl (lv_at hl 2 rfl) ?_
    refine lv_aload_n hx hcd dX7_seatsOn_10 rfl (lv_at hl 0 rfl) ?_
    refine kr_get hx hcd hts uX7 hown hK hP 0 rfl rfl 0 (by decide) (by decide +kernel) (v := .ref (z 1)) rfl dX7_seatsOn_11 ?_
    refine lv_iload_n hx hcd dX7_seatsOn_14 rfl (lv_at hl 1 rfl) ?_
    refine lv_iload_n hx hcd dX7_seatsOn_15 rfl (lv_at hl 3 rfl) ?_
    refine kr_Si (As := [.int (nI a), .int (nI i)]) (rest := [.ref (z 1), .int (g_cntN M a i)]) (ws2 := wMo cI z x hh M) ⟨hx, hcd, hml, hown, hts⟩ (c_X7_seatCell l D cI cB cW cL  _ M a i) (va_cwS 2 hts gX7_seatsOn_X7_seatCell rfl rfl rfl (by decide +kernel) ⟨Nat.le_of_ble_eq_true rfl, Nat.le_of_ble_eq_true rfl⟩) hK hP hD hS hA [] rfl (by decide) rfl rfl rfl hl.1 rfl (Nat.le_of_ble_eq_true rfl) dX7_seatsOn_16 ⟨Nat.zero_le _, Nat.zero_le _⟩ (fun H locs hP hD hS => ?_)
    refine kr_iald hx hcd hK hP 1 0 rfl rfl (v := M (9 * a + 3 * i)) (by omega) (by decide) (congrArg M (by omega)) dX7_seatsOn_19 ?_
    refine lv_iadd hx hcd dX7_seatsOn_20 ?_
    refine lv_istore_n (lv' := [(2, .int ((g_cntN M a i) + (M (9 * a + 3 * i)))), (0, .ref (z 0)), (1, .int (nI a)), (3, .int (nI i))]) hx hcd dX7_seatsOn_21 rfl hl (by decide) rfl (fun ls hl => ?_)
    refine kr_iinc (lv' := [(3, .int (nI (i + 1))), (2, .int ((g_cntN M a i) + (M (9 * a + 3 * i)))), (0, .ref (z 0)), (1, .int (nI a))]) hx hcd dX7_seatsOn_22 hl (k := 3) rfl (by decide) rfl (fun ls hl => ?_)
    refine lv_goto (tgt := 4) hx hcd dX7_seatsOn_25 (by decide) ?_
    exact ih_4 H locs ls hP hD hS (lv_sub hl [2, 3, 1, 0] rfl)
  · have hl : lv_has ls 4 [(0, .ref (z 0)), (1, .int (nI a)), (2, .int (g_cntN M a 3)), (3, .int (nI 3))] := hl
    refine lv_iload_n hx hcd dX7_seatsOn_4 rfl (lv_at hl 3 rfl) ?_
    refine lv_iconst (v := nI 3) hx hcd dX7_seatsOn_5 (by decide) ?_
    refine kr_cge (tgt := 28) hx hcd (by omega) (by omega) dX7_seatsOn_6 (by decide) (fun (c_6 : 3 ≤ 3) => ?_) (fun (c_6 : 3 < 3) => absurd c_6 (by omega))
    refine lv_iload_n hx hcd dX7_seatsOn_28 rfl (lv_at hl 2 rfl) ?_
    exact kr_iret hx hcd hr hlocks hK hP hD hS rfl rfl dX7_seatsOn_29

set_option maxHeartbeats 4000000 in
set_option maxRecDepth 100000 in
theorem c_X7_state (l : Launch) (D : va_G) (cI cB cW cL : ClassId) (z : Nat → Nat) (x : Nat → Int32) (hh : Int64) (sz : Nat) (M : kM) (a : Nat) (b : Nat) (ha : a < 6) (hb : b < 6) : kMi l yX7_state wsX7_state ({ frames := 0, cells := 0, slots := 0, locals := 0 }) D vwCl (kT cI cB cW cL) sz [.ref (z 0), .int (nI a), .int (nI b)] (wMo cI z x hh M) (wMo cI z x hh M) (g_st M a b) := by
  refine kr_ofi (cc := cX7_state) (maxL := 3) (ret := (some .int)) (by decide) rfl (Nat.le_of_ble_eq_true rfl) ?_
  intro pp ee ss mm args below meth cc AA ls hx hcd hr hts hown hlocks hml hK hP hD hA hl
  have hS : va_S AA ss.heap ss.heap [] := va_S.rf
  have hown : ss.vm.findClass RX7 = some mm.cls := hown
  have hl : lv_has ls 3 [(0, .ref (z 0)), (1, .int (nI a)), (2, .int (nI b))] := hl
  have uX7 : ∀ w ∈ u_ws RX7 TX7 10, w ∈ wsX7_state := by decide +kernel
  refine lv_aload_n hx hcd dX7_state_0 rfl (lv_at hl 0 rfl) ?_
  refine kr_get hx hcd hts uX7 hown hK hP 0 rfl rfl 0 (by decide) (by decide +kernel) (v := .ref (z 1)) rfl dX7_state_1 ?_
  refine lv_bipush (v := nI 54) hx hcd dX7_state_4 (by decide) ?_
  refine lv_bipush (v := nI 6) hx hcd dX7_state_6 (by decide) ?_
  refine lv_iload_n hx hcd dX7_state_8 rfl (lv_at hl 1 rfl) ?_
  refine kr_mul hx hcd dX7_state_9 ?_
  refine kr_add hx hcd dX7_state_10 ?_
  refine lv_iload_n hx hcd dX7_state_11 rfl (lv_at hl 2 rfl) ?_
  refine kr_add hx hcd dX7_state_12 ?_
  refine kr_iald hx hcd hK hP 1 0 rfl rfl (v := M (54 + 6 * a + b)) (by omega) (by decide) (congrArg M (by omega)) dX7_state_13 ?_
  exact kr_iret hx hcd hr hlocks hK hP hD hS rfl rfl dX7_state_14

set_option maxHeartbeats 4000000 in
set_option maxRecDepth 100000 in
theorem c_X7_has (l : Launch) (D : va_G) (cI cB cW cL : ClassId) (z : Nat → Nat) (x : Nat → Int32) (hh : Int64) (sz : Nat) (M : kM) (a : Nat) (b : Nat) (k : Int32) (ha : a < 6) (hb : b < 6) : kMi l yX7_has wsX7_has ({ frames := 1, cells := 0, slots := 0, locals := 22 }) D vwCl (kT cI cB cW cL) sz [.ref (z 0), .int (nI a), .int (nI b), .int k] (wMo cI z x hh M) (wMo cI z x hh M) (kI (g_has M a b k)) := by
  refine kr_ofi (cc := cX7_has) (maxL := 4) (ret := (some .boolean)) (by decide) rfl (Nat.le_of_ble_eq_true rfl) ?_
  intro pp ee ss mm args below meth cc AA ls hx hcd hr hts hown hlocks hml hK hP hD hA hl
  have hS : va_S AA ss.heap ss.heap [] := va_S.rf
  have hown : ss.vm.findClass RX7 = some mm.cls := hown
  have hl : lv_has ls 4 [(0, .ref (z 0)), (1, .int (nI a)), (2, .int (nI b)), (3, .int k)] := hl
  refine lv_aload_n hx hcd dX7_has_0 rfl (lv_at hl 0 rfl) ?_
  refine lv_iload_n hx hcd dX7_has_1 rfl (lv_at hl 1 rfl) ?_
  refine lv_iload_n hx hcd dX7_has_2 rfl (lv_at hl 2 rfl) ?_
  refine kr_Vi (As := [.int (nI a), .int (nI b)]) (rest := []) (ws2 := wMo cI z x hh M) (q := (RX7, TX7, 10)) ⟨hx, hcd, hml, hown, hts⟩ (c_X7_state l D cI cB cW cL z x hh _ M a b (by omega) (by omega)) (cwV 2 hts gX7_has_X7_state rfl rfl rfl (by decide +kernel) ⟨Nat.le_of_ble_eq_true rfl, Nat.le_of_ble_eq_true rfl⟩) hK hP hD hS hA [0, 1] wMo_allC (by decide) wMo_adr wMo_all 0 rfl rfl rfl hl.1 rfl (Nat.le_of_ble_eq_true rfl) dX7_has_3 ⟨Nat.zero_le _, Nat.zero_le _⟩ (fun H locs hP hD hS => ?_)
  refine lv_iload_n hx hcd dX7_has_6 rfl (lv_at hl 3 rfl) ?_
  refine lv_iand hx hcd dX7_has_7 ?_
  refine lv_if_eq (tgt := 15) hx hcd dX7_has_8 (by decide) (fun (c_8 : ((g_st M a b) &&& k) = 0) => ?_) (fun (c_8 : ¬ ((g_st M a b) &&& k) = 0) => ?_)
  · refine lv_iconst (v := nI 0) hx hcd dX7_has_15 (by decide) ?_
    exact kr_zret hx hcd hr hlocks hK hP hD hS rfl (by unfold g_st at c_8; simp [g_has, kI, c_8]; rfl) rfl dX7_has_16
  · refine lv_iconst (v := nI 1) hx hcd dX7_has_11 (by decide) ?_
    refine lv_goto (tgt := 16) hx hcd dX7_has_12 (by decide) ?_
    exact kr_zret hx hcd hr hlocks hK hP hD hS rfl (by unfold g_st at c_8; simp [g_has, kI, c_8]; rfl) rfl dX7_has_16

set_option maxHeartbeats 4000000 in
set_option maxRecDepth 100000 in
theorem c_X7_become (l : Launch) (D : va_G) (cI cB cW cL : ClassId) (z : Nat → Nat) (x : Nat → Int32) (hh : Int64) (sz : Nat) (M : kM) (a : Nat) (b : Nat) (t : Int32) (ha : a < 6) (hb : b < 6) : kMv l yX7_become wsX7_become ({ frames := 1, cells := 0, slots := 0, locals := 22 }) D vwCl (kT cI cB cW cL) sz [.ref (z 0), .int (nI a), .int (nI b), .int t] (wMo cI z x hh M) (wMo cI z x hh (g_become M a b t)) := by
  refine kr_ofv (cc := cX7_become) (maxL := 4) (ret := none) (by decide) rfl (Nat.le_of_ble_eq_true rfl) ?_
  intro pp ee ss mm args below meth cc AA ls hx hcd hr hts hown hlocks hml hK hP hD hA hl
  have hS : va_S AA ss.heap ss.heap [] := va_S.rf
  have hown : ss.vm.findClass RX7 = some mm.cls := hown
  have hl : lv_has ls 4 [(0, .ref (z 0)), (1, .int (nI a)), (2, .int (nI b)), (3, .int t)] := hl
  have uX7 : ∀ w ∈ u_ws RX7 TX7 10, w ∈ wsX7_become := by decide +kernel
  refine lv_aload_n hx hcd dX7_become_0 rfl (lv_at hl 0 rfl) ?_
  refine lv_iload_n hx hcd dX7_become_1 rfl (lv_at hl 1 rfl) ?_
  refine lv_iload_n hx hcd dX7_become_2 rfl (lv_at hl 2 rfl) ?_
  refine kr_Vi (As := [.int (nI a), .int (nI b)]) (rest := []) (ws2 := wMo cI z x hh M) (q := (RX7, TX7, 10)) ⟨hx, hcd, hml, hown, hts⟩ (c_X7_state l D cI cB cW cL z x hh _ M a b (by omega) (by omega)) (cwV 2 hts gX7_become_X7_state rfl rfl rfl (by decide +kernel) ⟨Nat.le_of_ble_eq_true rfl, Nat.le_of_ble_eq_true rfl⟩) hK hP hD hS hA [0, 1] wMo_allC (by decide) wMo_adr wMo_all 0 rfl rfl rfl hl.1 rfl (Nat.le_of_ble_eq_true rfl) dX7_become_3 ⟨Nat.zero_le _, Nat.zero_le _⟩ (fun H locs hP hD hS => ?_)
  refine lv_iload_n hx hcd dX7_become_6 rfl (lv_at hl 3 rfl) ?_
  refine lv_icmp_eq (tgt := 61) hx hcd dX7_become_7 (by decide) (fun (c_7 : (g_st M a b) = t) => ?_) (fun (c_7 : ¬ (g_st M a b) = t) => ?_)
  · exact kr_vret hx hcd hr hlocks hK hP hD hS (congrArg (fun M9 => wMo cI z x hh M9) (by first | (rw [g_become, if_pos (show M (54 + 6 * a + b) = t from c_7)]) | (rw [g_become, if_neg (show ¬ M (54 + 6 * a + b) = t from c_7)]))) dX7_become_61
  · refine lv_aload_n hx hcd dX7_become_10 rfl (lv_at hl 0 rfl) ?_
    refine kr_get hx hcd hts uX7 hown hK hP 0 rfl rfl 0 (by decide) (by decide +kernel) (v := .ref (z 1)) rfl dX7_become_11 ?_
    refine lv_bipush (v := nI 54) hx hcd dX7_become_14 (by decide) ?_
    refine lv_bipush (v := nI 6) hx hcd dX7_become_16 (by decide) ?_
    refine lv_iload_n hx hcd dX7_become_18 rfl (lv_at hl 1 rfl) ?_
    refine kr_mul hx hcd dX7_become_19 ?_
    refine kr_add hx hcd dX7_become_20 ?_
    refine lv_iload_n hx hcd dX7_become_21 rfl (lv_at hl 2 rfl) ?_
    refine kr_add hx hcd dX7_become_22 ?_
    refine lv_iload_n hx hcd dX7_become_23 rfl (lv_at hl 3 rfl) ?_
    refine kr_iast hx hcd hK hP hD hS 1 0 rfl rfl (by omega) (by decide) (congrArg (fun k9 => upd M k9 t) (by omega)) (ws2 := wMo cI z x hh (upd M (54 + 6 * a + b) t)) rfl dX7_become_24 (fun H locs hP hD hS => ?_)
    refine lv_aload_n hx hcd dX7_become_25 rfl (lv_at hl 0 rfl) ?_
    refine kr_get hx hcd hts uX7 hown hK hP 0 rfl rfl 0 (by decide) (by decide +kernel) (v := .ref (z 1)) rfl dX7_become_26 ?_
    refine lv_bipush (v := nI 126) hx hcd dX7_become_29 (by decide) ?_
    refine lv_iload_n hx hcd dX7_become_31 rfl (lv_at hl 1 rfl) ?_
    refine kr_add hx hcd dX7_become_32 ?_
    refine lv_dup2_11 hx hcd dX7_become_33 rfl rfl ?_
    refine kr_iald hx hcd hK hP 1 0 rfl rfl (v := (upd M (54 + 6 * a + b) t) (126 + a)) (by omega) (by decide) (congrArg (upd M (54 + 6 * a + b) t) (by omega)) dX7_become_34 ?_
    refine kr_top (w := M (126 + a)) (upd_ne (by omega)) ?_
    refine lv_iconst (v := nI 1) hx hcd dX7_become_35 (by decide) ?_
    refine lv_iadd hx hcd dX7_become_36 ?_
    refine kr_iast hx hcd hK hP hD hS 1 0 rfl rfl (by omega) (by decide) (congrArg (fun k9 => upd (upd M (54 + 6 * a + b) t) k9 ((M (126 + a)) + 1)) (by omega)) (ws2 := wMo cI z x hh (upd (upd M (54 + 6 * a + b) t) (126 + a) ((M (126 + a)) + 1))) rfl dX7_become_37 (fun H locs hP hD hS => ?_)
    refine lv_aload_n hx hcd dX7_become_38 rfl (lv_at hl 0 rfl) ?_
    refine kr_get hx hcd hts uX7 hown hK hP 0 rfl rfl 0 (by decide) (by decide +kernel) (v := .ref (z 1)) rfl dX7_become_39 ?_
    refine lv_bipush (v := nI 90) hx hcd dX7_become_42 (by decide) ?_
    refine lv_bipush (v := nI 6) hx hcd dX7_become_44 (by decide) ?_
    refine lv_iload_n hx hcd dX7_become_46 rfl (lv_at hl 1 rfl) ?_
    refine kr_mul hx hcd dX7_become_47 ?_
    refine kr_add hx hcd dX7_become_48 ?_
    refine lv_iload_n hx hcd dX7_become_49 rfl (lv_at hl 2 rfl) ?_
    refine kr_add hx hcd dX7_become_50 ?_
    refine lv_aload_n hx hcd dX7_become_51 rfl (lv_at hl 0 rfl) ?_
    refine kr_get hx hcd hts uX7 hown hK hP 0 rfl rfl 0 (by decide) (by decide +kernel) (v := .ref (z 1)) rfl dX7_become_52 ?_
    refine lv_bipush (v := nI 126) hx hcd dX7_become_55 (by decide) ?_
    refine lv_iload_n hx hcd dX7_become_57 rfl (lv_at hl 1 rfl) ?_
    refine kr_add hx hcd dX7_become_58 ?_
    refine kr_iald hx hcd hK hP 1 0 rfl rfl (v := (upd (upd M (54 + 6 * a + b) t) (126 + a) ((M (126 + a)) + 1)) (126 + a)) (by omega) (by decide) (congrArg (upd (upd M (54 + 6 * a + b) t) (126 + a) ((M (126 + a)) + 1)) (by omega)) dX7_become_59 ?_
    refine kr_top (w := (M (126 + a)) + 1) upd_eq ?_
    refine kr_iast hx hcd hK hP hD hS 1 0 rfl rfl (by omega) (by decide) (congrArg (fun k9 => upd (upd (upd M (54 + 6 * a + b) t) (126 + a) ((M (126 + a)) + 1)) k9 ((M (126 + a)) + 1)) (by omega)) (ws2 := wMo cI z x hh (upd (upd (upd M (54 + 6 * a + b) t) (126 + a) ((M (126 + a)) + 1)) (90 + 6 * a + b) ((M (126 + a)) + 1))) rfl dX7_become_60 (fun H locs hP hD hS => ?_)
    exact kr_vret hx hcd hr hlocks hK hP hD hS (congrArg (fun M9 => wMo cI z x hh M9) (by first | (rw [g_become, if_pos (show M (54 + 6 * a + b) = t from c_7)]) | (rw [g_become, if_neg (show ¬ M (54 + 6 * a + b) = t from c_7)]))) dX7_become_61

set_option maxHeartbeats 4000000 in
set_option maxRecDepth 100000 in
theorem c_X7_apart (l : Launch) (D : va_G) (cI cB cW cL : ClassId) (z : Nat → Nat) (x : Nat → Int32) (hh : Int64) (sz : Nat) (M : kM) (a : Nat) (b : Nat) (ha : a < 6) (hb : b < 6) : kMi l yX7_apart wsX7_apart ({ frames := 0, cells := 0, slots := 0, locals := 0 }) D vwCl (kT cI cB cW cL) sz [.ref (z 0), .int (nI a), .int (nI b)] (wMo cI z x hh M) (wMo cI z x hh M) (kI (g_apart M a b)) := by
  refine kr_ofi (cc := cX7_apart) (maxL := 3) (ret := (some .boolean)) (by decide) rfl (Nat.le_of_ble_eq_true rfl) ?_
  intro pp ee ss mm args below meth cc AA ls hx hcd hr hts hown hlocks hml hK hP hD hA hl
  have hS : va_S AA ss.heap ss.heap [] := va_S.rf
  have hown : ss.vm.findClass RX7 = some mm.cls := hown
  have hl : lv_has ls 3 [(0, .ref (z 0)), (1, .int (nI a)), (2, .int (nI b))] := hl
  have uX7 : ∀ w ∈ u_ws RX7 TX7 10, w ∈ wsX7_apart := by decide +kernel
  refine lv_aload_n hx hcd dX7_apart_0 rfl (lv_at hl 0 rfl) ?_
  refine kr_get hx hcd hts uX7 hown hK hP 0 rfl rfl 0 (by decide) (by decide +kernel) (v := .ref (z 1)) rfl dX7_apart_1 ?_
  refine lv_sipush (v := nI 240) hx hcd dX7_apart_4 (by decide) ?_
  refine lv_bipush (v := nI 6) hx hcd dX7_apart_7 (by decide) ?_
  refine lv_iload_n hx hcd dX7_apart_9 rfl (lv_at hl 1 rfl) ?_
  refine kr_mul hx hcd dX7_apart_10 ?_
  refine kr_add hx hcd dX7_apart_11 ?_
  refine lv_iload_n hx hcd dX7_apart_12 rfl (lv_at hl 2 rfl) ?_
  refine kr_add hx hcd dX7_apart_13 ?_
  refine kr_iald hx hcd hK hP 1 0 rfl rfl (v := M (240 + 6 * a + b)) (by omega) (by decide) (congrArg M (by omega)) dX7_apart_14 ?_
  refine lv_iconst (v := nI 1) hx hcd dX7_apart_15 (by decide) ?_
  refine lv_icmp_eq (tgt := 38) hx hcd dX7_apart_16 (by decide) (fun (c_16 : (M (240 + 6 * a + b)) = 1) => ?_) (fun (c_16 : ¬ (M (240 + 6 * a + b)) = 1) => ?_)
  · refine lv_iconst (v := nI 1) hx hcd dX7_apart_38 (by decide) ?_
    refine lv_goto (tgt := 43) hx hcd dX7_apart_39 (by decide) ?_
    exact kr_zret hx hcd hr hlocks hK hP hD hS rfl (by simp [g_apart, kI, c_16]; rfl) rfl dX7_apart_43
  · refine lv_aload_n hx hcd dX7_apart_19 rfl (lv_at hl 0 rfl) ?_
    refine kr_get hx hcd hts uX7 hown hK hP 0 rfl rfl 0 (by decide) (by decide +kernel) (v := .ref (z 1)) rfl dX7_apart_20 ?_
    refine lv_sipush (v := nI 240) hx hcd dX7_apart_23 (by decide) ?_
    refine lv_bipush (v := nI 6) hx hcd dX7_apart_26 (by decide) ?_
    refine lv_iload_n hx hcd dX7_apart_28 rfl (lv_at hl 2 rfl) ?_
    refine kr_mul hx hcd dX7_apart_29 ?_
    refine kr_add hx hcd dX7_apart_30 ?_
    refine lv_iload_n hx hcd dX7_apart_31 rfl (lv_at hl 1 rfl) ?_
    refine kr_add hx hcd dX7_apart_32 ?_
    refine kr_iald hx hcd hK hP 1 0 rfl rfl (v := M (240 + 6 * b + a)) (by omega) (by decide) (congrArg M (by omega)) dX7_apart_33 ?_
    refine lv_iconst (v := nI 1) hx hcd dX7_apart_34 (by decide) ?_
    refine lv_icmp_ne (tgt := 42) hx hcd dX7_apart_35 (by decide) (fun (c_35 : ¬ (M (240 + 6 * b + a)) = 1) => ?_) (fun (c_35 : (M (240 + 6 * b + a)) = 1) => ?_)
    · refine lv_iconst (v := nI 0) hx hcd dX7_apart_42 (by decide) ?_
      exact kr_zret hx hcd hr hlocks hK hP hD hS rfl (by simp [g_apart, kI, c_16, c_35]; rfl) rfl dX7_apart_43
    · refine lv_iconst (v := nI 1) hx hcd dX7_apart_38 (by decide) ?_
      refine lv_goto (tgt := 43) hx hcd dX7_apart_39 (by decide) ?_
      exact kr_zret hx hcd hr hlocks hK hP hD hS rfl (by simp [g_apart, kI, c_16, c_35]; rfl) rfl dX7_apart_43

set_option maxHeartbeats 4000000 in
set_option maxRecDepth 100000 in
theorem c_X7_clearViews (l : Launch) (D : va_G) (cI cB cW cL : ClassId) (z : Nat → Nat) (x : Nat → Int32) (hh : Int64) (sz : Nat) (M : kM) (a : Nat) (b : Nat) (ha : a < 6) (hb : b < 6) : kMv l yX7_clearViews wsX7_clearViews ({ frames := 1, cells := 0, slots := 0, locals := 22 }) D vwCl (kT cI cB cW cL) sz [.ref (z 0), .int (nI a), .int (nI b)] (wMo cI z x hh M) (wMo cI z x hh (g_forget M a b)) := by
  refine kr_ofv (cc := cX7_clearViews) (maxL := 4) (ret := none) (by decide) rfl (Nat.le_of_ble_eq_true rfl) ?_
  intro pp ee ss mm args below meth cc AA ls hx hcd hr hts hown hlocks hml hK hP hD hA hl
  have hS : va_S AA ss.heap ss.heap [] := va_S.rf
  have hown : ss.vm.findClass RX7 = some mm.cls := hown
  have hl : lv_has ls 4 [(0, .ref (z 0)), (1, .int (nI a)), (2, .int (nI b))] := hl
  have uX7 : ∀ w ∈ u_ws RX7 TX7 10, w ∈ wsX7_clearViews := by decide +kernel
  refine lv_iconst (v := nI 0) hx hcd dX7_clearViews_0 (by decide) ?_
  refine lv_istore_n (lv' := [(3, .int (nI 0)), (0, .ref (z 0)), (1, .int (nI a)), (2, .int (nI b))]) hx hcd dX7_clearViews_1 rfl hl (by decide) rfl (fun ls hl => ?_)
  refine kr_up (fun i => wMo cI z x hh (g_forgetN M a b i)) (fun i => [(0, .ref (z 0)), (1, .int (nI a)), (2, .int (nI b)), (3, .int (nI i))]) 3 (nL := 4) (fun i hi ih_2 H locs ls hP hD hS hl => ?_) (fun H locs ls hP hD hS hl => ?_) 0 (by omega) hP hD hS (lv_sub hl [1, 2, 3, 0] rfl)
  · have hl : lv_has ls 4 [(0, .ref (z 0)), (1, .int (nI a)), (2, .int (nI b)), (3, .int (nI i))] := hl
    refine lv_iload_n hx hcd dX7_clearViews_2 rfl (lv_at hl 3 rfl) ?_
    refine lv_iconst (v := nI 3) hx hcd dX7_clearViews_3 (by decide) ?_
    refine kr_cge (tgt := 25) hx hcd (by omega) (by omega) dX7_clearViews_4 (by decide) (fun (c_4 : 3 ≤ i) => absurd c_4 (by omega)) (fun (c_4 : i < 3) => ?_)
    refine lv_aload_n hx hcd dX7_clearViews_7 rfl (lv_at hl 0 rfl) ?_
    refine kr_get hx hcd hts uX7 hown hK hP 0 rfl rfl 0 (by decide) (by decide +kernel) (v := .ref (z 1)) rfl dX7_clearViews_8 ?_
    refine lv_iload_n hx hcd dX7_clearViews_11 rfl (lv_at hl 1 rfl) ?_
    refine lv_iload_n hx hcd dX7_clearViews_12 rfl (lv_at hl 2 rfl) ?_
    refine lv_iload_n hx hcd dX7_clearViews_13 rfl (lv_at hl 3 rfl) ?_
    refine kr_Si (As := [.int (nI a), .int (nI b), .int (nI i)]) (rest := [.ref (z 1)]) (ws2 := wMo cI z x hh (g_forgetN M a b i)) ⟨hx, hcd, hml, hown, hts⟩ (c_X7_viewCell l D cI cB cW cL  _ (g_forgetN M a b i) a b i) (va_cwS 3 hts gX7_clearViews_X7_viewCell rfl rfl rfl (by decide +kernel) ⟨Nat.le_of_ble_eq_true rfl, Nat.le_of_ble_eq_true rfl⟩) hK hP hD hS hA [] rfl (by decide) rfl rfl rfl hl.1 rfl (Nat.le_of_ble_eq_true rfl) dX7_clearViews_14 ⟨Nat.zero_le _, Nat.zero_le _⟩ (fun H locs hP hD hS => ?_)
    refine lv_iconst (v := (-1)) hx hcd dX7_clearViews_17 (by decide) ?_
    refine kr_iast hx hcd hK hP hD hS 1 0 rfl rfl (by omega) (by decide) (congrArg (fun k9 => upd (g_forgetN M a b i) k9 (-1)) (by omega)) (ws2 := wMo cI z x hh (upd (g_forgetN M a b i) (132 + 18 * a + 3 * b + i) (-1))) rfl dX7_clearViews_18 (fun H locs hP hD hS => ?_)
    refine kr_iinc (lv' := [(3, .int (nI (i + 1))), (0, .ref (z 0)), (1, .int (nI a)), (2, .int (nI b))]) hx hcd dX7_clearViews_19 hl (k := 3) rfl (by decide) rfl (fun ls hl => ?_)
    refine lv_goto (tgt := 2) hx hcd dX7_clearViews_22 (by decide) ?_
    exact ih_2 H locs ls hP hD hS (lv_sub hl [1, 2, 3, 0] rfl)
  · have hl : lv_has ls 4 [(0, .ref (z 0)), (1, .int (nI a)), (2, .int (nI b)), (3, .int (nI 3))] := hl
    refine lv_iload_n hx hcd dX7_clearViews_2 rfl (lv_at hl 3 rfl) ?_
    refine lv_iconst (v := nI 3) hx hcd dX7_clearViews_3 (by decide) ?_
    refine kr_cge (tgt := 25) hx hcd (by omega) (by omega) dX7_clearViews_4 (by decide) (fun (c_4 : 3 ≤ 3) => ?_) (fun (c_4 : 3 < 3) => absurd c_4 (by omega))
    exact kr_vret hx hcd hr hlocks hK hP hD hS (congrArg (fun M9 => wMo cI z x hh M9) (show g_forgetN M a b 3 = g_forget M a b from rfl)) dX7_clearViews_25

set_option maxHeartbeats 4000000 in
set_option maxRecDepth 100000 in
theorem c_X7_clearAllViews (l : Launch) (D : va_G) (cI cB cW cL : ClassId) (z : Nat → Nat) (x : Nat → Int32) (hh : Int64) (sz : Nat) (M : kM) (a : Nat) (ha : a < 6) : kMv l yX7_clearAllViews wsX7_clearAllViews ({ frames := 2, cells := 0, slots := 0, locals := 45 }) D vwCl (kT cI cB cW cL) sz [.ref (z 0), .int (nI a)] (wMo cI z x hh M) (wMo cI z x hh (g_forgetAll M a)) := by
  refine kr_ofv (cc := cX7_clearAllViews) (maxL := 3) (ret := none) (by decide) rfl (Nat.le_of_ble_eq_true rfl) ?_
  intro pp ee ss mm args below meth cc AA ls hx hcd hr hts hown hlocks hml hK hP hD hA hl
  have hS : va_S AA ss.heap ss.heap [] := va_S.rf
  have hown : ss.vm.findClass RX7 = some mm.cls := hown
  have hl : lv_has ls 3 [(0, .ref (z 0)), (1, .int (nI a))] := hl
  refine lv_iconst (v := nI 0) hx hcd dX7_clearAllViews_0 (by decide) ?_
  refine lv_istore_n (lv' := [(2, .int (nI 0)), (0, .ref (z 0)), (1, .int (nI a))]) hx hcd dX7_clearAllViews_1 rfl hl (by decide) rfl (fun ls hl => ?_)
  refine kr_up (fun i => wMo cI z x hh (g_forgetAllN M a i)) (fun i => [(0, .ref (z 0)), (1, .int (nI a)), (2, .int (nI i))]) 6 (nL := 3) (fun i hi ih_2 H locs ls hP hD hS hl => ?_) (fun H locs ls hP hD hS hl => ?_) 0 (by omega) hP hD hS (lv_sub hl [1, 2, 0] rfl)
  · have hl : lv_has ls 3 [(0, .ref (z 0)), (1, .int (nI a)), (2, .int (nI i))] := hl
    refine lv_iload_n hx hcd dX7_clearAllViews_2 rfl (lv_at hl 2 rfl) ?_
    refine lv_bipush (v := nI 6) hx hcd dX7_clearAllViews_3 (by decide) ?_
    refine kr_cge (tgt := 20) hx hcd (by omega) (by omega) dX7_clearAllViews_5 (by decide) (fun (c_5 : 6 ≤ i) => absurd c_5 (by omega)) (fun (c_5 : i < 6) => ?_)
    refine lv_aload_n hx hcd dX7_clearAllViews_8 rfl (lv_at hl 0 rfl) ?_
    refine lv_iload_n hx hcd dX7_clearAllViews_9 rfl (lv_at hl 1 rfl) ?_
    refine lv_iload_n hx hcd dX7_clearAllViews_10 rfl (lv_at hl 2 rfl) ?_
    refine kr_Vv (As := [.int (nI a), .int (nI i)]) (rest := []) (ws2 := wMo cI z x hh (g_forget (g_forgetAllN M a i) a i)) (q := (RX7, TX7, 10)) ⟨hx, hcd, hml, hown, hts⟩ (c_X7_clearViews l D cI cB cW cL z x hh _ (g_forgetAllN M a i) a i (by omega) (by omega)) (cwV 2 hts gX7_clearAllViews_X7_clearViews rfl rfl rfl (by decide +kernel) ⟨Nat.le_of_ble_eq_true rfl, Nat.le_of_ble_eq_true rfl⟩) hK hP hD hS hA [0, 1] wMo_allC (by decide) wMo_adr wMo_all 0 rfl rfl rfl hl.1 rfl (Nat.le_of_ble_eq_true rfl) dX7_clearAllViews_11 ⟨Nat.zero_le _, Nat.zero_le _⟩ (fun H locs hP hD hS => ?_)
    refine kr_iinc (lv' := [(2, .int (nI (i + 1))), (0, .ref (z 0)), (1, .int (nI a))]) hx hcd dX7_clearAllViews_14 hl (k := 2) rfl (by decide) rfl (fun ls hl => ?_)
    refine lv_goto (tgt := 2) hx hcd dX7_clearAllViews_17 (by decide) ?_
    exact ih_2 H locs ls hP hD hS (lv_sub hl [1, 2, 0] rfl)
  · have hl : lv_has ls 3 [(0, .ref (z 0)), (1, .int (nI a)), (2, .int (nI 6))] := hl
    refine lv_iload_n hx hcd dX7_clearAllViews_2 rfl (lv_at hl 2 rfl) ?_
    refine lv_bipush (v := nI 6) hx hcd dX7_clearAllViews_3 (by decide) ?_
    refine kr_cge (tgt := 20) hx hcd (by omega) (by omega) dX7_clearAllViews_5 (by decide) (fun (c_5 : 6 ≤ 6) => ?_) (fun (c_5 : 6 < 6) => absurd c_5 (by omega))
    exact kr_vret hx hcd hr hlocks hK hP hD hS (congrArg (fun M9 => wMo cI z x hh M9) (show g_forgetAllN M a 6 = g_forgetAll M a from rfl)) dX7_clearAllViews_20

set_option maxHeartbeats 4000000 in
set_option maxRecDepth 100000 in
theorem c_X7_messageAt (l : Launch) (D : va_G) (cI cB cW cL : ClassId) (z : Nat → Nat) (x : Nat → Int32) (hh : Int64) (sz : Nat) (M : kM) (i : Nat) (hI : kInv M) (hi : i < 100000) : kMi l yX7_messageAt wsX7_messageAt ({ frames := 0, cells := 0, slots := 0, locals := 0 }) D vwCl (kT cI cB cW cL) sz [.ref (z 0), .int (nI i)] (wMo cI z x hh M) (wMo cI z x hh M) (nI (g_msg M i)) := by
  refine kr_ofi (cc := cX7_messageAt) (maxL := 2) (ret := (some .int)) (by decide) rfl (Nat.le_of_ble_eq_true rfl) ?_
  intro pp ee ss mm args below meth cc AA ls hx hcd hr hts hown hlocks hml hK hP hD hA hl
  have hS : va_S AA ss.heap ss.heap [] := va_S.rf
  have hown : ss.vm.findClass RX7 = some mm.cls := hown
  have hl : lv_has ls 2 [(0, .ref (z 0)), (1, .int (nI i))] := hl
  have uX7 : ∀ w ∈ u_ws RX7 TX7 10, w ∈ wsX7_messageAt := by decide +kernel
  have e576 := i_hd hI
  have b576 := i_hdlt hI
  have e577 := i_wy hI
  have b577 := i_wyle hI
  refine lv_aload_n hx hcd dX7_messageAt_0 rfl (lv_at hl 0 rfl) ?_
  refine kr_get hx hcd hts uX7 hown hK hP 0 rfl rfl 0 (by decide) (by decide +kernel) (v := .ref (z 1)) rfl dX7_messageAt_1 ?_
  refine lv_sipush (v := nI 276) hx hcd dX7_messageAt_4 (by decide) ?_
  refine lv_aload_n hx hcd dX7_messageAt_7 rfl (lv_at hl 0 rfl) ?_
  refine kr_get hx hcd hts uX7 hown hK hP 0 rfl rfl 0 (by decide) (by decide +kernel) (v := .ref (z 1)) rfl dX7_messageAt_8 ?_
  refine lv_sipush (v := nI 576) hx hcd dX7_messageAt_11 (by decide) ?_
  refine kr_iald hx hcd hK hP 1 0 rfl rfl (v := M 576) (by omega) (by decide) (congrArg M (by omega)) dX7_messageAt_14 ?_
  refine kr_top (w := nI (hdN M)) e576 ?_
  refine lv_iload_n hx hcd dX7_messageAt_15 rfl (lv_at hl 1 rfl) ?_
  refine kr_add hx hcd dX7_messageAt_16 ?_
  refine lv_sipush (v := nI 300) hx hcd dX7_messageAt_17 (by decide) ?_
  refine kr_rem hx hcd (by omega) (by decide) (by decide) dX7_messageAt_20 ?_
  refine kr_add hx hcd dX7_messageAt_21 ?_
  refine kr_iald hx hcd hK hP 1 0 rfl rfl (v := M (276 + (((hdN M) + i) % 300))) (by omega) (by decide) (congrArg M (by omega)) dX7_messageAt_22 ?_
  refine kr_top (w := nI (g_msg M i)) (i_msg hI i).2 ?_
  exact kr_iret hx hcd hr hlocks hK hP hD hS rfl rfl dX7_messageAt_23

set_option maxHeartbeats 4000000 in
set_option maxRecDepth 100000 in
theorem c_X7_part (l : Launch) (D : va_G) (cI cB cW cL : ClassId)  (sz : Nat) (M : kM) (c : Nat) (wh : Nat) (hw : wh < 5) (hlt : c < 2 ^ 31) : kMi l yX7_part wsX7_part ({ frames := 0, cells := 0, slots := 0, locals := 0 }) D vwCl (kT cI cB cW cL) sz [.int (nI c), .int (nI wh)] ([]) ([]) (g_mp c wh) := by
  refine kr_ofi (cc := cX7_part) (maxL := 2) (ret := (some .int)) (by decide) rfl (Nat.le_of_ble_eq_true rfl) ?_
  intro pp ee ss mm args below meth cc AA ls hx hcd hr hts hown hlocks hml hK hP hD hA hl
  have hS : va_S AA ss.heap ss.heap [] := va_S.rf
  have hown : ss.vm.findClass RX7 = some mm.cls := hown
  have hl : lv_has ls 2 [(0, .int (nI c)), (1, .int (nI wh))] := hl
  refine lv_iload_n hx hcd dX7_part_0 rfl (lv_at hl 1 rfl) ?_
  rcases (show wh = 0 ∨ wh = 1 ∨ wh = 2 ∨ wh = 3 ∨ wh = 4 by omega) with rfl | rfl | rfl | rfl | rfl
  · refine lv_tableIn (x := nI 0) (off := 31) (tgt := 32) hx hcd dX7_part_1 (by decide) (by decide) (by decide) (by decide) ?_
    refine lv_iload_n hx hcd dX7_part_32 rfl (lv_at hl 0 rfl) ?_
    refine lv_bipush (v := nI 8) hx hcd dX7_part_33 (by decide) ?_
    refine kr_rem hx hcd (by omega) (by decide) (by decide) dX7_part_35 ?_
    exact kr_iret hx hcd hr hlocks hK hP hD hS rfl rfl dX7_part_36
  · refine lv_tableIn (x := nI 1) (off := 36) (tgt := 37) hx hcd dX7_part_1 (by decide) (by decide) (by decide) (by decide) ?_
    refine lv_iload_n hx hcd dX7_part_37 rfl (lv_at hl 0 rfl) ?_
    refine lv_bipush (v := nI 8) hx hcd dX7_part_38 (by decide) ?_
    refine kr_div hx hcd (by omega) (by decide) (by decide) dX7_part_40 ?_
    refine lv_bipush (v := nI 8) hx hcd dX7_part_41 (by decide) ?_
    refine kr_rem hx hcd (by omega) (by decide) (by decide) dX7_part_43 ?_
    exact kr_iret hx hcd hr hlocks hK hP hD hS rfl rfl dX7_part_44
  · refine lv_tableIn (x := nI 2) (off := 44) (tgt := 45) hx hcd dX7_part_1 (by decide) (by decide) (by decide) (by decide) ?_
    refine lv_iload_n hx hcd dX7_part_45 rfl (lv_at hl 0 rfl) ?_
    refine lv_bipush (v := nI 64) hx hcd dX7_part_46 (by decide) ?_
    refine kr_div hx hcd (by omega) (by decide) (by decide) dX7_part_48 ?_
    refine lv_bipush (v := nI 8) hx hcd dX7_part_49 (by decide) ?_
    refine kr_rem hx hcd (by omega) (by decide) (by decide) dX7_part_51 ?_
    exact kr_iret hx hcd hr hlocks hK hP hD hS rfl rfl dX7_part_52
  · refine lv_tableIn (x := nI 3) (off := 52) (tgt := 53) hx hcd dX7_part_1 (by decide) (by decide) (by decide) (by decide) ?_
    refine lv_iload_n hx hcd dX7_part_53 rfl (lv_at hl 0 rfl) ?_
    refine lv_sipush (v := nI 512) hx hcd dX7_part_54 (by decide) ?_
    refine kr_div hx hcd (by omega) (by decide) (by decide) dX7_part_57 ?_
    refine lv_iconst (v := nI 4) hx hcd dX7_part_58 (by decide) ?_
    refine kr_rem hx hcd (by omega) (by decide) (by decide) dX7_part_59 ?_
    exact kr_iret hx hcd hr hlocks hK hP hD hS rfl rfl dX7_part_60
  · refine lv_tableOut (x := nI 4) (tgt := 61) hx hcd dX7_part_1 (by decide) (by decide) ?_
    refine lv_iload_n hx hcd dX7_part_61 rfl (lv_at hl 0 rfl) ?_
    refine lv_sipush (v := nI 2048) hx hcd dX7_part_62 (by decide) ?_
    refine kr_div hx hcd (by omega) (by decide) (by decide) dX7_part_65 ?_
    exact kr_iret hx hcd hr hlocks hK hP hD hS rfl rfl dX7_part_66
