set_option maxHeartbeats 4000000 in
set_option maxRecDepth 100000 in
theorem c_X3_isOn (l : Launch) (D : va_G) (cI cB cW cL : ClassId) (q : Nat → Nat) (sz : Nat) (M : kM) (a : Nat) (s : Nat) (ha : a < 6) (hs : s < 3) : kMi l yX3_isOn wsX3_isOn ({ frames := 0, cells := 0, slots := 0, locals := 0 }) D vwCl (kT cI cB cW cL) sz [.ref (q 1), .int (nI a), .int (nI s)] (wSe cI q M) (wSe cI q M) (kI (g_on M a s)) := by
  refine kr_ofi (cc := cX3_isOn) (maxL := 3) (ret := (some .boolean)) (by decide) rfl (Nat.le_of_ble_eq_true rfl) ?_
  intro pp ee ss mm args below meth cc AA ls hx hcd hr hts hown hlocks hml hK hP hD hA hl
  have hS : va_S AA ss.heap ss.heap [] := va_S.rf
  have hown : ss.vm.findClass RX3 = some mm.cls := hown
  have hl : lv_has ls 3 [(0, .ref (q 1)), (1, .int (nI a)), (2, .int (nI s))] := hl
  have uX3 : ∀ w ∈ u_ws RX3 TX3 3, w ∈ wsX3_isOn := by decide +kernel
  refine lv_aload_n hx hcd dX3_isOn_0 rfl (lv_at hl 0 rfl) ?_
  refine kr_get hx hcd hts uX3 hown hK hP 0 rfl rfl 0 (by decide) (by decide +kernel) (v := .ref (q 2)) rfl dX3_isOn_1 ?_
  refine lv_iload_n hx hcd dX3_isOn_4 rfl (lv_at hl 1 rfl) ?_
  refine lv_iconst (v := nI 3) hx hcd dX3_isOn_5 (by decide) ?_
  refine kr_mul hx hcd dX3_isOn_6 ?_
  refine lv_iload_n hx hcd dX3_isOn_7 rfl (lv_at hl 2 rfl) ?_
  refine kr_add hx hcd dX3_isOn_8 ?_
  refine kr_iald hx hcd hK hP 1 0 rfl rfl (v := M (9 * a + 3 * s)) (by omega) (by decide) (vs_at (by omega) (by omega)) dX3_isOn_9 ?_
  refine lv_iconst (v := nI 1) hx hcd dX3_isOn_10 (by decide) ?_
  refine lv_icmp_ne (tgt := 18) hx hcd dX3_isOn_11 (by decide) (fun (c_11 : ¬ (M (9 * a + 3 * s)) = 1) => ?_) (fun (c_11 : (M (9 * a + 3 * s)) = 1) => ?_)
  · refine lv_iconst (v := nI 0) hx hcd dX3_isOn_18 (by decide) ?_
    exact kr_zret hx hcd hr hlocks hK hP hD hS rfl (by simp [g_on, kI, c_11]; rfl) rfl dX3_isOn_19
  · refine lv_iconst (v := nI 1) hx hcd dX3_isOn_14 (by decide) ?_
    refine lv_goto (tgt := 19) hx hcd dX3_isOn_15 (by decide) ?_
    exact kr_zret hx hcd hr hlocks hK hP hD hS rfl (by simp [g_on, kI, c_11]; rfl) rfl dX3_isOn_19

set_option maxHeartbeats 4000000 in
set_option maxRecDepth 100000 in
theorem c_X3_moodOf (l : Launch) (D : va_G) (cI cB cW cL : ClassId) (q : Nat → Nat) (sz : Nat) (M : kM) (a : Nat) (s : Nat) (ha : a < 6) (hs : s < 3) : kMi l yX3_moodOf wsX3_moodOf ({ frames := 0, cells := 0, slots := 0, locals := 0 }) D vwCl (kT cI cB cW cL) sz [.ref (q 1), .int (nI a), .int (nI s)] (wSe cI q M) (wSe cI q M) (M (2 + 9 * a + 3 * s)) := by
  refine kr_ofi (cc := cX3_moodOf) (maxL := 3) (ret := (some .int)) (by decide) rfl (Nat.le_of_ble_eq_true rfl) ?_
  intro pp ee ss mm args below meth cc AA ls hx hcd hr hts hown hlocks hml hK hP hD hA hl
  have hS : va_S AA ss.heap ss.heap [] := va_S.rf
  have hown : ss.vm.findClass RX3 = some mm.cls := hown
  have hl : lv_has ls 3 [(0, .ref (q 1)), (1, .int (nI a)), (2, .int (nI s))] := hl
  have uX3 : ∀ w ∈ u_ws RX3 TX3 3, w ∈ wsX3_moodOf := by decide +kernel
  refine lv_aload_n hx hcd dX3_moodOf_0 rfl (lv_at hl 0 rfl) ?_
  refine kr_get hx hcd hts uX3 hown hK hP 0 rfl rfl 2 (by decide) (by decide +kernel) (v := .ref (q 4)) rfl dX3_moodOf_1 ?_
  refine lv_iload_n hx hcd dX3_moodOf_4 rfl (lv_at hl 1 rfl) ?_
  refine lv_iconst (v := nI 3) hx hcd dX3_moodOf_5 (by decide) ?_
  refine kr_mul hx hcd dX3_moodOf_6 ?_
  refine lv_iload_n hx hcd dX3_moodOf_7 rfl (lv_at hl 2 rfl) ?_
  refine kr_add hx hcd dX3_moodOf_8 ?_
  refine kr_iald hx hcd hK hP 3 0 rfl rfl (v := M (2 + 9 * a + 3 * s)) (by omega) (by decide) (vs_at (by omega) (by omega)) dX3_moodOf_9 ?_
  exact kr_iret hx hcd hr hlocks hK hP hD hS rfl rfl dX3_moodOf_10

set_option maxHeartbeats 4000000 in
set_option maxRecDepth 100000 in
theorem c_X3_onCount (l : Launch) (D : va_G) (cI cB cW cL : ClassId) (q : Nat → Nat) (sz : Nat) (M : kM) (a : Nat) (ha : a < 6) : kMi l yX3_onCount wsX3_onCount ({ frames := 0, cells := 0, slots := 0, locals := 0 }) D vwCl (kT cI cB cW cL) sz [.ref (q 1), .int (nI a)] (wSe cI q M) (wSe cI q M) (g_cnt M a) := by
  refine kr_ofi (cc := cX3_onCount) (maxL := 4) (ret := (some .int)) (by decide) rfl (Nat.le_of_ble_eq_true rfl) ?_
  intro pp ee ss mm args below meth cc AA ls hx hcd hr hts hown hlocks hml hK hP hD hA hl
  have hS : va_S AA ss.heap ss.heap [] := va_S.rf
  have hown : ss.vm.findClass RX3 = some mm.cls := hown
  have hl : lv_has ls 4 [(0, .ref (q 1)), (1, .int (nI a))] := hl
  have uX3 : ∀ w ∈ u_ws RX3 TX3 3, w ∈ wsX3_onCount := by decide +kernel
  refine lv_iconst (v := nI 0) hx hcd dX3_onCount_0 (by decide) ?_
  refine lv_istore_n (lv' := [(2, .int (nI 0)), (0, .ref (q 1)), (1, .int (nI a))]) hx hcd dX3_onCount_1 rfl hl (by decide) rfl (fun ls hl => ?_)
  refine lv_iconst (v := nI 0) hx hcd dX3_onCount_2 (by decide) ?_
  refine lv_istore_n (lv' := [(3, .int (nI 0)), (2, .int (nI 0)), (0, .ref (q 1)), (1, .int (nI a))]) hx hcd dX3_onCount_3 rfl hl (by decide) rfl (fun ls hl => ?_)
  refine kr_up (fun i => wSe cI q M) (fun i => [(0, .ref (q 1)), (1, .int (nI a)), (2, .int (g_cntN M a i)), (3, .int (nI i))]) 3 (nL := 4) (fun i hi ih_4 H locs ls hP hD hS hl => ?_) (fun H locs ls hP hD hS hl => ?_) 0 (by omega) hP hD hS (lv_sub hl [2, 3, 1, 0] rfl)
  · have hl : lv_has ls 4 [(0, .ref (q 1)), (1, .int (nI a)), (2, .int (g_cntN M a i)), (3, .int (nI i))] := hl
    refine lv_iload_n hx hcd dX3_onCount_4 rfl (lv_at hl 3 rfl) ?_
    refine lv_iconst (v := nI 3) hx hcd dX3_onCount_5 (by decide) ?_
    refine kr_cge (tgt := 28) hx hcd (by omega) (by omega) dX3_onCount_6 (by decide) (fun (c_6 : 3 ≤ i) => absurd c_6 (by omega)) (fun (c_6 : i < 3) => ?_)
    refine lv_iload_n hx hcd dX3_onCount_9 rfl (lv_at hl 2 rfl) ?_
    refine lv_aload_n hx hcd dX3_onCount_10 rfl (lv_at hl 0 rfl) ?_
    refine kr_get hx hcd hts uX3 hown hK hP 0 rfl rfl 0 (by decide) (by decide +kernel) (v := .ref (q 2)) rfl dX3_onCount_11 ?_
    refine lv_iload_n hx hcd dX3_onCount_14 rfl (lv_at hl 1 rfl) ?_
    refine lv_iconst (v := nI 3) hx hcd dX3_onCount_15 (by decide) ?_
    refine kr_mul hx hcd dX3_onCount_16 ?_
    refine lv_iload_n hx hcd dX3_onCount_17 rfl (lv_at hl 3 rfl) ?_
    refine kr_add hx hcd dX3_onCount_18 ?_
    refine kr_iald hx hcd hK hP 1 0 rfl rfl (v := M (9 * a + 3 * i)) (by omega) (by decide) (vs_at (by omega) (by omega)) dX3_onCount_19 ?_
    refine lv_iadd hx hcd dX3_onCount_20 ?_
    refine lv_istore_n (lv' := [(2, .int ((g_cntN M a i) + (M (9 * a + 3 * i)))), (0, .ref (q 1)), (1, .int (nI a)), (3, .int (nI i))]) hx hcd dX3_onCount_21 rfl hl (by decide) rfl (fun ls hl => ?_)
    refine kr_iinc (lv' := [(3, .int (nI (i + 1))), (2, .int ((g_cntN M a i) + (M (9 * a + 3 * i)))), (0, .ref (q 1)), (1, .int (nI a))]) hx hcd dX3_onCount_22 hl (k := 3) rfl (by decide) rfl (fun ls hl => ?_)
    refine lv_goto (tgt := 4) hx hcd dX3_onCount_25 (by decide) ?_
    exact ih_4 H locs ls hP hD hS (lv_sub hl [2, 3, 1, 0] rfl)
  · have hl : lv_has ls 4 [(0, .ref (q 1)), (1, .int (nI a)), (2, .int (g_cntN M a 3)), (3, .int (nI 3))] := hl
    refine lv_iload_n hx hcd dX3_onCount_4 rfl (lv_at hl 3 rfl) ?_
    refine lv_iconst (v := nI 3) hx hcd dX3_onCount_5 (by decide) ?_
    refine kr_cge (tgt := 28) hx hcd (by omega) (by omega) dX3_onCount_6 (by decide) (fun (c_6 : 3 ≤ 3) => ?_) (fun (c_6 : 3 < 3) => absurd c_6 (by omega))
    refine lv_iload_n hx hcd dX3_onCount_28 rfl (lv_at hl 2 rfl) ?_
    exact kr_iret hx hcd hr hlocks hK hP hD hS rfl rfl dX3_onCount_29

set_option maxHeartbeats 4000000 in
set_option maxRecDepth 100000 in
theorem c_X3_isThere (l : Launch) (D : va_G) (cI cB cW cL : ClassId) (q : Nat → Nat) (sz : Nat) (M : kM) (a : Nat) (ha : a < 6) : kMi l yX3_isThere wsX3_isThere ({ frames := 1, cells := 0, slots := 0, locals := 23 }) D vwCl (kT cI cB cW cL) sz [.ref (q 1), .int (nI a)] (wSe cI q M) (wSe cI q M) (kI (g_there M a)) := by
  refine kr_ofi (cc := cX3_isThere) (maxL := 2) (ret := (some .boolean)) (by decide) rfl (Nat.le_of_ble_eq_true rfl) ?_
  intro pp ee ss mm args below meth cc AA ls hx hcd hr hts hown hlocks hml hK hP hD hA hl
  have hS : va_S AA ss.heap ss.heap [] := va_S.rf
  have hown : ss.vm.findClass RX3 = some mm.cls := hown
  have hl : lv_has ls 2 [(0, .ref (q 1)), (1, .int (nI a))] := hl
  refine lv_aload_n hx hcd dX3_isThere_0 rfl (lv_at hl 0 rfl) ?_
  refine lv_iload_n hx hcd dX3_isThere_1 rfl (lv_at hl 1 rfl) ?_
  refine kr_Vi (As := [.int (nI a)]) (rest := []) (ws2 := wSe cI q M) (q := (RX3, TX3, 3)) ⟨hx, hcd, hml, hown, hts⟩ (c_X3_onCount l D cI cB cW cL q _ M a (by omega)) (cwV 1 hts gX3_isThere_X3_onCount rfl rfl rfl (by decide +kernel) ⟨Nat.le_of_ble_eq_true rfl, Nat.le_of_ble_eq_true rfl⟩) hK hP hD hS hA [0, 1, 2, 3] wSe_allC (by decide) wSe_adr wSe_all 0 rfl rfl rfl hl.1 rfl (Nat.le_of_ble_eq_true rfl) dX3_isThere_2 ⟨Nat.zero_le _, Nat.zero_le _⟩ (fun H locs hP hD hS => ?_)
  refine lv_if_le (tgt := 12) hx hcd dX3_isThere_5 (by decide) (fun (c_5 : (g_cnt M a) ≤ 0) => ?_) (fun (c_5 : ¬ (g_cnt M a) ≤ 0) => ?_)
  · refine lv_iconst (v := nI 0) hx hcd dX3_isThere_12 (by decide) ?_
    exact kr_zret hx hcd hr hlocks hK hP hD hS rfl (by simp [g_there, kI, c_5]; rfl) rfl dX3_isThere_13
  · refine lv_iconst (v := nI 1) hx hcd dX3_isThere_8 (by decide) ?_
    refine lv_goto (tgt := 13) hx hcd dX3_isThere_9 (by decide) ?_
    exact kr_zret hx hcd hr hlocks hK hP hD hS rfl (by simp [g_there, kI, c_5]; rfl) rfl dX3_isThere_13

set_option maxHeartbeats 4000000 in
set_option maxRecDepth 100000 in
theorem c_X3_set (l : Launch) (D : va_G) (cI cB cW cL : ClassId) (q : Nat → Nat) (sz : Nat) (M : kM) (a : Nat) (s : Nat) (rk : Int32) (md : Int32) (ha : a < 6) (hs : s < 3) : kMv l yX3_set wsX3_set ({ frames := 0, cells := 0, slots := 0, locals := 0 }) D vwCl (kT cI cB cW cL) sz [.ref (q 1), .int (nI a), .int (nI s), .int rk, .int md] (wSe cI q M) (wSe cI q (g_set M a s rk md)) := by
  refine kr_ofv (cc := cX3_set) (maxL := 6) (ret := none) (by decide) rfl (Nat.le_of_ble_eq_true rfl) ?_
  intro pp ee ss mm args below meth cc AA ls hx hcd hr hts hown hlocks hml hK hP hD hA hl
  have hS : va_S AA ss.heap ss.heap [] := va_S.rf
  have hown : ss.vm.findClass RX3 = some mm.cls := hown
  have hl : lv_has ls 6 [(0, .ref (q 1)), (1, .int (nI a)), (2, .int (nI s)), (3, .int rk), (4, .int md)] := hl
  have uX3 : ∀ w ∈ u_ws RX3 TX3 3, w ∈ wsX3_set := by decide +kernel
  refine lv_iload_n hx hcd dX3_set_0 rfl (lv_at hl 1 rfl) ?_
  refine lv_iconst (v := nI 3) hx hcd dX3_set_1 (by decide) ?_
  refine kr_mul hx hcd dX3_set_2 ?_
  refine lv_iload_n hx hcd dX3_set_3 rfl (lv_at hl 2 rfl) ?_
  refine kr_add hx hcd dX3_set_4 ?_
  refine lv_istore (lv' := [(5, .int (nI ((a * 3) + s))), (0, .ref (q 1)), (1, .int (nI a)), (2, .int (nI s)), (3, .int rk), (4, .int md)]) hx hcd dX3_set_5 hl (by decide) rfl (fun ls hl => ?_)
  refine lv_aload_n hx hcd dX3_set_7 rfl (lv_at hl 1 rfl) ?_
  refine kr_get hx hcd hts uX3 hown hK hP 0 rfl rfl 0 (by decide) (by decide +kernel) (v := .ref (q 2)) rfl dX3_set_8 ?_
  refine lv_iload hx hcd dX3_set_11 (lv_at hl 0 rfl) ?_
  refine lv_iconst (v := nI 1) hx hcd dX3_set_13 (by decide) ?_
  refine kr_iast hx hcd hK hP hD hS 1 0 rfl rfl (by omega) (by decide) (vs_upd (by omega) (by omega)) (ws2 := wSe cI q (upd M (9 * a + 3 * s) 1)) (se_s1 (fun k hk => upd_ne (by omega))) dX3_set_14 (fun H locs hP hD hS => ?_)
  refine lv_aload_n hx hcd dX3_set_15 rfl (lv_at hl 1 rfl) ?_
  refine kr_get hx hcd hts uX3 hown hK hP 0 rfl rfl 1 (by decide) (by decide +kernel) (v := .ref (q 3)) rfl dX3_set_16 ?_
  refine lv_iload hx hcd dX3_set_19 (lv_at hl 0 rfl) ?_
  refine lv_iload_n hx hcd dX3_set_21 rfl (lv_at hl 4 rfl) ?_
  refine kr_iast hx hcd hK hP hD hS 2 0 rfl rfl (by omega) (by decide) (vs_upd (by omega) (by omega)) (ws2 := wSe cI q (upd (upd M (9 * a + 3 * s) 1) (1 + 9 * a + 3 * s) rk)) (se_s2 (fun k hk => upd_ne (by omega))) dX3_set_22 (fun H locs hP hD hS => ?_)
  refine lv_aload_n hx hcd dX3_set_23 rfl (lv_at hl 1 rfl) ?_
  refine kr_get hx hcd hts uX3 hown hK hP 0 rfl rfl 2 (by decide) (by decide +kernel) (v := .ref (q 4)) rfl dX3_set_24 ?_
  refine lv_iload hx hcd dX3_set_27 (lv_at hl 0 rfl) ?_
  refine lv_iload hx hcd dX3_set_29 (lv_at hl 5 rfl) ?_
  refine kr_iast hx hcd hK hP hD hS 3 0 rfl rfl (by omega) (by decide) (vs_upd (by omega) (by omega)) (ws2 := wSe cI q (upd (upd (upd M (9 * a + 3 * s) 1) (1 + 9 * a + 3 * s) rk) (2 + 9 * a + 3 * s) md)) (se_s3 (fun k hk => upd_ne (by omega))) dX3_set_31 (fun H locs hP hD hS => ?_)
  exact kr_vret hx hcd hr hlocks hK hP hD hS (congrArg (fun M9 => wSe cI q M9) (show upd (upd (upd M (9 * a + 3 * s) 1) (1 + 9 * a + 3 * s) rk) (2 + 9 * a + 3 * s) md = g_set M a s rk md from rfl)) dX3_set_32

set_option maxHeartbeats 4000000 in
set_option maxRecDepth 100000 in
theorem c_X3_clear (l : Launch) (D : va_G) (cI cB cW cL : ClassId) (q : Nat → Nat) (sz : Nat) (M : kM) (a : Nat) (s : Nat) (ha : a < 6) (hs : s < 3) : kMv l yX3_clear wsX3_clear ({ frames := 0, cells := 0, slots := 0, locals := 0 }) D vwCl (kT cI cB cW cL) sz [.ref (q 1), .int (nI a), .int (nI s)] (wSe cI q M) (wSe cI q (upd M (9 * a + 3 * s) 0)) := by
  refine kr_ofv (cc := cX3_clear) (maxL := 3) (ret := none) (by decide) rfl (Nat.le_of_ble_eq_true rfl) ?_
  intro pp ee ss mm args below meth cc AA ls hx hcd hr hts hown hlocks hml hK hP hD hA hl
  have hS : va_S AA ss.heap ss.heap [] := va_S.rf
  have hown : ss.vm.findClass RX3 = some mm.cls := hown
  have hl : lv_has ls 3 [(0, .ref (q 1)), (1, .int (nI a)), (2, .int (nI s))] := hl
  have uX3 : ∀ w ∈ u_ws RX3 TX3 3, w ∈ wsX3_clear := by decide +kernel
  refine lv_aload_n hx hcd dX3_clear_0 rfl (lv_at hl 0 rfl) ?_
  refine kr_get hx hcd hts uX3 hown hK hP 0 rfl rfl 0 (by decide) (by decide +kernel) (v := .ref (q 2)) rfl dX3_clear_1 ?_
  refine lv_iload_n hx hcd dX3_clear_4 rfl (lv_at hl 1 rfl) ?_
  refine lv_iconst (v := nI 3) hx hcd dX3_clear_5 (by decide) ?_
  refine kr_mul hx hcd dX3_clear_6 ?_
  refine lv_iload_n hx hcd dX3_clear_7 rfl (lv_at hl 2 rfl) ?_
  refine kr_add hx hcd dX3_clear_8 ?_
  refine lv_iconst (v := nI 0) hx hcd dX3_clear_9 (by decide) ?_
  refine kr_iast hx hcd hK hP hD hS 1 0 rfl rfl (by omega) (by decide) (vs_upd (by omega) (by omega)) (ws2 := wSe cI q (upd M (9 * a + 3 * s) 0)) (se_s1 (fun k hk => upd_ne (by omega))) dX3_clear_10 (fun H locs hP hD hS => ?_)
  exact kr_vret hx hcd hr hlocks hK hP hD hS rfl dX3_clear_11

set_option maxHeartbeats 4000000 in
set_option maxRecDepth 100000 in
theorem c_X1_state (l : Launch) (D : va_G) (cI cB cW cL : ClassId) (q : Nat → Nat) (sz : Nat) (M : kM) (a : Nat) (b : Nat) (ha : a < 6) (hb : b < 6) : kMi l yX1_state wsX1_state ({ frames := 0, cells := 0, slots := 0, locals := 0 }) D vwCl (kT cI cB cW cL) sz [.ref (q 5), .int (nI a), .int (nI b)] (wRo cI q M) (wRo cI q M) (g_st M a b) := by
  refine kr_ofi (cc := cX1_state) (maxL := 3) (ret := (some .int)) (by decide) rfl (Nat.le_of_ble_eq_true rfl) ?_
  intro pp ee ss mm args below meth cc AA ls hx hcd hr hts hown hlocks hml hK hP hD hA hl
  have hS : va_S AA ss.heap ss.heap [] := va_S.rf
  have hown : ss.vm.findClass RX1 = some mm.cls := hown
  have hl : lv_has ls 3 [(0, .ref (q 5)), (1, .int (nI a)), (2, .int (nI b))] := hl
  have uX1 : ∀ w ∈ u_ws RX1 TX1 3, w ∈ wsX1_state := by decide +kernel
  refine lv_aload_n hx hcd dX1_state_0 rfl (lv_at hl 0 rfl) ?_
  refine kr_get hx hcd hts uX1 hown hK hP 0 rfl rfl 0 (by decide) (by decide +kernel) (v := .ref (q 6)) rfl dX1_state_1 ?_
  refine lv_iload_n hx hcd dX1_state_4 rfl (lv_at hl 1 rfl) ?_
  refine lv_bipush (v := nI 6) hx hcd dX1_state_5 (by decide) ?_
  refine kr_mul hx hcd dX1_state_7 ?_
  refine lv_iload_n hx hcd dX1_state_8 rfl (lv_at hl 2 rfl) ?_
  refine kr_add hx hcd dX1_state_9 ?_
  refine kr_iald hx hcd hK hP 1 0 rfl rfl (v := M (54 + 6 * a + b)) (by omega) (by decide) (vw_at (by omega) (by omega)) dX1_state_10 ?_
  exact kr_iret hx hcd hr hlocks hK hP hD hS rfl rfl dX1_state_11

set_option maxHeartbeats 4000000 in
set_option maxRecDepth 100000 in
theorem c_X1_entryVersion (l : Launch) (D : va_G) (cI cB cW cL : ClassId) (q : Nat → Nat) (sz : Nat) (M : kM) (a : Nat) (b : Nat) (ha : a < 6) (hb : b < 6) : kMi l yX1_entryVersion wsX1_entryVersion ({ frames := 0, cells := 0, slots := 0, locals := 0 }) D vwCl (kT cI cB cW cL) sz [.ref (q 5), .int (nI a), .int (nI b)] (wRo cI q M) (wRo cI q M) (M (90 + 6 * a + b)) := by
  refine kr_ofi (cc := cX1_entryVersion) (maxL := 3) (ret := (some .int)) (by decide) rfl (Nat.le_of_ble_eq_true rfl) ?_
  intro pp ee ss mm args below meth cc AA ls hx hcd hr hts hown hlocks hml hK hP hD hA hl
  have hS : va_S AA ss.heap ss.heap [] := va_S.rf
  have hown : ss.vm.findClass RX1 = some mm.cls := hown
  have hl : lv_has ls 3 [(0, .ref (q 5)), (1, .int (nI a)), (2, .int (nI b))] := hl
  have uX1 : ∀ w ∈ u_ws RX1 TX1 3, w ∈ wsX1_entryVersion := by decide +kernel
  refine lv_aload_n hx hcd dX1_entryVersion_0 rfl (lv_at hl 0 rfl) ?_
  refine kr_get hx hcd hts uX1 hown hK hP 0 rfl rfl 1 (by decide) (by decide +kernel) (v := .ref (q 7)) rfl dX1_entryVersion_1 ?_
  refine lv_iload_n hx hcd dX1_entryVersion_4 rfl (lv_at hl 1 rfl) ?_
  refine lv_bipush (v := nI 6) hx hcd dX1_entryVersion_5 (by decide) ?_
  refine kr_mul hx hcd dX1_entryVersion_7 ?_
  refine lv_iload_n hx hcd dX1_entryVersion_8 rfl (lv_at hl 2 rfl) ?_
  refine kr_add hx hcd dX1_entryVersion_9 ?_
  refine kr_iald hx hcd hK hP 2 0 rfl rfl (v := M (90 + 6 * a + b)) (by omega) (by decide) (vw_at (by omega) (by omega)) dX1_entryVersion_10 ?_
  exact kr_iret hx hcd hr hlocks hK hP hD hS rfl rfl dX1_entryVersion_11

set_option maxHeartbeats 4000000 in
set_option maxRecDepth 100000 in
theorem c_X1_rosterVersion (l : Launch) (D : va_G) (cI cB cW cL : ClassId) (q : Nat → Nat) (sz : Nat) (M : kM) (a : Nat) (ha : a < 6) : kMi l yX1_rosterVersion wsX1_rosterVersion ({ frames := 0, cells := 0, slots := 0, locals := 0 }) D vwCl (kT cI cB cW cL) sz [.ref (q 5), .int (nI a)] (wRo cI q M) (wRo cI q M) (M (126 + a)) := by
  refine kr_ofi (cc := cX1_rosterVersion) (maxL := 2) (ret := (some .int)) (by decide) rfl (Nat.le_of_ble_eq_true rfl) ?_
  intro pp ee ss mm args below meth cc AA ls hx hcd hr hts hown hlocks hml hK hP hD hA hl
  have hS : va_S AA ss.heap ss.heap [] := va_S.rf
  have hown : ss.vm.findClass RX1 = some mm.cls := hown
  have hl : lv_has ls 2 [(0, .ref (q 5)), (1, .int (nI a))] := hl
  have uX1 : ∀ w ∈ u_ws RX1 TX1 3, w ∈ wsX1_rosterVersion := by decide +kernel
  refine lv_aload_n hx hcd dX1_rosterVersion_0 rfl (lv_at hl 0 rfl) ?_
  refine kr_get hx hcd hts uX1 hown hK hP 0 rfl rfl 2 (by decide) (by decide +kernel) (v := .ref (q 8)) rfl dX1_rosterVersion_1 ?_
  refine lv_iload_n hx hcd dX1_rosterVersion_4 rfl (lv_at hl 1 rfl) ?_
  refine kr_iald hx hcd hK hP 3 0 rfl rfl (v := M (126 + a)) (by omega) (by decide) (vw_at (by omega) (by omega)) dX1_rosterVersion_5 ?_
  exact kr_iret hx hcd hr hlocks hK hP hD hS rfl rfl dX1_rosterVersion_6

set_option maxHeartbeats 4000000 in
set_option maxRecDepth 100000 in
theorem c_X1_hasAny (l : Launch) (D : va_G) (cI cB cW cL : ClassId) (q : Nat → Nat) (sz : Nat) (M : kM) (a : Nat) (b : Nat) (k : Int32) (ha : a < 6) (hb : b < 6) : kMi l yX1_hasAny wsX1_hasAny ({ frames := 0, cells := 0, slots := 0, locals := 0 }) D vwCl (kT cI cB cW cL) sz [.ref (q 5), .int (nI a), .int (nI b), .int k] (wRo cI q M) (wRo cI q M) (kI (g_has M a b k)) := by
  refine kr_ofi (cc := cX1_hasAny) (maxL := 4) (ret := (some .boolean)) (by decide) rfl (Nat.le_of_ble_eq_true rfl) ?_
  intro pp ee ss mm args below meth cc AA ls hx hcd hr hts hown hlocks hml hK hP hD hA hl
  have hS : va_S AA ss.heap ss.heap [] := va_S.rf
  have hown : ss.vm.findClass RX1 = some mm.cls := hown
  have hl : lv_has ls 4 [(0, .ref (q 5)), (1, .int (nI a)), (2, .int (nI b)), (3, .int k)] := hl
  have uX1 : ∀ w ∈ u_ws RX1 TX1 3, w ∈ wsX1_hasAny := by decide +kernel
  refine lv_aload_n hx hcd dX1_hasAny_0 rfl (lv_at hl 0 rfl) ?_
  refine kr_get hx hcd hts uX1 hown hK hP 0 rfl rfl 0 (by decide) (by decide +kernel) (v := .ref (q 6)) rfl dX1_hasAny_1 ?_
  refine lv_iload_n hx hcd dX1_hasAny_4 rfl (lv_at hl 1 rfl) ?_
  refine lv_bipush (v := nI 6) hx hcd dX1_hasAny_5 (by decide) ?_
  refine kr_mul hx hcd dX1_hasAny_7 ?_
  refine lv_iload_n hx hcd dX1_hasAny_8 rfl (lv_at hl 2 rfl) ?_
  refine kr_add hx hcd dX1_hasAny_9 ?_
  refine kr_iald hx hcd hK hP 1 0 rfl rfl (v := M (54 + 6 * a + b)) (by omega) (by decide) (vw_at (by omega) (by omega)) dX1_hasAny_10 ?_
  refine lv_iload_n hx hcd dX1_hasAny_11 rfl (lv_at hl 3 rfl) ?_
  refine lv_iand hx hcd dX1_hasAny_12 ?_
  refine lv_if_eq (tgt := 20) hx hcd dX1_hasAny_13 (by decide) (fun (c_13 : ((M (54 + 6 * a + b)) &&& k) = 0) => ?_) (fun (c_13 : ¬ ((M (54 + 6 * a + b)) &&& k) = 0) => ?_)
  · refine lv_iconst (v := nI 0) hx hcd dX1_hasAny_20 (by decide) ?_
    exact kr_zret hx hcd hr hlocks hK hP hD hS rfl (by simp [g_has, kI, c_13]; rfl) rfl dX1_hasAny_21
  · refine lv_iconst (v := nI 1) hx hcd dX1_hasAny_16 (by decide) ?_
    refine lv_goto (tgt := 21) hx hcd dX1_hasAny_17 (by decide) ?_
    exact kr_zret hx hcd hr hlocks hK hP hD hS rfl (by simp [g_has, kI, c_13]; rfl) rfl dX1_hasAny_21

set_option maxHeartbeats 4000000 in
set_option maxRecDepth 100000 in
theorem c_X1_change (l : Launch) (D : va_G) (cI cB cW cL : ClassId) (q : Nat → Nat) (sz : Nat) (M : kM) (a : Nat) (b : Nat) (aw : Int32) (se : Int32) (ha : a < 6) (hb : b < 6) : kMv l yX1_change wsX1_change ({ frames := 0, cells := 0, slots := 0, locals := 0 }) D vwCl (kT cI cB cW cL) sz [.ref (q 5), .int (nI a), .int (nI b), .int aw, .int se] (wRo cI q M) (wRo cI q (g_become M a b ((g_st M a b &&& (aw ^^^ (-1))) ||| se))) := by
  refine kr_ofv (cc := cX1_change) (maxL := 7) (ret := none) (by decide) rfl (Nat.le_of_ble_eq_true rfl) ?_
  intro pp ee ss mm args below meth cc AA ls hx hcd hr hts hown hlocks hml hK hP hD hA hl
  have hS : va_S AA ss.heap ss.heap [] := va_S.rf
  have hown : ss.vm.findClass RX1 = some mm.cls := hown
  have hl : lv_has ls 7 [(0, .ref (q 5)), (1, .int (nI a)), (2, .int (nI b)), (3, .int aw), (4, .int se)] := hl
  have uX1 : ∀ w ∈ u_ws RX1 TX1 3, w ∈ wsX1_change := by decide +kernel
  refine lv_iload_n hx hcd dX1_change_0 rfl (lv_at hl 1 rfl) ?_
  refine lv_bipush (v := nI 6) hx hcd dX1_change_1 (by decide) ?_
  refine kr_mul hx hcd dX1_change_3 ?_
  refine lv_iload_n hx hcd dX1_change_4 rfl (lv_at hl 2 rfl) ?_
  refine kr_add hx hcd dX1_change_5 ?_
  refine lv_istore (lv' := [(5, .int (nI ((a * 6) + b))), (0, .ref (q 5)), (1, .int (nI a)), (2, .int (nI b)), (3, .int aw), (4, .int se)]) hx hcd dX1_change_6 hl (by decide) rfl (fun ls hl => ?_)
  refine lv_aload_n hx hcd dX1_change_8 rfl (lv_at hl 1 rfl) ?_
  refine kr_get hx hcd hts uX1 hown hK hP 0 rfl rfl 0 (by decide) (by decide +kernel) (v := .ref (q 6)) rfl dX1_change_9 ?_
  refine lv_iload hx hcd dX1_change_12 (lv_at hl 0 rfl) ?_
  refine kr_iald hx hcd hK hP 1 0 rfl rfl (v := M (54 + 6 * a + b)) (by omega) (by decide) (vw_at (by omega) (by omega)) dX1_change_14 ?_
  refine lv_iload_n hx hcd dX1_change_15 rfl (lv_at hl 4 rfl) ?_
  refine lv_iconst (v := (-1)) hx hcd dX1_change_16 (by decide) ?_
  refine lv_ixor hx hcd dX1_change_17 ?_
  refine lv_iand hx hcd dX1_change_18 ?_
  refine lv_iload hx hcd dX1_change_19 (lv_at hl 5 rfl) ?_
  refine lv_ior hx hcd dX1_change_21 ?_
  refine lv_istore (lv' := [(6, .int (((M (54 + 6 * a + b)) &&& (aw ^^^ (-1))) ||| se)), (5, .int (nI ((a * 6) + b))), (0, .ref (q 5)), (1, .int (nI a)), (2, .int (nI b)), (3, .int aw), (4, .int se)]) hx hcd dX1_change_22 hl (by decide) rfl (fun ls hl => ?_)
  refine lv_iload hx hcd dX1_change_24 (lv_at hl 0 rfl) ?_
  refine lv_aload_n hx hcd dX1_change_26 rfl (lv_at hl 2 rfl) ?_
  refine kr_get hx hcd hts uX1 hown hK hP 0 rfl rfl 0 (by decide) (by decide +kernel) (v := .ref (q 6)) rfl dX1_change_27 ?_
  refine lv_iload hx hcd dX1_change_30 (lv_at hl 1 rfl) ?_
  refine kr_iald hx hcd hK hP 1 0 rfl rfl (v := M (54 + 6 * a + b)) (by omega) (by decide) (vw_at (by omega) (by omega)) dX1_change_32 ?_
  refine lv_icmp_eq (tgt := 68) hx hcd dX1_change_33 (by decide) (fun (c_33 : (((M (54 + 6 * a + b)) &&& (aw ^^^ (-1))) ||| se) = (M (54 + 6 * a + b))) => ?_) (fun (c_33 : ¬ (((M (54 + 6 * a + b)) &&& (aw ^^^ (-1))) ||| se) = (M (54 + 6 * a + b))) => ?_)
  · exact kr_vret hx hcd hr hlocks hK hP hD hS (congrArg (fun M9 => wRo cI q M9) (by unfold g_become g_st; first | (rw [if_pos c_33.symm]) | (rw [if_neg (fun h => c_33 h.symm)]))) dX1_change_68
  · refine lv_aload_n hx hcd dX1_change_36 rfl (lv_at hl 2 rfl) ?_
    refine kr_get hx hcd hts uX1 hown hK hP 0 rfl rfl 0 (by decide) (by decide +kernel) (v := .ref (q 6)) rfl dX1_change_37 ?_
    refine lv_iload hx hcd dX1_change_40 (lv_at hl 1 rfl) ?_
    refine lv_iload hx hcd dX1_change_42 (lv_at hl 0 rfl) ?_
    refine kr_iast hx hcd hK hP hD hS 1 0 rfl rfl (by omega) (by decide) (vw_upd (by omega) (by omega)) (ws2 := wRo cI q (upd M (54 + 6 * a + b) (((M (54 + 6 * a + b)) &&& (aw ^^^ (-1))) ||| se))) (ro_s1 (fun k hk => upd_ne (by omega))) dX1_change_44 (fun H locs hP hD hS => ?_)
    refine lv_aload_n hx hcd dX1_change_45 rfl (lv_at hl 2 rfl) ?_
    refine kr_get hx hcd hts uX1 hown hK hP 0 rfl rfl 2 (by decide) (by decide +kernel) (v := .ref (q 8)) rfl dX1_change_46 ?_
    refine lv_iload_n hx hcd dX1_change_49 rfl (lv_at hl 3 rfl) ?_
    refine lv_dup2_11 hx hcd dX1_change_50 rfl rfl ?_
    refine kr_iald hx hcd hK hP 3 0 rfl rfl (v := (upd M (54 + 6 * a + b) (((M (54 + 6 * a + b)) &&& (aw ^^^ (-1))) ||| se)) (126 + a)) (by omega) (by decide) (vw_at (by omega) (by omega)) dX1_change_51 ?_
    refine kr_top (w := M (126 + a)) (upd_ne (by omega)) ?_
    refine lv_iconst (v := nI 1) hx hcd dX1_change_52 (by decide) ?_
    refine lv_iadd hx hcd dX1_change_53 ?_
    refine kr_iast hx hcd hK hP hD hS 3 0 rfl rfl (by omega) (by decide) (vw_upd (by omega) (by omega)) (ws2 := wRo cI q (upd (upd M (54 + 6 * a + b) (((M (54 + 6 * a + b)) &&& (aw ^^^ (-1))) ||| se)) (126 + a) ((M (126 + a)) + 1))) (ro_s3 (fun k hk => upd_ne (by omega))) dX1_change_54 (fun H locs hP hD hS => ?_)
    refine lv_aload_n hx hcd dX1_change_55 rfl (lv_at hl 2 rfl) ?_
    refine kr_get hx hcd hts uX1 hown hK hP 0 rfl rfl 1 (by decide) (by decide +kernel) (v := .ref (q 7)) rfl dX1_change_56 ?_
    refine lv_iload hx hcd dX1_change_59 (lv_at hl 1 rfl) ?_
    refine lv_aload_n hx hcd dX1_change_61 rfl (lv_at hl 2 rfl) ?_
    refine kr_get hx hcd hts uX1 hown hK hP 0 rfl rfl 2 (by decide) (by decide +kernel) (v := .ref (q 8)) rfl dX1_change_62 ?_
    refine lv_iload_n hx hcd dX1_change_65 rfl (lv_at hl 3 rfl) ?_
    refine kr_iald hx hcd hK hP 3 0 rfl rfl (v := (upd (upd M (54 + 6 * a + b) (((M (54 + 6 * a + b)) &&& (aw ^^^ (-1))) ||| se)) (126 + a) ((M (126 + a)) + 1)) (126 + a)) (by omega) (by decide) (vw_at (by omega) (by omega)) dX1_change_66 ?_
    refine kr_top (w := (M (126 + a)) + 1) upd_eq ?_
    refine kr_iast hx hcd hK hP hD hS 2 0 rfl rfl (by omega) (by decide) (vw_upd (by omega) (by omega)) (ws2 := wRo cI q (upd (upd (upd M (54 + 6 * a + b) (((M (54 + 6 * a + b)) &&& (aw ^^^ (-1))) ||| se)) (126 + a) ((M (126 + a)) + 1)) (90 + 6 * a + b) ((M (126 + a)) + 1))) (ro_s2 (fun k hk => upd_ne (by omega))) dX1_change_67 (fun H locs hP hD hS => ?_)
    exact kr_vret hx hcd hr hlocks hK hP hD hS (congrArg (fun M9 => wRo cI q M9) (by unfold g_become g_st; first | (rw [if_pos c_33.symm]) | (rw [if_neg (fun h => c_33 h.symm)]))) dX1_change_68

set_option maxHeartbeats 4000000 in
set_option maxRecDepth 100000 in
theorem c_X4_set (l : Launch) (D : va_G) (cI cB cW cL : ClassId) (q : Nat → Nat) (sz : Nat) (M : kM) (a : Nat) (b : Nat) (s : Nat) (md : Int32) (ha : a < 6) (hb : b < 6) (hs : s < 3) : kMv l yX4_set wsX4_set ({ frames := 0, cells := 0, slots := 0, locals := 0 }) D vwCl (kT cI cB cW cL) sz [.ref (q 9), .int (nI a), .int (nI b), .int (nI s), .int md] (wVi cI q M) (wVi cI q (upd M (132 + 18 * a + 3 * b + s) md)) := by
  refine kr_ofv (cc := cX4_set) (maxL := 5) (ret := none) (by decide) rfl (Nat.le_of_ble_eq_true rfl) ?_
  intro pp ee ss mm args below meth cc AA ls hx hcd hr hts hown hlocks hml hK hP hD hA hl
  have hS : va_S AA ss.heap ss.heap [] := va_S.rf
  have hown : ss.vm.findClass RX4 = some mm.cls := hown
  have hl : lv_has ls 5 [(0, .ref (q 9)), (1, .int (nI a)), (2, .int (nI b)), (3, .int (nI s)), (4, .int md)] := hl
  have uX4 : ∀ w ∈ u_ws RX4 TX4 1, w ∈ wsX4_set := by decide +kernel
  refine lv_iload_n hx hcd dX4_set_0 rfl (lv_at hl 3 rfl) ?_
  refine kr_zlt (tgt := 26) hx hcd (by omega) dX4_set_1 (by decide) ?_
  refine lv_iload_n hx hcd dX4_set_4 rfl (lv_at hl 3 rfl) ?_
  refine lv_iconst (v := nI 3) hx hcd dX4_set_5 (by decide) ?_
  refine kr_cge (tgt := 26) hx hcd (by omega) (by omega) dX4_set_6 (by decide) (fun (c_6 : 3 ≤ s) => absurd c_6 (by omega)) (fun (c_6 : s < 3) => ?_)
  refine lv_aload_n hx hcd dX4_set_9 rfl (lv_at hl 0 rfl) ?_
  refine kr_get hx hcd hts uX4 hown hK hP 0 rfl rfl 0 (by decide) (by decide +kernel) (v := .ref (q 10)) rfl dX4_set_10 ?_
  refine lv_iload_n hx hcd dX4_set_13 rfl (lv_at hl 1 rfl) ?_
  refine lv_bipush (v := nI 6) hx hcd dX4_set_14 (by decide) ?_
  refine kr_mul hx hcd dX4_set_16 ?_
  refine lv_iload_n hx hcd dX4_set_17 rfl (lv_at hl 2 rfl) ?_
  refine kr_add hx hcd dX4_set_18 ?_
  refine lv_iconst (v := nI 3) hx hcd dX4_set_19 (by decide) ?_
  refine kr_mul hx hcd dX4_set_20 ?_
  refine lv_iload_n hx hcd dX4_set_21 rfl (lv_at hl 3 rfl) ?_
  refine kr_add hx hcd dX4_set_22 ?_
  refine lv_iload hx hcd dX4_set_23 (lv_at hl 4 rfl) ?_
  refine kr_iast hx hcd hK hP hD hS 1 0 rfl rfl (by omega) (by decide) (vw_upd (by omega) (by omega)) (ws2 := wVi cI q (upd M (132 + 18 * a + 3 * b + s) md)) (vi_s1 (fun k hk => upd_ne (by omega))) dX4_set_25 (fun H locs hP hD hS => ?_)
  exact kr_vret hx hcd hr hlocks hK hP hD hS rfl dX4_set_26

set_option maxHeartbeats 4000000 in
set_option maxRecDepth 100000 in
theorem c_X4_mood (l : Launch) (D : va_G) (cI cB cW cL : ClassId) (q : Nat → Nat) (sz : Nat) (M : kM) (a : Nat) (b : Nat) (s : Nat) (ha : a < 6) (hb : b < 6) (hs : s < 3) : kMi l yX4_mood wsX4_mood ({ frames := 0, cells := 0, slots := 0, locals := 0 }) D vwCl (kT cI cB cW cL) sz [.ref (q 9), .int (nI a), .int (nI b), .int (nI s)] (wVi cI q M) (wVi cI q M) (M (132 + 18 * a + 3 * b + s)) := by
  refine kr_ofi (cc := cX4_mood) (maxL := 4) (ret := (some .int)) (by decide) rfl (Nat.le_of_ble_eq_true rfl) ?_
  intro pp ee ss mm args below meth cc AA ls hx hcd hr hts hown hlocks hml hK hP hD hA hl
  have hS : va_S AA ss.heap ss.heap [] := va_S.rf
  have hown : ss.vm.findClass RX4 = some mm.cls := hown
  have hl : lv_has ls 4 [(0, .ref (q 9)), (1, .int (nI a)), (2, .int (nI b)), (3, .int (nI s))] := hl
  have uX4 : ∀ w ∈ u_ws RX4 TX4 1, w ∈ wsX4_mood := by decide +kernel
  refine lv_aload_n hx hcd dX4_mood_0 rfl (lv_at hl 0 rfl) ?_
  refine kr_get hx hcd hts uX4 hown hK hP 0 rfl rfl 0 (by decide) (by decide +kernel) (v := .ref (q 10)) rfl dX4_mood_1 ?_
  refine lv_iload_n hx hcd dX4_mood_4 rfl (lv_at hl 1 rfl) ?_
  refine lv_bipush (v := nI 6) hx hcd dX4_mood_5 (by decide) ?_
  refine kr_mul hx hcd dX4_mood_7 ?_
  refine lv_iload_n hx hcd dX4_mood_8 rfl (lv_at hl 2 rfl) ?_
  refine kr_add hx hcd dX4_mood_9 ?_
  refine lv_iconst (v := nI 3) hx hcd dX4_mood_10 (by decide) ?_
  refine kr_mul hx hcd dX4_mood_11 ?_
  refine lv_iload_n hx hcd dX4_mood_12 rfl (lv_at hl 3 rfl) ?_
  refine kr_add hx hcd dX4_mood_13 ?_
  refine kr_iald hx hcd hK hP 1 0 rfl rfl (v := M (132 + 18 * a + 3 * b + s)) (by omega) (by decide) (vw_at (by omega) (by omega)) dX4_mood_14 ?_
  exact kr_iret hx hcd hr hlocks hK hP hD hS rfl rfl dX4_mood_15

set_option maxHeartbeats 4000000 in
set_option maxRecDepth 100000 in
theorem c_X4_forget (l : Launch) (D : va_G) (cI cB cW cL : ClassId) (q : Nat → Nat) (sz : Nat) (M : kM) (a : Nat) (b : Nat) (ha : a < 6) (hb : b < 6) : kMv l yX4_forget wsX4_forget ({ frames := 0, cells := 0, slots := 0, locals := 0 }) D vwCl (kT cI cB cW cL) sz [.ref (q 9), .int (nI a), .int (nI b)] (wVi cI q M) (wVi cI q (g_forget M a b)) := by
  refine kr_ofv (cc := cX4_forget) (maxL := 4) (ret := none) (by decide) rfl (Nat.le_of_ble_eq_true rfl) ?_
  intro pp ee ss mm args below meth cc AA ls hx hcd hr hts hown hlocks hml hK hP hD hA hl
  have hS : va_S AA ss.heap ss.heap [] := va_S.rf
  have hown : ss.vm.findClass RX4 = some mm.cls := hown
  have hl : lv_has ls 4 [(0, .ref (q 9)), (1, .int (nI a)), (2, .int (nI b))] := hl
  have uX4 : ∀ w ∈ u_ws RX4 TX4 1, w ∈ wsX4_forget := by decide +kernel
  refine lv_iconst (v := nI 0) hx hcd dX4_forget_0 (by decide) ?_
  refine lv_istore_n (lv' := [(3, .int (nI 0)), (0, .ref (q 9)), (1, .int (nI a)), (2, .int (nI b))]) hx hcd dX4_forget_1 rfl hl (by decide) rfl (fun ls hl => ?_)
  refine kr_up (fun i => wVi cI q (g_forgetN M a b i)) (fun i => [(0, .ref (q 9)), (1, .int (nI a)), (2, .int (nI b)), (3, .int (nI i))]) 3 (nL := 4) (fun i hi ih_2 H locs ls hP hD hS hl => ?_) (fun H locs ls hP hD hS hl => ?_) 0 (by omega) hP hD hS (lv_sub hl [1, 2, 3, 0] rfl)
  · have hl : lv_has ls 4 [(0, .ref (q 9)), (1, .int (nI a)), (2, .int (nI b)), (3, .int (nI i))] := hl
    refine lv_iload_n hx hcd dX4_forget_2 rfl (lv_at hl 3 rfl) ?_
    refine lv_iconst (v := nI 3) hx hcd dX4_forget_3 (by decide) ?_
    refine kr_cge (tgt := 29) hx hcd (by omega) (by omega) dX4_forget_4 (by decide) (fun (c_4 : 3 ≤ i) => absurd c_4 (by omega)) (fun (c_4 : i < 3) => ?_)
    refine lv_aload_n hx hcd dX4_forget_7 rfl (lv_at hl 0 rfl) ?_
    refine kr_get hx hcd hts uX4 hown hK hP 0 rfl rfl 0 (by decide) (by decide +kernel) (v := .ref (q 10)) rfl dX4_forget_8 ?_
    refine lv_iload_n hx hcd dX4_forget_11 rfl (lv_at hl 1 rfl) ?_
    refine lv_bipush (v := nI 6) hx hcd dX4_forget_12 (by decide) ?_
    refine kr_mul hx hcd dX4_forget_14 ?_
    refine lv_iload_n hx hcd dX4_forget_15 rfl (lv_at hl 2 rfl) ?_
    refine kr_add hx hcd dX4_forget_16 ?_
    refine lv_iconst (v := nI 3) hx hcd dX4_forget_17 (by decide) ?_
    refine kr_mul hx hcd dX4_forget_18 ?_
    refine lv_iload_n hx hcd dX4_forget_19 rfl (lv_at hl 3 rfl) ?_
    refine kr_add hx hcd dX4_forget_20 ?_
    refine lv_iconst (v := (-1)) hx hcd dX4_forget_21 (by decide) ?_
    refine kr_iast hx hcd hK hP hD hS 1 0 rfl rfl (by omega) (by decide) (vw_upd (by omega) (by omega)) (ws2 := wVi cI q (upd (g_forgetN M a b i) (132 + 18 * a + 3 * b + i) (-1))) (vi_s1 (fun k hk => upd_ne (by omega))) dX4_forget_22 (fun H locs hP hD hS => ?_)
    refine kr_iinc (lv' := [(3, .int (nI (i + 1))), (0, .ref (q 9)), (1, .int (nI a)), (2, .int (nI b))]) hx hcd dX4_forget_23 hl (k := 3) rfl (by decide) rfl (fun ls hl => ?_)
    refine lv_goto (tgt := 2) hx hcd dX4_forget_26 (by decide) ?_
    exact ih_2 H locs ls hP hD hS (lv_sub hl [1, 2, 3, 0] rfl)
  · have hl : lv_has ls 4 [(0, .ref (q 9)), (1, .int (nI a)), (2, .int (nI b)), (3, .int (nI 3))] := hl
    refine lv_iload_n hx hcd dX4_forget_2 rfl (lv_at hl 3 rfl) ?_
    refine lv_iconst (v := nI 3) hx hcd dX4_forget_3 (by decide) ?_
    refine kr_cge (tgt := 29) hx hcd (by omega) (by omega) dX4_forget_4 (by decide) (fun (c_4 : 3 ≤ 3) => ?_) (fun (c_4 : 3 < 3) => absurd c_4 (by omega))
    exact kr_vret hx hcd hr hlocks hK hP hD hS (congrArg (fun M9 => wVi cI q M9) (show g_forgetN M a b 3 = g_forget M a b from rfl)) dX4_forget_29

set_option maxHeartbeats 4000000 in
set_option maxRecDepth 100000 in
theorem c_X4_forgetAll (l : Launch) (D : va_G) (cI cB cW cL : ClassId) (q : Nat → Nat) (sz : Nat) (M : kM) (a : Nat) (ha : a < 6) : kMv l yX4_forgetAll wsX4_forgetAll ({ frames := 1, cells := 0, slots := 0, locals := 23 }) D vwCl (kT cI cB cW cL) sz [.ref (q 9), .int (nI a)] (wVi cI q M) (wVi cI q (g_forgetAll M a)) := by
  refine kr_ofv (cc := cX4_forgetAll) (maxL := 3) (ret := none) (by decide) rfl (Nat.le_of_ble_eq_true rfl) ?_
  intro pp ee ss mm args below meth cc AA ls hx hcd hr hts hown hlocks hml hK hP hD hA hl
  have hS : va_S AA ss.heap ss.heap [] := va_S.rf
  have hown : ss.vm.findClass RX4 = some mm.cls := hown
  have hl : lv_has ls 3 [(0, .ref (q 9)), (1, .int (nI a))] := hl
  refine lv_iconst (v := nI 0) hx hcd dX4_forgetAll_0 (by decide) ?_
  refine lv_istore_n (lv' := [(2, .int (nI 0)), (0, .ref (q 9)), (1, .int (nI a))]) hx hcd dX4_forgetAll_1 rfl hl (by decide) rfl (fun ls hl => ?_)
  refine kr_up (fun i => wVi cI q (g_forgetAllN M a i)) (fun i => [(0, .ref (q 9)), (1, .int (nI a)), (2, .int (nI i))]) 6 (nL := 3) (fun i hi ih_2 H locs ls hP hD hS hl => ?_) (fun H locs ls hP hD hS hl => ?_) 0 (by omega) hP hD hS (lv_sub hl [1, 2, 0] rfl)
  · have hl : lv_has ls 3 [(0, .ref (q 9)), (1, .int (nI a)), (2, .int (nI i))] := hl
    refine lv_iload_n hx hcd dX4_forgetAll_2 rfl (lv_at hl 2 rfl) ?_
    refine lv_bipush (v := nI 6) hx hcd dX4_forgetAll_3 (by decide) ?_
    refine kr_cge (tgt := 20) hx hcd (by omega) (by omega) dX4_forgetAll_5 (by decide) (fun (c_5 : 6 ≤ i) => absurd c_5 (by omega)) (fun (c_5 : i < 6) => ?_)
    refine lv_aload_n hx hcd dX4_forgetAll_8 rfl (lv_at hl 0 rfl) ?_
    refine lv_iload_n hx hcd dX4_forgetAll_9 rfl (lv_at hl 1 rfl) ?_
    refine lv_iload_n hx hcd dX4_forgetAll_10 rfl (lv_at hl 2 rfl) ?_
    refine kr_Vv (As := [.int (nI a), .int (nI i)]) (rest := []) (ws2 := wVi cI q (g_forget (g_forgetAllN M a i) a i)) (q := (RX4, TX4, 1)) ⟨hx, hcd, hml, hown, hts⟩ (c_X4_forget l D cI cB cW cL q _ (g_forgetAllN M a i) a i (by omega) (by omega)) (cwV 2 hts gX4_forgetAll_X4_forget rfl rfl rfl (by decide +kernel) ⟨Nat.le_of_ble_eq_true rfl, Nat.le_of_ble_eq_true rfl⟩) hK hP hD hS hA [0, 1] wVi_allC (by decide) wVi_adr wVi_all 0 rfl rfl rfl hl.1 rfl (Nat.le_of_ble_eq_true rfl) dX4_forgetAll_11 ⟨Nat.zero_le _, Nat.zero_le _⟩ (fun H locs hP hD hS => ?_)
    refine kr_iinc (lv' := [(2, .int (nI (i + 1))), (0, .ref (q 9)), (1, .int (nI a))]) hx hcd dX4_forgetAll_14 hl (k := 2) rfl (by decide) rfl (fun ls hl => ?_)
    refine lv_goto (tgt := 2) hx hcd dX4_forgetAll_17 (by decide) ?_
    exact ih_2 H locs ls hP hD hS (lv_sub hl [1, 2, 0] rfl)
  · have hl : lv_has ls 3 [(0, .ref (q 9)), (1, .int (nI a)), (2, .int (nI 6))] := hl
    refine lv_iload_n hx hcd dX4_forgetAll_2 rfl (lv_at hl 2 rfl) ?_
    refine lv_bipush (v := nI 6) hx hcd dX4_forgetAll_3 (by decide) ?_
    refine kr_cge (tgt := 20) hx hcd (by omega) (by omega) dX4_forgetAll_5 (by decide) (fun (c_5 : 6 ≤ 6) => ?_) (fun (c_5 : 6 < 6) => absurd c_5 (by omega))
    exact kr_vret hx hcd hr hlocks hK hP hD hS (congrArg (fun M9 => wVi cI q M9) (show g_forgetAllN M a 6 = g_forgetAll M a from rfl)) dX4_forgetAll_20
