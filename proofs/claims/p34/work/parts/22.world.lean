set_option maxHeartbeats 4000000 in
set_option maxRecDepth 100000 in
theorem c_X5_apart (l : Launch) (D : va_G) (cI cB cW cL : ClassId) (q : Nat → Nat) (sz : Nat) (M : kM) (a : Nat) (b : Nat) (ha : a < 6) (hb : b < 6) : kMi l yX5_apart wsX5_apart ({ frames := 0, cells := 0, slots := 0, locals := 0 }) D vwCl (kT cI cB cW cL) sz [.ref (q 0), .int (nI a), .int (nI b)] (wW cI q M) (wW cI q M) (kI (g_apart M a b)) := by
  refine kr_ofi (cc := cX5_apart) (maxL := 3) (ret := (some .boolean)) (by decide) rfl (Nat.le_of_ble_eq_true rfl) ?_
  intro pp ee ss mm args below meth cc AA ls hx hcd hr hts hown hlocks hml hK hP hD hA hl
  have hS : va_S AA ss.heap ss.heap [] := va_S.rf
  have hown : ss.vm.findClass RX5 = some mm.cls := hown
  have hl : lv_has ls 3 [(0, .ref (q 0)), (1, .int (nI a)), (2, .int (nI b))] := hl
  have uX5 : ∀ w ∈ u_ws RX5 TX5 5, w ∈ wsX5_apart := by decide +kernel
  refine lv_aload_n hx hcd dX5_apart_0 rfl (lv_at hl 0 rfl) ?_
  refine kr_get hx hcd hts uX5 hown hK hP 0 rfl rfl 4 (by decide) (by decide +kernel) (v := .ref (q 14)) rfl dX5_apart_1 ?_
  refine lv_iload_n hx hcd dX5_apart_4 rfl (lv_at hl 1 rfl) ?_
  refine lv_bipush (v := nI 6) hx hcd dX5_apart_5 (by decide) ?_
  refine kr_mul hx hcd dX5_apart_7 ?_
  refine lv_iload_n hx hcd dX5_apart_8 rfl (lv_at hl 2 rfl) ?_
  refine kr_add hx hcd dX5_apart_9 ?_
  refine kr_iald hx hcd hK hP 14 0 rfl rfl (v := M (240 + 6 * a + b)) (by omega) (by decide) (vw_at (by omega) (by omega)) dX5_apart_10 ?_
  refine lv_iconst (v := nI 1) hx hcd dX5_apart_11 (by decide) ?_
  refine lv_icmp_eq (tgt := 30) hx hcd dX5_apart_12 (by decide) (fun (c_12 : (M (240 + 6 * a + b)) = 1) => ?_) (fun (c_12 : ¬ (M (240 + 6 * a + b)) = 1) => ?_)
  · refine lv_iconst (v := nI 1) hx hcd dX5_apart_30 (by decide) ?_
    refine lv_goto (tgt := 35) hx hcd dX5_apart_31 (by decide) ?_
    exact kr_zret hx hcd hr hlocks hK hP hD hS rfl (by simp [g_apart, kI, c_12]; rfl) rfl dX5_apart_35
  · refine lv_aload_n hx hcd dX5_apart_15 rfl (lv_at hl 0 rfl) ?_
    refine kr_get hx hcd hts uX5 hown hK hP 0 rfl rfl 4 (by decide) (by decide +kernel) (v := .ref (q 14)) rfl dX5_apart_16 ?_
    refine lv_iload_n hx hcd dX5_apart_19 rfl (lv_at hl 2 rfl) ?_
    refine lv_bipush (v := nI 6) hx hcd dX5_apart_20 (by decide) ?_
    refine kr_mul hx hcd dX5_apart_22 ?_
    refine lv_iload_n hx hcd dX5_apart_23 rfl (lv_at hl 1 rfl) ?_
    refine kr_add hx hcd dX5_apart_24 ?_
    refine kr_iald hx hcd hK hP 14 0 rfl rfl (v := M (240 + 6 * b + a)) (by omega) (by decide) (vw_at (by omega) (by omega)) dX5_apart_25 ?_
    refine lv_iconst (v := nI 1) hx hcd dX5_apart_26 (by decide) ?_
    refine lv_icmp_ne (tgt := 34) hx hcd dX5_apart_27 (by decide) (fun (c_27 : ¬ (M (240 + 6 * b + a)) = 1) => ?_) (fun (c_27 : (M (240 + 6 * b + a)) = 1) => ?_)
    · refine lv_iconst (v := nI 0) hx hcd dX5_apart_34 (by decide) ?_
      exact kr_zret hx hcd hr hlocks hK hP hD hS rfl (by simp [g_apart, kI, c_12, c_27]; rfl) rfl dX5_apart_35
    · refine lv_iconst (v := nI 1) hx hcd dX5_apart_30 (by decide) ?_
      refine lv_goto (tgt := 35) hx hcd dX5_apart_31 (by decide) ?_
      exact kr_zret hx hcd hr hlocks hK hP hD hS rfl (by simp [g_apart, kI, c_12, c_27]; rfl) rfl dX5_apart_35

set_option maxHeartbeats 4000000 in
set_option maxRecDepth 100000 in
theorem c_X5_sendOfSeat (l : Launch) (D : va_G) (cI cB cW cL : ClassId) (q : Nat → Nat) (sz : Nat) (M : kM) (k : Nat) (f : Nat) (t : Nat) (se : Int32) (mo : Int32) (s d : Nat) (hI : kInv M) (hk : k < 7) (hf : f < 6) (ht : t < 6) (hs : s < 3) (hd : d < 5) (h6 : k = 4 ∨ d = 0) (h7 : k = 4 ∨ k = 5 ∨ s = 0) (e1 : se - (-1) = nI (if k = 4 ∨ k = 5 then s + 1 else 0)) (e2 : mo - (-1) = nI (if k = 4 then d + 1 else 0)) : kMv l yX5_sendOfSeat wsX5_sendOfSeat ({ frames := 1, cells := 0, slots := 0, locals := 25 }) D vwCl (kT cI cB cW cL) sz [.ref (q 0), .int (nI k), .int (nI f), .int (nI t), .int se, .int mo] (wW cI q M) (wW cI q (g_send M k f t s d)) := by
  refine kr_ofv (cc := cX5_sendOfSeat) (maxL := 6) (ret := none) (by decide) rfl (Nat.le_of_ble_eq_true rfl) ?_
  intro pp ee ss mm args below meth cc AA ls hx hcd hr hts hown hlocks hml hK hP hD hA hl
  have hS : va_S AA ss.heap ss.heap [] := va_S.rf
  have hown : ss.vm.findClass RX5 = some mm.cls := hown
  have hl : lv_has ls 6 [(0, .ref (q 0)), (1, .int (nI k)), (2, .int (nI f)), (3, .int (nI t)), (4, .int se), (5, .int mo)] := hl
  have uX5 : ∀ w ∈ u_ws RX5 TX5 5, w ∈ wsX5_sendOfSeat := by decide +kernel
  refine lv_aload_n hx hcd dX5_sendOfSeat_0 rfl (lv_at hl 0 rfl) ?_
  refine lv_iload_n hx hcd dX5_sendOfSeat_1 rfl (lv_at hl 2 rfl) ?_
  refine lv_iload_n hx hcd dX5_sendOfSeat_2 rfl (lv_at hl 3 rfl) ?_
  refine kr_Vi (As := [.int (nI f), .int (nI t)]) (rest := []) (ws2 := wW cI q M) (q := (RX5, TX5, 5)) ⟨hx, hcd, hml, hown, hts⟩ (c_X5_apart l D cI cB cW cL q _ M f t (by omega) (by omega)) (cwV 2 hts gX5_sendOfSeat_X5_apart rfl rfl rfl (by decide +kernel) ⟨Nat.le_of_ble_eq_true rfl, Nat.le_of_ble_eq_true rfl⟩) hK hP hD hS hA [0, 1, 2, 3, 4, 5, 6, 7, 8, 9, 10, 11, 12, 13, 14] wW_allC (by decide) wW_adr wW_all 0 rfl rfl rfl hl.1 rfl (Nat.le_of_ble_eq_true rfl) dX5_sendOfSeat_3 ⟨Nat.zero_le _, Nat.zero_le _⟩ (fun H locs hP hD hS => ?_)
  refine kr_bne (tgt := 26) hx hcd dX5_sendOfSeat_6 (by decide) (fun (c_6 : g_apart M f t = true) => ?_) (fun (c_6 : g_apart M f t = false) => ?_)
  · exact kr_vret hx hcd hr hlocks hK hP hD hS (congrArg (fun M9 => wW cI q M9) (by simp [g_send, c_6])) dX5_sendOfSeat_26
  · refine lv_aload_n hx hcd dX5_sendOfSeat_9 rfl (lv_at hl 0 rfl) ?_
    refine kr_get hx hcd hts uX5 hown hK hP 0 rfl rfl 3 (by decide) (by decide +kernel) (v := .ref (q 11)) rfl dX5_sendOfSeat_10 ?_
    refine lv_iload_n hx hcd dX5_sendOfSeat_13 rfl (lv_at hl 1 rfl) ?_
    refine lv_iload_n hx hcd dX5_sendOfSeat_14 rfl (lv_at hl 2 rfl) ?_
    refine lv_iload_n hx hcd dX5_sendOfSeat_15 rfl (lv_at hl 3 rfl) ?_
    refine lv_iload hx hcd dX5_sendOfSeat_16 (lv_at hl 4 rfl) ?_
    refine lv_iload hx hcd dX5_sendOfSeat_18 (lv_at hl 5 rfl) ?_
    refine kr_Si (As := [.int (nI k), .int (nI f), .int (nI t), .int se, .int mo]) (rest := [.ref (q 11)]) (ws2 := wW cI q M) ⟨hx, hcd, hml, hown, hts⟩ (c_X0_pack l D cI cB cW cL  _ M k f t se mo (if k = 4 ∨ k = 5 then s + 1 else 0) (if k = 4 then d + 1 else 0) e1 e2) (va_cwS 5 hts gX5_sendOfSeat_X0_pack rfl rfl rfl (by decide +kernel) ⟨Nat.le_of_ble_eq_true rfl, Nat.le_of_ble_eq_true rfl⟩) hK hP hD hS hA [] rfl (by decide) rfl rfl rfl hl.1 rfl (Nat.le_of_ble_eq_true rfl) dX5_sendOfSeat_20 ⟨Nat.zero_le _, Nat.zero_le _⟩ (fun H locs hP hD hS => ?_)
    refine kr_Vv (As := [.int (nI (k + (7 * (f + (6 * (t + (6 * ((if k = 4 ∨ k = 5 then s + 1 else 0) + (4 * (if k = 4 then d + 1 else 0))))))))))]) (rest := []) (ws2 := wW cI q (g_put M (g_code k f t s d))) (q := (RX0, TX0, 4)) ⟨hx, hcd, hml, hown, hts⟩ (c_X0_put l D cI cB cW cL q _ M (nI (k + (7 * (f + (6 * (t + (6 * ((if k = 4 ∨ k = 5 then s + 1 else 0) + (4 * (if k = 4 then d + 1 else 0)))))))))) (g_code k f t s d) hI (em_code hk hf ht hs hd)) (cwV 1 hts gX5_sendOfSeat_X0_put rfl rfl rfl (by decide +kernel) ⟨Nat.le_of_ble_eq_true rfl, Nat.le_of_ble_eq_true rfl⟩) hK hP hD hS hA [11, 12, 13] wW_PoC (by decide) wPo_adr (wW_po (fun k hk => o_put hk)) 11 rfl rfl rfl hl.1 rfl (Nat.le_of_ble_eq_true rfl) dX5_sendOfSeat_23 ⟨Nat.zero_le _, Nat.zero_le _⟩ (fun H locs hP hD hS => ?_)
    exact kr_vret hx hcd hr hlocks hK hP hD hS (congrArg (fun M9 => wW cI q M9) (by simp [g_send, c_6])) dX5_sendOfSeat_26

set_option maxHeartbeats 4000000 in
set_option maxRecDepth 100000 in
theorem c_X5_send (l : Launch) (D : va_G) (cI cB cW cL : ClassId) (q : Nat → Nat) (sz : Nat) (M : kM) (k : Nat) (f : Nat) (t : Nat) (hI : kInv M) (hk : k < 7) (hk4 : k ≠ 4) (hk5 : k ≠ 5) (hf : f < 6) (ht : t < 6) : kMv l yX5_send wsX5_send ({ frames := 2, cells := 0, slots := 0, locals := 50 }) D vwCl (kT cI cB cW cL) sz [.ref (q 0), .int (nI k), .int (nI f), .int (nI t)] (wW cI q M) (wW cI q (g_send M k f t 0 0)) := by
  refine kr_ofv (cc := cX5_send) (maxL := 4) (ret := none) (by decide) rfl (Nat.le_of_ble_eq_true rfl) ?_
  intro pp ee ss mm args below meth cc AA ls hx hcd hr hts hown hlocks hml hK hP hD hA hl
  have hS : va_S AA ss.heap ss.heap [] := va_S.rf
  have hown : ss.vm.findClass RX5 = some mm.cls := hown
  have hl : lv_has ls 4 [(0, .ref (q 0)), (1, .int (nI k)), (2, .int (nI f)), (3, .int (nI t))] := hl
  refine lv_aload_n hx hcd dX5_send_0 rfl (lv_at hl 0 rfl) ?_
  refine lv_iload_n hx hcd dX5_send_1 rfl (lv_at hl 1 rfl) ?_
  refine lv_iload_n hx hcd dX5_send_2 rfl (lv_at hl 2 rfl) ?_
  refine lv_iload_n hx hcd dX5_send_3 rfl (lv_at hl 3 rfl) ?_
  refine lv_iconst (v := (-1)) hx hcd dX5_send_4 (by decide) ?_
  refine lv_iconst (v := (-1)) hx hcd dX5_send_5 (by decide) ?_
  refine kr_Vv (As := [.int (nI k), .int (nI f), .int (nI t), .int (-1), .int (-1)]) (rest := []) (ws2 := wW cI q (g_send M k f t 0 0)) (q := (RX5, TX5, 5)) ⟨hx, hcd, hml, hown, hts⟩ (c_X5_sendOfSeat l D cI cB cW cL q _ M k f t (-1) (-1) 0 0 hI (by omega) (by omega) (by omega) (by omega) (by omega) (by omega) (by omega) (by rw [if_neg (by omega)]; exact e_none) (by rw [if_neg (by omega)]; exact e_none)) (cwV 5 hts gX5_send_X5_sendOfSeat rfl rfl rfl (by decide +kernel) ⟨Nat.le_of_ble_eq_true rfl, Nat.le_of_ble_eq_true rfl⟩) hK hP hD hS hA [0, 1, 2, 3, 4, 5, 6, 7, 8, 9, 10, 11, 12, 13, 14] wW_allC (by decide) wW_adr wW_all 0 rfl rfl rfl hl.1 rfl (Nat.le_of_ble_eq_true rfl) dX5_send_6 ⟨Nat.zero_le _, Nat.zero_le _⟩ (fun H locs hP hD hS => ?_)
  have hI_1 : kInv (g_send M k f t 0 0) := i_send hI (by omega) (by omega) (by omega) (by omega) (by omega) (by omega) (by omega)
  exact kr_vret hx hcd hr hlocks hK hP hD hS rfl dX5_send_9

set_option maxHeartbeats 4000000 in
set_option maxRecDepth 100000 in
theorem c_X5_show (l : Launch) (D : va_G) (cI cB cW cL : ClassId) (q : Nat → Nat) (sz : Nat) (M : kM) (a : Nat) (b : Nat) (hI : kInv M) (ha : a < 6) (hb : b < 6) : kMv l yX5_show wsX5_show ({ frames := 2, cells := 0, slots := 0, locals := 50 }) D vwCl (kT cI cB cW cL) sz [.ref (q 0), .int (nI a), .int (nI b)] (wW cI q M) (wW cI q (g_show M a b)) := by
  refine kr_ofv (cc := cX5_show) (maxL := 4) (ret := none) (by decide) rfl (Nat.le_of_ble_eq_true rfl) ?_
  intro pp ee ss mm args below meth cc AA ls hx hcd hr hts hown hlocks hml hK hP hD hA hl
  have hS : va_S AA ss.heap ss.heap [] := va_S.rf
  have hown : ss.vm.findClass RX5 = some mm.cls := hown
  have hl : lv_has ls 4 [(0, .ref (q 0)), (1, .int (nI a)), (2, .int (nI b))] := hl
  have uX5 : ∀ w ∈ u_ws RX5 TX5 5, w ∈ wsX5_show := by decide +kernel
  refine lv_iconst (v := nI 0) hx hcd dX5_show_0 (by decide) ?_
  refine lv_istore_n (lv' := [(3, .int (nI 0)), (0, .ref (q 0)), (1, .int (nI a)), (2, .int (nI b))]) hx hcd dX5_show_1 rfl hl (by decide) rfl (fun ls hl => ?_)
  refine kr_up (fun i => wW cI q (g_showN M a b i)) (fun i => [(0, .ref (q 0)), (1, .int (nI a)), (2, .int (nI b)), (3, .int (nI i))]) 3 (nL := 4) (fun i hi ih_2 H locs ls hP hD hS hl => ?_) (fun H locs ls hP hD hS hl => ?_) 0 (by omega) hP hD hS (lv_sub hl [1, 2, 3, 0] rfl)
  · have hl : lv_has ls 4 [(0, .ref (q 0)), (1, .int (nI a)), (2, .int (nI b)), (3, .int (nI i))] := hl
    have hJ := i_showN hI ha hb i (by omega)
    have hmd := i_mdlt hJ ha (show i < 3 by omega)
    refine lv_iload_n hx hcd dX5_show_2 rfl (lv_at hl 3 rfl) ?_
    refine lv_iconst (v := nI 3) hx hcd dX5_show_3 (by decide) ?_
    refine kr_cge (tgt := 42) hx hcd (by omega) (by omega) dX5_show_4 (by decide) (fun (c_4 : 3 ≤ i) => absurd c_4 (by omega)) (fun (c_4 : i < 3) => ?_)
    refine lv_aload_n hx hcd dX5_show_7 rfl (lv_at hl 0 rfl) ?_
    refine kr_get hx hcd hts uX5 hown hK hP 0 rfl rfl 0 (by decide) (by decide +kernel) (v := .ref (q 1)) rfl dX5_show_8 ?_
    refine lv_iload_n hx hcd dX5_show_11 rfl (lv_at hl 1 rfl) ?_
    refine lv_iload_n hx hcd dX5_show_12 rfl (lv_at hl 3 rfl) ?_
    refine kr_Vi (As := [.int (nI a), .int (nI i)]) (rest := []) (ws2 := wW cI q (g_showN M a b i)) (q := (RX3, TX3, 3)) ⟨hx, hcd, hml, hown, hts⟩ (c_X3_isOn l D cI cB cW cL q _ (g_showN M a b i) a i (by omega) (by omega)) (cwV 2 hts gX5_show_X3_isOn rfl rfl rfl (by decide +kernel) ⟨Nat.le_of_ble_eq_true rfl, Nat.le_of_ble_eq_true rfl⟩) hK hP hD hS hA [1, 2, 3, 4] wW_SeC (by decide) wSe_adr wW_Se0 1 rfl rfl rfl hl.1 rfl (Nat.le_of_ble_eq_true rfl) dX5_show_13 ⟨Nat.zero_le _, Nat.zero_le _⟩ (fun H locs hP hD hS => ?_)
    refine kr_beq (tgt := 36) hx hcd dX5_show_16 (by decide) (fun (c_16 : g_on (g_showN M a b i) a i = false) => ?_) (fun (c_16 : g_on (g_showN M a b i) a i = true) => ?_)
    · refine kr_iinc (lv' := [(3, .int (nI (i + 1))), (0, .ref (q 0)), (1, .int (nI a)), (2, .int (nI b))]) hx hcd dX5_show_36 hl (k := 3) rfl (by decide) rfl (fun ls hl => ?_)
      refine lv_goto (tgt := 2) hx hcd dX5_show_39 (by decide) ?_
      obtain ⟨hP, hD⟩ := kr_re (ws2 := wW cI q (g_showN M a b (i + 1))) hP hD (congrArg (fun M9 => wW cI q M9) (by simp [g_showN, c_4, c_16]))
      exact ih_2 H locs ls hP hD hS (lv_sub hl [1, 2, 3, 0] rfl)
    · refine lv_aload_n hx hcd dX5_show_19 rfl (lv_at hl 0 rfl) ?_
      refine lv_iconst (v := nI 4) hx hcd dX5_show_20 (by decide) ?_
      refine lv_iload_n hx hcd dX5_show_21 rfl (lv_at hl 1 rfl) ?_
      refine lv_iload_n hx hcd dX5_show_22 rfl (lv_at hl 2 rfl) ?_
      refine lv_iload_n hx hcd dX5_show_23 rfl (lv_at hl 3 rfl) ?_
      refine lv_aload_n hx hcd dX5_show_24 rfl (lv_at hl 0 rfl) ?_
      refine kr_get hx hcd hts uX5 hown hK hP 0 rfl rfl 0 (by decide) (by decide +kernel) (v := .ref (q 1)) rfl dX5_show_25 ?_
      refine lv_iload_n hx hcd dX5_show_28 rfl (lv_at hl 1 rfl) ?_
      refine lv_iload_n hx hcd dX5_show_29 rfl (lv_at hl 3 rfl) ?_
      refine kr_Vi (As := [.int (nI a), .int (nI i)]) (rest := [.int (nI i), .int (nI b), .int (nI a), .int (nI 4), .ref (q 0)]) (ws2 := wW cI q (g_showN M a b i)) (q := (RX3, TX3, 3)) ⟨hx, hcd, hml, hown, hts⟩ (c_X3_moodOf l D cI cB cW cL q _ (g_showN M a b i) a i (by omega) (by omega)) (cwV 2 hts gX5_show_X3_moodOf rfl rfl rfl (by decide +kernel) ⟨Nat.le_of_ble_eq_true rfl, Nat.le_of_ble_eq_true rfl⟩) hK hP hD hS hA [1, 2, 3, 4] wW_SeC (by decide) wSe_adr wW_Se0 1 rfl rfl rfl hl.1 rfl (Nat.le_of_ble_eq_true rfl) dX5_show_30 ⟨Nat.zero_le _, Nat.zero_le _⟩ (fun H locs hP hD hS => ?_)
      refine kr_top (w := nI (g_md (g_showN M a b i) a i)) (i_md hJ ha (by omega)) ?_
      refine kr_Vv (As := [.int (nI 4), .int (nI a), .int (nI b), .int (nI i), .int (nI (g_md (g_showN M a b i) a i))]) (rest := []) (ws2 := wW cI q (g_send (g_showN M a b i) 4 a b i (g_md (g_showN M a b i) a i))) (q := (RX5, TX5, 5)) ⟨hx, hcd, hml, hown, hts⟩ (c_X5_sendOfSeat l D cI cB cW cL q _ (g_showN M a b i) 4 a b (nI i) (nI (g_md (g_showN M a b i) a i)) i (g_md (g_showN M a b i) a i) hJ (by omega) (by omega) (by omega) (by omega) (by omega) (by omega) (by omega) (by rw [if_pos (by omega)]; exact e_one) (by rw [if_pos (by omega)]; exact e_one)) (cwV 5 hts gX5_show_X5_sendOfSeat rfl rfl rfl (by decide +kernel) ⟨Nat.le_of_ble_eq_true rfl, Nat.le_of_ble_eq_true rfl⟩) hK hP hD hS hA [0, 1, 2, 3, 4, 5, 6, 7, 8, 9, 10, 11, 12, 13, 14] wW_allC (by decide) wW_adr wW_all 0 rfl rfl rfl hl.1 rfl (Nat.le_of_ble_eq_true rfl) dX5_show_33 ⟨Nat.zero_le _, Nat.zero_le _⟩ (fun H locs hP hD hS => ?_)
      have hI_1 : kInv (g_send (g_showN M a b i) 4 a b i (g_md (g_showN M a b i) a i)) := i_send hJ (by omega) (by omega) (by omega) (by omega) (by omega) (by omega) (by omega)
      refine kr_iinc (lv' := [(3, .int (nI (i + 1))), (0, .ref (q 0)), (1, .int (nI a)), (2, .int (nI b))]) hx hcd dX5_show_36 hl (k := 3) rfl (by decide) rfl (fun ls hl => ?_)
      refine lv_goto (tgt := 2) hx hcd dX5_show_39 (by decide) ?_
      obtain ⟨hP, hD⟩ := kr_re (ws2 := wW cI q (g_showN M a b (i + 1))) hP hD (congrArg (fun M9 => wW cI q M9) (by simp [g_showN, c_4, c_16]))
      exact ih_2 H locs ls hP hD hS (lv_sub hl [1, 2, 3, 0] rfl)
  · have hl : lv_has ls 4 [(0, .ref (q 0)), (1, .int (nI a)), (2, .int (nI b)), (3, .int (nI 3))] := hl
    refine lv_iload_n hx hcd dX5_show_2 rfl (lv_at hl 3 rfl) ?_
    refine lv_iconst (v := nI 3) hx hcd dX5_show_3 (by decide) ?_
    refine kr_cge (tgt := 42) hx hcd (by omega) (by omega) dX5_show_4 (by decide) (fun (c_4 : 3 ≤ 3) => ?_) (fun (c_4 : 3 < 3) => absurd c_4 (by omega))
    exact kr_vret hx hcd hr hlocks hK hP hD hS (congrArg (fun M9 => wW cI q M9) (show g_showN M a b 3 = g_show M a b from rfl)) dX5_show_42

set_option maxHeartbeats 4000000 in
set_option maxRecDepth 100000 in
theorem c_X5_hide (l : Launch) (D : va_G) (cI cB cW cL : ClassId) (q : Nat → Nat) (sz : Nat) (M : kM) (a : Nat) (b : Nat) (hI : kInv M) (ha : a < 6) (hb : b < 6) : kMv l yX5_hide wsX5_hide ({ frames := 2, cells := 0, slots := 0, locals := 50 }) D vwCl (kT cI cB cW cL) sz [.ref (q 0), .int (nI a), .int (nI b)] (wW cI q M) (wW cI q (g_hide M a b)) := by
  refine kr_ofv (cc := cX5_hide) (maxL := 4) (ret := none) (by decide) rfl (Nat.le_of_ble_eq_true rfl) ?_
  intro pp ee ss mm args below meth cc AA ls hx hcd hr hts hown hlocks hml hK hP hD hA hl
  have hS : va_S AA ss.heap ss.heap [] := va_S.rf
  have hown : ss.vm.findClass RX5 = some mm.cls := hown
  have hl : lv_has ls 4 [(0, .ref (q 0)), (1, .int (nI a)), (2, .int (nI b))] := hl
  have uX5 : ∀ w ∈ u_ws RX5 TX5 5, w ∈ wsX5_hide := by decide +kernel
  refine lv_iconst (v := nI 0) hx hcd dX5_hide_0 (by decide) ?_
  refine lv_istore_n (lv' := [(3, .int (nI 0)), (0, .ref (q 0)), (1, .int (nI a)), (2, .int (nI b))]) hx hcd dX5_hide_1 rfl hl (by decide) rfl (fun ls hl => ?_)
  refine kr_up (fun i => wW cI q (g_hideN M a b i)) (fun i => [(0, .ref (q 0)), (1, .int (nI a)), (2, .int (nI b)), (3, .int (nI i))]) 3 (nL := 4) (fun i hi ih_2 H locs ls hP hD hS hl => ?_) (fun H locs ls hP hD hS hl => ?_) 0 (by omega) hP hD hS (lv_sub hl [1, 2, 3, 0] rfl)
  · have hl : lv_has ls 4 [(0, .ref (q 0)), (1, .int (nI a)), (2, .int (nI b)), (3, .int (nI i))] := hl
    have hJ := i_hideN hI ha hb i (by omega)
    refine lv_iload_n hx hcd dX5_hide_2 rfl (lv_at hl 3 rfl) ?_
    refine lv_iconst (v := nI 3) hx hcd dX5_hide_3 (by decide) ?_
    refine kr_cge (tgt := 34) hx hcd (by omega) (by omega) dX5_hide_4 (by decide) (fun (c_4 : 3 ≤ i) => absurd c_4 (by omega)) (fun (c_4 : i < 3) => ?_)
    refine lv_aload_n hx hcd dX5_hide_7 rfl (lv_at hl 0 rfl) ?_
    refine kr_get hx hcd hts uX5 hown hK hP 0 rfl rfl 0 (by decide) (by decide +kernel) (v := .ref (q 1)) rfl dX5_hide_8 ?_
    refine lv_iload_n hx hcd dX5_hide_11 rfl (lv_at hl 1 rfl) ?_
    refine lv_iload_n hx hcd dX5_hide_12 rfl (lv_at hl 3 rfl) ?_
    refine kr_Vi (As := [.int (nI a), .int (nI i)]) (rest := []) (ws2 := wW cI q (g_hideN M a b i)) (q := (RX3, TX3, 3)) ⟨hx, hcd, hml, hown, hts⟩ (c_X3_isOn l D cI cB cW cL q _ (g_hideN M a b i) a i (by omega) (by omega)) (cwV 2 hts gX5_hide_X3_isOn rfl rfl rfl (by decide +kernel) ⟨Nat.le_of_ble_eq_true rfl, Nat.le_of_ble_eq_true rfl⟩) hK hP hD hS hA [1, 2, 3, 4] wW_SeC (by decide) wSe_adr wW_Se0 1 rfl rfl rfl hl.1 rfl (Nat.le_of_ble_eq_true rfl) dX5_hide_13 ⟨Nat.zero_le _, Nat.zero_le _⟩ (fun H locs hP hD hS => ?_)
    refine kr_beq (tgt := 28) hx hcd dX5_hide_16 (by decide) (fun (c_16 : g_on (g_hideN M a b i) a i = false) => ?_) (fun (c_16 : g_on (g_hideN M a b i) a i = true) => ?_)
    · refine kr_iinc (lv' := [(3, .int (nI (i + 1))), (0, .ref (q 0)), (1, .int (nI a)), (2, .int (nI b))]) hx hcd dX5_hide_28 hl (k := 3) rfl (by decide) rfl (fun ls hl => ?_)
      refine lv_goto (tgt := 2) hx hcd dX5_hide_31 (by decide) ?_
      obtain ⟨hP, hD⟩ := kr_re (ws2 := wW cI q (g_hideN M a b (i + 1))) hP hD (congrArg (fun M9 => wW cI q M9) (by simp [g_hideN, c_4, c_16]))
      exact ih_2 H locs ls hP hD hS (lv_sub hl [1, 2, 3, 0] rfl)
    · refine lv_aload_n hx hcd dX5_hide_19 rfl (lv_at hl 0 rfl) ?_
      refine lv_iconst (v := nI 5) hx hcd dX5_hide_20 (by decide) ?_
      refine lv_iload_n hx hcd dX5_hide_21 rfl (lv_at hl 1 rfl) ?_
      refine lv_iload_n hx hcd dX5_hide_22 rfl (lv_at hl 2 rfl) ?_
      refine lv_iload_n hx hcd dX5_hide_23 rfl (lv_at hl 3 rfl) ?_
      refine lv_iconst (v := (-1)) hx hcd dX5_hide_24 (by decide) ?_
      refine kr_Vv (As := [.int (nI 5), .int (nI a), .int (nI b), .int (nI i), .int (-1)]) (rest := []) (ws2 := wW cI q (g_send (g_hideN M a b i) 5 a b i 0)) (q := (RX5, TX5, 5)) ⟨hx, hcd, hml, hown, hts⟩ (c_X5_sendOfSeat l D cI cB cW cL q _ (g_hideN M a b i) 5 a b (nI i) (-1) i 0 hJ (by omega) (by omega) (by omega) (by omega) (by omega) (by omega) (by omega) (by rw [if_pos (by omega)]; exact e_one) (by rw [if_neg (by omega)]; exact e_none)) (cwV 5 hts gX5_hide_X5_sendOfSeat rfl rfl rfl (by decide +kernel) ⟨Nat.le_of_ble_eq_true rfl, Nat.le_of_ble_eq_true rfl⟩) hK hP hD hS hA [0, 1, 2, 3, 4, 5, 6, 7, 8, 9, 10, 11, 12, 13, 14] wW_allC (by decide) wW_adr wW_all 0 rfl rfl rfl hl.1 rfl (Nat.le_of_ble_eq_true rfl) dX5_hide_25 ⟨Nat.zero_le _, Nat.zero_le _⟩ (fun H locs hP hD hS => ?_)
      have hI_1 : kInv (g_send (g_hideN M a b i) 5 a b i 0) := i_send hJ (by omega) (by omega) (by omega) (by omega) (by omega) (by omega) (by omega)
      refine kr_iinc (lv' := [(3, .int (nI (i + 1))), (0, .ref (q 0)), (1, .int (nI a)), (2, .int (nI b))]) hx hcd dX5_hide_28 hl (k := 3) rfl (by decide) rfl (fun ls hl => ?_)
      refine lv_goto (tgt := 2) hx hcd dX5_hide_31 (by decide) ?_
      obtain ⟨hP, hD⟩ := kr_re (ws2 := wW cI q (g_hideN M a b (i + 1))) hP hD (congrArg (fun M9 => wW cI q M9) (by simp [g_hideN, c_4, c_16]))
      exact ih_2 H locs ls hP hD hS (lv_sub hl [1, 2, 3, 0] rfl)
  · have hl : lv_has ls 4 [(0, .ref (q 0)), (1, .int (nI a)), (2, .int (nI b)), (3, .int (nI 3))] := hl
    refine lv_iload_n hx hcd dX5_hide_2 rfl (lv_at hl 3 rfl) ?_
    refine lv_iconst (v := nI 3) hx hcd dX5_hide_3 (by decide) ?_
    refine kr_cge (tgt := 34) hx hcd (by omega) (by omega) dX5_hide_4 (by decide) (fun (c_4 : 3 ≤ 3) => ?_) (fun (c_4 : 3 < 3) => absurd c_4 (by omega))
    exact kr_vret hx hcd hr hlocks hK hP hD hS (congrArg (fun M9 => wW cI q M9) (show g_hideN M a b 3 = g_hide M a b from rfl)) dX5_hide_34

set_option maxHeartbeats 4000000 in
set_option maxRecDepth 100000 in
theorem c_X5_sendToSeers (l : Launch) (D : va_G) (cI cB cW cL : ClassId) (q : Nat → Nat) (sz : Nat) (M : kM) (k : Nat) (a : Nat) (s : Nat) (mo : Int32) (d : Nat) (hI : kInv M) (hk : k = 4 ∨ k = 5) (ha : a < 6) (hs : s < 3) (hd : d < 5) (h6 : k = 4 ∨ d = 0) (e2 : mo - (-1) = nI (if k = 4 then d + 1 else 0)) : kMv l yX5_sendToSeers wsX5_sendToSeers ({ frames := 2, cells := 0, slots := 0, locals := 50 }) D vwCl (kT cI cB cW cL) sz [.ref (q 0), .int (nI k), .int (nI a), .int (nI s), .int mo] (wW cI q M) (wW cI q (g_seers M 2 k a s d)) := by
  refine kr_ofv (cc := cX5_sendToSeers) (maxL := 6) (ret := none) (by decide) rfl (Nat.le_of_ble_eq_true rfl) ?_
  intro pp ee ss mm args below meth cc AA ls hx hcd hr hts hown hlocks hml hK hP hD hA hl
  have hS : va_S AA ss.heap ss.heap [] := va_S.rf
  have hown : ss.vm.findClass RX5 = some mm.cls := hown
  have hl : lv_has ls 6 [(0, .ref (q 0)), (1, .int (nI k)), (2, .int (nI a)), (3, .int (nI s)), (4, .int mo)] := hl
  have uX5 : ∀ w ∈ u_ws RX5 TX5 5, w ∈ wsX5_sendToSeers := by decide +kernel
  refine lv_iconst (v := nI 0) hx hcd dX5_sendToSeers_0 (by decide) ?_
  refine lv_istore (lv' := [(5, .int (nI 0)), (0, .ref (q 0)), (1, .int (nI k)), (2, .int (nI a)), (3, .int (nI s)), (4, .int mo)]) hx hcd dX5_sendToSeers_1 hl (by decide) rfl (fun ls hl => ?_)
  refine kr_up (fun i => wW cI q (g_seersN M 2 k a s d i)) (fun i => [(0, .ref (q 0)), (1, .int (nI k)), (2, .int (nI a)), (3, .int (nI s)), (4, .int mo), (5, .int (nI i))]) 6 (nL := 6) (fun i hi ih_3 H locs ls hP hD hS hl => ?_) (fun H locs ls hP hD hS hl => ?_) 0 (by omega) hP hD hS (lv_sub hl [1, 2, 3, 4, 5, 0] rfl)
  · have hl : lv_has ls 6 [(0, .ref (q 0)), (1, .int (nI k)), (2, .int (nI a)), (3, .int (nI s)), (4, .int mo), (5, .int (nI i))] := hl
    have hJ := i_seersN hI (mk := 2) (show k < 7 by omega) ha hs hd h6 (by omega) i (by omega)
    refine lv_iload hx hcd dX5_sendToSeers_3 (lv_at hl 5 rfl) ?_
    refine lv_bipush (v := nI 6) hx hcd dX5_sendToSeers_5 (by decide) ?_
    refine kr_cge (tgt := 41) hx hcd (by omega) (by omega) dX5_sendToSeers_7 (by decide) (fun (c_7 : 6 ≤ i) => absurd c_7 (by omega)) (fun (c_7 : i < 6) => ?_)
    refine lv_aload_n hx hcd dX5_sendToSeers_10 rfl (lv_at hl 0 rfl) ?_
    refine kr_get hx hcd hts uX5 hown hK hP 0 rfl rfl 1 (by decide) (by decide +kernel) (v := .ref (q 5)) rfl dX5_sendToSeers_11 ?_
    refine lv_iload_n hx hcd dX5_sendToSeers_14 rfl (lv_at hl 2 rfl) ?_
    refine lv_iload hx hcd dX5_sendToSeers_15 (lv_at hl 5 rfl) ?_
    refine lv_iconst (v := nI 2) hx hcd dX5_sendToSeers_17 (by decide) ?_
    refine kr_Vi (As := [.int (nI a), .int (nI i), .int (nI 2)]) (rest := []) (ws2 := wW cI q (g_seersN M 2 k a s d i)) (q := (RX1, TX1, 3)) ⟨hx, hcd, hml, hown, hts⟩ (c_X1_hasAny l D cI cB cW cL q _ (g_seersN M 2 k a s d i) a i 2 (by omega) (by omega)) (cwV 3 hts gX5_sendToSeers_X1_hasAny rfl rfl rfl (by decide +kernel) ⟨Nat.le_of_ble_eq_true rfl, Nat.le_of_ble_eq_true rfl⟩) hK hP hD hS hA [5, 6, 7, 8] wW_RoC (by decide) wRo_adr wW_Ro0 5 rfl rfl rfl hl.1 rfl (Nat.le_of_ble_eq_true rfl) dX5_sendToSeers_18 ⟨Nat.zero_le _, Nat.zero_le _⟩ (fun H locs hP hD hS => ?_)
    refine kr_beq (tgt := 35) hx hcd dX5_sendToSeers_21 (by decide) (fun (c_21 : g_has (g_seersN M 2 k a s d i) a i 2 = false) => ?_) (fun (c_21 : g_has (g_seersN M 2 k a s d i) a i 2 = true) => ?_)
    · refine kr_iinc (lv' := [(5, .int (nI (i + 1))), (0, .ref (q 0)), (1, .int (nI k)), (2, .int (nI a)), (3, .int (nI s)), (4, .int mo)]) hx hcd dX5_sendToSeers_35 hl (k := 5) rfl (by decide) rfl (fun ls hl => ?_)
      refine lv_goto (tgt := 3) hx hcd dX5_sendToSeers_38 (by decide) ?_
      obtain ⟨hP, hD⟩ := kr_re (ws2 := wW cI q (g_seersN M 2 k a s d (i + 1))) hP hD (congrArg (fun M9 => wW cI q M9) (by simp [g_seersN, c_7, c_21]))
      exact ih_3 H locs ls hP hD hS (lv_sub hl [1, 2, 3, 4, 5, 0] rfl)
    · refine lv_aload_n hx hcd dX5_sendToSeers_24 rfl (lv_at hl 0 rfl) ?_
      refine lv_iload_n hx hcd dX5_sendToSeers_25 rfl (lv_at hl 1 rfl) ?_
      refine lv_iload_n hx hcd dX5_sendToSeers_26 rfl (lv_at hl 2 rfl) ?_
      refine lv_iload hx hcd dX5_sendToSeers_27 (lv_at hl 5 rfl) ?_
      refine lv_iload_n hx hcd dX5_sendToSeers_29 rfl (lv_at hl 3 rfl) ?_
      refine lv_iload hx hcd dX5_sendToSeers_30 (lv_at hl 4 rfl) ?_
      refine kr_Vv (As := [.int (nI k), .int (nI a), .int (nI i), .int (nI s), .int mo]) (rest := []) (ws2 := wW cI q (g_send (g_seersN M 2 k a s d i) k a i s d)) (q := (RX5, TX5, 5)) ⟨hx, hcd, hml, hown, hts⟩ (c_X5_sendOfSeat l D cI cB cW cL q _ (g_seersN M 2 k a s d i) k a i (nI s) mo s d hJ (by omega) (by omega) (by omega) (by omega) (by omega) (by omega) (by omega) (by rw [if_pos (by omega)]; exact e_one) e2) (cwV 5 hts gX5_sendToSeers_X5_sendOfSeat rfl rfl rfl (by decide +kernel) ⟨Nat.le_of_ble_eq_true rfl, Nat.le_of_ble_eq_true rfl⟩) hK hP hD hS hA [0, 1, 2, 3, 4, 5, 6, 7, 8, 9, 10, 11, 12, 13, 14] wW_allC (by decide) wW_adr wW_all 0 rfl rfl rfl hl.1 rfl (Nat.le_of_ble_eq_true rfl) dX5_sendToSeers_32 ⟨Nat.zero_le _, Nat.zero_le _⟩ (fun H locs hP hD hS => ?_)
      have hI_1 : kInv (g_send (g_seersN M 2 k a s d i) k a i s d) := i_send hJ (by omega) (by omega) (by omega) (by omega) (by omega) (by omega) (by omega)
      refine kr_iinc (lv' := [(5, .int (nI (i + 1))), (0, .ref (q 0)), (1, .int (nI k)), (2, .int (nI a)), (3, .int (nI s)), (4, .int mo)]) hx hcd dX5_sendToSeers_35 hl (k := 5) rfl (by decide) rfl (fun ls hl => ?_)
      refine lv_goto (tgt := 3) hx hcd dX5_sendToSeers_38 (by decide) ?_
      obtain ⟨hP, hD⟩ := kr_re (ws2 := wW cI q (g_seersN M 2 k a s d (i + 1))) hP hD (congrArg (fun M9 => wW cI q M9) (by simp [g_seersN, c_7, c_21]))
      exact ih_3 H locs ls hP hD hS (lv_sub hl [1, 2, 3, 4, 5, 0] rfl)
  · have hl : lv_has ls 6 [(0, .ref (q 0)), (1, .int (nI k)), (2, .int (nI a)), (3, .int (nI s)), (4, .int mo), (5, .int (nI 6))] := hl
    refine lv_iload hx hcd dX5_sendToSeers_3 (lv_at hl 5 rfl) ?_
    refine lv_bipush (v := nI 6) hx hcd dX5_sendToSeers_5 (by decide) ?_
    refine kr_cge (tgt := 41) hx hcd (by omega) (by omega) dX5_sendToSeers_7 (by decide) (fun (c_7 : 6 ≤ 6) => ?_) (fun (c_7 : 6 < 6) => absurd c_7 (by omega))
    exact kr_vret hx hcd hr hlocks hK hP hD hS (congrArg (fun M9 => wW cI q M9) (show g_seersN M 2 k a s d 6 = g_seers M 2 k a s d from rfl)) dX5_sendToSeers_41
