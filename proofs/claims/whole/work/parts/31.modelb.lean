set_option maxHeartbeats 4000000 in
set_option maxRecDepth 100000 in
theorem c_X7_send (l : Launch) (D : va_G) (cI cB cW cL : ClassId) (z : Nat → Nat) (x : Nat → Int32) (hh : Int64) (sz : Nat) (M : kM) (k : Nat) (f : Nat) (t : Nat) (s : Nat) (d : Nat) (hI : kInv M) (hk : k < 7) (hf : f < 6) (ht : t < 6) (hs : s < 3) (hd : d < 5) (h6 : k = 4 ∨ d = 0) (h7 : k = 4 ∨ k = 5 ∨ s = 0) : kMv l yX7_send wsX7_send ({ frames := 1, cells := 0, slots := 0, locals := 22 }) D vwCl (kT cI cB cW cL) sz [.ref (z 0), .int (nI k), .int (nI f), .int (nI t), .int (nI s), .int (nI d)] (wMo cI z x hh M) (wMo cI z x hh (g_send M k f t s d)) := by
  refine kr_ofv (cc := cX7_send) (maxL := 6) (ret := none) (by decide) rfl (Nat.le_of_ble_eq_true rfl) ?_
  intro pp ee ss mm args below meth cc AA ls hx hcd hr hts hown hlocks hml hK hP hD hA hl
  have hS : va_S AA ss.heap ss.heap [] := va_S.rf
  have hown : ss.vm.findClass RX7 = some mm.cls := hown
  have hl : lv_has ls 6 [(0, .ref (z 0)), (1, .int (nI k)), (2, .int (nI f)), (3, .int (nI t)), (4, .int (nI s)), (5, .int (nI d))] := hl
  have uX7 : ∀ w ∈ u_ws RX7 TX7 10, w ∈ wsX7_send := by decide +kernel
  have e576 := i_hd hI
  have b576 := i_hdlt hI
  have e577 := i_wy hI
  have b577 := i_wyle hI
  refine lv_aload_n hx hcd dX7_send_0 rfl (lv_at hl 0 rfl) ?_
  refine lv_iload_n hx hcd dX7_send_1 rfl (lv_at hl 2 rfl) ?_
  refine lv_iload_n hx hcd dX7_send_2 rfl (lv_at hl 3 rfl) ?_
  refine kr_Vi (As := [.int (nI f), .int (nI t)]) (rest := []) (ws2 := wMo cI z x hh M) (q := (RX7, TX7, 10)) ⟨hx, hcd, hml, hown, hts⟩ (c_X7_apart l D cI cB cW cL z x hh _ M f t (by omega) (by omega)) (cwV 2 hts gX7_send_X7_apart rfl rfl rfl (by decide +kernel) ⟨Nat.le_of_ble_eq_true rfl, Nat.le_of_ble_eq_true rfl⟩) hK hP hD hS hA [0, 1] wMo_allC (by decide) wMo_adr wMo_all 0 rfl rfl rfl hl.1 rfl (Nat.le_of_ble_eq_true rfl) dX7_send_3 ⟨Nat.zero_le _, Nat.zero_le _⟩ (fun H locs hP hD hS => ?_)
  refine kr_beq (tgt := 10) hx hcd dX7_send_6 (by decide) (fun (c_6 : g_apart M f t = false) => ?_) (fun (c_6 : g_apart M f t = true) => ?_)
  · refine lv_aload_n hx hcd dX7_send_10 rfl (lv_at hl 0 rfl) ?_
    refine kr_get hx hcd hts uX7 hown hK hP 0 rfl rfl 0 (by decide) (by decide +kernel) (v := .ref (z 1)) rfl dX7_send_11 ?_
    refine lv_sipush (v := nI 578) hx hcd dX7_send_14 (by decide) ?_
    refine lv_dup2_11 hx hcd dX7_send_17 rfl rfl ?_
    refine kr_iald hx hcd hK hP 1 0 rfl rfl (v := M 578) (by omega) (by decide) (congrArg M (by omega)) dX7_send_18 ?_
    refine lv_iconst (v := nI 1) hx hcd dX7_send_19 (by decide) ?_
    refine lv_iadd hx hcd dX7_send_20 ?_
    refine kr_iast hx hcd hK hP hD hS 1 0 rfl rfl (by omega) (by decide) (congrArg (fun k9 => upd M k9 ((M 578) + 1)) (by omega)) (ws2 := wMo cI z x hh (upd M (578) ((M 578) + 1))) rfl dX7_send_21 (fun H locs hP hD hS => ?_)
    refine lv_aload_n hx hcd dX7_send_22 rfl (lv_at hl 0 rfl) ?_
    refine kr_get hx hcd hts uX7 hown hK hP 0 rfl rfl 0 (by decide) (by decide +kernel) (v := .ref (z 1)) rfl dX7_send_23 ?_
    refine lv_sipush (v := nI 577) hx hcd dX7_send_26 (by decide) ?_
    refine kr_iald hx hcd hK hP 1 0 rfl rfl (v := (upd M (578) ((M 578) + 1)) 577) (by omega) (by decide) (congrArg (upd M (578) ((M 578) + 1)) (by omega)) dX7_send_29 ?_
    refine kr_top (w := M 577) (upd_ne (by omega)) ?_
    refine kr_top (w := nI (wyN M)) e577 ?_
    refine lv_sipush (v := nI 300) hx hcd dX7_send_30 (by decide) ?_
    refine kr_cne (tgt := 49) hx hcd (by omega) (by omega) dX7_send_33 (by decide) (fun (c_33 : ¬ wyN M = 300) => ?_) (fun (c_33 : wyN M = 300) => ?_)
    · refine lv_aload_n hx hcd dX7_send_49 rfl (lv_at hl 0 rfl) ?_
      refine kr_get hx hcd hts uX7 hown hK hP 0 rfl rfl 0 (by decide) (by decide +kernel) (v := .ref (z 1)) rfl dX7_send_50 ?_
      refine lv_sipush (v := nI 276) hx hcd dX7_send_53 (by decide) ?_
      refine lv_aload_n hx hcd dX7_send_56 rfl (lv_at hl 0 rfl) ?_
      refine kr_get hx hcd hts uX7 hown hK hP 0 rfl rfl 0 (by decide) (by decide +kernel) (v := .ref (z 1)) rfl dX7_send_57 ?_
      refine lv_sipush (v := nI 576) hx hcd dX7_send_60 (by decide) ?_
      refine kr_iald hx hcd hK hP 1 0 rfl rfl (v := (upd M (578) ((M 578) + 1)) 576) (by omega) (by decide) (congrArg (upd M (578) ((M 578) + 1)) (by omega)) dX7_send_63 ?_
      refine kr_top (w := M 576) (upd_ne (by omega)) ?_
      refine kr_top (w := nI (hdN M)) e576 ?_
      refine lv_aload_n hx hcd dX7_send_64 rfl (lv_at hl 0 rfl) ?_
      refine kr_get hx hcd hts uX7 hown hK hP 0 rfl rfl 0 (by decide) (by decide +kernel) (v := .ref (z 1)) rfl dX7_send_65 ?_
      refine lv_sipush (v := nI 577) hx hcd dX7_send_68 (by decide) ?_
      refine kr_iald hx hcd hK hP 1 0 rfl rfl (v := (upd M (578) ((M 578) + 1)) 577) (by omega) (by decide) (congrArg (upd M (578) ((M 578) + 1)) (by omega)) dX7_send_71 ?_
      refine kr_top (w := M 577) (upd_ne (by omega)) ?_
      refine kr_top (w := nI (wyN M)) e577 ?_
      refine kr_add hx hcd dX7_send_72 ?_
      refine lv_sipush (v := nI 300) hx hcd dX7_send_73 (by decide) ?_
      refine kr_rem hx hcd (by omega) (by decide) (by decide) dX7_send_76 ?_
      refine kr_add hx hcd dX7_send_77 ?_
      refine lv_iload_n hx hcd dX7_send_78 rfl (lv_at hl 1 rfl) ?_
      refine lv_bipush (v := nI 8) hx hcd dX7_send_79 (by decide) ?_
      refine lv_iload_n hx hcd dX7_send_81 rfl (lv_at hl 2 rfl) ?_
      refine kr_mul hx hcd dX7_send_82 ?_
      refine kr_add hx hcd dX7_send_83 ?_
      refine lv_bipush (v := nI 64) hx hcd dX7_send_84 (by decide) ?_
      refine lv_iload_n hx hcd dX7_send_86 rfl (lv_at hl 3 rfl) ?_
      refine kr_mul hx hcd dX7_send_87 ?_
      refine kr_add hx hcd dX7_send_88 ?_
      refine lv_sipush (v := nI 512) hx hcd dX7_send_89 (by decide) ?_
      refine lv_iload hx hcd dX7_send_92 (lv_at hl 4 rfl) ?_
      refine kr_mul hx hcd dX7_send_94 ?_
      refine kr_add hx hcd dX7_send_95 ?_
      refine lv_sipush (v := nI 2048) hx hcd dX7_send_96 (by decide) ?_
      refine lv_iload hx hcd dX7_send_99 (lv_at hl 5 rfl) ?_
      refine kr_mul hx hcd dX7_send_101 ?_
      refine kr_add hx hcd dX7_send_102 ?_
      refine kr_iast hx hcd hK hP hD hS 1 0 rfl rfl (by omega) (by decide) (congrArg (fun k9 => upd (upd M (578) ((M 578) + 1)) k9 (nI ((((k + (8 * f)) + (64 * t)) + (512 * s)) + (2048 * d)))) (by omega)) (ws2 := wMo cI z x hh (upd (upd M (578) ((M 578) + 1)) (276 + (((hdN M) + (wyN M)) % 300)) (nI ((((k + (8 * f)) + (64 * t)) + (512 * s)) + (2048 * d))))) rfl dX7_send_103 (fun H locs hP hD hS => ?_)
      refine lv_aload_n hx hcd dX7_send_104 rfl (lv_at hl 0 rfl) ?_
      refine kr_get hx hcd hts uX7 hown hK hP 0 rfl rfl 0 (by decide) (by decide +kernel) (v := .ref (z 1)) rfl dX7_send_105 ?_
      refine lv_sipush (v := nI 577) hx hcd dX7_send_108 (by decide) ?_
      refine lv_dup2_11 hx hcd dX7_send_111 rfl rfl ?_
      refine kr_iald hx hcd hK hP 1 0 rfl rfl (v := (upd (upd M (578) ((M 578) + 1)) (276 + (((hdN M) + (wyN M)) % 300)) (nI ((((k + (8 * f)) + (64 * t)) + (512 * s)) + (2048 * d)))) 577) (by omega) (by decide) (congrArg (upd (upd M (578) ((M 578) + 1)) (276 + (((hdN M) + (wyN M)) % 300)) (nI ((((k + (8 * f)) + (64 * t)) + (512 * s)) + (2048 * d)))) (by omega)) dX7_send_112 ?_
      refine kr_top (w := M 577) ((upd_ne (by omega)).trans (upd_ne (by omega))) ?_
      refine kr_top (w := nI (wyN M)) e577 ?_
      refine lv_iconst (v := nI 1) hx hcd dX7_send_113 (by decide) ?_
      refine kr_add hx hcd dX7_send_114 ?_
      refine kr_iast hx hcd hK hP hD hS 1 0 rfl rfl (by omega) (by decide) (congrArg (fun k9 => upd (upd (upd M (578) ((M 578) + 1)) (276 + (((hdN M) + (wyN M)) % 300)) (nI ((((k + (8 * f)) + (64 * t)) + (512 * s)) + (2048 * d)))) k9 (nI ((wyN M) + 1))) (by omega)) (ws2 := wMo cI z x hh (upd (upd (upd M (578) ((M 578) + 1)) (276 + (((hdN M) + (wyN M)) % 300)) (nI ((((k + (8 * f)) + (64 * t)) + (512 * s)) + (2048 * d)))) (577) (nI ((wyN M) + 1)))) rfl dX7_send_115 (fun H locs hP hD hS => ?_)
      exact kr_vret hx hcd hr hlocks hK hP hD hS (congrArg (fun M9 => wMo cI z x hh M9) (by rw [g_send, if_neg (by simp [c_6]), g_put, if_neg (fun h => c_33 ((nI_eq (by omega) (by decide)).mp (by rw [← e577]; exact h))), e577, nI_1]; rfl)) dX7_send_116
    · refine lv_aload_n hx hcd dX7_send_36 rfl (lv_at hl 0 rfl) ?_
      refine kr_get hx hcd hts uX7 hown hK hP 0 rfl rfl 0 (by decide) (by decide +kernel) (v := .ref (z 1)) rfl dX7_send_37 ?_
      refine lv_sipush (v := nI 580) hx hcd dX7_send_40 (by decide) ?_
      refine lv_dup2_11 hx hcd dX7_send_43 rfl rfl ?_
      refine kr_iald hx hcd hK hP 1 0 rfl rfl (v := (upd M (578) ((M 578) + 1)) 580) (by omega) (by decide) (congrArg (upd M (578) ((M 578) + 1)) (by omega)) dX7_send_44 ?_
      refine kr_top (w := M 580) (upd_ne (by omega)) ?_
      refine lv_iconst (v := nI 1) hx hcd dX7_send_45 (by decide) ?_
      refine lv_iadd hx hcd dX7_send_46 ?_
      refine kr_iast hx hcd hK hP hD hS 1 0 rfl rfl (by omega) (by decide) (congrArg (fun k9 => upd (upd M (578) ((M 578) + 1)) k9 ((M 580) + 1)) (by omega)) (ws2 := wMo cI z x hh (upd (upd M (578) ((M 578) + 1)) (580) ((M 580) + 1))) rfl dX7_send_47 (fun H locs hP hD hS => ?_)
      exact kr_vret hx hcd hr hlocks hK hP hD hS (congrArg (fun M9 => wMo cI z x hh M9) (by rw [g_send, if_neg (by simp [c_6]), g_put, if_pos (by rw [e577, c_33])])) dX7_send_48
  · exact kr_vret hx hcd hr hlocks hK hP hD hS (congrArg (fun M9 => wMo cI z x hh M9) (by rw [g_send, if_pos c_6])) dX7_send_9

set_option maxHeartbeats 4000000 in
set_option maxRecDepth 100000 in
theorem c_X7_shows (l : Launch) (D : va_G) (cI cB cW cL : ClassId) (z : Nat → Nat) (x : Nat → Int32) (hh : Int64) (sz : Nat) (M : kM) (a : Nat) (b : Nat) (hI : kInv M) (ha : a < 6) (hb : b < 6) : kMv l yX7_shows wsX7_shows ({ frames := 2, cells := 0, slots := 0, locals := 47 }) D vwCl (kT cI cB cW cL) sz [.ref (z 0), .int (nI a), .int (nI b)] (wMo cI z x hh M) (wMo cI z x hh (g_show M a b)) := by
  refine kr_ofv (cc := cX7_shows) (maxL := 4) (ret := none) (by decide) rfl (Nat.le_of_ble_eq_true rfl) ?_
  intro pp ee ss mm args below meth cc AA ls hx hcd hr hts hown hlocks hml hK hP hD hA hl
  have hS : va_S AA ss.heap ss.heap [] := va_S.rf
  have hown : ss.vm.findClass RX7 = some mm.cls := hown
  have hl : lv_has ls 4 [(0, .ref (z 0)), (1, .int (nI a)), (2, .int (nI b))] := hl
  have uX7 : ∀ w ∈ u_ws RX7 TX7 10, w ∈ wsX7_shows := by decide +kernel
  refine lv_iconst (v := nI 0) hx hcd dX7_shows_0 (by decide) ?_
  refine lv_istore_n (lv' := [(3, .int (nI 0)), (0, .ref (z 0)), (1, .int (nI a)), (2, .int (nI b))]) hx hcd dX7_shows_1 rfl hl (by decide) rfl (fun ls hl => ?_)
  refine kr_up (fun i => wMo cI z x hh (g_showN M a b i)) (fun i => [(0, .ref (z 0)), (1, .int (nI a)), (2, .int (nI b)), (3, .int (nI i))]) 3 (nL := 4) (fun i hi ih_2 H locs ls hP hD hS hl => ?_) (fun H locs ls hP hD hS hl => ?_) 0 (by omega) hP hD hS (lv_sub hl [1, 2, 3, 0] rfl)
  · have hl : lv_has ls 4 [(0, .ref (z 0)), (1, .int (nI a)), (2, .int (nI b)), (3, .int (nI i))] := hl
    have hJ := i_showN hI ha hb i (by omega)
    have hmd := i_mdlt hJ ha (show i < 3 by omega)
    refine lv_iload_n hx hcd dX7_shows_2 rfl (lv_at hl 3 rfl) ?_
    refine lv_iconst (v := nI 3) hx hcd dX7_shows_3 (by decide) ?_
    refine kr_cge (tgt := 42) hx hcd (by omega) (by omega) dX7_shows_4 (by decide) (fun (c_4 : 3 ≤ i) => absurd c_4 (by omega)) (fun (c_4 : i < 3) => ?_)
    refine lv_aload_n hx hcd dX7_shows_7 rfl (lv_at hl 0 rfl) ?_
    refine lv_iload_n hx hcd dX7_shows_8 rfl (lv_at hl 1 rfl) ?_
    refine lv_iload_n hx hcd dX7_shows_9 rfl (lv_at hl 3 rfl) ?_
    refine kr_Vi (As := [.int (nI a), .int (nI i)]) (rest := []) (ws2 := wMo cI z x hh (g_showN M a b i)) (q := (RX7, TX7, 10)) ⟨hx, hcd, hml, hown, hts⟩ (c_X7_isOn l D cI cB cW cL z x hh _ (g_showN M a b i) a i (by omega) (by omega)) (cwV 2 hts gX7_shows_X7_isOn rfl rfl rfl (by decide +kernel) ⟨Nat.le_of_ble_eq_true rfl, Nat.le_of_ble_eq_true rfl⟩) hK hP hD hS hA [0, 1] wMo_allC (by decide) wMo_adr wMo_all 0 rfl rfl rfl hl.1 rfl (Nat.le_of_ble_eq_true rfl) dX7_shows_10 ⟨Nat.zero_le _, Nat.zero_le _⟩ (fun H locs hP hD hS => ?_)
    refine kr_beq (tgt := 36) hx hcd dX7_shows_13 (by decide) (fun (c_13 : g_on (g_showN M a b i) a i = false) => ?_) (fun (c_13 : g_on (g_showN M a b i) a i = true) => ?_)
    · refine kr_iinc (lv' := [(3, .int (nI (i + 1))), (0, .ref (z 0)), (1, .int (nI a)), (2, .int (nI b))]) hx hcd dX7_shows_36 hl (k := 3) rfl (by decide) rfl (fun ls hl => ?_)
      refine lv_goto (tgt := 2) hx hcd dX7_shows_39 (by decide) ?_
      obtain ⟨hP, hD⟩ := kr_re (ws2 := wMo cI z x hh (g_showN M a b (i + 1))) hP hD (congrArg (fun M9 => wMo cI z x hh M9) (by simp [g_showN, c_4, c_13]))
      exact ih_2 H locs ls hP hD hS (lv_sub hl [1, 2, 3, 0] rfl)
    · refine lv_aload_n hx hcd dX7_shows_16 rfl (lv_at hl 0 rfl) ?_
      refine lv_iconst (v := nI 4) hx hcd dX7_shows_17 (by decide) ?_
      refine lv_iload_n hx hcd dX7_shows_18 rfl (lv_at hl 1 rfl) ?_
      refine lv_iload_n hx hcd dX7_shows_19 rfl (lv_at hl 2 rfl) ?_
      refine lv_iload_n hx hcd dX7_shows_20 rfl (lv_at hl 3 rfl) ?_
      refine lv_aload_n hx hcd dX7_shows_21 rfl (lv_at hl 0 rfl) ?_
      refine kr_get hx hcd hts uX7 hown hK hP 0 rfl rfl 0 (by decide) (by decide +kernel) (v := .ref (z 1)) rfl dX7_shows_22 ?_
      refine lv_iload_n hx hcd dX7_shows_25 rfl (lv_at hl 1 rfl) ?_
      refine lv_iload_n hx hcd dX7_shows_26 rfl (lv_at hl 3 rfl) ?_
      refine kr_Si (As := [.int (nI a), .int (nI i)]) (rest := [.ref (z 1), .int (nI i), .int (nI b), .int (nI a), .int (nI 4), .ref (z 0)]) (ws2 := wMo cI z x hh (g_showN M a b i)) ⟨hx, hcd, hml, hown, hts⟩ (c_X7_seatCell l D cI cB cW cL  _ (g_showN M a b i) a i) (va_cwS 2 hts gX7_shows_X7_seatCell rfl rfl rfl (by decide +kernel) ⟨Nat.le_of_ble_eq_true rfl, Nat.le_of_ble_eq_true rfl⟩) hK hP hD hS hA [] rfl (by decide) rfl rfl rfl hl.1 rfl (Nat.le_of_ble_eq_true rfl) dX7_shows_27 ⟨Nat.zero_le _, Nat.zero_le _⟩ (fun H locs hP hD hS => ?_)
      refine lv_iconst (v := nI 2) hx hcd dX7_shows_30 (by decide) ?_
      refine kr_add hx hcd dX7_shows_31 ?_
      refine kr_iald hx hcd hK hP 1 0 rfl rfl (v := (g_showN M a b i) (2 + 9 * a + 3 * i)) (by omega) (by decide) (congrArg (g_showN M a b i) (by omega)) dX7_shows_32 ?_
      refine kr_top (w := nI (g_md (g_showN M a b i) a i)) (i_md hJ ha (by omega)) ?_
      refine kr_Vv (As := [.int (nI 4), .int (nI a), .int (nI b), .int (nI i), .int (nI (g_md (g_showN M a b i) a i))]) (rest := []) (ws2 := wMo cI z x hh (g_send (g_showN M a b i) 4 a b i (g_md (g_showN M a b i) a i))) (q := (RX7, TX7, 10)) ⟨hx, hcd, hml, hown, hts⟩ (c_X7_send l D cI cB cW cL z x hh _ (g_showN M a b i) 4 a b i (g_md (g_showN M a b i) a i) hJ (by omega) (by omega) (by omega) (by omega) (by omega) (by omega) (by omega)) (cwV 5 hts gX7_shows_X7_send rfl rfl rfl (by decide +kernel) ⟨Nat.le_of_ble_eq_true rfl, Nat.le_of_ble_eq_true rfl⟩) hK hP hD hS hA [0, 1] wMo_allC (by decide) wMo_adr wMo_all 0 rfl rfl rfl hl.1 rfl (Nat.le_of_ble_eq_true rfl) dX7_shows_33 ⟨Nat.zero_le _, Nat.zero_le _⟩ (fun H locs hP hD hS => ?_)
      have hI_1 : kInv (g_send (g_showN M a b i) 4 a b i (g_md (g_showN M a b i) a i)) := i_send hJ (by omega) (by omega) (by omega) (by omega) (by omega) (by omega) (by omega)
      refine kr_iinc (lv' := [(3, .int (nI (i + 1))), (0, .ref (z 0)), (1, .int (nI a)), (2, .int (nI b))]) hx hcd dX7_shows_36 hl (k := 3) rfl (by decide) rfl (fun ls hl => ?_)
      refine lv_goto (tgt := 2) hx hcd dX7_shows_39 (by decide) ?_
      obtain ⟨hP, hD⟩ := kr_re (ws2 := wMo cI z x hh (g_showN M a b (i + 1))) hP hD (congrArg (fun M9 => wMo cI z x hh M9) (by simp [g_showN, c_4, c_13]))
      exact ih_2 H locs ls hP hD hS (lv_sub hl [1, 2, 3, 0] rfl)
  · have hl : lv_has ls 4 [(0, .ref (z 0)), (1, .int (nI a)), (2, .int (nI b)), (3, .int (nI 3))] := hl
    refine lv_iload_n hx hcd dX7_shows_2 rfl (lv_at hl 3 rfl) ?_
    refine lv_iconst (v := nI 3) hx hcd dX7_shows_3 (by decide) ?_
    refine kr_cge (tgt := 42) hx hcd (by omega) (by omega) dX7_shows_4 (by decide) (fun (c_4 : 3 ≤ 3) => ?_) (fun (c_4 : 3 < 3) => absurd c_4 (by omega))
    exact kr_vret hx hcd hr hlocks hK hP hD hS (congrArg (fun M9 => wMo cI z x hh M9) (show g_showN M a b 3 = g_show M a b from rfl)) dX7_shows_42

set_option maxHeartbeats 4000000 in
set_option maxRecDepth 100000 in
theorem c_X7_hides (l : Launch) (D : va_G) (cI cB cW cL : ClassId) (z : Nat → Nat) (x : Nat → Int32) (hh : Int64) (sz : Nat) (M : kM) (a : Nat) (b : Nat) (hI : kInv M) (ha : a < 6) (hb : b < 6) : kMv l yX7_hides wsX7_hides ({ frames := 2, cells := 0, slots := 0, locals := 47 }) D vwCl (kT cI cB cW cL) sz [.ref (z 0), .int (nI a), .int (nI b)] (wMo cI z x hh M) (wMo cI z x hh (g_hide M a b)) := by
  refine kr_ofv (cc := cX7_hides) (maxL := 4) (ret := none) (by decide) rfl (Nat.le_of_ble_eq_true rfl) ?_
  intro pp ee ss mm args below meth cc AA ls hx hcd hr hts hown hlocks hml hK hP hD hA hl
  have hS : va_S AA ss.heap ss.heap [] := va_S.rf
  have hown : ss.vm.findClass RX7 = some mm.cls := hown
  have hl : lv_has ls 4 [(0, .ref (z 0)), (1, .int (nI a)), (2, .int (nI b))] := hl
  refine lv_iconst (v := nI 0) hx hcd dX7_hides_0 (by decide) ?_
  refine lv_istore_n (lv' := [(3, .int (nI 0)), (0, .ref (z 0)), (1, .int (nI a)), (2, .int (nI b))]) hx hcd dX7_hides_1 rfl hl (by decide) rfl (fun ls hl => ?_)
  refine kr_up (fun i => wMo cI z x hh (g_hideN M a b i)) (fun i => [(0, .ref (z 0)), (1, .int (nI a)), (2, .int (nI b)), (3, .int (nI i))]) 3 (nL := 4) (fun i hi ih_2 H locs ls hP hD hS hl => ?_) (fun H locs ls hP hD hS hl => ?_) 0 (by omega) hP hD hS (lv_sub hl [1, 2, 3, 0] rfl)
  · have hl : lv_has ls 4 [(0, .ref (z 0)), (1, .int (nI a)), (2, .int (nI b)), (3, .int (nI i))] := hl
    have hJ := i_hideN hI ha hb i (by omega)
    refine lv_iload_n hx hcd dX7_hides_2 rfl (lv_at hl 3 rfl) ?_
    refine lv_iconst (v := nI 3) hx hcd dX7_hides_3 (by decide) ?_
    refine kr_cge (tgt := 31) hx hcd (by omega) (by omega) dX7_hides_4 (by decide) (fun (c_4 : 3 ≤ i) => absurd c_4 (by omega)) (fun (c_4 : i < 3) => ?_)
    refine lv_aload_n hx hcd dX7_hides_7 rfl (lv_at hl 0 rfl) ?_
    refine lv_iload_n hx hcd dX7_hides_8 rfl (lv_at hl 1 rfl) ?_
    refine lv_iload_n hx hcd dX7_hides_9 rfl (lv_at hl 3 rfl) ?_
    refine kr_Vi (As := [.int (nI a), .int (nI i)]) (rest := []) (ws2 := wMo cI z x hh (g_hideN M a b i)) (q := (RX7, TX7, 10)) ⟨hx, hcd, hml, hown, hts⟩ (c_X7_isOn l D cI cB cW cL z x hh _ (g_hideN M a b i) a i (by omega) (by omega)) (cwV 2 hts gX7_hides_X7_isOn rfl rfl rfl (by decide +kernel) ⟨Nat.le_of_ble_eq_true rfl, Nat.le_of_ble_eq_true rfl⟩) hK hP hD hS hA [0, 1] wMo_allC (by decide) wMo_adr wMo_all 0 rfl rfl rfl hl.1 rfl (Nat.le_of_ble_eq_true rfl) dX7_hides_10 ⟨Nat.zero_le _, Nat.zero_le _⟩ (fun H locs hP hD hS => ?_)
    refine kr_beq (tgt := 25) hx hcd dX7_hides_13 (by decide) (fun (c_13 : g_on (g_hideN M a b i) a i = false) => ?_) (fun (c_13 : g_on (g_hideN M a b i) a i = true) => ?_)
    · refine kr_iinc (lv' := [(3, .int (nI (i + 1))), (0, .ref (z 0)), (1, .int (nI a)), (2, .int (nI b))]) hx hcd dX7_hides_25 hl (k := 3) rfl (by decide) rfl (fun ls hl => ?_)
      refine lv_goto (tgt := 2) hx hcd dX7_hides_28 (by decide) ?_
      obtain ⟨hP, hD⟩ := kr_re (ws2 := wMo cI z x hh (g_hideN M a b (i + 1))) hP hD (congrArg (fun M9 => wMo cI z x hh M9) (by simp [g_hideN, c_4, c_13]))
      exact ih_2 H locs ls hP hD hS (lv_sub hl [1, 2, 3, 0] rfl)
    · refine lv_aload_n hx hcd dX7_hides_16 rfl (lv_at hl 0 rfl) ?_
      refine lv_iconst (v := nI 5) hx hcd dX7_hides_17 (by decide) ?_
      refine lv_iload_n hx hcd dX7_hides_18 rfl (lv_at hl 1 rfl) ?_
      refine lv_iload_n hx hcd dX7_hides_19 rfl (lv_at hl 2 rfl) ?_
      refine lv_iload_n hx hcd dX7_hides_20 rfl (lv_at hl 3 rfl) ?_
      refine lv_iconst (v := nI 0) hx hcd dX7_hides_21 (by decide) ?_
      refine kr_Vv (As := [.int (nI 5), .int (nI a), .int (nI b), .int (nI i), .int (nI 0)]) (rest := []) (ws2 := wMo cI z x hh (g_send (g_hideN M a b i) 5 a b i 0)) (q := (RX7, TX7, 10)) ⟨hx, hcd, hml, hown, hts⟩ (c_X7_send l D cI cB cW cL z x hh _ (g_hideN M a b i) 5 a b i 0 hJ (by omega) (by omega) (by omega) (by omega) (by omega) (by omega) (by omega)) (cwV 5 hts gX7_hides_X7_send rfl rfl rfl (by decide +kernel) ⟨Nat.le_of_ble_eq_true rfl, Nat.le_of_ble_eq_true rfl⟩) hK hP hD hS hA [0, 1] wMo_allC (by decide) wMo_adr wMo_all 0 rfl rfl rfl hl.1 rfl (Nat.le_of_ble_eq_true rfl) dX7_hides_22 ⟨Nat.zero_le _, Nat.zero_le _⟩ (fun H locs hP hD hS => ?_)
      have hI_1 : kInv (g_send (g_hideN M a b i) 5 a b i 0) := i_send hJ (by omega) (by omega) (by omega) (by omega) (by omega) (by omega) (by omega)
      refine kr_iinc (lv' := [(3, .int (nI (i + 1))), (0, .ref (z 0)), (1, .int (nI a)), (2, .int (nI b))]) hx hcd dX7_hides_25 hl (k := 3) rfl (by decide) rfl (fun ls hl => ?_)
      refine lv_goto (tgt := 2) hx hcd dX7_hides_28 (by decide) ?_
      obtain ⟨hP, hD⟩ := kr_re (ws2 := wMo cI z x hh (g_hideN M a b (i + 1))) hP hD (congrArg (fun M9 => wMo cI z x hh M9) (by simp [g_hideN, c_4, c_13]))
      exact ih_2 H locs ls hP hD hS (lv_sub hl [1, 2, 3, 0] rfl)
  · have hl : lv_has ls 4 [(0, .ref (z 0)), (1, .int (nI a)), (2, .int (nI b)), (3, .int (nI 3))] := hl
    refine lv_iload_n hx hcd dX7_hides_2 rfl (lv_at hl 3 rfl) ?_
    refine lv_iconst (v := nI 3) hx hcd dX7_hides_3 (by decide) ?_
    refine kr_cge (tgt := 31) hx hcd (by omega) (by omega) dX7_hides_4 (by decide) (fun (c_4 : 3 ≤ 3) => ?_) (fun (c_4 : 3 < 3) => absurd c_4 (by omega))
    exact kr_vret hx hcd hr hlocks hK hP hD hS (congrArg (fun M9 => wMo cI z x hh M9) (show g_hideN M a b 3 = g_hide M a b from rfl)) dX7_hides_31

set_option maxHeartbeats 4000000 in
set_option maxRecDepth 100000 in
theorem c_X7_arrives (l : Launch) (D : va_G) (cI cB cW cL : ClassId) (z : Nat → Nat) (x : Nat → Int32) (hh : Int64) (sz : Nat) (M : kM) (c : Nat) (hI : kInv M) (hm : kMsg (nI c)) (hlt : c < 2 ^ 31) : kMv l yX7_arrives wsX7_arrives ({ frames := 3, cells := 0, slots := 0, locals := 70 }) D vwCl (kT cI cB cW cL) sz [.ref (z 0), .int (nI c)] (wMo cI z x hh M) (wMo cI z x hh (g_arrive M c)) := by
  refine kr_ofv (cc := cX7_arrives) (maxL := 6) (ret := none) (by decide) rfl (Nat.le_of_ble_eq_true rfl) ?_
  intro pp ee ss mm args below meth cc AA ls hx hcd hr hts hown hlocks hml hK hP hD hA hl
  have hS : va_S AA ss.heap ss.heap [] := va_S.rf
  have hown : ss.vm.findClass RX7 = some mm.cls := hown
  have hl : lv_has ls 6 [(0, .ref (z 0)), (1, .int (nI c))] := hl
  have uX7 : ∀ w ∈ u_ws RX7 TX7 10, w ∈ wsX7_arrives := by decide +kernel
  obtain ⟨hk0, ha, hb, hs, hd, h6, h7, -⟩ := i_codes hm hlt
  refine lv_iload_n hx hcd dX7_arrives_0 rfl (lv_at hl 1 rfl) ?_
  refine lv_iconst (v := nI 1) hx hcd dX7_arrives_1 (by decide) ?_
  refine kr_Si (As := [.int (nI c), .int (nI 1)]) (rest := []) (ws2 := wMo cI z x hh M) ⟨hx, hcd, hml, hown, hts⟩ (c_X7_part l D cI cB cW cL  _ M c 1 (by omega) (by omega)) (va_cwS 2 hts gX7_arrives_X7_part rfl rfl rfl (by decide +kernel) ⟨Nat.le_of_ble_eq_true rfl, Nat.le_of_ble_eq_true rfl⟩) hK hP hD hS hA [] rfl (by decide) rfl rfl rfl hl.1 rfl (Nat.le_of_ble_eq_true rfl) dX7_arrives_2 ⟨Nat.zero_le _, Nat.zero_le _⟩ (fun H locs hP hD hS => ?_)
  refine kr_top (w := nI (c / 8 % 8)) rfl ?_
  refine lv_istore_n (lv' := [(2, .int (nI (c / 8 % 8))), (0, .ref (z 0)), (1, .int (nI c))]) hx hcd dX7_arrives_5 rfl hl (by decide) rfl (fun ls hl => ?_)
  refine lv_iload_n hx hcd dX7_arrives_6 rfl (lv_at hl 2 rfl) ?_
  refine lv_iconst (v := nI 2) hx hcd dX7_arrives_7 (by decide) ?_
  refine kr_Si (As := [.int (nI c), .int (nI 2)]) (rest := []) (ws2 := wMo cI z x hh M) ⟨hx, hcd, hml, hown, hts⟩ (c_X7_part l D cI cB cW cL  _ M c 2 (by omega) (by omega)) (va_cwS 2 hts gX7_arrives_X7_part rfl rfl rfl (by decide +kernel) ⟨Nat.le_of_ble_eq_true rfl, Nat.le_of_ble_eq_true rfl⟩) hK hP hD hS hA [] rfl (by decide) rfl rfl rfl hl.1 rfl (Nat.le_of_ble_eq_true rfl) dX7_arrives_8 ⟨Nat.zero_le _, Nat.zero_le _⟩ (fun H locs hP hD hS => ?_)
  refine kr_top (w := nI (c / 64 % 8)) rfl ?_
  refine lv_istore_n (lv' := [(3, .int (nI (c / 64 % 8))), (2, .int (nI (c / 8 % 8))), (0, .ref (z 0)), (1, .int (nI c))]) hx hcd dX7_arrives_11 rfl hl (by decide) rfl (fun ls hl => ?_)
  refine lv_aload_n hx hcd dX7_arrives_12 rfl (lv_at hl 2 rfl) ?_
  refine lv_iload_n hx hcd dX7_arrives_13 rfl (lv_at hl 0 rfl) ?_
  refine lv_iload_n hx hcd dX7_arrives_14 rfl (lv_at hl 1 rfl) ?_
  refine kr_Vi (As := [.int (nI (c / 64 % 8)), .int (nI (c / 8 % 8))]) (rest := []) (ws2 := wMo cI z x hh M) (q := (RX7, TX7, 10)) ⟨hx, hcd, hml, hown, hts⟩ (c_X7_state l D cI cB cW cL z x hh _ M (c / 64 % 8) (c / 8 % 8) (by omega) (by omega)) (cwV 2 hts gX7_arrives_X7_state rfl rfl rfl (by decide +kernel) ⟨Nat.le_of_ble_eq_true rfl, Nat.le_of_ble_eq_true rfl⟩) hK hP hD hS hA [0, 1] wMo_allC (by decide) wMo_adr wMo_all 0 rfl rfl rfl hl.1 rfl (Nat.le_of_ble_eq_true rfl) dX7_arrives_15 ⟨Nat.zero_le _, Nat.zero_le _⟩ (fun H locs hP hD hS => ?_)
  refine lv_istore (lv' := [(4, .int (g_st M (c / 64 % 8) (c / 8 % 8))), (3, .int (nI (c / 64 % 8))), (2, .int (nI (c / 8 % 8))), (0, .ref (z 0)), (1, .int (nI c))]) hx hcd dX7_arrives_18 hl (by decide) rfl (fun ls hl => ?_)
  refine lv_aload_n hx hcd dX7_arrives_20 rfl (lv_at hl 3 rfl) ?_
  refine lv_iload_n hx hcd dX7_arrives_21 rfl (lv_at hl 1 rfl) ?_
  refine lv_iload_n hx hcd dX7_arrives_22 rfl (lv_at hl 2 rfl) ?_
  refine lv_iconst (v := nI 2) hx hcd dX7_arrives_23 (by decide) ?_
  refine kr_Vi (As := [.int (nI (c / 64 % 8)), .int (nI (c / 8 % 8)), .int (nI 2)]) (rest := []) (ws2 := wMo cI z x hh M) (q := (RX7, TX7, 10)) ⟨hx, hcd, hml, hown, hts⟩ (c_X7_has l D cI cB cW cL z x hh _ M (c / 64 % 8) (c / 8 % 8) 2 (by omega) (by omega)) (cwV 3 hts gX7_arrives_X7_has rfl rfl rfl (by decide +kernel) ⟨Nat.le_of_ble_eq_true rfl, Nat.le_of_ble_eq_true rfl⟩) hK hP hD hS hA [0, 1] wMo_allC (by decide) wMo_adr wMo_all 0 rfl rfl rfl hl.1 rfl (Nat.le_of_ble_eq_true rfl) dX7_arrives_24 ⟨Nat.zero_le _, Nat.zero_le _⟩ (fun H locs hP hD hS => ?_)
  refine lv_istore (lv' := [(5, .int (kI (g_has M (c / 64 % 8) (c / 8 % 8) 2))), (4, .int (g_st M (c / 64 % 8) (c / 8 % 8))), (3, .int (nI (c / 64 % 8))), (2, .int (nI (c / 8 % 8))), (0, .ref (z 0)), (1, .int (nI c))]) hx hcd dX7_arrives_27 hl (by decide) rfl (fun ls hl => ?_)
  refine lv_aload_n hx hcd dX7_arrives_29 rfl (lv_at hl 4 rfl) ?_
  refine lv_iload_n hx hcd dX7_arrives_30 rfl (lv_at hl 3 rfl) ?_
  refine lv_iload_n hx hcd dX7_arrives_31 rfl (lv_at hl 2 rfl) ?_
  refine kr_Vi (As := [.int (nI (c / 8 % 8)), .int (nI (c / 64 % 8))]) (rest := []) (ws2 := wMo cI z x hh M) (q := (RX7, TX7, 10)) ⟨hx, hcd, hml, hown, hts⟩ (c_X7_apart l D cI cB cW cL z x hh _ M (c / 8 % 8) (c / 64 % 8) (by omega) (by omega)) (cwV 2 hts gX7_arrives_X7_apart rfl rfl rfl (by decide +kernel) ⟨Nat.le_of_ble_eq_true rfl, Nat.le_of_ble_eq_true rfl⟩) hK hP hD hS hA [0, 1] wMo_allC (by decide) wMo_adr wMo_all 0 rfl rfl rfl hl.1 rfl (Nat.le_of_ble_eq_true rfl) dX7_arrives_32 ⟨Nat.zero_le _, Nat.zero_le _⟩ (fun H locs hP hD hS => ?_)
  refine kr_beq (tgt := 39) hx hcd dX7_arrives_35 (by decide) (fun (c_35 : g_apart M (c / 8 % 8) (c / 64 % 8) = false) => ?_) (fun (c_35 : g_apart M (c / 8 % 8) (c / 64 % 8) = true) => ?_)
  · refine lv_iload_n hx hcd dX7_arrives_39 rfl (lv_at hl 5 rfl) ?_
    refine lv_iconst (v := nI 0) hx hcd dX7_arrives_40 (by decide) ?_
    refine kr_Si (As := [.int (nI c), .int (nI 0)]) (rest := []) (ws2 := wMo cI z x hh M) ⟨hx, hcd, hml, hown, hts⟩ (c_X7_part l D cI cB cW cL  _ M c 0 (by omega) (by omega)) (va_cwS 2 hts gX7_arrives_X7_part rfl rfl rfl (by decide +kernel) ⟨Nat.le_of_ble_eq_true rfl, Nat.le_of_ble_eq_true rfl⟩) hK hP hD hS hA [] rfl (by decide) rfl rfl rfl hl.1 rfl (Nat.le_of_ble_eq_true rfl) dX7_arrives_41 ⟨Nat.zero_le _, Nat.zero_le _⟩ (fun H locs hP hD hS => ?_)
    refine kr_top (w := nI (c % 8)) rfl ?_
    rcases (show c % 8 = 0 ∨ c % 8 = 1 ∨ c % 8 = 2 ∨ c % 8 = 3 ∨ c % 8 = 4 ∨ c % 8 = 5 ∨ c % 8 = 6 by omega) with hk | hk | hk | hk | hk | hk | hk
    · refine kr_top (w := nI 0) (congrArg nI hk) ?_
      refine lv_tableIn (x := nI 0) (off := 40) (tgt := 84) hx hcd dX7_arrives_44 (by decide) (by decide) (by decide) (by decide) ?_
      refine lv_iload hx hcd dX7_arrives_84 (lv_at hl 0 rfl) ?_
      refine kr_beq (tgt := 107) hx hcd dX7_arrives_86 (by decide) (fun (c_86 : g_has M (c / 64 % 8) (c / 8 % 8) 2 = false) => ?_) (fun (c_86 : g_has M (c / 64 % 8) (c / 8 % 8) 2 = true) => ?_)
      · refine lv_aload_n hx hcd dX7_arrives_107 rfl (lv_at hl 4 rfl) ?_
        refine lv_iload_n hx hcd dX7_arrives_108 rfl (lv_at hl 2 rfl) ?_
        refine lv_iload_n hx hcd dX7_arrives_109 rfl (lv_at hl 3 rfl) ?_
        refine lv_iload hx hcd dX7_arrives_110 (lv_at hl 1 rfl) ?_
        refine lv_bipush (v := nI 8) hx hcd dX7_arrives_112 (by decide) ?_
        refine lv_ior hx hcd dX7_arrives_114 ?_
        refine kr_Vv (As := [.int (nI (c / 64 % 8)), .int (nI (c / 8 % 8)), .int ((g_st M (c / 64 % 8) (c / 8 % 8)) ||| 8)]) (rest := []) (ws2 := wMo cI z x hh (g_become M (c / 64 % 8) (c / 8 % 8) ((g_st M (c / 64 % 8) (c / 8 % 8)) ||| 8))) (q := (RX7, TX7, 10)) ⟨hx, hcd, hml, hown, hts⟩ (c_X7_become l D cI cB cW cL z x hh _ M (c / 64 % 8) (c / 8 % 8) ((g_st M (c / 64 % 8) (c / 8 % 8)) ||| 8) (by omega) (by omega)) (cwV 3 hts gX7_arrives_X7_become rfl rfl rfl (by decide +kernel) ⟨Nat.le_of_ble_eq_true rfl, Nat.le_of_ble_eq_true rfl⟩) hK hP hD hS hA [0, 1] wMo_allC (by decide) wMo_adr wMo_all 0 rfl rfl rfl hl.1 rfl (Nat.le_of_ble_eq_true rfl) dX7_arrives_115 ⟨Nat.zero_le _, Nat.zero_le _⟩ (fun H locs hP hD hS => ?_)
        have hI_1 : kInv (g_become M (c / 64 % 8) (c / 8 % 8) ((g_st M (c / 64 % 8) (c / 8 % 8)) ||| 8)) := i_become hI (by omega) (by omega) (i_s hI (by omega) (by omega) (F := fun x => x ||| 8) (by decide))
        refine lv_goto (tgt := 281) hx hcd dX7_arrives_118 (by decide) ?_
        exact kr_vret hx hcd hr hlocks hK hP hD hS (congrArg (fun M9 => wMo cI z x hh M9) (by simp [g_arrive, g_there, c_35, hk, c_86])) dX7_arrives_281
      · refine lv_aload_n hx hcd dX7_arrives_89 rfl (lv_at hl 4 rfl) ?_
        refine lv_iconst (v := nI 1) hx hcd dX7_arrives_90 (by decide) ?_
        refine lv_iload_n hx hcd dX7_arrives_91 rfl (lv_at hl 2 rfl) ?_
        refine lv_iload_n hx hcd dX7_arrives_92 rfl (lv_at hl 3 rfl) ?_
        refine lv_iconst (v := nI 0) hx hcd dX7_arrives_93 (by decide) ?_
        refine lv_iconst (v := nI 0) hx hcd dX7_arrives_94 (by decide) ?_
        refine kr_Vv (As := [.int (nI 1), .int (nI (c / 64 % 8)), .int (nI (c / 8 % 8)), .int (nI 0), .int (nI 0)]) (rest := []) (ws2 := wMo cI z x hh (g_send M 1 (c / 64 % 8) (c / 8 % 8) 0 0)) (q := (RX7, TX7, 10)) ⟨hx, hcd, hml, hown, hts⟩ (c_X7_send l D cI cB cW cL z x hh _ M 1 (c / 64 % 8) (c / 8 % 8) 0 0 hI (by omega) (by omega) (by omega) (by omega) (by omega) (by omega) (by omega)) (cwV 5 hts gX7_arrives_X7_send rfl rfl rfl (by decide +kernel) ⟨Nat.le_of_ble_eq_true rfl, Nat.le_of_ble_eq_true rfl⟩) hK hP hD hS hA [0, 1] wMo_allC (by decide) wMo_adr wMo_all 0 rfl rfl rfl hl.1 rfl (Nat.le_of_ble_eq_true rfl) dX7_arrives_95 ⟨Nat.zero_le _, Nat.zero_le _⟩ (fun H locs hP hD hS => ?_)
        have hI_2 : kInv (g_send M 1 (c / 64 % 8) (c / 8 % 8) 0 0) := i_send hI (by omega) (by omega) (by omega) (by omega) (by omega) (by omega) (by omega)
        refine lv_aload_n hx hcd dX7_arrives_98 rfl (lv_at hl 4 rfl) ?_
        refine lv_iload_n hx hcd dX7_arrives_99 rfl (lv_at hl 2 rfl) ?_
        refine lv_iload_n hx hcd dX7_arrives_100 rfl (lv_at hl 3 rfl) ?_
        refine kr_Vv (As := [.int (nI (c / 64 % 8)), .int (nI (c / 8 % 8))]) (rest := []) (ws2 := wMo cI z x hh (g_show (g_send M 1 (c / 64 % 8) (c / 8 % 8) 0 0) (c / 64 % 8) (c / 8 % 8))) (q := (RX7, TX7, 10)) ⟨hx, hcd, hml, hown, hts⟩ (c_X7_shows l D cI cB cW cL z x hh _ (g_send M 1 (c / 64 % 8) (c / 8 % 8) 0 0) (c / 64 % 8) (c / 8 % 8) hI_2 (by omega) (by omega)) (cwV 2 hts gX7_arrives_X7_shows rfl rfl rfl (by decide +kernel) ⟨Nat.le_of_ble_eq_true rfl, Nat.le_of_ble_eq_true rfl⟩) hK hP hD hS hA [0, 1] wMo_allC (by decide) wMo_adr wMo_all 0 rfl rfl rfl hl.1 rfl (Nat.le_of_ble_eq_true rfl) dX7_arrives_101 ⟨Nat.zero_le _, Nat.zero_le _⟩ (fun H locs hP hD hS => ?_)
        have hI_3 : kInv (g_show (g_send M 1 (c / 64 % 8) (c / 8 % 8) 0 0) (c / 64 % 8) (c / 8 % 8)) := i_show hI_2 (by omega) (by omega)
        refine lv_goto (tgt := 281) hx hcd dX7_arrives_104 (by decide) ?_
        exact kr_vret hx hcd hr hlocks hK hP hD hS (congrArg (fun M9 => wMo cI z x hh M9) (by simp [g_arrive, g_there, c_35, hk, c_86])) dX7_arrives_281
    · refine kr_top (w := nI 1) (congrArg nI hk) ?_
      refine lv_tableIn (x := nI 1) (off := 77) (tgt := 121) hx hcd dX7_arrives_44 (by decide) (by decide) (by decide) (by decide) ?_
      refine lv_aload_n hx hcd dX7_arrives_121 rfl (lv_at hl 4 rfl) ?_
      refine lv_iload_n hx hcd dX7_arrives_122 rfl (lv_at hl 2 rfl) ?_
      refine lv_iload_n hx hcd dX7_arrives_123 rfl (lv_at hl 3 rfl) ?_
      refine lv_iconst (v := nI 4) hx hcd dX7_arrives_124 (by decide) ?_
      refine kr_Vi (As := [.int (nI (c / 64 % 8)), .int (nI (c / 8 % 8)), .int (nI 4)]) (rest := []) (ws2 := wMo cI z x hh M) (q := (RX7, TX7, 10)) ⟨hx, hcd, hml, hown, hts⟩ (c_X7_has l D cI cB cW cL z x hh _ M (c / 64 % 8) (c / 8 % 8) 4 (by omega) (by omega)) (cwV 3 hts gX7_arrives_X7_has rfl rfl rfl (by decide +kernel) ⟨Nat.le_of_ble_eq_true rfl, Nat.le_of_ble_eq_true rfl⟩) hK hP hD hS hA [0, 1] wMo_allC (by decide) wMo_adr wMo_all 0 rfl rfl rfl hl.1 rfl (Nat.le_of_ble_eq_true rfl) dX7_arrives_125 ⟨Nat.zero_le _, Nat.zero_le _⟩ (fun H locs hP hD hS => ?_)
      refine kr_beq (tgt := 281) hx hcd dX7_arrives_128 (by decide) (fun (c_128 : g_has M (c / 64 % 8) (c / 8 % 8) 4 = false) => ?_) (fun (c_128 : g_has M (c / 64 % 8) (c / 8 % 8) 4 = true) => ?_)
      · exact kr_vret hx hcd hr hlocks hK hP hD hS (congrArg (fun M9 => wMo cI z x hh M9) (by simp [g_arrive, g_there, c_35, hk, c_128])) dX7_arrives_281
      · refine lv_aload_n hx hcd dX7_arrives_131 rfl (lv_at hl 4 rfl) ?_
        refine lv_iload_n hx hcd dX7_arrives_132 rfl (lv_at hl 2 rfl) ?_
        refine lv_iload_n hx hcd dX7_arrives_133 rfl (lv_at hl 3 rfl) ?_
        refine lv_iload hx hcd dX7_arrives_134 (lv_at hl 1 rfl) ?_
        refine lv_bipush (v := (-5)) hx hcd dX7_arrives_136 (by decide) ?_
        refine lv_iand hx hcd dX7_arrives_138 ?_
        refine lv_iconst (v := nI 1) hx hcd dX7_arrives_139 (by decide) ?_
        refine lv_ior hx hcd dX7_arrives_140 ?_
        refine kr_Vv (As := [.int (nI (c / 64 % 8)), .int (nI (c / 8 % 8)), .int (((g_st M (c / 64 % 8) (c / 8 % 8)) &&& (-5)) ||| 1)]) (rest := []) (ws2 := wMo cI z x hh (g_become M (c / 64 % 8) (c / 8 % 8) (((g_st M (c / 64 % 8) (c / 8 % 8)) &&& (-5)) ||| 1))) (q := (RX7, TX7, 10)) ⟨hx, hcd, hml, hown, hts⟩ (c_X7_become l D cI cB cW cL z x hh _ M (c / 64 % 8) (c / 8 % 8) (((g_st M (c / 64 % 8) (c / 8 % 8)) &&& (-5)) ||| 1) (by omega) (by omega)) (cwV 3 hts gX7_arrives_X7_become rfl rfl rfl (by decide +kernel) ⟨Nat.le_of_ble_eq_true rfl, Nat.le_of_ble_eq_true rfl⟩) hK hP hD hS hA [0, 1] wMo_allC (by decide) wMo_adr wMo_all 0 rfl rfl rfl hl.1 rfl (Nat.le_of_ble_eq_true rfl) dX7_arrives_141 ⟨Nat.zero_le _, Nat.zero_le _⟩ (fun H locs hP hD hS => ?_)
        have hI_4 : kInv (g_become M (c / 64 % 8) (c / 8 % 8) (((g_st M (c / 64 % 8) (c / 8 % 8)) &&& (-5)) ||| 1)) := i_become hI (by omega) (by omega) (i_s hI (by omega) (by omega) (F := fun x => (x &&& (-5)) ||| 1) (by decide))
        refine lv_goto (tgt := 281) hx hcd dX7_arrives_144 (by decide) ?_
        exact kr_vret hx hcd hr hlocks hK hP hD hS (congrArg (fun M9 => wMo cI z x hh M9) (by simp [g_arrive, g_there, c_35, hk, c_128])) dX7_arrives_281
    · refine kr_top (w := nI 2) (congrArg nI hk) ?_
      refine lv_tableIn (x := nI 2) (off := 103) (tgt := 147) hx hcd dX7_arrives_44 (by decide) (by decide) (by decide) (by decide) ?_
      refine lv_aload_n hx hcd dX7_arrives_147 rfl (lv_at hl 4 rfl) ?_
      refine lv_iload_n hx hcd dX7_arrives_148 rfl (lv_at hl 2 rfl) ?_
      refine lv_iload_n hx hcd dX7_arrives_149 rfl (lv_at hl 3 rfl) ?_
      refine lv_bipush (v := nI 10) hx hcd dX7_arrives_150 (by decide) ?_
      refine kr_Vi (As := [.int (nI (c / 64 % 8)), .int (nI (c / 8 % 8)), .int (nI 10)]) (rest := []) (ws2 := wMo cI z x hh M) (q := (RX7, TX7, 10)) ⟨hx, hcd, hml, hown, hts⟩ (c_X7_has l D cI cB cW cL z x hh _ M (c / 64 % 8) (c / 8 % 8) 10 (by omega) (by omega)) (cwV 3 hts gX7_arrives_X7_has rfl rfl rfl (by decide +kernel) ⟨Nat.le_of_ble_eq_true rfl, Nat.le_of_ble_eq_true rfl⟩) hK hP hD hS hA [0, 1] wMo_allC (by decide) wMo_adr wMo_all 0 rfl rfl rfl hl.1 rfl (Nat.le_of_ble_eq_true rfl) dX7_arrives_152 ⟨Nat.zero_le _, Nat.zero_le _⟩ (fun H locs hP hD hS => ?_)
      refine kr_beq (tgt := 281) hx hcd dX7_arrives_155 (by decide) (fun (c_155 : g_has M (c / 64 % 8) (c / 8 % 8) 10 = false) => ?_) (fun (c_155 : g_has M (c / 64 % 8) (c / 8 % 8) 10 = true) => ?_)
      · exact kr_vret hx hcd hr hlocks hK hP hD hS (congrArg (fun M9 => wMo cI z x hh M9) (by simp [g_arrive, g_there, c_35, hk, c_155])) dX7_arrives_281
      · refine lv_aload_n hx hcd dX7_arrives_158 rfl (lv_at hl 4 rfl) ?_
        refine lv_iload_n hx hcd dX7_arrives_159 rfl (lv_at hl 2 rfl) ?_
        refine lv_iload_n hx hcd dX7_arrives_160 rfl (lv_at hl 3 rfl) ?_
        refine lv_iload hx hcd dX7_arrives_161 (lv_at hl 1 rfl) ?_
        refine lv_bipush (v := (-11)) hx hcd dX7_arrives_163 (by decide) ?_
        refine lv_iand hx hcd dX7_arrives_165 ?_
        refine kr_Vv (As := [.int (nI (c / 64 % 8)), .int (nI (c / 8 % 8)), .int ((g_st M (c / 64 % 8) (c / 8 % 8)) &&& (-11))]) (rest := []) (ws2 := wMo cI z x hh (g_become M (c / 64 % 8) (c / 8 % 8) ((g_st M (c / 64 % 8) (c / 8 % 8)) &&& (-11)))) (q := (RX7, TX7, 10)) ⟨hx, hcd, hml, hown, hts⟩ (c_X7_become l D cI cB cW cL z x hh _ M (c / 64 % 8) (c / 8 % 8) ((g_st M (c / 64 % 8) (c / 8 % 8)) &&& (-11)) (by omega) (by omega)) (cwV 3 hts gX7_arrives_X7_become rfl rfl rfl (by decide +kernel) ⟨Nat.le_of_ble_eq_true rfl, Nat.le_of_ble_eq_true rfl⟩) hK hP hD hS hA [0, 1] wMo_allC (by decide) wMo_adr wMo_all 0 rfl rfl rfl hl.1 rfl (Nat.le_of_ble_eq_true rfl) dX7_arrives_166 ⟨Nat.zero_le _, Nat.zero_le _⟩ (fun H locs hP hD hS => ?_)
        have hI_5 : kInv (g_become M (c / 64 % 8) (c / 8 % 8) ((g_st M (c / 64 % 8) (c / 8 % 8)) &&& (-11))) := i_become hI (by omega) (by omega) (i_s hI (by omega) (by omega) (F := fun x => x &&& (-11)) (by decide))
        refine lv_aload_n hx hcd dX7_arrives_169 rfl (lv_at hl 4 rfl) ?_
        refine lv_iload_n hx hcd dX7_arrives_170 rfl (lv_at hl 2 rfl) ?_
        refine lv_iload_n hx hcd dX7_arrives_171 rfl (lv_at hl 3 rfl) ?_
        refine kr_Vv (As := [.int (nI (c / 64 % 8)), .int (nI (c / 8 % 8))]) (rest := []) (ws2 := wMo cI z x hh (g_hide (g_become M (c / 64 % 8) (c / 8 % 8) ((g_st M (c / 64 % 8) (c / 8 % 8)) &&& (-11))) (c / 64 % 8) (c / 8 % 8))) (q := (RX7, TX7, 10)) ⟨hx, hcd, hml, hown, hts⟩ (c_X7_hides l D cI cB cW cL z x hh _ (g_become M (c / 64 % 8) (c / 8 % 8) ((g_st M (c / 64 % 8) (c / 8 % 8)) &&& (-11))) (c / 64 % 8) (c / 8 % 8) hI_5 (by omega) (by omega)) (cwV 2 hts gX7_arrives_X7_hides rfl rfl rfl (by decide +kernel) ⟨Nat.le_of_ble_eq_true rfl, Nat.le_of_ble_eq_true rfl⟩) hK hP hD hS hA [0, 1] wMo_allC (by decide) wMo_adr wMo_all 0 rfl rfl rfl hl.1 rfl (Nat.le_of_ble_eq_true rfl) dX7_arrives_172 ⟨Nat.zero_le _, Nat.zero_le _⟩ (fun H locs hP hD hS => ?_)
        have hI_6 : kInv (g_hide (g_become M (c / 64 % 8) (c / 8 % 8) ((g_st M (c / 64 % 8) (c / 8 % 8)) &&& (-11))) (c / 64 % 8) (c / 8 % 8)) := i_hide hI_5 (by omega) (by omega)
        refine lv_goto (tgt := 281) hx hcd dX7_arrives_175 (by decide) ?_
        exact kr_vret hx hcd hr hlocks hK hP hD hS (congrArg (fun M9 => wMo cI z x hh M9) (by simp [g_arrive, g_there, c_35, hk, c_155])) dX7_arrives_281
    · refine kr_top (w := nI 3) (congrArg nI hk) ?_
      refine lv_tableIn (x := nI 3) (off := 134) (tgt := 178) hx hcd dX7_arrives_44 (by decide) (by decide) (by decide) (by decide) ?_
      refine lv_aload_n hx hcd dX7_arrives_178 rfl (lv_at hl 4 rfl) ?_
      refine lv_iload_n hx hcd dX7_arrives_179 rfl (lv_at hl 2 rfl) ?_
      refine lv_iload_n hx hcd dX7_arrives_180 rfl (lv_at hl 3 rfl) ?_
      refine lv_iload hx hcd dX7_arrives_181 (lv_at hl 1 rfl) ?_
      refine lv_bipush (v := (-6)) hx hcd dX7_arrives_183 (by decide) ?_
      refine lv_iand hx hcd dX7_arrives_185 ?_
      refine kr_Vv (As := [.int (nI (c / 64 % 8)), .int (nI (c / 8 % 8)), .int ((g_st M (c / 64 % 8) (c / 8 % 8)) &&& (-6))]) (rest := []) (ws2 := wMo cI z x hh (g_become M (c / 64 % 8) (c / 8 % 8) ((g_st M (c / 64 % 8) (c / 8 % 8)) &&& (-6)))) (q := (RX7, TX7, 10)) ⟨hx, hcd, hml, hown, hts⟩ (c_X7_become l D cI cB cW cL z x hh _ M (c / 64 % 8) (c / 8 % 8) ((g_st M (c / 64 % 8) (c / 8 % 8)) &&& (-6)) (by omega) (by omega)) (cwV 3 hts gX7_arrives_X7_become rfl rfl rfl (by decide +kernel) ⟨Nat.le_of_ble_eq_true rfl, Nat.le_of_ble_eq_true rfl⟩) hK hP hD hS hA [0, 1] wMo_allC (by decide) wMo_adr wMo_all 0 rfl rfl rfl hl.1 rfl (Nat.le_of_ble_eq_true rfl) dX7_arrives_186 ⟨Nat.zero_le _, Nat.zero_le _⟩ (fun H locs hP hD hS => ?_)
      have hI_7 : kInv (g_become M (c / 64 % 8) (c / 8 % 8) ((g_st M (c / 64 % 8) (c / 8 % 8)) &&& (-6))) := i_become hI (by omega) (by omega) (i_s hI (by omega) (by omega) (F := fun x => x &&& (-6)) (by decide))
      refine lv_aload_n hx hcd dX7_arrives_189 rfl (lv_at hl 4 rfl) ?_
      refine lv_iload_n hx hcd dX7_arrives_190 rfl (lv_at hl 2 rfl) ?_
      refine lv_iload_n hx hcd dX7_arrives_191 rfl (lv_at hl 3 rfl) ?_
      refine kr_Vv (As := [.int (nI (c / 64 % 8)), .int (nI (c / 8 % 8))]) (rest := []) (ws2 := wMo cI z x hh (g_forget (g_become M (c / 64 % 8) (c / 8 % 8) ((g_st M (c / 64 % 8) (c / 8 % 8)) &&& (-6))) (c / 64 % 8) (c / 8 % 8))) (q := (RX7, TX7, 10)) ⟨hx, hcd, hml, hown, hts⟩ (c_X7_clearViews l D cI cB cW cL z x hh _ (g_become M (c / 64 % 8) (c / 8 % 8) ((g_st M (c / 64 % 8) (c / 8 % 8)) &&& (-6))) (c / 64 % 8) (c / 8 % 8) (by omega) (by omega)) (cwV 2 hts gX7_arrives_X7_clearViews rfl rfl rfl (by decide +kernel) ⟨Nat.le_of_ble_eq_true rfl, Nat.le_of_ble_eq_true rfl⟩) hK hP hD hS hA [0, 1] wMo_allC (by decide) wMo_adr wMo_all 0 rfl rfl rfl hl.1 rfl (Nat.le_of_ble_eq_true rfl) dX7_arrives_192 ⟨Nat.zero_le _, Nat.zero_le _⟩ (fun H locs hP hD hS => ?_)
      have hI_8 : kInv (g_forget (g_become M (c / 64 % 8) (c / 8 % 8) ((g_st M (c / 64 % 8) (c / 8 % 8)) &&& (-6))) (c / 64 % 8) (c / 8 % 8)) := i_forget hI_7 (by omega) (by omega)
      refine lv_goto (tgt := 281) hx hcd dX7_arrives_195 (by decide) ?_
      exact kr_vret hx hcd hr hlocks hK hP hD hS (congrArg (fun M9 => wMo cI z x hh M9) (by simp [g_arrive, g_there, c_35, hk])) dX7_arrives_281
    · refine kr_top (w := nI 4) (congrArg nI hk) ?_
      refine lv_tableIn (x := nI 4) (off := 154) (tgt := 198) hx hcd dX7_arrives_44 (by decide) (by decide) (by decide) (by decide) ?_
      refine lv_aload_n hx hcd dX7_arrives_198 rfl (lv_at hl 4 rfl) ?_
      refine lv_iload_n hx hcd dX7_arrives_199 rfl (lv_at hl 2 rfl) ?_
      refine lv_iload_n hx hcd dX7_arrives_200 rfl (lv_at hl 3 rfl) ?_
      refine lv_iconst (v := nI 1) hx hcd dX7_arrives_201 (by decide) ?_
      refine kr_Vi (As := [.int (nI (c / 64 % 8)), .int (nI (c / 8 % 8)), .int (nI 1)]) (rest := []) (ws2 := wMo cI z x hh M) (q := (RX7, TX7, 10)) ⟨hx, hcd, hml, hown, hts⟩ (c_X7_has l D cI cB cW cL z x hh _ M (c / 64 % 8) (c / 8 % 8) 1 (by omega) (by omega)) (cwV 3 hts gX7_arrives_X7_has rfl rfl rfl (by decide +kernel) ⟨Nat.le_of_ble_eq_true rfl, Nat.le_of_ble_eq_true rfl⟩) hK hP hD hS hA [0, 1] wMo_allC (by decide) wMo_adr wMo_all 0 rfl rfl rfl hl.1 rfl (Nat.le_of_ble_eq_true rfl) dX7_arrives_202 ⟨Nat.zero_le _, Nat.zero_le _⟩ (fun H locs hP hD hS => ?_)
      refine kr_beq (tgt := 281) hx hcd dX7_arrives_205 (by decide) (fun (c_205 : g_has M (c / 64 % 8) (c / 8 % 8) 1 = false) => ?_) (fun (c_205 : g_has M (c / 64 % 8) (c / 8 % 8) 1 = true) => ?_)
      · exact kr_vret hx hcd hr hlocks hK hP hD hS (congrArg (fun M9 => wMo cI z x hh M9) (by simp [g_arrive, g_there, c_35, hk, c_205])) dX7_arrives_281
      · refine lv_aload_n hx hcd dX7_arrives_208 rfl (lv_at hl 4 rfl) ?_
        refine lv_iload_n hx hcd dX7_arrives_209 rfl (lv_at hl 2 rfl) ?_
        refine kr_Vi (As := [.int (nI (c / 64 % 8))]) (rest := []) (ws2 := wMo cI z x hh M) (q := (RX7, TX7, 10)) ⟨hx, hcd, hml, hown, hts⟩ (c_X7_seatsOn l D cI cB cW cL z x hh _ M (c / 64 % 8) (by omega)) (cwV 1 hts gX7_arrives_X7_seatsOn rfl rfl rfl (by decide +kernel) ⟨Nat.le_of_ble_eq_true rfl, Nat.le_of_ble_eq_true rfl⟩) hK hP hD hS hA [0, 1] wMo_allC (by decide) wMo_adr wMo_all 0 rfl rfl rfl hl.1 rfl (Nat.le_of_ble_eq_true rfl) dX7_arrives_210 ⟨Nat.zero_le _, Nat.zero_le _⟩ (fun H locs hP hD hS => ?_)
        refine lv_if_le (tgt := 281) hx hcd dX7_arrives_213 (by decide) (fun (c_213 : (g_cnt M (c / 64 % 8)) ≤ 0) => ?_) (fun (c_213 : ¬ (g_cnt M (c / 64 % 8)) ≤ 0) => ?_)
        · exact kr_vret hx hcd hr hlocks hK hP hD hS (congrArg (fun M9 => wMo cI z x hh M9) (by simp [g_arrive, g_there, c_35, hk, c_205, c_213])) dX7_arrives_281
        · refine lv_aload_n hx hcd dX7_arrives_216 rfl (lv_at hl 4 rfl) ?_
          refine kr_get hx hcd hts uX7 hown hK hP 0 rfl rfl 0 (by decide) (by decide +kernel) (v := .ref (z 1)) rfl dX7_arrives_217 ?_
          refine lv_iload_n hx hcd dX7_arrives_220 rfl (lv_at hl 2 rfl) ?_
          refine lv_iload_n hx hcd dX7_arrives_221 rfl (lv_at hl 3 rfl) ?_
          refine lv_iload_n hx hcd dX7_arrives_222 rfl (lv_at hl 5 rfl) ?_
          refine lv_iconst (v := nI 3) hx hcd dX7_arrives_223 (by decide) ?_
          refine kr_Si (As := [.int (nI c), .int (nI 3)]) (rest := [.int (nI (c / 8 % 8)), .int (nI (c / 64 % 8)), .ref (z 1)]) (ws2 := wMo cI z x hh M) ⟨hx, hcd, hml, hown, hts⟩ (c_X7_part l D cI cB cW cL  _ M c 3 (by omega) (by omega)) (va_cwS 2 hts gX7_arrives_X7_part rfl rfl rfl (by decide +kernel) ⟨Nat.le_of_ble_eq_true rfl, Nat.le_of_ble_eq_true rfl⟩) hK hP hD hS hA [] rfl (by decide) rfl rfl rfl hl.1 rfl (Nat.le_of_ble_eq_true rfl) dX7_arrives_224 ⟨Nat.zero_le _, Nat.zero_le _⟩ (fun H locs hP hD hS => ?_)
          refine kr_top (w := nI (c / 512 % 4)) rfl ?_
          refine kr_Si (As := [.int (nI (c / 64 % 8)), .int (nI (c / 8 % 8)), .int (nI (c / 512 % 4))]) (rest := [.ref (z 1)]) (ws2 := wMo cI z x hh M) ⟨hx, hcd, hml, hown, hts⟩ (c_X7_viewCell l D cI cB cW cL  _ M (c / 64 % 8) (c / 8 % 8) (c / 512 % 4)) (va_cwS 3 hts gX7_arrives_X7_viewCell rfl rfl rfl (by decide +kernel) ⟨Nat.le_of_ble_eq_true rfl, Nat.le_of_ble_eq_true rfl⟩) hK hP hD hS hA [] rfl (by decide) rfl rfl rfl hl.1 rfl (Nat.le_of_ble_eq_true rfl) dX7_arrives_227 ⟨Nat.zero_le _, Nat.zero_le _⟩ (fun H locs hP hD hS => ?_)
          refine lv_iload_n hx hcd dX7_arrives_230 rfl (lv_at hl 5 rfl) ?_
          refine lv_iconst (v := nI 4) hx hcd dX7_arrives_231 (by decide) ?_
          refine kr_Si (As := [.int (nI c), .int (nI 4)]) (rest := [.int (nI (132 + 18 * (c / 64 % 8) + 3 * (c / 8 % 8) + (c / 512 % 4))), .ref (z 1)]) (ws2 := wMo cI z x hh M) ⟨hx, hcd, hml, hown, hts⟩ (c_X7_part l D cI cB cW cL  _ M c 4 (by omega) (by omega)) (va_cwS 2 hts gX7_arrives_X7_part rfl rfl rfl (by decide +kernel) ⟨Nat.le_of_ble_eq_true rfl, Nat.le_of_ble_eq_true rfl⟩) hK hP hD hS hA [] rfl (by decide) rfl rfl rfl hl.1 rfl (Nat.le_of_ble_eq_true rfl) dX7_arrives_232 ⟨Nat.zero_le _, Nat.zero_le _⟩ (fun H locs hP hD hS => ?_)
          refine kr_top (w := nI (c / 2048)) rfl ?_
          refine kr_iast hx hcd hK hP hD hS 1 0 rfl rfl (by omega) (by decide) (congrArg (fun k9 => upd M k9 (nI (c / 2048))) (by omega)) (ws2 := wMo cI z x hh (upd M (132 + 18 * (c / 64 % 8) + 3 * (c / 8 % 8) + (c / 512 % 4)) (nI (c / 2048)))) rfl dX7_arrives_235 (fun H locs hP hD hS => ?_)
          refine lv_goto (tgt := 281) hx hcd dX7_arrives_236 (by decide) ?_
          exact kr_vret hx hcd hr hlocks hK hP hD hS (congrArg (fun M9 => wMo cI z x hh M9) (by simp [g_arrive, g_there, c_35, hk, c_205, c_213])) dX7_arrives_281
    · refine kr_top (w := nI 5) (congrArg nI hk) ?_
      refine lv_tableIn (x := nI 5) (off := 195) (tgt := 239) hx hcd dX7_arrives_44 (by decide) (by decide) (by decide) (by decide) ?_
      refine lv_aload_n hx hcd dX7_arrives_239 rfl (lv_at hl 4 rfl) ?_
      refine kr_get hx hcd hts uX7 hown hK hP 0 rfl rfl 0 (by decide) (by decide +kernel) (v := .ref (z 1)) rfl dX7_arrives_240 ?_
      refine lv_iload_n hx hcd dX7_arrives_243 rfl (lv_at hl 2 rfl) ?_
      refine lv_iload_n hx hcd dX7_arrives_244 rfl (lv_at hl 3 rfl) ?_
      refine lv_iload_n hx hcd dX7_arrives_245 rfl (lv_at hl 5 rfl) ?_
      refine lv_iconst (v := nI 3) hx hcd dX7_arrives_246 (by decide) ?_
      refine kr_Si (As := [.int (nI c), .int (nI 3)]) (rest := [.int (nI (c / 8 % 8)), .int (nI (c / 64 % 8)), .ref (z 1)]) (ws2 := wMo cI z x hh M) ⟨hx, hcd, hml, hown, hts⟩ (c_X7_part l D cI cB cW cL  _ M c 3 (by omega) (by omega)) (va_cwS 2 hts gX7_arrives_X7_part rfl rfl rfl (by decide +kernel) ⟨Nat.le_of_ble_eq_true rfl, Nat.le_of_ble_eq_true rfl⟩) hK hP hD hS hA [] rfl (by decide) rfl rfl rfl hl.1 rfl (Nat.le_of_ble_eq_true rfl) dX7_arrives_247 ⟨Nat.zero_le _, Nat.zero_le _⟩ (fun H locs hP hD hS => ?_)
      refine kr_top (w := nI (c / 512 % 4)) rfl ?_
      refine kr_Si (As := [.int (nI (c / 64 % 8)), .int (nI (c / 8 % 8)), .int (nI (c / 512 % 4))]) (rest := [.ref (z 1)]) (ws2 := wMo cI z x hh M) ⟨hx, hcd, hml, hown, hts⟩ (c_X7_viewCell l D cI cB cW cL  _ M (c / 64 % 8) (c / 8 % 8) (c / 512 % 4)) (va_cwS 3 hts gX7_arrives_X7_viewCell rfl rfl rfl (by decide +kernel) ⟨Nat.le_of_ble_eq_true rfl, Nat.le_of_ble_eq_true rfl⟩) hK hP hD hS hA [] rfl (by decide) rfl rfl rfl hl.1 rfl (Nat.le_of_ble_eq_true rfl) dX7_arrives_250 ⟨Nat.zero_le _, Nat.zero_le _⟩ (fun H locs hP hD hS => ?_)
      refine lv_iconst (v := (-1)) hx hcd dX7_arrives_253 (by decide) ?_
      refine kr_iast hx hcd hK hP hD hS 1 0 rfl rfl (by omega) (by decide) (congrArg (fun k9 => upd M k9 (-1)) (by omega)) (ws2 := wMo cI z x hh (upd M (132 + 18 * (c / 64 % 8) + 3 * (c / 8 % 8) + (c / 512 % 4)) (-1))) rfl dX7_arrives_254 (fun H locs hP hD hS => ?_)
      refine lv_goto (tgt := 281) hx hcd dX7_arrives_255 (by decide) ?_
      exact kr_vret hx hcd hr hlocks hK hP hD hS (congrArg (fun M9 => wMo cI z x hh M9) (by simp [g_arrive, g_there, c_35, hk])) dX7_arrives_281
    · refine kr_top (w := nI 6) (congrArg nI hk) ?_
      refine lv_tableOut (x := nI 6) (tgt := 258) hx hcd dX7_arrives_44 (by decide) (by decide) ?_
      refine lv_iload hx hcd dX7_arrives_258 (lv_at hl 0 rfl) ?_
      refine kr_beq (tgt := 272) hx hcd dX7_arrives_260 (by decide) (fun (c_260 : g_has M (c / 64 % 8) (c / 8 % 8) 2 = false) => ?_) (fun (c_260 : g_has M (c / 64 % 8) (c / 8 % 8) 2 = true) => ?_)
      · refine lv_aload_n hx hcd dX7_arrives_272 rfl (lv_at hl 4 rfl) ?_
        refine lv_iconst (v := nI 3) hx hcd dX7_arrives_273 (by decide) ?_
        refine lv_iload_n hx hcd dX7_arrives_274 rfl (lv_at hl 2 rfl) ?_
        refine lv_iload_n hx hcd dX7_arrives_275 rfl (lv_at hl 3 rfl) ?_
        refine lv_iconst (v := nI 0) hx hcd dX7_arrives_276 (by decide) ?_
        refine lv_iconst (v := nI 0) hx hcd dX7_arrives_277 (by decide) ?_
        refine kr_Vv (As := [.int (nI 3), .int (nI (c / 64 % 8)), .int (nI (c / 8 % 8)), .int (nI 0), .int (nI 0)]) (rest := []) (ws2 := wMo cI z x hh (g_send M 3 (c / 64 % 8) (c / 8 % 8) 0 0)) (q := (RX7, TX7, 10)) ⟨hx, hcd, hml, hown, hts⟩ (c_X7_send l D cI cB cW cL z x hh _ M 3 (c / 64 % 8) (c / 8 % 8) 0 0 hI (by omega) (by omega) (by omega) (by omega) (by omega) (by omega) (by omega)) (cwV 5 hts gX7_arrives_X7_send rfl rfl rfl (by decide +kernel) ⟨Nat.le_of_ble_eq_true rfl, Nat.le_of_ble_eq_true rfl⟩) hK hP hD hS hA [0, 1] wMo_allC (by decide) wMo_adr wMo_all 0 rfl rfl rfl hl.1 rfl (Nat.le_of_ble_eq_true rfl) dX7_arrives_278 ⟨Nat.zero_le _, Nat.zero_le _⟩ (fun H locs hP hD hS => ?_)
        have hI_9 : kInv (g_send M 3 (c / 64 % 8) (c / 8 % 8) 0 0) := i_send hI (by omega) (by omega) (by omega) (by omega) (by omega) (by omega) (by omega)
        exact kr_vret hx hcd hr hlocks hK hP hD hS (congrArg (fun M9 => wMo cI z x hh M9) (by simp [g_arrive, g_there, c_35, hk, c_260])) dX7_arrives_281
      · refine lv_aload_n hx hcd dX7_arrives_263 rfl (lv_at hl 4 rfl) ?_
        refine lv_iload_n hx hcd dX7_arrives_264 rfl (lv_at hl 2 rfl) ?_
        refine lv_iload_n hx hcd dX7_arrives_265 rfl (lv_at hl 3 rfl) ?_
        refine kr_Vv (As := [.int (nI (c / 64 % 8)), .int (nI (c / 8 % 8))]) (rest := []) (ws2 := wMo cI z x hh (g_show M (c / 64 % 8) (c / 8 % 8))) (q := (RX7, TX7, 10)) ⟨hx, hcd, hml, hown, hts⟩ (c_X7_shows l D cI cB cW cL z x hh _ M (c / 64 % 8) (c / 8 % 8) hI (by omega) (by omega)) (cwV 2 hts gX7_arrives_X7_shows rfl rfl rfl (by decide +kernel) ⟨Nat.le_of_ble_eq_true rfl, Nat.le_of_ble_eq_true rfl⟩) hK hP hD hS hA [0, 1] wMo_allC (by decide) wMo_adr wMo_all 0 rfl rfl rfl hl.1 rfl (Nat.le_of_ble_eq_true rfl) dX7_arrives_266 ⟨Nat.zero_le _, Nat.zero_le _⟩ (fun H locs hP hD hS => ?_)
        have hI_10 : kInv (g_show M (c / 64 % 8) (c / 8 % 8)) := i_show hI (by omega) (by omega)
        refine lv_goto (tgt := 281) hx hcd dX7_arrives_269 (by decide) ?_
        exact kr_vret hx hcd hr hlocks hK hP hD hS (congrArg (fun M9 => wMo cI z x hh M9) (by simp [g_arrive, g_there, c_35, hk, c_260])) dX7_arrives_281
  · exact kr_vret hx hcd hr hlocks hK hP hD hS (congrArg (fun M9 => wMo cI z x hh M9) (by simp [g_arrive, g_there, c_35])) dX7_arrives_38

set_option maxHeartbeats 4000000 in
set_option maxRecDepth 100000 in
theorem c_X7_delivers (l : Launch) (D : va_G) (cI cB cW cL : ClassId) (z : Nat → Nat) (x : Nat → Int32) (hh : Int64) (sz : Nat) (M : kM) (n : Nat) (hI : kInv M) (hn : n < 100000) : kMi l yX7_delivers wsX7_delivers ({ frames := 4, cells := 0, slots := 0, locals := 95 }) D vwCl (kT cI cB cW cL) sz [.ref (z 0), .int (nI n)] (wMo cI z x hh M) (wMo cI z x hh (g_del n M)) (nI (g_delC n M)) := by
  refine kr_ofi (cc := cX7_delivers) (maxL := 4) (ret := (some .int)) (by decide) rfl (Nat.le_of_ble_eq_true rfl) ?_
  intro pp ee ss mm args below meth cc AA ls hx hcd hr hts hown hlocks hml hK hP hD hA hl
  have hS : va_S AA ss.heap ss.heap [] := va_S.rf
  have hown : ss.vm.findClass RX7 = some mm.cls := hown
  have hl : lv_has ls 4 [(0, .ref (z 0)), (1, .int (nI n))] := hl
  have uX7 : ∀ w ∈ u_ws RX7 TX7 10, w ∈ wsX7_delivers := by decide +kernel
  refine lv_iconst (v := nI 0) hx hcd dX7_delivers_0 (by decide) ?_
  refine lv_istore_n (lv' := [(2, .int (nI 0)), (0, .ref (z 0)), (1, .int (nI n))]) hx hcd dX7_delivers_1 rfl hl (by decide) rfl (fun ls hl => ?_)
  refine kr_rec (σ := kM × Nat) (fun y9 => wMo cI z x hh y9.1) (fun y9 => [(0, .ref (z 0)), (1, .int (nI n)), (2, .int (nI y9.2))]) (fun y9 => y9.2 ≤ n ∧ kInv y9.1 ∧ g_del (n - y9.2) y9.1 = g_del n M ∧ y9.2 + g_delC (n - y9.2) y9.1 = g_delC n M) (fun y9 => n - y9.2) (nL := 4) (fun y9 hX ih_2 H locs ls hP hD hS hl => ?_) (M, 0) ⟨Nat.zero_le _, hI, rfl, Nat.zero_add _⟩ hP hD hS (lv_sub hl [1, 2, 0] rfl)
  obtain ⟨M1, j⟩ := y9
  obtain ⟨hj, hJ, h1, h2⟩ := hX
  have hl : lv_has ls 4 [(0, .ref (z 0)), (1, .int (nI n)), (2, .int (nI j))] := hl
  dsimp only at hj hJ h1 h2
  have e577 := i_wy hJ
  have b577 := i_wyle hJ
  have e576 := i_hd hJ
  have b576 := i_hdlt hJ
  refine lv_iload_n hx hcd dX7_delivers_2 rfl (lv_at hl 2 rfl) ?_
  refine lv_iload_n hx hcd dX7_delivers_3 rfl (lv_at hl 1 rfl) ?_
  refine kr_cge (tgt := 81) hx hcd (by omega) (by omega) dX7_delivers_4 (by decide) (fun (c_4 : n ≤ j) => ?_) (fun (c_4 : j < n) => ?_)
  · refine lv_iload_n hx hcd dX7_delivers_81 rfl (lv_at hl 2 rfl) ?_
    exact kr_iret hx hcd hr hlocks hK hP hD hS (by first | (rw [← h2, g_delC_stop (by omega)]; rfl) | (rw [← h2, show n - j = 0 by omega]; rfl)) (congrArg (fun M9 => wMo cI z x hh M9) (by first | (rw [← h1, g_del_stop (by omega)]) | (rw [← h1, show n - j = 0 by omega]; rfl))) dX7_delivers_82
  · refine lv_aload_n hx hcd dX7_delivers_7 rfl (lv_at hl 0 rfl) ?_
    refine kr_get hx hcd hts uX7 hown hK hP 0 rfl rfl 0 (by decide) (by decide +kernel) (v := .ref (z 1)) rfl dX7_delivers_8 ?_
    refine lv_sipush (v := nI 577) hx hcd dX7_delivers_11 (by decide) ?_
    refine kr_iald hx hcd hK hP 1 0 rfl rfl (v := M1 577) (by omega) (by decide) (congrArg M1 (by omega)) dX7_delivers_14 ?_
    refine kr_top (w := nI (wyN M1)) e577 ?_
    refine kr_zle (tgt := 81) hx hcd (by omega) dX7_delivers_15 (by decide) (fun (c_15 : wyN M1 = 0) => ?_) (fun (c_15 : 0 < wyN M1) => ?_)
    · refine lv_iload_n hx hcd dX7_delivers_81 rfl (lv_at hl 2 rfl) ?_
      exact kr_iret hx hcd hr hlocks hK hP hD hS (by first | (rw [← h2, g_delC_stop (by omega)]; rfl) | (rw [← h2, show n - j = 0 by omega]; rfl)) (congrArg (fun M9 => wMo cI z x hh M9) (by first | (rw [← h1, g_del_stop (by omega)]) | (rw [← h1, show n - j = 0 by omega]; rfl))) dX7_delivers_82
    · refine lv_aload_n hx hcd dX7_delivers_18 rfl (lv_at hl 0 rfl) ?_
      refine lv_iconst (v := nI 0) hx hcd dX7_delivers_19 (by decide) ?_
      refine kr_Vi (As := [.int (nI 0)]) (rest := []) (ws2 := wMo cI z x hh M1) (q := (RX7, TX7, 10)) ⟨hx, hcd, hml, hown, hts⟩ (c_X7_messageAt l D cI cB cW cL z x hh _ M1 0 hJ (by omega)) (cwV 1 hts gX7_delivers_X7_messageAt rfl rfl rfl (by decide +kernel) ⟨Nat.le_of_ble_eq_true rfl, Nat.le_of_ble_eq_true rfl⟩) hK hP hD hS hA [0, 1] wMo_allC (by decide) wMo_adr wMo_all 0 rfl rfl rfl hl.1 rfl (Nat.le_of_ble_eq_true rfl) dX7_delivers_20 ⟨Nat.zero_le _, Nat.zero_le _⟩ (fun H locs hP hD hS => ?_)
      refine lv_istore_n (lv' := [(3, .int (nI (g_msg M1 0))), (0, .ref (z 0)), (1, .int (nI n)), (2, .int (nI j))]) hx hcd dX7_delivers_23 rfl hl (by decide) rfl (fun ls hl => ?_)
      refine lv_aload_n hx hcd dX7_delivers_24 rfl (lv_at hl 1 rfl) ?_
      refine kr_get hx hcd hts uX7 hown hK hP 0 rfl rfl 0 (by decide) (by decide +kernel) (v := .ref (z 1)) rfl dX7_delivers_25 ?_
      refine lv_sipush (v := nI 576) hx hcd dX7_delivers_28 (by decide) ?_
      refine lv_aload_n hx hcd dX7_delivers_31 rfl (lv_at hl 1 rfl) ?_
      refine kr_get hx hcd hts uX7 hown hK hP 0 rfl rfl 0 (by decide) (by decide +kernel) (v := .ref (z 1)) rfl dX7_delivers_32 ?_
      refine lv_sipush (v := nI 576) hx hcd dX7_delivers_35 (by decide) ?_
      refine kr_iald hx hcd hK hP 1 0 rfl rfl (v := M1 576) (by omega) (by decide) (congrArg M1 (by omega)) dX7_delivers_38 ?_
      refine kr_top (w := nI (hdN M1)) e576 ?_
      refine lv_iconst (v := nI 1) hx hcd dX7_delivers_39 (by decide) ?_
      refine kr_add hx hcd dX7_delivers_40 ?_
      refine lv_sipush (v := nI 300) hx hcd dX7_delivers_41 (by decide) ?_
      refine kr_rem hx hcd (by omega) (by decide) (by decide) dX7_delivers_44 ?_
      refine kr_iast hx hcd hK hP hD hS 1 0 rfl rfl (by omega) (by decide) (congrArg (fun k9 => upd M1 k9 (nI (((hdN M1) + 1) % 300))) (by omega)) (ws2 := wMo cI z x hh (upd M1 (576) (nI (((hdN M1) + 1) % 300)))) rfl dX7_delivers_45 (fun H locs hP hD hS => ?_)
      refine lv_aload_n hx hcd dX7_delivers_46 rfl (lv_at hl 1 rfl) ?_
      refine kr_get hx hcd hts uX7 hown hK hP 0 rfl rfl 0 (by decide) (by decide +kernel) (v := .ref (z 1)) rfl dX7_delivers_47 ?_
      refine lv_sipush (v := nI 577) hx hcd dX7_delivers_50 (by decide) ?_
      refine lv_dup2_11 hx hcd dX7_delivers_53 rfl rfl ?_
      refine kr_iald hx hcd hK hP 1 0 rfl rfl (v := (upd M1 (576) (nI (((hdN M1) + 1) % 300))) 577) (by omega) (by decide) (congrArg (upd M1 (576) (nI (((hdN M1) + 1) % 300))) (by omega)) dX7_delivers_54 ?_
      refine kr_top (w := M1 577) (upd_ne (by omega)) ?_
      refine kr_top (w := nI (wyN M1)) e577 ?_
      refine lv_iconst (v := nI 1) hx hcd dX7_delivers_55 (by decide) ?_
      refine kr_sub hx hcd (by omega) dX7_delivers_56 ?_
      refine kr_iast hx hcd hK hP hD hS 1 0 rfl rfl (by omega) (by decide) (congrArg (fun k9 => upd (upd M1 (576) (nI (((hdN M1) + 1) % 300))) k9 (nI ((wyN M1) - 1))) (by omega)) (ws2 := wMo cI z x hh (upd (upd M1 (576) (nI (((hdN M1) + 1) % 300))) (577) (nI ((wyN M1) - 1)))) rfl dX7_delivers_57 (fun H locs hP hD hS => ?_)
      refine lv_aload_n hx hcd dX7_delivers_58 rfl (lv_at hl 1 rfl) ?_
      refine kr_get hx hcd hts uX7 hown hK hP 0 rfl rfl 0 (by decide) (by decide +kernel) (v := .ref (z 1)) rfl dX7_delivers_59 ?_
      refine lv_sipush (v := nI 579) hx hcd dX7_delivers_62 (by decide) ?_
      refine lv_dup2_11 hx hcd dX7_delivers_65 rfl rfl ?_
      refine kr_iald hx hcd hK hP 1 0 rfl rfl (v := (upd (upd M1 (576) (nI (((hdN M1) + 1) % 300))) (577) (nI ((wyN M1) - 1))) 579) (by omega) (by decide) (congrArg (upd (upd M1 (576) (nI (((hdN M1) + 1) % 300))) (577) (nI ((wyN M1) - 1))) (by omega)) dX7_delivers_66 ?_
      refine kr_top (w := M1 579) ((upd_ne (by omega)).trans (upd_ne (by omega))) ?_
      refine lv_iconst (v := nI 1) hx hcd dX7_delivers_67 (by decide) ?_
      refine lv_iadd hx hcd dX7_delivers_68 ?_
      refine kr_iast hx hcd hK hP hD hS 1 0 rfl rfl (by omega) (by decide) (congrArg (fun k9 => upd (upd (upd M1 (576) (nI (((hdN M1) + 1) % 300))) (577) (nI ((wyN M1) - 1))) k9 ((M1 579) + 1)) (by omega)) (ws2 := wMo cI z x hh (upd (upd (upd M1 (576) (nI (((hdN M1) + 1) % 300))) (577) (nI ((wyN M1) - 1))) (579) ((M1 579) + 1))) rfl dX7_delivers_69 (fun H locs hP hD hS => ?_)
      obtain ⟨hP, hD⟩ := kr_re (ws2 := wMo cI z x hh (g_take M1)) hP hD (congrArg (fun M9 => wMo cI z x hh M9) (by rw [g_take, i_dec hJ (by omega)] : upd (upd (upd M1 (576) (nI (((hdN M1) + 1) % 300))) (577) (nI ((wyN M1) - 1))) (579) ((M1 579) + 1) = g_take M1))
      have hI_1 : kInv (g_take M1) := i_take hJ (by omega)
      refine lv_aload_n hx hcd dX7_delivers_70 rfl (lv_at hl 1 rfl) ?_
      refine lv_iload_n hx hcd dX7_delivers_71 rfl (lv_at hl 0 rfl) ?_
      refine kr_Vv (As := [.int (nI (g_msg M1 0))]) (rest := []) (ws2 := wMo cI z x hh (g_arrive (g_take M1) (g_msg M1 0))) (q := (RX7, TX7, 10)) ⟨hx, hcd, hml, hown, hts⟩ (c_X7_arrives l D cI cB cW cL z x hh _ (g_take M1) (g_msg M1 0) hI_1 (i_msg hJ 0).1 (i_msglt hJ 0)) (cwV 1 hts gX7_delivers_X7_arrives rfl rfl rfl (by decide +kernel) ⟨Nat.le_of_ble_eq_true rfl, Nat.le_of_ble_eq_true rfl⟩) hK hP hD hS hA [0, 1] wMo_allC (by decide) wMo_adr wMo_all 0 rfl rfl rfl hl.1 rfl (Nat.le_of_ble_eq_true rfl) dX7_delivers_72 ⟨Nat.zero_le _, Nat.zero_le _⟩ (fun H locs hP hD hS => ?_)
      have hI_2 : kInv (g_arrive (g_take M1) (g_msg M1 0)) := i_arrive hI_1 (i_msg hJ 0).1 (i_msglt hJ 0)
      refine kr_iinc (lv' := [(2, .int (nI (j + 1))), (3, .int (nI (g_msg M1 0))), (0, .ref (z 0)), (1, .int (nI n))]) hx hcd dX7_delivers_75 hl (k := 3) rfl (by decide) rfl (fun ls hl => ?_)
      refine lv_goto (tgt := 2) hx hcd dX7_delivers_78 (by decide) ?_
      exact ih_2 ((g_arrive (g_take M1) (g_msg M1 0)), j + 1) ⟨by omega, hI_2, by rw [← h1, g_del_go (by omega) (show 0 < n - j by omega)]; congr 1, by have h9 := g_delC_go (M := M1) (by omega) (show 0 < n - j by omega); show j + 1 + g_delC (n - (j + 1)) (g_arrive (g_take M1) (g_msg M1 0)) = g_delC n M; rw [← h2, h9, show n - (j + 1) = n - j - 1 by omega]; omega⟩ (by show n - (j + 1) < n - j; omega) H locs ls hP hD hS (lv_sub hl [2, 3, 0] rfl)

set_option maxHeartbeats 4000000 in
set_option maxRecDepth 100000 in
theorem c_X7_drops (l : Launch) (D : va_G) (cI cB cW cL : ClassId) (z : Nat → Nat) (x : Nat → Int32) (hh : Int64) (sz : Nat) (M : kM) (i : Nat) (hI : kInv M) (hw : i < wyN M) : kMv l yX7_drops wsX7_drops ({ frames := 1, cells := 0, slots := 0, locals := 21 }) D vwCl (kT cI cB cW cL) sz [.ref (z 0), .int (nI i)] (wMo cI z x hh M) (wMo cI z x hh (g_drop M i)) := by
  refine kr_ofv (cc := cX7_drops) (maxL := 3) (ret := none) (by decide) rfl (Nat.le_of_ble_eq_true rfl) ?_
  intro pp ee ss mm args below meth cc AA ls hx hcd hr hts hown hlocks hml hK hP hD hA hl
  have hS : va_S AA ss.heap ss.heap [] := va_S.rf
  have hown : ss.vm.findClass RX7 = some mm.cls := hown
  have hl : lv_has ls 3 [(0, .ref (z 0)), (1, .int (nI i))] := hl
  have uX7 : ∀ w ∈ u_ws RX7 TX7 10, w ∈ wsX7_drops := by decide +kernel
  have e576 := i_hd hI
  have b576 := i_hdlt hI
  have e577 := i_wy hI
  have b577 := i_wyle hI
  refine lv_iload_n hx hcd dX7_drops_0 rfl (lv_at hl 1 rfl) ?_
  refine lv_istore_n (lv' := [(2, .int (nI i)), (0, .ref (z 0)), (1, .int (nI i))]) hx hcd dX7_drops_1 rfl hl (by decide) rfl (fun ls hl => ?_)
  refine kr_up (fun n => wMo cI z x hh (g_shN M i n)) (fun n => [(0, .ref (z 0)), (1, .int (nI i)), (2, .int (nI (i + n)))]) (wyN M - 1 - i) (nL := 3) (fun n hn ih_2 H locs ls hP hD hS hl => ?_) (fun H locs ls hP hD hS hl => ?_) 0 (by omega) hP hD hS (lv_sub hl [1, 2, 0] rfl)
  · have hl : lv_has ls 3 [(0, .ref (z 0)), (1, .int (nI i)), (2, .int (nI (i + n)))] := hl
    have hJ := i_shN hI i n
    refine lv_iload_n hx hcd dX7_drops_2 rfl (lv_at hl 2 rfl) ?_
    refine lv_aload_n hx hcd dX7_drops_3 rfl (lv_at hl 0 rfl) ?_
    refine kr_get hx hcd hts uX7 hown hK hP 0 rfl rfl 0 (by decide) (by decide +kernel) (v := .ref (z 1)) rfl dX7_drops_4 ?_
    refine lv_sipush (v := nI 577) hx hcd dX7_drops_7 (by decide) ?_
    refine kr_iald hx hcd hK hP 1 0 rfl rfl (v := (g_shN M i n) 577) (by omega) (by decide) (congrArg (g_shN M i n) (by omega)) dX7_drops_10 ?_
    refine kr_top (w := nI (wyN M)) ((o_shN (Or.inr (by omega)) _).trans e577) ?_
    refine lv_iconst (v := nI 1) hx hcd dX7_drops_11 (by decide) ?_
    refine kr_sub hx hcd (by omega) dX7_drops_12 ?_
    refine kr_cge (tgt := 52) hx hcd (by omega) (by omega) dX7_drops_13 (by decide) (fun (c_13 : (wyN M) - 1 ≤ i + n) => absurd c_13 (by omega)) (fun (c_13 : i + n < (wyN M) - 1) => ?_)
    refine lv_aload_n hx hcd dX7_drops_16 rfl (lv_at hl 0 rfl) ?_
    refine kr_get hx hcd hts uX7 hown hK hP 0 rfl rfl 0 (by decide) (by decide +kernel) (v := .ref (z 1)) rfl dX7_drops_17 ?_
    refine lv_sipush (v := nI 276) hx hcd dX7_drops_20 (by decide) ?_
    refine lv_aload_n hx hcd dX7_drops_23 rfl (lv_at hl 0 rfl) ?_
    refine kr_get hx hcd hts uX7 hown hK hP 0 rfl rfl 0 (by decide) (by decide +kernel) (v := .ref (z 1)) rfl dX7_drops_24 ?_
    refine lv_sipush (v := nI 576) hx hcd dX7_drops_27 (by decide) ?_
    refine kr_iald hx hcd hK hP 1 0 rfl rfl (v := (g_shN M i n) 576) (by omega) (by decide) (congrArg (g_shN M i n) (by omega)) dX7_drops_30 ?_
    refine kr_top (w := nI (hdN M)) ((o_shN (Or.inr (by omega)) _).trans e576) ?_
    refine lv_iload_n hx hcd dX7_drops_31 rfl (lv_at hl 2 rfl) ?_
    refine kr_add hx hcd dX7_drops_32 ?_
    refine lv_sipush (v := nI 300) hx hcd dX7_drops_33 (by decide) ?_
    refine kr_rem hx hcd (by omega) (by decide) (by decide) dX7_drops_36 ?_
    refine kr_add hx hcd dX7_drops_37 ?_
    refine lv_aload_n hx hcd dX7_drops_38 rfl (lv_at hl 0 rfl) ?_
    refine lv_iload_n hx hcd dX7_drops_39 rfl (lv_at hl 2 rfl) ?_
    refine lv_iconst (v := nI 1) hx hcd dX7_drops_40 (by decide) ?_
    refine kr_add hx hcd dX7_drops_41 ?_
    refine kr_Vi (As := [.int (nI ((i + n) + 1))]) (rest := [.int (nI (276 + (((hdN M) + (i + n)) % 300))), .ref (z 1)]) (ws2 := wMo cI z x hh (g_shN M i n)) (q := (RX7, TX7, 10)) ⟨hx, hcd, hml, hown, hts⟩ (c_X7_messageAt l D cI cB cW cL z x hh _ (g_shN M i n) ((i + n) + 1) hJ (by omega)) (cwV 1 hts gX7_drops_X7_messageAt rfl rfl rfl (by decide +kernel) ⟨Nat.le_of_ble_eq_true rfl, Nat.le_of_ble_eq_true rfl⟩) hK hP hD hS hA [0, 1] wMo_allC (by decide) wMo_adr wMo_all 0 rfl rfl rfl hl.1 rfl (Nat.le_of_ble_eq_true rfl) dX7_drops_42 ⟨Nat.zero_le _, Nat.zero_le _⟩ (fun H locs hP hD hS => ?_)
    refine kr_iast hx hcd hK hP hD hS 1 0 rfl rfl (by omega) (by decide) (congrArg (fun k9 => upd (g_shN M i n) k9 (nI (g_msg (g_shN M i n) ((i + n) + 1)))) (by omega)) (ws2 := wMo cI z x hh (upd (g_shN M i n) (276 + (((hdN M) + (i + n)) % 300)) (nI (g_msg (g_shN M i n) ((i + n) + 1))))) rfl dX7_drops_45 (fun H locs hP hD hS => ?_)
    refine kr_iinc (lv' := [(2, .int (nI (i + n + 1))), (0, .ref (z 0)), (1, .int (nI i))]) hx hcd dX7_drops_46 hl (k := 2) rfl (by decide) rfl (fun ls hl => ?_)
    refine lv_goto (tgt := 2) hx hcd dX7_drops_49 (by decide) ?_
    obtain ⟨hP, hD⟩ := kr_re (ws2 := wMo cI z x hh (g_shN M i (n + 1))) hP hD (congrArg (fun M9 => wMo cI z x hh M9) (by rw [← (i_msg hJ (i + n + 1)).2, hdN_shN]; rfl))
    exact ih_2 H locs ls hP hD hS (lv_sub hl [1, 2, 0] rfl)
  · have hl : lv_has ls 3 [(0, .ref (z 0)), (1, .int (nI i)), (2, .int (nI (i + (wyN M - 1 - i))))] := hl
    refine lv_iload_n hx hcd dX7_drops_2 rfl (lv_at hl 2 rfl) ?_
    refine lv_aload_n hx hcd dX7_drops_3 rfl (lv_at hl 0 rfl) ?_
    refine kr_get hx hcd hts uX7 hown hK hP 0 rfl rfl 0 (by decide) (by decide +kernel) (v := .ref (z 1)) rfl dX7_drops_4 ?_
    refine lv_sipush (v := nI 577) hx hcd dX7_drops_7 (by decide) ?_
    refine kr_iald hx hcd hK hP 1 0 rfl rfl (v := (g_shN M i (wyN M - 1 - i)) 577) (by omega) (by decide) (congrArg (g_shN M i (wyN M - 1 - i)) (by omega)) dX7_drops_10 ?_
    refine kr_top (w := nI (wyN M)) ((o_shN (Or.inr (by omega)) _).trans e577) ?_
    refine lv_iconst (v := nI 1) hx hcd dX7_drops_11 (by decide) ?_
    refine kr_sub hx hcd (by omega) dX7_drops_12 ?_
    refine kr_cge (tgt := 52) hx hcd (by omega) (by omega) dX7_drops_13 (by decide) (fun (c_13 : (wyN M) - 1 ≤ i + (wyN M - 1 - i)) => ?_) (fun (c_13 : i + (wyN M - 1 - i) < (wyN M) - 1) => absurd c_13 (by omega))
    refine lv_aload_n hx hcd dX7_drops_52 rfl (lv_at hl 0 rfl) ?_
    refine kr_get hx hcd hts uX7 hown hK hP 0 rfl rfl 0 (by decide) (by decide +kernel) (v := .ref (z 1)) rfl dX7_drops_53 ?_
    refine lv_sipush (v := nI 577) hx hcd dX7_drops_56 (by decide) ?_
    refine lv_dup2_11 hx hcd dX7_drops_59 rfl rfl ?_
    refine kr_iald hx hcd hK hP 1 0 rfl rfl (v := (g_shN M i (wyN M - 1 - i)) 577) (by omega) (by decide) (congrArg (g_shN M i (wyN M - 1 - i)) (by omega)) dX7_drops_60 ?_
    refine kr_top (w := nI (wyN M)) ((o_shN (Or.inr (by omega)) _).trans e577) ?_
    refine lv_iconst (v := nI 1) hx hcd dX7_drops_61 (by decide) ?_
    refine kr_sub hx hcd (by omega) dX7_drops_62 ?_
    refine kr_iast hx hcd hK hP hD hS 1 0 rfl rfl (by omega) (by decide) (congrArg (fun k9 => upd (g_shN M i (wyN M - 1 - i)) k9 (nI ((wyN M) - 1))) (by omega)) (ws2 := wMo cI z x hh (upd (g_shN M i (wyN M - 1 - i)) (577) (nI ((wyN M) - 1)))) rfl dX7_drops_63 (fun H locs hP hD hS => ?_)
    refine lv_aload_n hx hcd dX7_drops_64 rfl (lv_at hl 0 rfl) ?_
    refine kr_get hx hcd hts uX7 hown hK hP 0 rfl rfl 0 (by decide) (by decide +kernel) (v := .ref (z 1)) rfl dX7_drops_65 ?_
    refine lv_sipush (v := nI 580) hx hcd dX7_drops_68 (by decide) ?_
    refine lv_dup2_11 hx hcd dX7_drops_71 rfl rfl ?_
    refine kr_iald hx hcd hK hP 1 0 rfl rfl (v := (upd (g_shN M i (wyN M - 1 - i)) (577) (nI ((wyN M) - 1))) 580) (by omega) (by decide) (congrArg (upd (g_shN M i (wyN M - 1 - i)) (577) (nI ((wyN M) - 1))) (by omega)) dX7_drops_72 ?_
    refine kr_top (w := (g_shN M i (wyN M - 1 - i)) 580) (upd_ne (by omega)) ?_
    refine kr_top (w := M 580) ((o_shN (Or.inr (by omega)) _).trans rfl) ?_
    refine lv_iconst (v := nI 1) hx hcd dX7_drops_73 (by decide) ?_
    refine lv_iadd hx hcd dX7_drops_74 ?_
    refine kr_iast hx hcd hK hP hD hS 1 0 rfl rfl (by omega) (by decide) (congrArg (fun k9 => upd (upd (g_shN M i (wyN M - 1 - i)) (577) (nI ((wyN M) - 1))) k9 ((M 580) + 1)) (by omega)) (ws2 := wMo cI z x hh (upd (upd (g_shN M i (wyN M - 1 - i)) (577) (nI ((wyN M) - 1))) (580) ((M 580) + 1))) rfl dX7_drops_75 (fun H locs hP hD hS => ?_)
    exact kr_vret hx hcd hr hlocks hK hP hD hS (congrArg (fun M9 => wMo cI z x hh M9) (by rw [g_drop, i_dec hI (by omega)])) dX7_drops_76
