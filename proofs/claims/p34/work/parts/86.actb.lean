set_option maxHeartbeats 4000000 in
set_option maxRecDepth 100000 in
theorem c_L_act__turnOn (l : Launch) (hst : l.stackTraces = false) (D : va_G) (cI cB cW cL : ClassId) (ob nw tr : Nat → Nat) (qs : Nat → Nat → Nat) (sc : Nat → Nat) (G : Nat → Option Nat) (N : kM) (S : Nat → kM) (n L : Nat) (T : Nat → Int32) (sz : Nat) (M : kM) (w : Int32) (v : Int32) (cm : Bool) (mo how a jj k b z r rr dd : Nat) (hI : kInv M) (em : (if cm = true then 11 else 14) = mo) (hmo : mo = 11 ∨ mo = 14) (eh : g_low w mo = how) (ea : g_low (w >>> ((4 : Int32) &&& 31)) 6 = a) (ej : (if g_low (w >>> ((20 : Int32) &&& 31)) 2 = 0 then 2 else 5) = jj) (hjj : jj = 2 ∨ jj = 5) (ek : g_low (w >>> ((7 : Int32) &&& 31)) jj = k) (eb : (a + 1 + k) % 6 = b) (ez : g_low v 3 = z) (ha : a < 6) (hb : b < 6) (hne : a ≠ b) (hz : z < 3) (hk5 : k < 5) (hhow : how < 14) (hh : 7 ≤ how ∧ how < 10) (er : g_low (v >>> ((2 : Int32) &&& 31)) 19 = rr) (hrr : rr < 19) (ed : g_low (v >>> ((7 : Int32) &&& 31)) 5 = dd) (hdd : dd < 5) (hn : n ≤ 4) (hr : r < 4) : kMg l yL_act wsL_act ({ frames := 8, cells := 1, slots := 6, locals := 191 }) D vwCl (kT cI cB cW cL) sz [.ref (ob 0), .int w, .int v, .int (kI cm)] (wX cI cB cW ob nw tr qs sc (g_rot qs r) M N S n L T) (wX cI cB cW ob nw tr qs sc (g_rot qs (rj n r)) (g_turnOn M a z (nI rr - 9) dd) N (sset S (pj n r) M) (g_kn n) L T) (g_cnt (g_turnOn M a z (nI rr - 9) dd) a) 1 6 := by
  refine kr_ofg (cc := cL_act) (maxL := 12) (ret := (some .int)) (by decide) rfl (Nat.le_of_ble_eq_true rfl) ?_
  intro pp ee ss mm args below meth cc AA ls hx hcd hr hts hown hlocks hml hZ hN hK hP hD hA hl
  have hS : va_S AA ss.heap ss.heap [] := va_S.rf
  have hown : ss.vm.findClass RL = some mm.cls := hown
  have hl : lv_has ls 12 [(0, .ref (ob 0)), (1, .int w), (2, .int v), (3, .int (kI cm))] := hl
  have lx := low_lt (v := w >>> ((20 : Int32) &&& 31)) (n := 2) (by omega)
  refine lv_iload_n hx hcd dL_act_0 rfl (lv_at hl 1 rfl) ?_
  refine kr_cut (D := D) (cl := vwCl) (A := AA) (ws := wX cI cB cW ob nw tr qs sc (g_rot qs r) M N S n L T) (H0 := ss.heap) (g := F0 mm 12 ls [.int (nI mo), .int w]) (fun kM_1 => ?_) (fun H locs hP hD hS => ?_)
  · refine lv_iload_n hx hcd dL_act_1 rfl (lv_at hl 3 rfl) ?_
    refine kr_beq (tgt := 10) hx hcd dL_act_2 (by decide) (fun (c_2 : cm = false) => ?_) (fun (c_2 : cm = true) => ?_)
    · refine lv_bipush (v := nI 14) hx hcd dL_act_10 (by decide) ?_
      refine kr_top (w := nI mo) (by first | exact congrArg nI (md_f em c_2) | exact congrArg nI (md_t em c_2)) ?_
      exact kM_1 _ _ hP hD hS
    · refine lv_bipush (v := nI 11) hx hcd dL_act_5 (by decide) ?_
      refine lv_goto (tgt := 12) hx hcd dL_act_7 (by decide) ?_
      refine kr_top (w := nI mo) (by first | exact congrArg nI (md_f em c_2) | exact congrArg nI (md_t em c_2)) ?_
      exact kM_1 _ _ hP hD hS
  · refine kr_Si (As := [.int w, .int (nI mo)]) (rest := []) (ws2 := wX cI cB cW ob nw tr qs sc (g_rot qs r) M N S n L T) ⟨hx, hcd, hml, hown, hts⟩ (c_L_low l D cI cB cW cL  _ M w mo (by omega) (by omega)) (va_cwS 2 hts gL_act_L_low rfl rfl rfl (by decide +kernel) ⟨Nat.le_of_ble_eq_true rfl, Nat.le_of_ble_eq_true rfl⟩) hK hP hD hS hA [] rfl (by decide) rfl rfl rfl hl.1 rfl (Nat.le_of_ble_eq_true rfl) dL_act_12 ⟨Nat.le_of_ble_eq_true rfl, Nat.le_of_ble_eq_true rfl⟩ (fun H locs hP hD hS => ?_)
    refine kr_top (w := nI how) (congrArg nI eh) ?_
    refine lv_istore (lv' := [(4, .int (nI how)), (0, .ref (ob 0)), (1, .int w), (2, .int v), (3, .int (kI cm))]) hx hcd dL_act_15 hl (by decide) rfl (fun ls hl => ?_)
    refine lv_iload_n hx hcd dL_act_17 rfl (lv_at hl 2 rfl) ?_
    refine lv_iconst (v := nI 4) hx hcd dL_act_18 (by decide) ?_
    refine lv_ishr hx hcd dL_act_19 ?_
    refine lv_bipush (v := nI 6) hx hcd dL_act_20 (by decide) ?_
    refine kr_Si (As := [.int (w >>> (4 &&& 31)), .int (nI 6)]) (rest := []) (ws2 := wX cI cB cW ob nw tr qs sc (g_rot qs r) M N S n L T) ⟨hx, hcd, hml, hown, hts⟩ (c_L_low l D cI cB cW cL  _ M (w >>> (4 &&& 31)) 6 (by omega) (by omega)) (va_cwS 2 hts gL_act_L_low rfl rfl rfl (by decide +kernel) ⟨Nat.le_of_ble_eq_true rfl, Nat.le_of_ble_eq_true rfl⟩) hK hP hD hS hA [] rfl (by decide) rfl rfl rfl hl.1 rfl (Nat.le_of_ble_eq_true rfl) dL_act_22 ⟨Nat.le_of_ble_eq_true rfl, Nat.le_of_ble_eq_true rfl⟩ (fun H locs hP hD hS => ?_)
    refine kr_top (w := nI a) (congrArg nI ea) ?_
    refine lv_istore (lv' := [(5, .int (nI a)), (4, .int (nI how)), (0, .ref (ob 0)), (1, .int w), (2, .int v), (3, .int (kI cm))]) hx hcd dL_act_25 hl (by decide) rfl (fun ls hl => ?_)
    refine lv_iload hx hcd dL_act_27 (lv_at hl 0 rfl) ?_
    refine lv_iconst (v := nI 1) hx hcd dL_act_29 (by decide) ?_
    refine kr_add hx hcd dL_act_30 ?_
    refine lv_iload_n hx hcd dL_act_31 rfl (lv_at hl 3 rfl) ?_
    refine lv_bipush (v := nI 7) hx hcd dL_act_32 (by decide) ?_
    refine lv_ishr hx hcd dL_act_34 ?_
    refine kr_cut (D := D) (cl := vwCl) (A := AA) (ws := wX cI cB cW ob nw tr qs sc (g_rot qs r) M N S n L T) (H0 := ss.heap) (g := F0 mm 51 ls [.int (nI jj), .int (w >>> (7 &&& 31)), .int (nI (a + 1))]) (fun kM_35 => ?_) (fun H locs hP hD hS => ?_)
    · refine lv_iload_n hx hcd dL_act_35 rfl (lv_at hl 3 rfl) ?_
      refine lv_bipush (v := nI 20) hx hcd dL_act_36 (by decide) ?_
      refine lv_ishr hx hcd dL_act_38 ?_
      refine lv_iconst (v := nI 2) hx hcd dL_act_39 (by decide) ?_
      refine kr_Si (As := [.int (w >>> (20 &&& 31)), .int (nI 2)]) (rest := [.int (w >>> (7 &&& 31)), .int (nI (a + 1))]) (ws2 := wX cI cB cW ob nw tr qs sc (g_rot qs r) M N S n L T) ⟨hx, hcd, hml, hown, hts⟩ (c_L_low l D cI cB cW cL  _ M (w >>> (20 &&& 31)) 2 (by omega) (by omega)) (va_cwS 2 hts gL_act_L_low rfl rfl rfl (by decide +kernel) ⟨Nat.le_of_ble_eq_true rfl, Nat.le_of_ble_eq_true rfl⟩) hK hP hD hS hA [] rfl (by decide) rfl rfl rfl hl.1 rfl (Nat.le_of_ble_eq_true rfl) dL_act_40 ⟨Nat.le_of_ble_eq_true rfl, Nat.le_of_ble_eq_true rfl⟩ (fun H locs hP hD hS => ?_)
      refine kr_zne (tgt := 50) hx hcd (by omega) dL_act_43 (by decide) (fun (c_43 : 0 < g_low (w >>> (20 &&& 31)) 2) => ?_) (fun (c_43 : g_low (w >>> (20 &&& 31)) 2 = 0) => ?_)
      · refine lv_iconst (v := nI 5) hx hcd dL_act_50 (by decide) ?_
        refine kr_top (w := nI jj) (by first | exact congrArg nI (sl_t ej c_43) | exact congrArg nI (sl_f ej (Nat.ne_of_gt c_43))) ?_
        exact kM_35 _ _ hP hD hS
      · refine lv_iconst (v := nI 2) hx hcd dL_act_46 (by decide) ?_
        refine lv_goto (tgt := 51) hx hcd dL_act_47 (by decide) ?_
        refine kr_top (w := nI jj) (by first | exact congrArg nI (sl_t ej c_43) | exact congrArg nI (sl_f ej (Nat.ne_of_gt c_43))) ?_
        exact kM_35 _ _ hP hD hS
    · refine kr_Si (As := [.int (w >>> (7 &&& 31)), .int (nI jj)]) (rest := [.int (nI (a + 1))]) (ws2 := wX cI cB cW ob nw tr qs sc (g_rot qs r) M N S n L T) ⟨hx, hcd, hml, hown, hts⟩ (c_L_low l D cI cB cW cL  _ M (w >>> (7 &&& 31)) jj (by omega) (by omega)) (va_cwS 2 hts gL_act_L_low rfl rfl rfl (by decide +kernel) ⟨Nat.le_of_ble_eq_true rfl, Nat.le_of_ble_eq_true rfl⟩) hK hP hD hS hA [] rfl (by decide) rfl rfl rfl hl.1 rfl (Nat.le_of_ble_eq_true rfl) dL_act_51 ⟨Nat.le_of_ble_eq_true rfl, Nat.le_of_ble_eq_true rfl⟩ (fun H locs hP hD hS => ?_)
      refine kr_top (w := nI k) (congrArg nI ek) ?_
      refine kr_add hx hcd dL_act_54 ?_
      refine lv_bipush (v := nI 6) hx hcd dL_act_55 (by decide) ?_
      refine kr_rem hx hcd (by omega) (by decide) (by decide) dL_act_57 ?_
      refine kr_top (w := nI b) (congrArg nI (by omega)) ?_
      refine lv_istore (lv' := [(6, .int (nI b)), (5, .int (nI a)), (4, .int (nI how)), (0, .ref (ob 0)), (1, .int w), (2, .int v), (3, .int (kI cm))]) hx hcd dL_act_58 hl (by decide) rfl (fun ls hl => ?_)
      refine lv_iload_n hx hcd dL_act_60 rfl (lv_at hl 5 rfl) ?_
      refine lv_iconst (v := nI 3) hx hcd dL_act_61 (by decide) ?_
      refine kr_Si (As := [.int v, .int (nI 3)]) (rest := []) (ws2 := wX cI cB cW ob nw tr qs sc (g_rot qs r) M N S n L T) ⟨hx, hcd, hml, hown, hts⟩ (c_L_low l D cI cB cW cL  _ M v 3 (by omega) (by omega)) (va_cwS 2 hts gL_act_L_low rfl rfl rfl (by decide +kernel) ⟨Nat.le_of_ble_eq_true rfl, Nat.le_of_ble_eq_true rfl⟩) hK hP hD hS hA [] rfl (by decide) rfl rfl rfl hl.1 rfl (Nat.le_of_ble_eq_true rfl) dL_act_62 ⟨Nat.le_of_ble_eq_true rfl, Nat.le_of_ble_eq_true rfl⟩ (fun H locs hP hD hS => ?_)
      refine kr_top (w := nI z) (congrArg nI ez) ?_
      refine lv_istore (lv' := [(7, .int (nI z)), (6, .int (nI b)), (5, .int (nI a)), (4, .int (nI how)), (0, .ref (ob 0)), (1, .int w), (2, .int v), (3, .int (kI cm))]) hx hcd dL_act_65 hl (by decide) rfl (fun ls hl => ?_)
      refine lv_aload_n hx hcd dL_act_67 rfl (lv_at hl 4 rfl) ?_
      refine lv_iload hx hcd dL_act_68 (lv_at hl 2 rfl) ?_
      refine lv_iload hx hcd dL_act_70 (lv_at hl 1 rfl) ?_
      refine kl_S (As := [.ref (ob 0), .int (nI a), .int (nI b)]) (rest := []) (ws2 := wX cI cB cW ob nw tr qs sc (g_rot qs r) M N S n L T) ⟨hx, hcd, hml, hown, hts⟩ (c_L_entry__ok l hst D cI cB cW cL ob nw tr qs sc (g_rot qs r) N S n L T _ M a b (by omega) (by omega) (by omega)) (vx_cwSW 3 hts gL_act_L_entry rfl rfl rfl (by decide +kernel) ⟨Nat.le_of_ble_eq_true rfl, Nat.le_of_ble_eq_true rfl⟩) hZ hN hK hP hD hS hA [0, 1, 2, 3, 4, 5, 6, 7, 8, 9, 10, 11, 12, 13, 14, 15, 16, 17, 18, 19, 20, 21, 22, 23, 24, 25, 26, 27, 28, 29, 30, 31, 32, 33, 34, 35, 36, 37, 38, 39, 40, 41, 42, 43, 44, 45, 46, 47, 48, 49, 50, 51, 52, 53, 54, 55, 56, 57, 58, 59, 60, 61, 62, 63, 64, 65, 66, 67, 68, 69, 70, 71, 72, 73, 74, 75, 76, 77, 78, 79, 80, 81, 82, 83, 84, 85, 86, 87, 88, 89, 90, 91, 92, 93] wX_allC wX_nd wX_adr wX_all rfl hl.1 rfl (Nat.le_of_ble_eq_true rfl) dL_act_72 ⟨Nat.le_of_ble_eq_true rfl, Nat.le_of_ble_eq_true rfl⟩ (fun H locs hP hD hS => ?_)
      refine lv_istore (lv' := [(8, .int (g_st M a b)), (7, .int (nI z)), (6, .int (nI b)), (5, .int (nI a)), (4, .int (nI how)), (0, .ref (ob 0)), (1, .int w), (2, .int v), (3, .int (kI cm))]) hx hcd dL_act_75 hl (by decide) rfl (fun ls hl => ?_)
      refine lv_iload hx hcd dL_act_77 (lv_at hl 4 rfl) ?_
      refine lv_iconst (v := nI 3) hx hcd dL_act_79 (by decide) ?_
      refine kr_cge (tgt := 132) hx hcd (by omega) (by omega) dL_act_80 (by decide) (fun (c_80 : 3 ≤ how) => ?_) (fun (c_80 : how < 3) => absurd c_80 (by omega))
      refine lv_iload hx hcd dL_act_132 (lv_at hl 4 rfl) ?_
      refine lv_iconst (v := nI 5) hx hcd dL_act_134 (by decide) ?_
      refine kr_cge (tgt := 197) hx hcd (by omega) (by omega) dL_act_135 (by decide) (fun (c_135 : 5 ≤ how) => ?_) (fun (c_135 : how < 5) => absurd c_135 (by omega))
      refine lv_iload hx hcd dL_act_197 (lv_at hl 4 rfl) ?_
      refine lv_iconst (v := nI 5) hx hcd dL_act_199 (by decide) ?_
      refine kr_cne (tgt := 254) hx hcd (by omega) (by omega) dL_act_200 (by decide) (fun (c_200 : ¬ how = 5) => ?_) (fun (c_200 : how = 5) => absurd c_200 (by omega))
      refine lv_iload hx hcd dL_act_254 (lv_at hl 4 rfl) ?_
      refine lv_bipush (v := nI 6) hx hcd dL_act_256 (by decide) ?_
      refine kr_cne (tgt := 310) hx hcd (by omega) (by omega) dL_act_258 (by decide) (fun (c_258 : ¬ how = 6) => ?_) (fun (c_258 : how = 6) => absurd c_258 (by omega))
      refine lv_iload hx hcd dL_act_310 (lv_at hl 4 rfl) ?_
      refine lv_bipush (v := nI 10) hx hcd dL_act_312 (by decide) ?_
      refine kr_cge (tgt := 388) hx hcd (by omega) (by omega) dL_act_314 (by decide) (fun (c_314 : 10 ≤ how) => absurd c_314 (by omega)) (fun (c_314 : how < 10) => ?_)
      refine lv_aload_n hx hcd dL_act_317 rfl (lv_at hl 5 rfl) ?_
      refine lv_iload hx hcd dL_act_318 (lv_at hl 3 rfl) ?_
      refine lv_iload hx hcd dL_act_320 (lv_at hl 1 rfl) ?_
      refine lv_iload_n hx hcd dL_act_322 rfl (lv_at hl 7 rfl) ?_
      refine lv_iconst (v := nI 2) hx hcd dL_act_323 (by decide) ?_
      refine lv_ishr hx hcd dL_act_324 ?_
      refine lv_bipush (v := nI 19) hx hcd dL_act_325 (by decide) ?_
      refine kr_Si (As := [.int (v >>> (2 &&& 31)), .int (nI 19)]) (rest := [.int (nI z), .int (nI a), .ref (ob 0)]) (ws2 := wX cI cB cW ob nw tr qs sc (g_rot qs r) M N S n L T) ⟨hx, hcd, hml, hown, hts⟩ (c_L_low l D cI cB cW cL  _ M (v >>> (2 &&& 31)) 19 (by omega) (by omega)) (va_cwS 2 hts gL_act_L_low rfl rfl rfl (by decide +kernel) ⟨Nat.le_of_ble_eq_true rfl, Nat.le_of_ble_eq_true rfl⟩) hK hP hD hS hA [] rfl (by decide) rfl rfl rfl hl.1 rfl (Nat.le_of_ble_eq_true rfl) dL_act_327 ⟨Nat.le_of_ble_eq_true rfl, Nat.le_of_ble_eq_true rfl⟩ (fun H locs hP hD hS => ?_)
      refine kr_top (w := nI rr) (congrArg nI er) ?_
      refine lv_bipush (v := nI 9) hx hcd dL_act_330 (by decide) ?_
      refine lv_isub hx hcd dL_act_332 ?_
      refine lv_iload_n hx hcd dL_act_333 rfl (lv_at hl 7 rfl) ?_
      refine lv_bipush (v := nI 7) hx hcd dL_act_334 (by decide) ?_
      refine lv_ishr hx hcd dL_act_336 ?_
      refine lv_iconst (v := nI 5) hx hcd dL_act_337 (by decide) ?_
      refine kr_Si (As := [.int (v >>> (7 &&& 31)), .int (nI 5)]) (rest := [.int ((nI rr) - 9), .int (nI z), .int (nI a), .ref (ob 0)]) (ws2 := wX cI cB cW ob nw tr qs sc (g_rot qs r) M N S n L T) ⟨hx, hcd, hml, hown, hts⟩ (c_L_low l D cI cB cW cL  _ M (v >>> (7 &&& 31)) 5 (by omega) (by omega)) (va_cwS 2 hts gL_act_L_low rfl rfl rfl (by decide +kernel) ⟨Nat.le_of_ble_eq_true rfl, Nat.le_of_ble_eq_true rfl⟩) hK hP hD hS hA [] rfl (by decide) rfl rfl rfl hl.1 rfl (Nat.le_of_ble_eq_true rfl) dL_act_338 ⟨Nat.le_of_ble_eq_true rfl, Nat.le_of_ble_eq_true rfl⟩ (fun H locs hP hD hS => ?_)
      refine kr_top (w := nI dd) (congrArg nI ed) ?_
      refine kl_S (As := [.ref (ob 0), .int (nI a), .int (nI z), .int ((nI rr) - 9), .int (nI dd)]) (rest := []) (ws2 := wX cI cB cW ob nw tr qs sc (g_rot qs (rj n r)) (g_turnOn M a z ((nI rr) - 9) dd) N (sset S (pj n r) M) (g_kn n) L T) ⟨hx, hcd, hml, hown, hts⟩ (c_L_turnOn__ok l hst D cI cB cW cL ob nw tr qs sc (g_rot qs r) N S n L T _ M a z ((nI rr) - 9) dd r hI (by omega) (by omega) (by omega) (rk_lo rr hrr) (rk_hi rr hrr) (by omega) (by omega)) (vx_cwSW 5 hts gL_act_L_turnOn rfl rfl rfl (by decide +kernel) ⟨Nat.le_of_ble_eq_true rfl, Nat.le_of_ble_eq_true rfl⟩) hZ hN hK hP hD hS hA [0, 1, 2, 3, 4, 5, 6, 7, 8, 9, 10, 11, 12, 13, 14, 15, 16, 17, 18, 19, 20, 21, 22, 23, 24, 25, 26, 27, 28, 29, 30, 31, 32, 33, 34, 35, 36, 37, 38, 39, 40, 41, 42, 43, 44, 45, 46, 47, 48, 49, 50, 51, 52, 53, 54, 55, 56, 57, 58, 59, 60, 61, 62, 63, 64, 65, 66, 67, 68, 69, 70, 71, 72, 73, 74, 75, 76, 77, 78, 79, 80, 81, 82, 83, 84, 85, 86, 87, 88, 89, 90, 91, 92, 93] wX_allC wX_nd wX_adr wX_all rfl hl.1 rfl (Nat.le_of_ble_eq_true rfl) dL_act_341 ⟨Nat.le_of_ble_eq_true rfl, Nat.le_of_ble_eq_true rfl⟩ (fun H locs hP hD hS => ?_)
      refine lv_istore (lv' := [(9, .int (g_cnt (g_turnOn M a z ((nI rr) - 9) dd) a)), (8, .int (g_st M a b)), (7, .int (nI z)), (6, .int (nI b)), (5, .int (nI a)), (4, .int (nI how)), (0, .ref (ob 0)), (1, .int w), (2, .int v), (3, .int (kI cm))]) hx hcd dL_act_344 hl (by decide) rfl (fun ls hl => ?_)
      refine lv_aload_n hx hcd dL_act_346 rfl (lv_at hl 6 rfl) ?_
      refine lv_iload hx hcd dL_act_347 (lv_at hl 4 rfl) ?_
      refine lv_iload hx hcd dL_act_349 (lv_at hl 2 rfl) ?_
      refine lv_iconst (v := nI 0) hx hcd dL_act_351 (by decide) ?_
      refine kl_S (As := [.ref (ob 0), .int (nI a), .int (nI z), .int (nI 0)]) (rest := []) (ws2 := wX cI cB cW ob nw tr qs sc (g_rot qs (rj n r)) (g_turnOn M a z ((nI rr) - 9) dd) N (sset S (pj n r) M) (g_kn n) L T) ⟨hx, hcd, hml, hown, hts⟩ (c_L_seat__ok l hst D cI cB cW cL ob nw tr qs sc (g_rot qs (rj n r)) N (sset S (pj n r) M) (g_kn n) L T _ (g_turnOn M a z ((nI rr) - 9) dd) a z 0 (by omega) (by omega) (by omega)) (vx_cwSW 4 hts gL_act_L_seat rfl rfl rfl (by decide +kernel) ⟨Nat.le_of_ble_eq_true rfl, Nat.le_of_ble_eq_true rfl⟩) hZ hN hK hP hD hS hA [0, 1, 2, 3, 4, 5, 6, 7, 8, 9, 10, 11, 12, 13, 14, 15, 16, 17, 18, 19, 20, 21, 22, 23, 24, 25, 26, 27, 28, 29, 30, 31, 32, 33, 34, 35, 36, 37, 38, 39, 40, 41, 42, 43, 44, 45, 46, 47, 48, 49, 50, 51, 52, 53, 54, 55, 56, 57, 58, 59, 60, 61, 62, 63, 64, 65, 66, 67, 68, 69, 70, 71, 72, 73, 74, 75, 76, 77, 78, 79, 80, 81, 82, 83, 84, 85, 86, 87, 88, 89, 90, 91, 92, 93] wX_allC wX_nd wX_adr wX_all rfl hl.1 rfl (Nat.le_of_ble_eq_true rfl) dL_act_352 ⟨Nat.le_of_ble_eq_true rfl, Nat.le_of_ble_eq_true rfl⟩ (fun H locs hP hD hS => ?_)
      refine lv_iconst (v := nI 1) hx hcd dL_act_355 (by decide) ?_
      refine lv_icmp_ne (tgt := 384) hx hcd dL_act_356 (by decide) (fun (c_356 : ¬ ((g_turnOn M a z ((nI rr) - 9) dd) (9 * a + 3 * z + 0)) = 1) => absurd c_356 (not_not_intro (tn_on ha hz))) (fun (c_356 : ((g_turnOn M a z ((nI rr) - 9) dd) (9 * a + 3 * z + 0)) = 1) => ?_)
      refine lv_aload_n hx hcd dL_act_359 rfl (lv_at hl 6 rfl) ?_
      refine lv_iload hx hcd dL_act_360 (lv_at hl 4 rfl) ?_
      refine lv_iload hx hcd dL_act_362 (lv_at hl 2 rfl) ?_
      refine lv_iconst (v := nI 2) hx hcd dL_act_364 (by decide) ?_
      refine kl_S (As := [.ref (ob 0), .int (nI a), .int (nI z), .int (nI 2)]) (rest := []) (ws2 := wX cI cB cW ob nw tr qs sc (g_rot qs (rj n r)) (g_turnOn M a z ((nI rr) - 9) dd) N (sset S (pj n r) M) (g_kn n) L T) ⟨hx, hcd, hml, hown, hts⟩ (c_L_seat__ok l hst D cI cB cW cL ob nw tr qs sc (g_rot qs (rj n r)) N (sset S (pj n r) M) (g_kn n) L T _ (g_turnOn M a z ((nI rr) - 9) dd) a z 2 (by omega) (by omega) (by omega)) (vx_cwSW 4 hts gL_act_L_seat rfl rfl rfl (by decide +kernel) ⟨Nat.le_of_ble_eq_true rfl, Nat.le_of_ble_eq_true rfl⟩) hZ hN hK hP hD hS hA [0, 1, 2, 3, 4, 5, 6, 7, 8, 9, 10, 11, 12, 13, 14, 15, 16, 17, 18, 19, 20, 21, 22, 23, 24, 25, 26, 27, 28, 29, 30, 31, 32, 33, 34, 35, 36, 37, 38, 39, 40, 41, 42, 43, 44, 45, 46, 47, 48, 49, 50, 51, 52, 53, 54, 55, 56, 57, 58, 59, 60, 61, 62, 63, 64, 65, 66, 67, 68, 69, 70, 71, 72, 73, 74, 75, 76, 77, 78, 79, 80, 81, 82, 83, 84, 85, 86, 87, 88, 89, 90, 91, 92, 93] wX_allC wX_nd wX_adr wX_all rfl hl.1 rfl (Nat.le_of_ble_eq_true rfl) dL_act_365 ⟨Nat.le_of_ble_eq_true rfl, Nat.le_of_ble_eq_true rfl⟩ (fun H locs hP hD hS => ?_)
      refine lv_iload_n hx hcd dL_act_368 rfl (lv_at hl 8 rfl) ?_
      refine lv_bipush (v := nI 7) hx hcd dL_act_369 (by decide) ?_
      refine lv_ishr hx hcd dL_act_371 ?_
      refine lv_iconst (v := nI 5) hx hcd dL_act_372 (by decide) ?_
      refine kr_Si (As := [.int (v >>> (7 &&& 31)), .int (nI 5)]) (rest := [.int ((g_turnOn M a z ((nI rr) - 9) dd) (9 * a + 3 * z + 2))]) (ws2 := wX cI cB cW ob nw tr qs sc (g_rot qs (rj n r)) (g_turnOn M a z ((nI rr) - 9) dd) N (sset S (pj n r) M) (g_kn n) L T) ⟨hx, hcd, hml, hown, hts⟩ (c_L_low l D cI cB cW cL  _ (g_turnOn M a z ((nI rr) - 9) dd) (v >>> (7 &&& 31)) 5 (by omega) (by omega)) (va_cwS 2 hts gL_act_L_low rfl rfl rfl (by decide +kernel) ⟨Nat.le_of_ble_eq_true rfl, Nat.le_of_ble_eq_true rfl⟩) hK hP hD hS hA [] rfl (by decide) rfl rfl rfl hl.1 rfl (Nat.le_of_ble_eq_true rfl) dL_act_373 ⟨Nat.le_of_ble_eq_true rfl, Nat.le_of_ble_eq_true rfl⟩ (fun H locs hP hD hS => ?_)
      refine kr_top (w := nI dd) (congrArg nI ed) ?_
      refine lv_icmp_ne (tgt := 384) hx hcd dL_act_376 (by decide) (fun (c_376 : ¬ ((g_turnOn M a z ((nI rr) - 9) dd) (9 * a + 3 * z + 2)) = (nI dd)) => absurd c_376 (not_not_intro (tn_md ha hz))) (fun (c_376 : ((g_turnOn M a z ((nI rr) - 9) dd) (9 * a + 3 * z + 2)) = (nI dd)) => ?_)
      refine lv_iload hx hcd dL_act_379 (lv_at hl 0 rfl) ?_
      refine lv_goto (tgt := 387) hx hcd dL_act_381 (by decide) ?_
      refine W.widen (k := 1) (n := 6) (Nat.zero_le _) (Nat.zero_le _) ?_
      exact kr_iret hx hcd hr hlocks hK hP hD hS rfl (congrArg (fun M9 => wX cI cB cW ob nw tr qs sc (g_rot qs (rj n r)) M9 N (sset S (pj n r) M) (g_kn n) L T) (show g_turnOn M a z ((nI rr) - 9) dd = g_turnOn M a z (nI rr - 9) dd from rfl)) dL_act_387

set_option maxHeartbeats 4000000 in
set_option maxRecDepth 100000 in
theorem c_L_act__offOn (l : Launch) (hst : l.stackTraces = false) (D : va_G) (cI cB cW cL : ClassId) (ob nw tr : Nat → Nat) (qs : Nat → Nat → Nat) (sc : Nat → Nat) (G : Nat → Option Nat) (N : kM) (S : Nat → kM) (n L : Nat) (T : Nat → Int32) (sz : Nat) (M : kM) (w : Int32) (v : Int32) (cm : Bool) (mo how a jj k b z r : Nat) (hI : kInv M) (em : (if cm = true then 11 else 14) = mo) (hmo : mo = 11 ∨ mo = 14) (eh : g_low w mo = how) (ea : g_low (w >>> ((4 : Int32) &&& 31)) 6 = a) (ej : (if g_low (w >>> ((20 : Int32) &&& 31)) 2 = 0 then 2 else 5) = jj) (hjj : jj = 2 ∨ jj = 5) (ek : g_low (w >>> ((7 : Int32) &&& 31)) jj = k) (eb : (a + 1 + k) % 6 = b) (ez : g_low v 3 = z) (ha : a < 6) (hb : b < 6) (hne : a ≠ b) (hz : z < 3) (hk5 : k < 5) (hhow : how < 14) (hh : how = 10) (ho : g_on M a z = true) (hn : n ≤ 4) (hr : r < 4) : kMg l yL_act wsL_act ({ frames := 8, cells := 1, slots := 6, locals := 191 }) D vwCl (kT cI cB cW cL) sz [.ref (ob 0), .int w, .int v, .int (kI cm)] (wX cI cB cW ob nw tr qs sc (g_rot qs r) M N S n L T) (wX cI cB cW ob nw tr qs sc (g_rot qs (rj n r)) (g_turnOff M a z) N (sset S (pj n r) M) (g_kn n) L T) 0 1 6 := by
  refine kr_ofg (cc := cL_act) (maxL := 12) (ret := (some .int)) (by decide) rfl (Nat.le_of_ble_eq_true rfl) ?_
  intro pp ee ss mm args below meth cc AA ls hx hcd hr hts hown hlocks hml hZ hN hK hP hD hA hl
  have hS : va_S AA ss.heap ss.heap [] := va_S.rf
  have hown : ss.vm.findClass RL = some mm.cls := hown
  have hl : lv_has ls 12 [(0, .ref (ob 0)), (1, .int w), (2, .int v), (3, .int (kI cm))] := hl
  have lx := low_lt (v := w >>> ((20 : Int32) &&& 31)) (n := 2) (by omega)
  have e1 : M (9 * a + 3 * z + 0) = nI 1 := of_decide_eq_true ho
  refine lv_iload_n hx hcd dL_act_0 rfl (lv_at hl 1 rfl) ?_
  refine kr_cut (D := D) (cl := vwCl) (A := AA) (ws := wX cI cB cW ob nw tr qs sc (g_rot qs r) M N S n L T) (H0 := ss.heap) (g := F0 mm 12 ls [.int (nI mo), .int w]) (fun kM_1 => ?_) (fun H locs hP hD hS => ?_)
  · refine lv_iload_n hx hcd dL_act_1 rfl (lv_at hl 3 rfl) ?_
    refine kr_beq (tgt := 10) hx hcd dL_act_2 (by decide) (fun (c_2 : cm = false) => ?_) (fun (c_2 : cm = true) => ?_)
    · refine lv_bipush (v := nI 14) hx hcd dL_act_10 (by decide) ?_
      refine kr_top (w := nI mo) (by first | exact congrArg nI (md_f em c_2) | exact congrArg nI (md_t em c_2)) ?_
      exact kM_1 _ _ hP hD hS
    · refine lv_bipush (v := nI 11) hx hcd dL_act_5 (by decide) ?_
      refine lv_goto (tgt := 12) hx hcd dL_act_7 (by decide) ?_
      refine kr_top (w := nI mo) (by first | exact congrArg nI (md_f em c_2) | exact congrArg nI (md_t em c_2)) ?_
      exact kM_1 _ _ hP hD hS
  · refine kr_Si (As := [.int w, .int (nI mo)]) (rest := []) (ws2 := wX cI cB cW ob nw tr qs sc (g_rot qs r) M N S n L T) ⟨hx, hcd, hml, hown, hts⟩ (c_L_low l D cI cB cW cL  _ M w mo (by omega) (by omega)) (va_cwS 2 hts gL_act_L_low rfl rfl rfl (by decide +kernel) ⟨Nat.le_of_ble_eq_true rfl, Nat.le_of_ble_eq_true rfl⟩) hK hP hD hS hA [] rfl (by decide) rfl rfl rfl hl.1 rfl (Nat.le_of_ble_eq_true rfl) dL_act_12 ⟨Nat.le_of_ble_eq_true rfl, Nat.le_of_ble_eq_true rfl⟩ (fun H locs hP hD hS => ?_)
    refine kr_top (w := nI how) (congrArg nI eh) ?_
    refine lv_istore (lv' := [(4, .int (nI how)), (0, .ref (ob 0)), (1, .int w), (2, .int v), (3, .int (kI cm))]) hx hcd dL_act_15 hl (by decide) rfl (fun ls hl => ?_)
    refine lv_iload_n hx hcd dL_act_17 rfl (lv_at hl 2 rfl) ?_
    refine lv_iconst (v := nI 4) hx hcd dL_act_18 (by decide) ?_
    refine lv_ishr hx hcd dL_act_19 ?_
    refine lv_bipush (v := nI 6) hx hcd dL_act_20 (by decide) ?_
    refine kr_Si (As := [.int (w >>> (4 &&& 31)), .int (nI 6)]) (rest := []) (ws2 := wX cI cB cW ob nw tr qs sc (g_rot qs r) M N S n L T) ⟨hx, hcd, hml, hown, hts⟩ (c_L_low l D cI cB cW cL  _ M (w >>> (4 &&& 31)) 6 (by omega) (by omega)) (va_cwS 2 hts gL_act_L_low rfl rfl rfl (by decide +kernel) ⟨Nat.le_of_ble_eq_true rfl, Nat.le_of_ble_eq_true rfl⟩) hK hP hD hS hA [] rfl (by decide) rfl rfl rfl hl.1 rfl (Nat.le_of_ble_eq_true rfl) dL_act_22 ⟨Nat.le_of_ble_eq_true rfl, Nat.le_of_ble_eq_true rfl⟩ (fun H locs hP hD hS => ?_)
    refine kr_top (w := nI a) (congrArg nI ea) ?_
    refine lv_istore (lv' := [(5, .int (nI a)), (4, .int (nI how)), (0, .ref (ob 0)), (1, .int w), (2, .int v), (3, .int (kI cm))]) hx hcd dL_act_25 hl (by decide) rfl (fun ls hl => ?_)
    refine lv_iload hx hcd dL_act_27 (lv_at hl 0 rfl) ?_
    refine lv_iconst (v := nI 1) hx hcd dL_act_29 (by decide) ?_
    refine kr_add hx hcd dL_act_30 ?_
    refine lv_iload_n hx hcd dL_act_31 rfl (lv_at hl 3 rfl) ?_
    refine lv_bipush (v := nI 7) hx hcd dL_act_32 (by decide) ?_
    refine lv_ishr hx hcd dL_act_34 ?_
    refine kr_cut (D := D) (cl := vwCl) (A := AA) (ws := wX cI cB cW ob nw tr qs sc (g_rot qs r) M N S n L T) (H0 := ss.heap) (g := F0 mm 51 ls [.int (nI jj), .int (w >>> (7 &&& 31)), .int (nI (a + 1))]) (fun kM_35 => ?_) (fun H locs hP hD hS => ?_)
    · refine lv_iload_n hx hcd dL_act_35 rfl (lv_at hl 3 rfl) ?_
      refine lv_bipush (v := nI 20) hx hcd dL_act_36 (by decide) ?_
      refine lv_ishr hx hcd dL_act_38 ?_
      refine lv_iconst (v := nI 2) hx hcd dL_act_39 (by decide) ?_
      refine kr_Si (As := [.int (w >>> (20 &&& 31)), .int (nI 2)]) (rest := [.int (w >>> (7 &&& 31)), .int (nI (a + 1))]) (ws2 := wX cI cB cW ob nw tr qs sc (g_rot qs r) M N S n L T) ⟨hx, hcd, hml, hown, hts⟩ (c_L_low l D cI cB cW cL  _ M (w >>> (20 &&& 31)) 2 (by omega) (by omega)) (va_cwS 2 hts gL_act_L_low rfl rfl rfl (by decide +kernel) ⟨Nat.le_of_ble_eq_true rfl, Nat.le_of_ble_eq_true rfl⟩) hK hP hD hS hA [] rfl (by decide) rfl rfl rfl hl.1 rfl (Nat.le_of_ble_eq_true rfl) dL_act_40 ⟨Nat.le_of_ble_eq_true rfl, Nat.le_of_ble_eq_true rfl⟩ (fun H locs hP hD hS => ?_)
      refine kr_zne (tgt := 50) hx hcd (by omega) dL_act_43 (by decide) (fun (c_43 : 0 < g_low (w >>> (20 &&& 31)) 2) => ?_) (fun (c_43 : g_low (w >>> (20 &&& 31)) 2 = 0) => ?_)
      · refine lv_iconst (v := nI 5) hx hcd dL_act_50 (by decide) ?_
        refine kr_top (w := nI jj) (by first | exact congrArg nI (sl_t ej c_43) | exact congrArg nI (sl_f ej (Nat.ne_of_gt c_43))) ?_
        exact kM_35 _ _ hP hD hS
      · refine lv_iconst (v := nI 2) hx hcd dL_act_46 (by decide) ?_
        refine lv_goto (tgt := 51) hx hcd dL_act_47 (by decide) ?_
        refine kr_top (w := nI jj) (by first | exact congrArg nI (sl_t ej c_43) | exact congrArg nI (sl_f ej (Nat.ne_of_gt c_43))) ?_
        exact kM_35 _ _ hP hD hS
    · refine kr_Si (As := [.int (w >>> (7 &&& 31)), .int (nI jj)]) (rest := [.int (nI (a + 1))]) (ws2 := wX cI cB cW ob nw tr qs sc (g_rot qs r) M N S n L T) ⟨hx, hcd, hml, hown, hts⟩ (c_L_low l D cI cB cW cL  _ M (w >>> (7 &&& 31)) jj (by omega) (by omega)) (va_cwS 2 hts gL_act_L_low rfl rfl rfl (by decide +kernel) ⟨Nat.le_of_ble_eq_true rfl, Nat.le_of_ble_eq_true rfl⟩) hK hP hD hS hA [] rfl (by decide) rfl rfl rfl hl.1 rfl (Nat.le_of_ble_eq_true rfl) dL_act_51 ⟨Nat.le_of_ble_eq_true rfl, Nat.le_of_ble_eq_true rfl⟩ (fun H locs hP hD hS => ?_)
      refine kr_top (w := nI k) (congrArg nI ek) ?_
      refine kr_add hx hcd dL_act_54 ?_
      refine lv_bipush (v := nI 6) hx hcd dL_act_55 (by decide) ?_
      refine kr_rem hx hcd (by omega) (by decide) (by decide) dL_act_57 ?_
      refine kr_top (w := nI b) (congrArg nI (by omega)) ?_
      refine lv_istore (lv' := [(6, .int (nI b)), (5, .int (nI a)), (4, .int (nI how)), (0, .ref (ob 0)), (1, .int w), (2, .int v), (3, .int (kI cm))]) hx hcd dL_act_58 hl (by decide) rfl (fun ls hl => ?_)
      refine lv_iload_n hx hcd dL_act_60 rfl (lv_at hl 5 rfl) ?_
      refine lv_iconst (v := nI 3) hx hcd dL_act_61 (by decide) ?_
      refine kr_Si (As := [.int v, .int (nI 3)]) (rest := []) (ws2 := wX cI cB cW ob nw tr qs sc (g_rot qs r) M N S n L T) ⟨hx, hcd, hml, hown, hts⟩ (c_L_low l D cI cB cW cL  _ M v 3 (by omega) (by omega)) (va_cwS 2 hts gL_act_L_low rfl rfl rfl (by decide +kernel) ⟨Nat.le_of_ble_eq_true rfl, Nat.le_of_ble_eq_true rfl⟩) hK hP hD hS hA [] rfl (by decide) rfl rfl rfl hl.1 rfl (Nat.le_of_ble_eq_true rfl) dL_act_62 ⟨Nat.le_of_ble_eq_true rfl, Nat.le_of_ble_eq_true rfl⟩ (fun H locs hP hD hS => ?_)
      refine kr_top (w := nI z) (congrArg nI ez) ?_
      refine lv_istore (lv' := [(7, .int (nI z)), (6, .int (nI b)), (5, .int (nI a)), (4, .int (nI how)), (0, .ref (ob 0)), (1, .int w), (2, .int v), (3, .int (kI cm))]) hx hcd dL_act_65 hl (by decide) rfl (fun ls hl => ?_)
      refine lv_aload_n hx hcd dL_act_67 rfl (lv_at hl 4 rfl) ?_
      refine lv_iload hx hcd dL_act_68 (lv_at hl 2 rfl) ?_
      refine lv_iload hx hcd dL_act_70 (lv_at hl 1 rfl) ?_
      refine kl_S (As := [.ref (ob 0), .int (nI a), .int (nI b)]) (rest := []) (ws2 := wX cI cB cW ob nw tr qs sc (g_rot qs r) M N S n L T) ⟨hx, hcd, hml, hown, hts⟩ (c_L_entry__ok l hst D cI cB cW cL ob nw tr qs sc (g_rot qs r) N S n L T _ M a b (by omega) (by omega) (by omega)) (vx_cwSW 3 hts gL_act_L_entry rfl rfl rfl (by decide +kernel) ⟨Nat.le_of_ble_eq_true rfl, Nat.le_of_ble_eq_true rfl⟩) hZ hN hK hP hD hS hA [0, 1, 2, 3, 4, 5, 6, 7, 8, 9, 10, 11, 12, 13, 14, 15, 16, 17, 18, 19, 20, 21, 22, 23, 24, 25, 26, 27, 28, 29, 30, 31, 32, 33, 34, 35, 36, 37, 38, 39, 40, 41, 42, 43, 44, 45, 46, 47, 48, 49, 50, 51, 52, 53, 54, 55, 56, 57, 58, 59, 60, 61, 62, 63, 64, 65, 66, 67, 68, 69, 70, 71, 72, 73, 74, 75, 76, 77, 78, 79, 80, 81, 82, 83, 84, 85, 86, 87, 88, 89, 90, 91, 92, 93] wX_allC wX_nd wX_adr wX_all rfl hl.1 rfl (Nat.le_of_ble_eq_true rfl) dL_act_72 ⟨Nat.le_of_ble_eq_true rfl, Nat.le_of_ble_eq_true rfl⟩ (fun H locs hP hD hS => ?_)
      refine lv_istore (lv' := [(8, .int (g_st M a b)), (7, .int (nI z)), (6, .int (nI b)), (5, .int (nI a)), (4, .int (nI how)), (0, .ref (ob 0)), (1, .int w), (2, .int v), (3, .int (kI cm))]) hx hcd dL_act_75 hl (by decide) rfl (fun ls hl => ?_)
      refine lv_iload hx hcd dL_act_77 (lv_at hl 4 rfl) ?_
      refine lv_iconst (v := nI 3) hx hcd dL_act_79 (by decide) ?_
      refine kr_cge (tgt := 132) hx hcd (by omega) (by omega) dL_act_80 (by decide) (fun (c_80 : 3 ≤ how) => ?_) (fun (c_80 : how < 3) => absurd c_80 (by omega))
      refine lv_iload hx hcd dL_act_132 (lv_at hl 4 rfl) ?_
      refine lv_iconst (v := nI 5) hx hcd dL_act_134 (by decide) ?_
      refine kr_cge (tgt := 197) hx hcd (by omega) (by omega) dL_act_135 (by decide) (fun (c_135 : 5 ≤ how) => ?_) (fun (c_135 : how < 5) => absurd c_135 (by omega))
      refine lv_iload hx hcd dL_act_197 (lv_at hl 4 rfl) ?_
      refine lv_iconst (v := nI 5) hx hcd dL_act_199 (by decide) ?_
      refine kr_cne (tgt := 254) hx hcd (by omega) (by omega) dL_act_200 (by decide) (fun (c_200 : ¬ how = 5) => ?_) (fun (c_200 : how = 5) => absurd c_200 (by omega))
      refine lv_iload hx hcd dL_act_254 (lv_at hl 4 rfl) ?_
      refine lv_bipush (v := nI 6) hx hcd dL_act_256 (by decide) ?_
      refine kr_cne (tgt := 310) hx hcd (by omega) (by omega) dL_act_258 (by decide) (fun (c_258 : ¬ how = 6) => ?_) (fun (c_258 : how = 6) => absurd c_258 (by omega))
      refine lv_iload hx hcd dL_act_310 (lv_at hl 4 rfl) ?_
      refine lv_bipush (v := nI 10) hx hcd dL_act_312 (by decide) ?_
      refine kr_cge (tgt := 388) hx hcd (by omega) (by omega) dL_act_314 (by decide) (fun (c_314 : 10 ≤ how) => ?_) (fun (c_314 : how < 10) => absurd c_314 (by omega))
      refine lv_iload hx hcd dL_act_388 (lv_at hl 4 rfl) ?_
      refine lv_bipush (v := nI 10) hx hcd dL_act_390 (by decide) ?_
      refine kr_cne (tgt := 462) hx hcd (by omega) (by omega) dL_act_392 (by decide) (fun (c_392 : ¬ how = 10) => absurd c_392 (by omega)) (fun (c_392 : how = 10) => ?_)
      refine lv_aload_n hx hcd dL_act_395 rfl (lv_at hl 5 rfl) ?_
      refine lv_iload hx hcd dL_act_396 (lv_at hl 3 rfl) ?_
      refine lv_iload hx hcd dL_act_398 (lv_at hl 1 rfl) ?_
      refine lv_iconst (v := nI 0) hx hcd dL_act_400 (by decide) ?_
      refine kl_S (As := [.ref (ob 0), .int (nI a), .int (nI z), .int (nI 0)]) (rest := []) (ws2 := wX cI cB cW ob nw tr qs sc (g_rot qs r) M N S n L T) ⟨hx, hcd, hml, hown, hts⟩ (c_L_seat__ok l hst D cI cB cW cL ob nw tr qs sc (g_rot qs r) N S n L T _ M a z 0 (by omega) (by omega) (by omega)) (vx_cwSW 4 hts gL_act_L_seat rfl rfl rfl (by decide +kernel) ⟨Nat.le_of_ble_eq_true rfl, Nat.le_of_ble_eq_true rfl⟩) hZ hN hK hP hD hS hA [0, 1, 2, 3, 4, 5, 6, 7, 8, 9, 10, 11, 12, 13, 14, 15, 16, 17, 18, 19, 20, 21, 22, 23, 24, 25, 26, 27, 28, 29, 30, 31, 32, 33, 34, 35, 36, 37, 38, 39, 40, 41, 42, 43, 44, 45, 46, 47, 48, 49, 50, 51, 52, 53, 54, 55, 56, 57, 58, 59, 60, 61, 62, 63, 64, 65, 66, 67, 68, 69, 70, 71, 72, 73, 74, 75, 76, 77, 78, 79, 80, 81, 82, 83, 84, 85, 86, 87, 88, 89, 90, 91, 92, 93] wX_allC wX_nd wX_adr wX_all rfl hl.1 rfl (Nat.le_of_ble_eq_true rfl) dL_act_401 ⟨Nat.le_of_ble_eq_true rfl, Nat.le_of_ble_eq_true rfl⟩ (fun H locs hP hD hS => ?_)
      refine kr_top (w := nI 1) e1 ?_
      refine lv_istore (lv' := [(9, .int (nI 1)), (8, .int (g_st M a b)), (7, .int (nI z)), (6, .int (nI b)), (5, .int (nI a)), (4, .int (nI how)), (0, .ref (ob 0)), (1, .int w), (2, .int v), (3, .int (kI cm))]) hx hcd dL_act_404 hl (by decide) rfl (fun ls hl => ?_)
      refine lv_aload_n hx hcd dL_act_406 rfl (lv_at hl 6 rfl) ?_
      refine lv_iload hx hcd dL_act_407 (lv_at hl 4 rfl) ?_
      refine lv_iload hx hcd dL_act_409 (lv_at hl 2 rfl) ?_
      refine kl_S (As := [.ref (ob 0), .int (nI a), .int (nI z)]) (rest := []) (ws2 := wX cI cB cW ob nw tr qs sc (g_rot qs (rj n r)) (g_turnOff M a z) N (sset S (pj n r) M) (g_kn n) L T) ⟨hx, hcd, hml, hown, hts⟩ (c_L_turnOff__ok l hst D cI cB cW cL ob nw tr qs sc (g_rot qs r) N S n L T _ M a z r hI (by omega) (by omega) ho (by omega) (by omega)) (vx_cwSW 3 hts gL_act_L_turnOff rfl rfl rfl (by decide +kernel) ⟨Nat.le_of_ble_eq_true rfl, Nat.le_of_ble_eq_true rfl⟩) hZ hN hK hP hD hS hA [0, 1, 2, 3, 4, 5, 6, 7, 8, 9, 10, 11, 12, 13, 14, 15, 16, 17, 18, 19, 20, 21, 22, 23, 24, 25, 26, 27, 28, 29, 30, 31, 32, 33, 34, 35, 36, 37, 38, 39, 40, 41, 42, 43, 44, 45, 46, 47, 48, 49, 50, 51, 52, 53, 54, 55, 56, 57, 58, 59, 60, 61, 62, 63, 64, 65, 66, 67, 68, 69, 70, 71, 72, 73, 74, 75, 76, 77, 78, 79, 80, 81, 82, 83, 84, 85, 86, 87, 88, 89, 90, 91, 92, 93] wX_allC wX_nd wX_adr wX_all rfl hl.1 rfl (Nat.le_of_ble_eq_true rfl) dL_act_411 ⟨Nat.le_of_ble_eq_true rfl, Nat.le_of_ble_eq_true rfl⟩ (fun H locs hP hD hS => ?_)
      refine lv_istore (lv' := [(10, .int (g_cnt (g_turnOff M a z) a)), (9, .int (nI 1)), (8, .int (g_st M a b)), (7, .int (nI z)), (6, .int (nI b)), (5, .int (nI a)), (4, .int (nI how)), (0, .ref (ob 0)), (1, .int w), (2, .int v), (3, .int (kI cm))]) hx hcd dL_act_414 hl (by decide) rfl (fun ls hl => ?_)
      refine lv_iload hx hcd dL_act_416 (lv_at hl 0 rfl) ?_
      refine lv_sipush (v := (-902)) hx hcd dL_act_418 (by decide) ?_
      refine lv_icmp_ne (tgt := 428) hx hcd dL_act_421 (by decide) (fun (c_421 : ¬ (g_cnt (g_turnOff M a z) a) = (-902)) => ?_) (fun (c_421 : (g_cnt (g_turnOff M a z) a) = (-902)) => absurd c_421 (cnt_902 (i_turnOff hI ha hz) ha))
      refine lv_iconst (v := nI 0) hx hcd dL_act_428 (by decide) ?_
      refine lv_iload hx hcd dL_act_429 (lv_at hl 1 rfl) ?_
      refine kr_zne (tgt := 438) hx hcd (by omega) dL_act_431 (by decide) (fun (c_431 : 0 < 1) => ?_) (fun (c_431 : 1 = 0) => absurd c_431 (by omega))
      refine lv_iconst (v := nI 0) hx hcd dL_act_438 (by decide) ?_
      refine kr_cne (tgt := 458) hx hcd (by omega) (by omega) dL_act_439 (by decide) (fun (c_439 : ¬ 0 = 0) => absurd c_439 (by omega)) (fun (c_439 : 0 = 0) => ?_)
      refine lv_aload_n hx hcd dL_act_442 rfl (lv_at hl 7 rfl) ?_
      refine lv_iload hx hcd dL_act_443 (lv_at hl 5 rfl) ?_
      refine lv_iload hx hcd dL_act_445 (lv_at hl 3 rfl) ?_
      refine lv_iconst (v := nI 0) hx hcd dL_act_447 (by decide) ?_
      refine kl_S (As := [.ref (ob 0), .int (nI a), .int (nI z), .int (nI 0)]) (rest := []) (ws2 := wX cI cB cW ob nw tr qs sc (g_rot qs (rj n r)) (g_turnOff M a z) N (sset S (pj n r) M) (g_kn n) L T) ⟨hx, hcd, hml, hown, hts⟩ (c_L_seat__ok l hst D cI cB cW cL ob nw tr qs sc (g_rot qs (rj n r)) N (sset S (pj n r) M) (g_kn n) L T _ (g_turnOff M a z) a z 0 (by omega) (by omega) (by omega)) (vx_cwSW 4 hts gL_act_L_seat rfl rfl rfl (by decide +kernel) ⟨Nat.le_of_ble_eq_true rfl, Nat.le_of_ble_eq_true rfl⟩) hZ hN hK hP hD hS hA [0, 1, 2, 3, 4, 5, 6, 7, 8, 9, 10, 11, 12, 13, 14, 15, 16, 17, 18, 19, 20, 21, 22, 23, 24, 25, 26, 27, 28, 29, 30, 31, 32, 33, 34, 35, 36, 37, 38, 39, 40, 41, 42, 43, 44, 45, 46, 47, 48, 49, 50, 51, 52, 53, 54, 55, 56, 57, 58, 59, 60, 61, 62, 63, 64, 65, 66, 67, 68, 69, 70, 71, 72, 73, 74, 75, 76, 77, 78, 79, 80, 81, 82, 83, 84, 85, 86, 87, 88, 89, 90, 91, 92, 93] wX_allC wX_nd wX_adr wX_all rfl hl.1 rfl (Nat.le_of_ble_eq_true rfl) dL_act_448 ⟨Nat.le_of_ble_eq_true rfl, Nat.le_of_ble_eq_true rfl⟩ (fun H locs hP hD hS => ?_)
      refine lv_if_ne (tgt := 458) hx hcd dL_act_451 (by decide) (fun (c_451 : ¬ ((g_turnOff M a z) (9 * a + 3 * z + 0)) = 0) => absurd c_451 (not_not_intro (tf_off ha hz))) (fun (c_451 : ((g_turnOff M a z) (9 * a + 3 * z + 0)) = 0) => ?_)
      refine lv_iconst (v := nI 0) hx hcd dL_act_454 (by decide) ?_
      refine lv_goto (tgt := 461) hx hcd dL_act_455 (by decide) ?_
      refine W.widen (k := 1) (n := 6) (Nat.zero_le _) (Nat.zero_le _) ?_
      exact kr_iret hx hcd hr hlocks hK hP hD hS rfl rfl dL_act_461

set_option maxHeartbeats 4000000 in
set_option maxRecDepth 100000 in
theorem c_L_act__offOff (l : Launch) (hst : l.stackTraces = false) (D : va_G) (cI cB cW cL : ClassId) (ob nw tr : Nat → Nat) (qs : Nat → Nat → Nat) (sc : Nat → Nat) (G : Nat → Option Nat) (N : kM) (S : Nat → kM) (n L : Nat) (T : Nat → Int32) (sz : Nat) (M : kM) (w : Int32) (v : Int32) (cm : Bool) (mo how a jj k b z r : Nat) (hI : kInv M) (em : (if cm = true then 11 else 14) = mo) (hmo : mo = 11 ∨ mo = 14) (eh : g_low w mo = how) (ea : g_low (w >>> ((4 : Int32) &&& 31)) 6 = a) (ej : (if g_low (w >>> ((20 : Int32) &&& 31)) 2 = 0 then 2 else 5) = jj) (hjj : jj = 2 ∨ jj = 5) (ek : g_low (w >>> ((7 : Int32) &&& 31)) jj = k) (eb : (a + 1 + k) % 6 = b) (ez : g_low v 3 = z) (ha : a < 6) (hb : b < 6) (hne : a ≠ b) (hz : z < 3) (hk5 : k < 5) (hhow : how < 14) (hh : how = 10) (ho : g_on M a z = false) (hn : n ≤ 4) (hr : r < 4) : kMg l yL_act wsL_act ({ frames := 8, cells := 1, slots := 6, locals := 191 }) D vwCl (kT cI cB cW cL) sz [.ref (ob 0), .int w, .int v, .int (kI cm)] (wX cI cB cW ob nw tr qs sc (g_rot qs r) M N S n L T) (wX cI cB cW ob nw tr qs sc (g_rot qs r) M N S n L T) 0 1 6 := by
  refine kr_ofg (cc := cL_act) (maxL := 12) (ret := (some .int)) (by decide) rfl (Nat.le_of_ble_eq_true rfl) ?_
  intro pp ee ss mm args below meth cc AA ls hx hcd hr hts hown hlocks hml hZ hN hK hP hD hA hl
  have hS : va_S AA ss.heap ss.heap [] := va_S.rf
  have hown : ss.vm.findClass RL = some mm.cls := hown
  have hl : lv_has ls 12 [(0, .ref (ob 0)), (1, .int w), (2, .int v), (3, .int (kI cm))] := hl
  have lx := low_lt (v := w >>> ((20 : Int32) &&& 31)) (n := 2) (by omega)
  have e1 : M (9 * a + 3 * z + 0) = nI 0 := on_0 hI ha hz ho
  refine lv_iload_n hx hcd dL_act_0 rfl (lv_at hl 1 rfl) ?_
  refine kr_cut (D := D) (cl := vwCl) (A := AA) (ws := wX cI cB cW ob nw tr qs sc (g_rot qs r) M N S n L T) (H0 := ss.heap) (g := F0 mm 12 ls [.int (nI mo), .int w]) (fun kM_1 => ?_) (fun H locs hP hD hS => ?_)
  · refine lv_iload_n hx hcd dL_act_1 rfl (lv_at hl 3 rfl) ?_
    refine kr_beq (tgt := 10) hx hcd dL_act_2 (by decide) (fun (c_2 : cm = false) => ?_) (fun (c_2 : cm = true) => ?_)
    · refine lv_bipush (v := nI 14) hx hcd dL_act_10 (by decide) ?_
      refine kr_top (w := nI mo) (by first | exact congrArg nI (md_f em c_2) | exact congrArg nI (md_t em c_2)) ?_
      exact kM_1 _ _ hP hD hS
    · refine lv_bipush (v := nI 11) hx hcd dL_act_5 (by decide) ?_
      refine lv_goto (tgt := 12) hx hcd dL_act_7 (by decide) ?_
      refine kr_top (w := nI mo) (by first | exact congrArg nI (md_f em c_2) | exact congrArg nI (md_t em c_2)) ?_
      exact kM_1 _ _ hP hD hS
  · refine kr_Si (As := [.int w, .int (nI mo)]) (rest := []) (ws2 := wX cI cB cW ob nw tr qs sc (g_rot qs r) M N S n L T) ⟨hx, hcd, hml, hown, hts⟩ (c_L_low l D cI cB cW cL  _ M w mo (by omega) (by omega)) (va_cwS 2 hts gL_act_L_low rfl rfl rfl (by decide +kernel) ⟨Nat.le_of_ble_eq_true rfl, Nat.le_of_ble_eq_true rfl⟩) hK hP hD hS hA [] rfl (by decide) rfl rfl rfl hl.1 rfl (Nat.le_of_ble_eq_true rfl) dL_act_12 ⟨Nat.le_of_ble_eq_true rfl, Nat.le_of_ble_eq_true rfl⟩ (fun H locs hP hD hS => ?_)
    refine kr_top (w := nI how) (congrArg nI eh) ?_
    refine lv_istore (lv' := [(4, .int (nI how)), (0, .ref (ob 0)), (1, .int w), (2, .int v), (3, .int (kI cm))]) hx hcd dL_act_15 hl (by decide) rfl (fun ls hl => ?_)
    refine lv_iload_n hx hcd dL_act_17 rfl (lv_at hl 2 rfl) ?_
    refine lv_iconst (v := nI 4) hx hcd dL_act_18 (by decide) ?_
    refine lv_ishr hx hcd dL_act_19 ?_
    refine lv_bipush (v := nI 6) hx hcd dL_act_20 (by decide) ?_
    refine kr_Si (As := [.int (w >>> (4 &&& 31)), .int (nI 6)]) (rest := []) (ws2 := wX cI cB cW ob nw tr qs sc (g_rot qs r) M N S n L T) ⟨hx, hcd, hml, hown, hts⟩ (c_L_low l D cI cB cW cL  _ M (w >>> (4 &&& 31)) 6 (by omega) (by omega)) (va_cwS 2 hts gL_act_L_low rfl rfl rfl (by decide +kernel) ⟨Nat.le_of_ble_eq_true rfl, Nat.le_of_ble_eq_true rfl⟩) hK hP hD hS hA [] rfl (by decide) rfl rfl rfl hl.1 rfl (Nat.le_of_ble_eq_true rfl) dL_act_22 ⟨Nat.le_of_ble_eq_true rfl, Nat.le_of_ble_eq_true rfl⟩ (fun H locs hP hD hS => ?_)
    refine kr_top (w := nI a) (congrArg nI ea) ?_
    refine lv_istore (lv' := [(5, .int (nI a)), (4, .int (nI how)), (0, .ref (ob 0)), (1, .int w), (2, .int v), (3, .int (kI cm))]) hx hcd dL_act_25 hl (by decide) rfl (fun ls hl => ?_)
    refine lv_iload hx hcd dL_act_27 (lv_at hl 0 rfl) ?_
    refine lv_iconst (v := nI 1) hx hcd dL_act_29 (by decide) ?_
    refine kr_add hx hcd dL_act_30 ?_
    refine lv_iload_n hx hcd dL_act_31 rfl (lv_at hl 3 rfl) ?_
    refine lv_bipush (v := nI 7) hx hcd dL_act_32 (by decide) ?_
    refine lv_ishr hx hcd dL_act_34 ?_
    refine kr_cut (D := D) (cl := vwCl) (A := AA) (ws := wX cI cB cW ob nw tr qs sc (g_rot qs r) M N S n L T) (H0 := ss.heap) (g := F0 mm 51 ls [.int (nI jj), .int (w >>> (7 &&& 31)), .int (nI (a + 1))]) (fun kM_35 => ?_) (fun H locs hP hD hS => ?_)
    · refine lv_iload_n hx hcd dL_act_35 rfl (lv_at hl 3 rfl) ?_
      refine lv_bipush (v := nI 20) hx hcd dL_act_36 (by decide) ?_
      refine lv_ishr hx hcd dL_act_38 ?_
      refine lv_iconst (v := nI 2) hx hcd dL_act_39 (by decide) ?_
      refine kr_Si (As := [.int (w >>> (20 &&& 31)), .int (nI 2)]) (rest := [.int (w >>> (7 &&& 31)), .int (nI (a + 1))]) (ws2 := wX cI cB cW ob nw tr qs sc (g_rot qs r) M N S n L T) ⟨hx, hcd, hml, hown, hts⟩ (c_L_low l D cI cB cW cL  _ M (w >>> (20 &&& 31)) 2 (by omega) (by omega)) (va_cwS 2 hts gL_act_L_low rfl rfl rfl (by decide +kernel) ⟨Nat.le_of_ble_eq_true rfl, Nat.le_of_ble_eq_true rfl⟩) hK hP hD hS hA [] rfl (by decide) rfl rfl rfl hl.1 rfl (Nat.le_of_ble_eq_true rfl) dL_act_40 ⟨Nat.le_of_ble_eq_true rfl, Nat.le_of_ble_eq_true rfl⟩ (fun H locs hP hD hS => ?_)
      refine kr_zne (tgt := 50) hx hcd (by omega) dL_act_43 (by decide) (fun (c_43 : 0 < g_low (w >>> (20 &&& 31)) 2) => ?_) (fun (c_43 : g_low (w >>> (20 &&& 31)) 2 = 0) => ?_)
      · refine lv_iconst (v := nI 5) hx hcd dL_act_50 (by decide) ?_
        refine kr_top (w := nI jj) (by first | exact congrArg nI (sl_t ej c_43) | exact congrArg nI (sl_f ej (Nat.ne_of_gt c_43))) ?_
        exact kM_35 _ _ hP hD hS
      · refine lv_iconst (v := nI 2) hx hcd dL_act_46 (by decide) ?_
        refine lv_goto (tgt := 51) hx hcd dL_act_47 (by decide) ?_
        refine kr_top (w := nI jj) (by first | exact congrArg nI (sl_t ej c_43) | exact congrArg nI (sl_f ej (Nat.ne_of_gt c_43))) ?_
        exact kM_35 _ _ hP hD hS
    · refine kr_Si (As := [.int (w >>> (7 &&& 31)), .int (nI jj)]) (rest := [.int (nI (a + 1))]) (ws2 := wX cI cB cW ob nw tr qs sc (g_rot qs r) M N S n L T) ⟨hx, hcd, hml, hown, hts⟩ (c_L_low l D cI cB cW cL  _ M (w >>> (7 &&& 31)) jj (by omega) (by omega)) (va_cwS 2 hts gL_act_L_low rfl rfl rfl (by decide +kernel) ⟨Nat.le_of_ble_eq_true rfl, Nat.le_of_ble_eq_true rfl⟩) hK hP hD hS hA [] rfl (by decide) rfl rfl rfl hl.1 rfl (Nat.le_of_ble_eq_true rfl) dL_act_51 ⟨Nat.le_of_ble_eq_true rfl, Nat.le_of_ble_eq_true rfl⟩ (fun H locs hP hD hS => ?_)
      refine kr_top (w := nI k) (congrArg nI ek) ?_
      refine kr_add hx hcd dL_act_54 ?_
      refine lv_bipush (v := nI 6) hx hcd dL_act_55 (by decide) ?_
      refine kr_rem hx hcd (by omega) (by decide) (by decide) dL_act_57 ?_
      refine kr_top (w := nI b) (congrArg nI (by omega)) ?_
      refine lv_istore (lv' := [(6, .int (nI b)), (5, .int (nI a)), (4, .int (nI how)), (0, .ref (ob 0)), (1, .int w), (2, .int v), (3, .int (kI cm))]) hx hcd dL_act_58 hl (by decide) rfl (fun ls hl => ?_)
      refine lv_iload_n hx hcd dL_act_60 rfl (lv_at hl 5 rfl) ?_
      refine lv_iconst (v := nI 3) hx hcd dL_act_61 (by decide) ?_
      refine kr_Si (As := [.int v, .int (nI 3)]) (rest := []) (ws2 := wX cI cB cW ob nw tr qs sc (g_rot qs r) M N S n L T) ⟨hx, hcd, hml, hown, hts⟩ (c_L_low l D cI cB cW cL  _ M v 3 (by omega) (by omega)) (va_cwS 2 hts gL_act_L_low rfl rfl rfl (by decide +kernel) ⟨Nat.le_of_ble_eq_true rfl, Nat.le_of_ble_eq_true rfl⟩) hK hP hD hS hA [] rfl (by decide) rfl rfl rfl hl.1 rfl (Nat.le_of_ble_eq_true rfl) dL_act_62 ⟨Nat.le_of_ble_eq_true rfl, Nat.le_of_ble_eq_true rfl⟩ (fun H locs hP hD hS => ?_)
      refine kr_top (w := nI z) (congrArg nI ez) ?_
      refine lv_istore (lv' := [(7, .int (nI z)), (6, .int (nI b)), (5, .int (nI a)), (4, .int (nI how)), (0, .ref (ob 0)), (1, .int w), (2, .int v), (3, .int (kI cm))]) hx hcd dL_act_65 hl (by decide) rfl (fun ls hl => ?_)
      refine lv_aload_n hx hcd dL_act_67 rfl (lv_at hl 4 rfl) ?_
      refine lv_iload hx hcd dL_act_68 (lv_at hl 2 rfl) ?_
      refine lv_iload hx hcd dL_act_70 (lv_at hl 1 rfl) ?_
      refine kl_S (As := [.ref (ob 0), .int (nI a), .int (nI b)]) (rest := []) (ws2 := wX cI cB cW ob nw tr qs sc (g_rot qs r) M N S n L T) ⟨hx, hcd, hml, hown, hts⟩ (c_L_entry__ok l hst D cI cB cW cL ob nw tr qs sc (g_rot qs r) N S n L T _ M a b (by omega) (by omega) (by omega)) (vx_cwSW 3 hts gL_act_L_entry rfl rfl rfl (by decide +kernel) ⟨Nat.le_of_ble_eq_true rfl, Nat.le_of_ble_eq_true rfl⟩) hZ hN hK hP hD hS hA [0, 1, 2, 3, 4, 5, 6, 7, 8, 9, 10, 11, 12, 13, 14, 15, 16, 17, 18, 19, 20, 21, 22, 23, 24, 25, 26, 27, 28, 29, 30, 31, 32, 33, 34, 35, 36, 37, 38, 39, 40, 41, 42, 43, 44, 45, 46, 47, 48, 49, 50, 51, 52, 53, 54, 55, 56, 57, 58, 59, 60, 61, 62, 63, 64, 65, 66, 67, 68, 69, 70, 71, 72, 73, 74, 75, 76, 77, 78, 79, 80, 81, 82, 83, 84, 85, 86, 87, 88, 89, 90, 91, 92, 93] wX_allC wX_nd wX_adr wX_all rfl hl.1 rfl (Nat.le_of_ble_eq_true rfl) dL_act_72 ⟨Nat.le_of_ble_eq_true rfl, Nat.le_of_ble_eq_true rfl⟩ (fun H locs hP hD hS => ?_)
      refine lv_istore (lv' := [(8, .int (g_st M a b)), (7, .int (nI z)), (6, .int (nI b)), (5, .int (nI a)), (4, .int (nI how)), (0, .ref (ob 0)), (1, .int w), (2, .int v), (3, .int (kI cm))]) hx hcd dL_act_75 hl (by decide) rfl (fun ls hl => ?_)
      refine lv_iload hx hcd dL_act_77 (lv_at hl 4 rfl) ?_
      refine lv_iconst (v := nI 3) hx hcd dL_act_79 (by decide) ?_
      refine kr_cge (tgt := 132) hx hcd (by omega) (by omega) dL_act_80 (by decide) (fun (c_80 : 3 ≤ how) => ?_) (fun (c_80 : how < 3) => absurd c_80 (by omega))
      refine lv_iload hx hcd dL_act_132 (lv_at hl 4 rfl) ?_
      refine lv_iconst (v := nI 5) hx hcd dL_act_134 (by decide) ?_
      refine kr_cge (tgt := 197) hx hcd (by omega) (by omega) dL_act_135 (by decide) (fun (c_135 : 5 ≤ how) => ?_) (fun (c_135 : how < 5) => absurd c_135 (by omega))
      refine lv_iload hx hcd dL_act_197 (lv_at hl 4 rfl) ?_
      refine lv_iconst (v := nI 5) hx hcd dL_act_199 (by decide) ?_
      refine kr_cne (tgt := 254) hx hcd (by omega) (by omega) dL_act_200 (by decide) (fun (c_200 : ¬ how = 5) => ?_) (fun (c_200 : how = 5) => absurd c_200 (by omega))
      refine lv_iload hx hcd dL_act_254 (lv_at hl 4 rfl) ?_
      refine lv_bipush (v := nI 6) hx hcd dL_act_256 (by decide) ?_
      refine kr_cne (tgt := 310) hx hcd (by omega) (by omega) dL_act_258 (by decide) (fun (c_258 : ¬ how = 6) => ?_) (fun (c_258 : how = 6) => absurd c_258 (by omega))
      refine lv_iload hx hcd dL_act_310 (lv_at hl 4 rfl) ?_
      refine lv_bipush (v := nI 10) hx hcd dL_act_312 (by decide) ?_
      refine kr_cge (tgt := 388) hx hcd (by omega) (by omega) dL_act_314 (by decide) (fun (c_314 : 10 ≤ how) => ?_) (fun (c_314 : how < 10) => absurd c_314 (by omega))
      refine lv_iload hx hcd dL_act_388 (lv_at hl 4 rfl) ?_
      refine lv_bipush (v := nI 10) hx hcd dL_act_390 (by decide) ?_
      refine kr_cne (tgt := 462) hx hcd (by omega) (by omega) dL_act_392 (by decide) (fun (c_392 : ¬ how = 10) => absurd c_392 (by omega)) (fun (c_392 : how = 10) => ?_)
      refine lv_aload_n hx hcd dL_act_395 rfl (lv_at hl 5 rfl) ?_
      refine lv_iload hx hcd dL_act_396 (lv_at hl 3 rfl) ?_
      refine lv_iload hx hcd dL_act_398 (lv_at hl 1 rfl) ?_
      refine lv_iconst (v := nI 0) hx hcd dL_act_400 (by decide) ?_
      refine kl_S (As := [.ref (ob 0), .int (nI a), .int (nI z), .int (nI 0)]) (rest := []) (ws2 := wX cI cB cW ob nw tr qs sc (g_rot qs r) M N S n L T) ⟨hx, hcd, hml, hown, hts⟩ (c_L_seat__ok l hst D cI cB cW cL ob nw tr qs sc (g_rot qs r) N S n L T _ M a z 0 (by omega) (by omega) (by omega)) (vx_cwSW 4 hts gL_act_L_seat rfl rfl rfl (by decide +kernel) ⟨Nat.le_of_ble_eq_true rfl, Nat.le_of_ble_eq_true rfl⟩) hZ hN hK hP hD hS hA [0, 1, 2, 3, 4, 5, 6, 7, 8, 9, 10, 11, 12, 13, 14, 15, 16, 17, 18, 19, 20, 21, 22, 23, 24, 25, 26, 27, 28, 29, 30, 31, 32, 33, 34, 35, 36, 37, 38, 39, 40, 41, 42, 43, 44, 45, 46, 47, 48, 49, 50, 51, 52, 53, 54, 55, 56, 57, 58, 59, 60, 61, 62, 63, 64, 65, 66, 67, 68, 69, 70, 71, 72, 73, 74, 75, 76, 77, 78, 79, 80, 81, 82, 83, 84, 85, 86, 87, 88, 89, 90, 91, 92, 93] wX_allC wX_nd wX_adr wX_all rfl hl.1 rfl (Nat.le_of_ble_eq_true rfl) dL_act_401 ⟨Nat.le_of_ble_eq_true rfl, Nat.le_of_ble_eq_true rfl⟩ (fun H locs hP hD hS => ?_)
      refine kr_top (w := nI 0) e1 ?_
      refine lv_istore (lv' := [(9, .int (nI 0)), (8, .int (g_st M a b)), (7, .int (nI z)), (6, .int (nI b)), (5, .int (nI a)), (4, .int (nI how)), (0, .ref (ob 0)), (1, .int w), (2, .int v), (3, .int (kI cm))]) hx hcd dL_act_404 hl (by decide) rfl (fun ls hl => ?_)
      refine lv_aload_n hx hcd dL_act_406 rfl (lv_at hl 6 rfl) ?_
      refine lv_iload hx hcd dL_act_407 (lv_at hl 4 rfl) ?_
      refine lv_iload hx hcd dL_act_409 (lv_at hl 2 rfl) ?_
      refine kl_S (As := [.ref (ob 0), .int (nI a), .int (nI z)]) (rest := []) (ws2 := wX cI cB cW ob nw tr qs sc (g_rot qs r) M N S n L T) ⟨hx, hcd, hml, hown, hts⟩ (c_L_turnOff__e2 l hst D cI cB cW cL ob nw tr qs sc (g_rot qs r) N S n L T _ M a z (by omega) (by omega) ho) (vx_cwSW 3 hts gL_act_L_turnOff rfl rfl rfl (by decide +kernel) ⟨Nat.le_of_ble_eq_true rfl, Nat.le_of_ble_eq_true rfl⟩) hZ hN hK hP hD hS hA [0, 1, 2, 3, 4, 5, 6, 7, 8, 9, 10, 11, 12, 13, 14, 15, 16, 17, 18, 19, 20, 21, 22, 23, 24, 25, 26, 27, 28, 29, 30, 31, 32, 33, 34, 35, 36, 37, 38, 39, 40, 41, 42, 43, 44, 45, 46, 47, 48, 49, 50, 51, 52, 53, 54, 55, 56, 57, 58, 59, 60, 61, 62, 63, 64, 65, 66, 67, 68, 69, 70, 71, 72, 73, 74, 75, 76, 77, 78, 79, 80, 81, 82, 83, 84, 85, 86, 87, 88, 89, 90, 91, 92, 93] wX_allC wX_nd wX_adr wX_all rfl hl.1 rfl (Nat.le_of_ble_eq_true rfl) dL_act_411 ⟨Nat.le_of_ble_eq_true rfl, Nat.le_of_ble_eq_true rfl⟩ (fun H locs hP hD hS => ?_)
      refine lv_istore (lv' := [(10, .int (-902)), (9, .int (nI 0)), (8, .int (g_st M a b)), (7, .int (nI z)), (6, .int (nI b)), (5, .int (nI a)), (4, .int (nI how)), (0, .ref (ob 0)), (1, .int w), (2, .int v), (3, .int (kI cm))]) hx hcd dL_act_414 hl (by decide) rfl (fun ls hl => ?_)
      refine lv_iload hx hcd dL_act_416 (lv_at hl 0 rfl) ?_
      refine lv_sipush (v := (-902)) hx hcd dL_act_418 (by decide) ?_
      refine lv_icmp_ne (tgt := 428) hx hcd dL_act_421 (by decide) (fun (c_421 : ¬ (-902) = (-902)) => absurd c_421 (not_not_intro rfl)) (fun (c_421 : (-902) = (-902)) => ?_)
      refine lv_iconst (v := nI 1) hx hcd dL_act_424 (by decide) ?_
      refine lv_goto (tgt := 429) hx hcd dL_act_425 (by decide) ?_
      refine lv_iload hx hcd dL_act_429 (lv_at hl 1 rfl) ?_
      refine kr_zne (tgt := 438) hx hcd (by omega) dL_act_431 (by decide) (fun (c_431 : 0 < 0) => absurd c_431 (by omega)) (fun (c_431 : 0 = 0) => ?_)
      refine lv_iconst (v := nI 1) hx hcd dL_act_434 (by decide) ?_
      refine lv_goto (tgt := 439) hx hcd dL_act_435 (by decide) ?_
      refine kr_cne (tgt := 458) hx hcd (by omega) (by omega) dL_act_439 (by decide) (fun (c_439 : ¬ 1 = 1) => absurd c_439 (by omega)) (fun (c_439 : 1 = 1) => ?_)
      refine lv_aload_n hx hcd dL_act_442 rfl (lv_at hl 7 rfl) ?_
      refine lv_iload hx hcd dL_act_443 (lv_at hl 5 rfl) ?_
      refine lv_iload hx hcd dL_act_445 (lv_at hl 3 rfl) ?_
      refine lv_iconst (v := nI 0) hx hcd dL_act_447 (by decide) ?_
      refine kl_S (As := [.ref (ob 0), .int (nI a), .int (nI z), .int (nI 0)]) (rest := []) (ws2 := wX cI cB cW ob nw tr qs sc (g_rot qs r) M N S n L T) ⟨hx, hcd, hml, hown, hts⟩ (c_L_seat__ok l hst D cI cB cW cL ob nw tr qs sc (g_rot qs r) N S n L T _ M a z 0 (by omega) (by omega) (by omega)) (vx_cwSW 4 hts gL_act_L_seat rfl rfl rfl (by decide +kernel) ⟨Nat.le_of_ble_eq_true rfl, Nat.le_of_ble_eq_true rfl⟩) hZ hN hK hP hD hS hA [0, 1, 2, 3, 4, 5, 6, 7, 8, 9, 10, 11, 12, 13, 14, 15, 16, 17, 18, 19, 20, 21, 22, 23, 24, 25, 26, 27, 28, 29, 30, 31, 32, 33, 34, 35, 36, 37, 38, 39, 40, 41, 42, 43, 44, 45, 46, 47, 48, 49, 50, 51, 52, 53, 54, 55, 56, 57, 58, 59, 60, 61, 62, 63, 64, 65, 66, 67, 68, 69, 70, 71, 72, 73, 74, 75, 76, 77, 78, 79, 80, 81, 82, 83, 84, 85, 86, 87, 88, 89, 90, 91, 92, 93] wX_allC wX_nd wX_adr wX_all rfl hl.1 rfl (Nat.le_of_ble_eq_true rfl) dL_act_448 ⟨Nat.le_of_ble_eq_true rfl, Nat.le_of_ble_eq_true rfl⟩ (fun H locs hP hD hS => ?_)
      refine kr_top (w := nI 0) e1 ?_
      refine kr_zne (tgt := 458) hx hcd (by omega) dL_act_451 (by decide) (fun (c_451 : 0 < 0) => absurd c_451 (by omega)) (fun (c_451 : 0 = 0) => ?_)
      refine lv_iconst (v := nI 0) hx hcd dL_act_454 (by decide) ?_
      refine lv_goto (tgt := 461) hx hcd dL_act_455 (by decide) ?_
      exact kr_iret hx hcd hr hlocks hK hP hD hS rfl rfl dL_act_461

set_option maxHeartbeats 4000000 in
set_option maxRecDepth 100000 in
theorem c_L_act__block (l : Launch) (hst : l.stackTraces = false) (D : va_G) (cI cB cW cL : ClassId) (ob nw tr : Nat → Nat) (qs : Nat → Nat → Nat) (sc : Nat → Nat) (G : Nat → Option Nat) (N : kM) (S : Nat → kM) (n L : Nat) (T : Nat → Int32) (sz : Nat) (M : kM) (w : Int32) (v : Int32) (cm : Bool) (mo how a jj k b z r : Nat) (hI : kInv M) (em : (if cm = true then 11 else 14) = mo) (hmo : mo = 11 ∨ mo = 14) (eh : g_low w mo = how) (ea : g_low (w >>> ((4 : Int32) &&& 31)) 6 = a) (ej : (if g_low (w >>> ((20 : Int32) &&& 31)) 2 = 0 then 2 else 5) = jj) (hjj : jj = 2 ∨ jj = 5) (ek : g_low (w >>> ((7 : Int32) &&& 31)) jj = k) (eb : (a + 1 + k) % 6 = b) (ez : g_low v 3 = z) (ha : a < 6) (hb : b < 6) (hne : a ≠ b) (hz : z < 3) (hk5 : k < 5) (hhow : how < 14) (hh : how = 11) (hn : n ≤ 4) (hr : r < 4) : kMg l yL_act wsL_act ({ frames := 8, cells := 1, slots := 6, locals := 191 }) D vwCl (kT cI cB cW cL) sz [.ref (ob 0), .int w, .int v, .int (kI cm)] (wX cI cB cW ob nw tr qs sc (g_rot qs r) M N S n L T) (wX cI cB cW ob nw tr qs sc (g_rot qs (rj n r)) (g_block M a b (decide (v &&& 3 = 0))) N (sset S (pj n r) M) (g_kn n) L T) (if M (240 + 6 * a + b) = kI (decide (v &&& 3 = 0)) then 0 else 1) 1 6 := by
  refine kr_ofg (cc := cL_act) (maxL := 12) (ret := (some .int)) (by decide) rfl (Nat.le_of_ble_eq_true rfl) ?_
  intro pp ee ss mm args below meth cc AA ls hx hcd hr hts hown hlocks hml hZ hN hK hP hD hA hl
  have hS : va_S AA ss.heap ss.heap [] := va_S.rf
  have hown : ss.vm.findClass RL = some mm.cls := hown
  have hl : lv_has ls 12 [(0, .ref (ob 0)), (1, .int w), (2, .int v), (3, .int (kI cm))] := hl
  have lx := low_lt (v := w >>> ((20 : Int32) &&& 31)) (n := 2) (by omega)
  refine lv_iload_n hx hcd dL_act_0 rfl (lv_at hl 1 rfl) ?_
  refine kr_cut (D := D) (cl := vwCl) (A := AA) (ws := wX cI cB cW ob nw tr qs sc (g_rot qs r) M N S n L T) (H0 := ss.heap) (g := F0 mm 12 ls [.int (nI mo), .int w]) (fun kM_1 => ?_) (fun H locs hP hD hS => ?_)
  · refine lv_iload_n hx hcd dL_act_1 rfl (lv_at hl 3 rfl) ?_
    refine kr_beq (tgt := 10) hx hcd dL_act_2 (by decide) (fun (c_2 : cm = false) => ?_) (fun (c_2 : cm = true) => ?_)
    · refine lv_bipush (v := nI 14) hx hcd dL_act_10 (by decide) ?_
      refine kr_top (w := nI mo) (by first | exact congrArg nI (md_f em c_2) | exact congrArg nI (md_t em c_2)) ?_
      exact kM_1 _ _ hP hD hS
    · refine lv_bipush (v := nI 11) hx hcd dL_act_5 (by decide) ?_
      refine lv_goto (tgt := 12) hx hcd dL_act_7 (by decide) ?_
      refine kr_top (w := nI mo) (by first | exact congrArg nI (md_f em c_2) | exact congrArg nI (md_t em c_2)) ?_
      exact kM_1 _ _ hP hD hS
  · refine kr_Si (As := [.int w, .int (nI mo)]) (rest := []) (ws2 := wX cI cB cW ob nw tr qs sc (g_rot qs r) M N S n L T) ⟨hx, hcd, hml, hown, hts⟩ (c_L_low l D cI cB cW cL  _ M w mo (by omega) (by omega)) (va_cwS 2 hts gL_act_L_low rfl rfl rfl (by decide +kernel) ⟨Nat.le_of_ble_eq_true rfl, Nat.le_of_ble_eq_true rfl⟩) hK hP hD hS hA [] rfl (by decide) rfl rfl rfl hl.1 rfl (Nat.le_of_ble_eq_true rfl) dL_act_12 ⟨Nat.le_of_ble_eq_true rfl, Nat.le_of_ble_eq_true rfl⟩ (fun H locs hP hD hS => ?_)
    refine kr_top (w := nI how) (congrArg nI eh) ?_
    refine lv_istore (lv' := [(4, .int (nI how)), (0, .ref (ob 0)), (1, .int w), (2, .int v), (3, .int (kI cm))]) hx hcd dL_act_15 hl (by decide) rfl (fun ls hl => ?_)
    refine lv_iload_n hx hcd dL_act_17 rfl (lv_at hl 2 rfl) ?_
    refine lv_iconst (v := nI 4) hx hcd dL_act_18 (by decide) ?_
    refine lv_ishr hx hcd dL_act_19 ?_
    refine lv_bipush (v := nI 6) hx hcd dL_act_20 (by decide) ?_
    refine kr_Si (As := [.int (w >>> (4 &&& 31)), .int (nI 6)]) (rest := []) (ws2 := wX cI cB cW ob nw tr qs sc (g_rot qs r) M N S n L T) ⟨hx, hcd, hml, hown, hts⟩ (c_L_low l D cI cB cW cL  _ M (w >>> (4 &&& 31)) 6 (by omega) (by omega)) (va_cwS 2 hts gL_act_L_low rfl rfl rfl (by decide +kernel) ⟨Nat.le_of_ble_eq_true rfl, Nat.le_of_ble_eq_true rfl⟩) hK hP hD hS hA [] rfl (by decide) rfl rfl rfl hl.1 rfl (Nat.le_of_ble_eq_true rfl) dL_act_22 ⟨Nat.le_of_ble_eq_true rfl, Nat.le_of_ble_eq_true rfl⟩ (fun H locs hP hD hS => ?_)
    refine kr_top (w := nI a) (congrArg nI ea) ?_
    refine lv_istore (lv' := [(5, .int (nI a)), (4, .int (nI how)), (0, .ref (ob 0)), (1, .int w), (2, .int v), (3, .int (kI cm))]) hx hcd dL_act_25 hl (by decide) rfl (fun ls hl => ?_)
    refine lv_iload hx hcd dL_act_27 (lv_at hl 0 rfl) ?_
    refine lv_iconst (v := nI 1) hx hcd dL_act_29 (by decide) ?_
    refine kr_add hx hcd dL_act_30 ?_
    refine lv_iload_n hx hcd dL_act_31 rfl (lv_at hl 3 rfl) ?_
    refine lv_bipush (v := nI 7) hx hcd dL_act_32 (by decide) ?_
    refine lv_ishr hx hcd dL_act_34 ?_
    refine kr_cut (D := D) (cl := vwCl) (A := AA) (ws := wX cI cB cW ob nw tr qs sc (g_rot qs r) M N S n L T) (H0 := ss.heap) (g := F0 mm 51 ls [.int (nI jj), .int (w >>> (7 &&& 31)), .int (nI (a + 1))]) (fun kM_35 => ?_) (fun H locs hP hD hS => ?_)
    · refine lv_iload_n hx hcd dL_act_35 rfl (lv_at hl 3 rfl) ?_
      refine lv_bipush (v := nI 20) hx hcd dL_act_36 (by decide) ?_
      refine lv_ishr hx hcd dL_act_38 ?_
      refine lv_iconst (v := nI 2) hx hcd dL_act_39 (by decide) ?_
      refine kr_Si (As := [.int (w >>> (20 &&& 31)), .int (nI 2)]) (rest := [.int (w >>> (7 &&& 31)), .int (nI (a + 1))]) (ws2 := wX cI cB cW ob nw tr qs sc (g_rot qs r) M N S n L T) ⟨hx, hcd, hml, hown, hts⟩ (c_L_low l D cI cB cW cL  _ M (w >>> (20 &&& 31)) 2 (by omega) (by omega)) (va_cwS 2 hts gL_act_L_low rfl rfl rfl (by decide +kernel) ⟨Nat.le_of_ble_eq_true rfl, Nat.le_of_ble_eq_true rfl⟩) hK hP hD hS hA [] rfl (by decide) rfl rfl rfl hl.1 rfl (Nat.le_of_ble_eq_true rfl) dL_act_40 ⟨Nat.le_of_ble_eq_true rfl, Nat.le_of_ble_eq_true rfl⟩ (fun H locs hP hD hS => ?_)
      refine kr_zne (tgt := 50) hx hcd (by omega) dL_act_43 (by decide) (fun (c_43 : 0 < g_low (w >>> (20 &&& 31)) 2) => ?_) (fun (c_43 : g_low (w >>> (20 &&& 31)) 2 = 0) => ?_)
      · refine lv_iconst (v := nI 5) hx hcd dL_act_50 (by decide) ?_
        refine kr_top (w := nI jj) (by first | exact congrArg nI (sl_t ej c_43) | exact congrArg nI (sl_f ej (Nat.ne_of_gt c_43))) ?_
        exact kM_35 _ _ hP hD hS
      · refine lv_iconst (v := nI 2) hx hcd dL_act_46 (by decide) ?_
        refine lv_goto (tgt := 51) hx hcd dL_act_47 (by decide) ?_
        refine kr_top (w := nI jj) (by first | exact congrArg nI (sl_t ej c_43) | exact congrArg nI (sl_f ej (Nat.ne_of_gt c_43))) ?_
        exact kM_35 _ _ hP hD hS
    · refine kr_Si (As := [.int (w >>> (7 &&& 31)), .int (nI jj)]) (rest := [.int (nI (a + 1))]) (ws2 := wX cI cB cW ob nw tr qs sc (g_rot qs r) M N S n L T) ⟨hx, hcd, hml, hown, hts⟩ (c_L_low l D cI cB cW cL  _ M (w >>> (7 &&& 31)) jj (by omega) (by omega)) (va_cwS 2 hts gL_act_L_low rfl rfl rfl (by decide +kernel) ⟨Nat.le_of_ble_eq_true rfl, Nat.le_of_ble_eq_true rfl⟩) hK hP hD hS hA [] rfl (by decide) rfl rfl rfl hl.1 rfl (Nat.le_of_ble_eq_true rfl) dL_act_51 ⟨Nat.le_of_ble_eq_true rfl, Nat.le_of_ble_eq_true rfl⟩ (fun H locs hP hD hS => ?_)
      refine kr_top (w := nI k) (congrArg nI ek) ?_
      refine kr_add hx hcd dL_act_54 ?_
      refine lv_bipush (v := nI 6) hx hcd dL_act_55 (by decide) ?_
      refine kr_rem hx hcd (by omega) (by decide) (by decide) dL_act_57 ?_
      refine kr_top (w := nI b) (congrArg nI (by omega)) ?_
      refine lv_istore (lv' := [(6, .int (nI b)), (5, .int (nI a)), (4, .int (nI how)), (0, .ref (ob 0)), (1, .int w), (2, .int v), (3, .int (kI cm))]) hx hcd dL_act_58 hl (by decide) rfl (fun ls hl => ?_)
      refine lv_iload_n hx hcd dL_act_60 rfl (lv_at hl 5 rfl) ?_
      refine lv_iconst (v := nI 3) hx hcd dL_act_61 (by decide) ?_
      refine kr_Si (As := [.int v, .int (nI 3)]) (rest := []) (ws2 := wX cI cB cW ob nw tr qs sc (g_rot qs r) M N S n L T) ⟨hx, hcd, hml, hown, hts⟩ (c_L_low l D cI cB cW cL  _ M v 3 (by omega) (by omega)) (va_cwS 2 hts gL_act_L_low rfl rfl rfl (by decide +kernel) ⟨Nat.le_of_ble_eq_true rfl, Nat.le_of_ble_eq_true rfl⟩) hK hP hD hS hA [] rfl (by decide) rfl rfl rfl hl.1 rfl (Nat.le_of_ble_eq_true rfl) dL_act_62 ⟨Nat.le_of_ble_eq_true rfl, Nat.le_of_ble_eq_true rfl⟩ (fun H locs hP hD hS => ?_)
      refine kr_top (w := nI z) (congrArg nI ez) ?_
      refine lv_istore (lv' := [(7, .int (nI z)), (6, .int (nI b)), (5, .int (nI a)), (4, .int (nI how)), (0, .ref (ob 0)), (1, .int w), (2, .int v), (3, .int (kI cm))]) hx hcd dL_act_65 hl (by decide) rfl (fun ls hl => ?_)
      refine lv_aload_n hx hcd dL_act_67 rfl (lv_at hl 4 rfl) ?_
      refine lv_iload hx hcd dL_act_68 (lv_at hl 2 rfl) ?_
      refine lv_iload hx hcd dL_act_70 (lv_at hl 1 rfl) ?_
      refine kl_S (As := [.ref (ob 0), .int (nI a), .int (nI b)]) (rest := []) (ws2 := wX cI cB cW ob nw tr qs sc (g_rot qs r) M N S n L T) ⟨hx, hcd, hml, hown, hts⟩ (c_L_entry__ok l hst D cI cB cW cL ob nw tr qs sc (g_rot qs r) N S n L T _ M a b (by omega) (by omega) (by omega)) (vx_cwSW 3 hts gL_act_L_entry rfl rfl rfl (by decide +kernel) ⟨Nat.le_of_ble_eq_true rfl, Nat.le_of_ble_eq_true rfl⟩) hZ hN hK hP hD hS hA [0, 1, 2, 3, 4, 5, 6, 7, 8, 9, 10, 11, 12, 13, 14, 15, 16, 17, 18, 19, 20, 21, 22, 23, 24, 25, 26, 27, 28, 29, 30, 31, 32, 33, 34, 35, 36, 37, 38, 39, 40, 41, 42, 43, 44, 45, 46, 47, 48, 49, 50, 51, 52, 53, 54, 55, 56, 57, 58, 59, 60, 61, 62, 63, 64, 65, 66, 67, 68, 69, 70, 71, 72, 73, 74, 75, 76, 77, 78, 79, 80, 81, 82, 83, 84, 85, 86, 87, 88, 89, 90, 91, 92, 93] wX_allC wX_nd wX_adr wX_all rfl hl.1 rfl (Nat.le_of_ble_eq_true rfl) dL_act_72 ⟨Nat.le_of_ble_eq_true rfl, Nat.le_of_ble_eq_true rfl⟩ (fun H locs hP hD hS => ?_)
      refine lv_istore (lv' := [(8, .int (g_st M a b)), (7, .int (nI z)), (6, .int (nI b)), (5, .int (nI a)), (4, .int (nI how)), (0, .ref (ob 0)), (1, .int w), (2, .int v), (3, .int (kI cm))]) hx hcd dL_act_75 hl (by decide) rfl (fun ls hl => ?_)
      refine lv_iload hx hcd dL_act_77 (lv_at hl 4 rfl) ?_
      refine lv_iconst (v := nI 3) hx hcd dL_act_79 (by decide) ?_
      refine kr_cge (tgt := 132) hx hcd (by omega) (by omega) dL_act_80 (by decide) (fun (c_80 : 3 ≤ how) => ?_) (fun (c_80 : how < 3) => absurd c_80 (by omega))
      refine lv_iload hx hcd dL_act_132 (lv_at hl 4 rfl) ?_
      refine lv_iconst (v := nI 5) hx hcd dL_act_134 (by decide) ?_
      refine kr_cge (tgt := 197) hx hcd (by omega) (by omega) dL_act_135 (by decide) (fun (c_135 : 5 ≤ how) => ?_) (fun (c_135 : how < 5) => absurd c_135 (by omega))
      refine lv_iload hx hcd dL_act_197 (lv_at hl 4 rfl) ?_
      refine lv_iconst (v := nI 5) hx hcd dL_act_199 (by decide) ?_
      refine kr_cne (tgt := 254) hx hcd (by omega) (by omega) dL_act_200 (by decide) (fun (c_200 : ¬ how = 5) => ?_) (fun (c_200 : how = 5) => absurd c_200 (by omega))
      refine lv_iload hx hcd dL_act_254 (lv_at hl 4 rfl) ?_
      refine lv_bipush (v := nI 6) hx hcd dL_act_256 (by decide) ?_
      refine kr_cne (tgt := 310) hx hcd (by omega) (by omega) dL_act_258 (by decide) (fun (c_258 : ¬ how = 6) => ?_) (fun (c_258 : how = 6) => absurd c_258 (by omega))
      refine lv_iload hx hcd dL_act_310 (lv_at hl 4 rfl) ?_
      refine lv_bipush (v := nI 10) hx hcd dL_act_312 (by decide) ?_
      refine kr_cge (tgt := 388) hx hcd (by omega) (by omega) dL_act_314 (by decide) (fun (c_314 : 10 ≤ how) => ?_) (fun (c_314 : how < 10) => absurd c_314 (by omega))
      refine lv_iload hx hcd dL_act_388 (lv_at hl 4 rfl) ?_
      refine lv_bipush (v := nI 10) hx hcd dL_act_390 (by decide) ?_
      refine kr_cne (tgt := 462) hx hcd (by omega) (by omega) dL_act_392 (by decide) (fun (c_392 : ¬ how = 10) => ?_) (fun (c_392 : how = 10) => absurd c_392 (by omega))
      refine lv_iload hx hcd dL_act_462 (lv_at hl 4 rfl) ?_
      refine lv_bipush (v := nI 11) hx hcd dL_act_464 (by decide) ?_
      refine kr_cne (tgt := 522) hx hcd (by omega) (by omega) dL_act_466 (by decide) (fun (c_466 : ¬ how = 11) => absurd c_466 (by omega)) (fun (c_466 : how = 11) => ?_)
      refine lv_aload_n hx hcd dL_act_469 rfl (lv_at hl 5 rfl) ?_
      refine lv_iload hx hcd dL_act_470 (lv_at hl 3 rfl) ?_
      refine lv_iload hx hcd dL_act_472 (lv_at hl 2 rfl) ?_
      refine kr_cut (D := D) (cl := vwCl) (A := AA) (ws := wX cI cB cW ob nw tr qs sc (g_rot qs r) M N S n L T) (H0 := ss.heap) (g := F0 mm 485 ls [.int (kI (decide (v &&& 3 = 0))), .int (nI b), .int (nI a), .ref (ob 0)]) (fun kM_474 => ?_) (fun H locs hP hD hS => ?_)
      · refine lv_iload_n hx hcd dL_act_474 rfl (lv_at hl 7 rfl) ?_
        refine lv_iconst (v := nI 3) hx hcd dL_act_475 (by decide) ?_
        refine lv_iand hx hcd dL_act_476 ?_
        refine lv_if_ne (tgt := 484) hx hcd dL_act_477 (by decide) (fun (c_477 : ¬ (v &&& 3) = 0) => ?_) (fun (c_477 : (v &&& 3) = 0) => ?_)
        · refine lv_iconst (v := nI 0) hx hcd dL_act_484 (by decide) ?_
          refine kr_top (w := kI (decide (v &&& 3 = 0))) (by first | exact kI_pt c_477 | exact kI_pf c_477) ?_
          exact kM_474 _ _ hP hD hS
        · refine lv_iconst (v := nI 1) hx hcd dL_act_480 (by decide) ?_
          refine lv_goto (tgt := 485) hx hcd dL_act_481 (by decide) ?_
          refine kr_top (w := kI (decide (v &&& 3 = 0))) (by first | exact kI_pt c_477 | exact kI_pf c_477) ?_
          exact kM_474 _ _ hP hD hS
      · refine kl_S (As := [.ref (ob 0), .int (nI a), .int (nI b), .int (kI (decide (v &&& 3 = 0)))]) (rest := []) (ws2 := wX cI cB cW ob nw tr qs sc (g_rot qs (rj n r)) (g_block M a b (decide (v &&& 3 = 0))) N (sset S (pj n r) M) (g_kn n) L T) ⟨hx, hcd, hml, hown, hts⟩ (c_L_block__ok l hst D cI cB cW cL ob nw tr qs sc (g_rot qs r) N S n L T _ M a b (decide (v &&& 3 = 0)) r hI (by omega) (by omega) (by omega) (by omega) (by omega)) (vx_cwSW 4 hts gL_act_L_block rfl rfl rfl (by decide +kernel) ⟨Nat.le_of_ble_eq_true rfl, Nat.le_of_ble_eq_true rfl⟩) hZ hN hK hP hD hS hA [0, 1, 2, 3, 4, 5, 6, 7, 8, 9, 10, 11, 12, 13, 14, 15, 16, 17, 18, 19, 20, 21, 22, 23, 24, 25, 26, 27, 28, 29, 30, 31, 32, 33, 34, 35, 36, 37, 38, 39, 40, 41, 42, 43, 44, 45, 46, 47, 48, 49, 50, 51, 52, 53, 54, 55, 56, 57, 58, 59, 60, 61, 62, 63, 64, 65, 66, 67, 68, 69, 70, 71, 72, 73, 74, 75, 76, 77, 78, 79, 80, 81, 82, 83, 84, 85, 86, 87, 88, 89, 90, 91, 92, 93] wX_allC wX_nd wX_adr wX_all rfl hl.1 rfl (Nat.le_of_ble_eq_true rfl) dL_act_485 ⟨Nat.le_of_ble_eq_true rfl, Nat.le_of_ble_eq_true rfl⟩ (fun H locs hP hD hS => ?_)
        refine lv_istore (lv' := [(9, .int (if M (240 + 6 * a + b) = kI (decide (v &&& 3 = 0)) then 0 else 1)), (8, .int (g_st M a b)), (7, .int (nI z)), (6, .int (nI b)), (5, .int (nI a)), (4, .int (nI how)), (0, .ref (ob 0)), (1, .int w), (2, .int v), (3, .int (kI cm))]) hx hcd dL_act_488 hl (by decide) rfl (fun ls hl => ?_)
        refine lv_iload hx hcd dL_act_490 (lv_at hl 0 rfl) ?_
        refine lv_if_lt (tgt := 518) hx hcd dL_act_492 (by decide) (fun (c_492 : (if M (240 + 6 * a + b) = kI (decide (v &&& 3 = 0)) then 0 else 1) < 0) => absurd c_492 (by split <;> decide)) (fun (c_492 : ¬ (if M (240 + 6 * a + b) = kI (decide (v &&& 3 = 0)) then 0 else 1) < 0) => ?_)
        refine kr_cut (D := D) (cl := vwCl) (A := AA) (ws := wX cI cB cW ob nw tr qs sc (g_rot qs (rj n r)) (g_block M a b (decide (v &&& 3 = 0))) N (sset S (pj n r) M) (g_kn n) L T) (H0 := ss.heap) (g := F0 mm 513 ls []) (fun kM_495 => ?_) (fun H locs hP hD hS => ?_)
        · refine lv_iload_n hx hcd dL_act_495 rfl (lv_at hl 8 rfl) ?_
          refine lv_iconst (v := nI 3) hx hcd dL_act_496 (by decide) ?_
          refine lv_iand hx hcd dL_act_497 ?_
          refine lv_if_gt (tgt := 513) hx hcd dL_act_498 (by decide) (fun (c_498 : 0 < (v &&& 3)) => ?_) (fun (c_498 : ¬ 0 < (v &&& 3)) => ?_)
          · exact kM_495 _ _ hP hD hS
          · refine lv_aload_n hx hcd dL_act_501 rfl (lv_at hl 6 rfl) ?_
            refine lv_iload hx hcd dL_act_502 (lv_at hl 4 rfl) ?_
            refine lv_iload hx hcd dL_act_504 (lv_at hl 3 rfl) ?_
            refine kl_S (As := [.ref (ob 0), .int (nI a), .int (nI b)]) (rest := []) (ws2 := wX cI cB cW ob nw tr qs sc (g_rot qs (rj n r)) (g_block M a b (decide (v &&& 3 = 0))) N (sset S (pj n r) M) (g_kn n) L T) ⟨hx, hcd, hml, hown, hts⟩ (c_L_areApart__ok l hst D cI cB cW cL ob nw tr qs sc (g_rot qs (rj n r)) N (sset S (pj n r) M) (g_kn n) L T _ (g_block M a b (decide (v &&& 3 = 0))) a b (by omega) (by omega) (by omega)) (vx_cwSW 3 hts gL_act_L_areApart rfl rfl rfl (by decide +kernel) ⟨Nat.le_of_ble_eq_true rfl, Nat.le_of_ble_eq_true rfl⟩) hZ hN hK hP hD hS hA [0, 1, 2, 3, 4, 5, 6, 7, 8, 9, 10, 11, 12, 13, 14, 15, 16, 17, 18, 19, 20, 21, 22, 23, 24, 25, 26, 27, 28, 29, 30, 31, 32, 33, 34, 35, 36, 37, 38, 39, 40, 41, 42, 43, 44, 45, 46, 47, 48, 49, 50, 51, 52, 53, 54, 55, 56, 57, 58, 59, 60, 61, 62, 63, 64, 65, 66, 67, 68, 69, 70, 71, 72, 73, 74, 75, 76, 77, 78, 79, 80, 81, 82, 83, 84, 85, 86, 87, 88, 89, 90, 91, 92, 93] wX_allC wX_nd wX_adr wX_all rfl hl.1 rfl (Nat.le_of_ble_eq_true rfl) dL_act_506 ⟨Nat.le_of_ble_eq_true rfl, Nat.le_of_ble_eq_true rfl⟩ (fun H locs hP hD hS => ?_)
            refine lv_iconst (v := nI 1) hx hcd dL_act_509 (by decide) ?_
            refine lv_icmp_ne (tgt := 518) hx hcd dL_act_510 (by decide) (fun (c_510 : ¬ (kI (g_apart (g_block M a b (decide (v &&& 3 = 0))) a b)) = 1) => absurd c_510 (not_not_intro (congrArg kI (blk_apart ha hb hne c_498)))) (fun (c_510 : (kI (g_apart (g_block M a b (decide (v &&& 3 = 0))) a b)) = 1) => ?_)
            exact kM_495 _ _ hP hD hS
        · refine lv_iload hx hcd dL_act_513 (lv_at hl 0 rfl) ?_
          refine lv_goto (tgt := 521) hx hcd dL_act_515 (by decide) ?_
          refine W.widen (k := 1) (n := 6) (Nat.zero_le _) (Nat.zero_le _) ?_
          exact kr_iret hx hcd hr hlocks hK hP hD hS rfl rfl dL_act_521
