set_option maxHeartbeats 4000000 in
set_option maxRecDepth 100000 in
theorem c_L_act__lose (l : Launch) (hst : l.stackTraces = false) (D : va_G) (cI cB cW cL : ClassId) (ob nw tr : Nat → Nat) (qs : Nat → Nat → Nat) (sc : Nat → Nat) (G : Nat → Option Nat) (N : kM) (S : Nat → kM) (n L : Nat) (T : Nat → Int32) (sz : Nat) (M : kM) (w : Int32) (v : Int32) (cm : Bool) (mo how a jj k b z r i : Nat) (hI : kInv M) (em : (if cm = true then 11 else 14) = mo) (hmo : mo = 11 ∨ mo = 14) (eh : g_low w mo = how) (ea : g_low (w >>> ((4 : Int32) &&& 31)) 6 = a) (ej : (if g_low (w >>> ((20 : Int32) &&& 31)) 2 = 0 then 2 else 5) = jj) (hjj : jj = 2 ∨ jj = 5) (ek : g_low (w >>> ((7 : Int32) &&& 31)) jj = k) (eb : (a + 1 + k) % 6 = b) (ez : g_low v 3 = z) (ha : a < 6) (hb : b < 6) (hne : a ≠ b) (hz : z < 3) (hk5 : k < 5) (hhow : how < 14) (hh : how = 12 ∧ 0 < wyN M) (ei : g_low v (wyN M) = i) (hi : i < wyN M) (hn : n ≤ 4) (hr : r < 4) : kMg l yL_act wsL_act ({ frames := 8, cells := 1, slots := 6, locals := 191 }) D vwCl (kT cI cB cW cL) sz [.ref (ob 0), .int w, .int v, .int (kI cm)] (wX cI cB cW ob nw tr qs sc (g_rot qs r) M N S n L T) (wX cI cB cW ob nw tr qs sc (g_rot qs (rj n r)) (g_drop M i) N (sset S (pj n r) M) (g_kn n) L T) (g_part (g_msg M i) 0) 1 6 := by
  refine kr_ofg (cc := cL_act) (maxL := 12) (ret := (some .int)) (by decide) rfl (Nat.le_of_ble_eq_true rfl) ?_
  intro pp ee ss mm args below meth cc AA ls hx hcd hr hts hown hlocks hml hZ hN hK hP hD hA hl
  have hS : va_S AA ss.heap ss.heap [] := va_S.rf
  have hown : ss.vm.findClass RL = some mm.cls := hown
  have hl : lv_has ls 12 [(0, .ref (ob 0)), (1, .int w), (2, .int v), (3, .int (kI cm))] := hl
  have lx := low_lt (v := w >>> ((20 : Int32) &&& 31)) (n := 2) (by omega)
  have b577 := i_wyle hI
  refine lv_iload_n hx hcd dL_act_0 rfl (lv_at hl 1 rfl) ?_
  refine kr_cut (D := D) (cl := vwCl) (A := AA) (ws := wX cI cB cW ob nw tr qs sc (g_rot qs r) M N S n L T) (H0 := ss.heap) (g := F0 mm 12 ls [.int (nI mo), .int w]) (fun kM_1 => ?_) (fun H locs hP hD hS => ?_)
  · refine lv_iload_n hx hcd dL_act_1 rfl (lv_at hl 3 rfl) ?_
    refine kr_beq (tgt := 10) hx hcd dL_act_2 (by decide) (fun (c_2 : cm = false) => ?_) (fun (c_2 : cm = true) => ?_)
    · refine lv_bipush (v := nI 14) hx hcd dL_act_10 (by decide) ?_
      refine kr_top (w := nI mo) (by first | exact congrArg nI (md_f em c_2) | exact congrArg nI (md_t em c_2)) ?_
      exact kM_1 _ _ hP hD hS
    · refine lv_bipush (v := nI 11) hx hcd dL_act_5 (by decide) ?_
      refine lv_goto (tgt := 12) hx hcd dL_act_7 (by decide) ?_
      refine kr_top (w := nI mo) (by first | exact congrArg nI (md_f em c_2) | exact congrArg nI (md_t em c_2)) ?_
      exact kM_1 _ _ hP hD hS
  · refine kr_Si (As := [.int w, .int (nI mo)]) (rest := []) (ws2 := wX cI cB cW ob nw tr qs sc (g_rot qs r) M N S n L T) ⟨hx, hcd, hml, hown, hts⟩ (c_L_low l D cI cB cW cL  _ M w mo (by omega) (by omega)) (va_cwS 2 hts gL_act_L_low rfl rfl rfl (by decide +kernel) ⟨Nat.le_of_ble_eq_true rfl, Nat.le_of_ble_eq_true rfl⟩) hK hP hD hS hA [] rfl (by decide) rfl rfl rfl hl.1 rfl (Nat.le_of_ble_eq_true rfl) dL_act_12 ⟨Nat.le_of_ble_eq_true rfl, Nat.le_of_ble_eq_true rfl⟩ (fun H locs hP hD hS => ?_)
    refine kr_top (w := nI how) (congrArg nI eh) ?_
    refine lv_istore (lv' := [(4, .int (nI how)), (0, .ref (ob 0)), (1, .int w), (2, .int v), (3, .int (kI cm))]) hx hcd dL_act_15 hl (by decide) rfl (fun ls hl => ?_)
    refine lv_iload_n hx hcd dL_act_17 rfl (lv_at hl 2 rfl) ?_
    refine lv_iconst (v := nI 4) hx hcd dL_act_18 (by decide) ?_
    refine lv_ishr hx hcd dL_act_19 ?_
    refine lv_bipush (v := nI 6) hx hcd dL_act_20 (by decide) ?_
    refine kr_Si (As := [.int (w >>> (4 &&& 31)), .int (nI 6)]) (rest := []) (ws2 := wX cI cB cW ob nw tr qs sc (g_rot qs r) M N S n L T) ⟨hx, hcd, hml, hown, hts⟩ (c_L_low l D cI cB cW cL  _ M (w >>> (4 &&& 31)) 6 (by omega) (by omega)) (va_cwS 2 hts gL_act_L_low rfl rfl rfl (by decide +kernel) ⟨Nat.le_of_ble_eq_true rfl, Nat.le_of_ble_eq_true rfl⟩) hK hP hD hS hA [] rfl (by decide) rfl rfl rfl hl.1 rfl (Nat.le_of_ble_eq_true rfl) dL_act_22 ⟨Nat.le_of_ble_eq_true rfl, Nat.le_of_ble_eq_true rfl⟩ (fun H locs hP hD hS => ?_)
    refine kr_top (w := nI a) (congrArg nI ea) ?_
    refine lv_istore (lv' := [(5, .int (nI a)), (4, .int (nI how)), (0, .ref (ob 0)), (1, .int w), (2, .int v), (3, .int (kI cm))]) hx hcd dL_act_25 hl (by decide) rfl (fun ls hl => ?_)
    refine lv_iload hx hcd dL_act_27 (lv_at hl 0 rfl) ?_
    refine lv_iconst (v := nI 1) hx hcd dL_act_29 (by decide) ?_
    refine kr_add hx hcd dL_act_30 ?_
    refine lv_iload_n hx hcd dL_act_31 rfl (lv_at hl 3 rfl) ?_
    refine lv_bipush (v := nI 7) hx hcd dL_act_32 (by decide) ?_
    refine lv_ishr hx hcd dL_act_34 ?_
    refine kr_cut (D := D) (cl := vwCl) (A := AA) (ws := wX cI cB cW ob nw tr qs sc (g_rot qs r) M N S n L T) (H0 := ss.heap) (g := F0 mm 51 ls [.int (nI jj), .int (w >>> (7 &&& 31)), .int (nI (a + 1))]) (fun kM_35 => ?_) (fun H locs hP hD hS => ?_)
    · refine lv_iload_n hx hcd dL_act_35 rfl (lv_at hl 3 rfl) ?_
      refine lv_bipush (v := nI 20) hx hcd dL_act_36 (by decide) ?_
      refine lv_ishr hx hcd dL_act_38 ?_
      refine lv_iconst (v := nI 2) hx hcd dL_act_39 (by decide) ?_
      refine kr_Si (As := [.int (w >>> (20 &&& 31)), .int (nI 2)]) (rest := [.int (w >>> (7 &&& 31)), .int (nI (a + 1))]) (ws2 := wX cI cB cW ob nw tr qs sc (g_rot qs r) M N S n L T) ⟨hx, hcd, hml, hown, hts⟩ (c_L_low l D cI cB cW cL  _ M (w >>> (20 &&& 31)) 2 (by omega) (by omega)) (va_cwS 2 hts gL_act_L_low rfl rfl rfl (by decide +kernel) ⟨Nat.le_of_ble_eq_true rfl, Nat.le_of_ble_eq_true rfl⟩) hK hP hD hS hA [] rfl (by decide) rfl rfl rfl hl.1 rfl (Nat.le_of_ble_eq_true rfl) dL_act_40 ⟨Nat.le_of_ble_eq_true rfl, Nat.le_of_ble_eq_true rfl⟩ (fun H locs hP hD hS => ?_)
      refine kr_zne (tgt := 50) hx hcd (by omega) dL_act_43 (by decide) (fun (c_43 : 0 < g_low (w >>> (20 &&& 31)) 2) => ?_) (fun (c_43 : g_low (w >>> (20 &&& 31)) 2 = 0) => ?_)
      · refine lv_iconst (v := nI 5) hx hcd dL_act_50 (by decide) ?_
        refine kr_top (w := nI jj) (by first | exact congrArg nI (sl_t ej c_43) | exact congrArg nI (sl_f ej (Nat.ne_of_gt c_43))) ?_
        exact kM_35 _ _ hP hD hS
      · refine lv_iconst (v := nI 2) hx hcd dL_act_46 (by decide) ?_
        refine lv_goto (tgt := 51) hx hcd dL_act_47 (by decide) ?_
        refine kr_top (w := nI jj) (by first | exact congrArg nI (sl_t ej c_43) | exact congrArg nI (sl_f ej (Nat.ne_of_gt c_43))) ?_
        exact kM_35 _ _ hP hD hS
    · refine kr_Si (As := [.int (w >>> (7 &&& 31)), .int (nI jj)]) (rest := [.int (nI (a + 1))]) (ws2 := wX cI cB cW ob nw tr qs sc (g_rot qs r) M N S n L T) ⟨hx, hcd, hml, hown, hts⟩ (c_L_low l D cI cB cW cL  _ M (w >>> (7 &&& 31)) jj (by omega) (by omega)) (va_cwS 2 hts gL_act_L_low rfl rfl rfl (by decide +kernel) ⟨Nat.le_of_ble_eq_true rfl, Nat.le_of_ble_eq_true rfl⟩) hK hP hD hS hA [] rfl (by decide) rfl rfl rfl hl.1 rfl (Nat.le_of_ble_eq_true rfl) dL_act_51 ⟨Nat.le_of_ble_eq_true rfl, Nat.le_of_ble_eq_true rfl⟩ (fun H locs hP hD hS => ?_)
      refine kr_top (w := nI k) (congrArg nI ek) ?_
      refine kr_add hx hcd dL_act_54 ?_
      refine lv_bipush (v := nI 6) hx hcd dL_act_55 (by decide) ?_
      refine kr_rem hx hcd (by omega) (by decide) (by decide) dL_act_57 ?_
      refine kr_top (w := nI b) (congrArg nI (by omega)) ?_
      refine lv_istore (lv' := [(6, .int (nI b)), (5, .int (nI a)), (4, .int (nI how)), (0, .ref (ob 0)), (1, .int w), (2, .int v), (3, .int (kI cm))]) hx hcd dL_act_58 hl (by decide) rfl (fun ls hl => ?_)
      refine lv_iload_n hx hcd dL_act_60 rfl (lv_at hl 5 rfl) ?_
      refine lv_iconst (v := nI 3) hx hcd dL_act_61 (by decide) ?_
      refine kr_Si (As := [.int v, .int (nI 3)]) (rest := []) (ws2 := wX cI cB cW ob nw tr qs sc (g_rot qs r) M N S n L T) ⟨hx, hcd, hml, hown, hts⟩ (c_L_low l D cI cB cW cL  _ M v 3 (by omega) (by omega)) (va_cwS 2 hts gL_act_L_low rfl rfl rfl (by decide +kernel) ⟨Nat.le_of_ble_eq_true rfl, Nat.le_of_ble_eq_true rfl⟩) hK hP hD hS hA [] rfl (by decide) rfl rfl rfl hl.1 rfl (Nat.le_of_ble_eq_true rfl) dL_act_62 ⟨Nat.le_of_ble_eq_true rfl, Nat.le_of_ble_eq_true rfl⟩ (fun H locs hP hD hS => ?_)
      refine kr_top (w := nI z) (congrArg nI ez) ?_
      refine lv_istore (lv' := [(7, .int (nI z)), (6, .int (nI b)), (5, .int (nI a)), (4, .int (nI how)), (0, .ref (ob 0)), (1, .int w), (2, .int v), (3, .int (kI cm))]) hx hcd dL_act_65 hl (by decide) rfl (fun ls hl => ?_)
      refine lv_aload_n hx hcd dL_act_67 rfl (lv_at hl 4 rfl) ?_
      refine lv_iload hx hcd dL_act_68 (lv_at hl 2 rfl) ?_
      refine lv_iload hx hcd dL_act_70 (lv_at hl 1 rfl) ?_
      refine kl_S (As := [.ref (ob 0), .int (nI a), .int (nI b)]) (rest := []) (ws2 := wX cI cB cW ob nw tr qs sc (g_rot qs r) M N S n L T) ⟨hx, hcd, hml, hown, hts⟩ (c_L_entry__ok l hst D cI cB cW cL ob nw tr qs sc (g_rot qs r) N S n L T _ M a b (by omega) (by omega) (by omega)) (vx_cwSW 3 hts gL_act_L_entry rfl rfl rfl (by decide +kernel) ⟨Nat.le_of_ble_eq_true rfl, Nat.le_of_ble_eq_true rfl⟩) hZ hN hK hP hD hS hA [0, 1, 2, 3, 4, 5, 6, 7, 8, 9, 10, 11, 12, 13, 14, 15, 16, 17, 18, 19, 20, 21, 22, 23, 24, 25, 26, 27, 28, 29, 30, 31, 32, 33, 34, 35, 36, 37, 38, 39, 40, 41, 42, 43, 44, 45, 46, 47, 48, 49, 50, 51, 52, 53, 54, 55, 56, 57, 58, 59, 60, 61, 62, 63, 64, 65, 66, 67, 68, 69, 70, 71, 72, 73, 74, 75, 76, 77, 78, 79, 80, 81, 82, 83, 84, 85, 86, 87, 88, 89, 90, 91, 92, 93] wX_allC wX_nd wX_adr wX_all rfl hl.1 rfl (Nat.le_of_ble_eq_true rfl) dL_act_72 ⟨Nat.le_of_ble_eq_true rfl, Nat.le_of_ble_eq_true rfl⟩ (fun H locs hP hD hS => ?_)
      refine lv_istore (lv' := [(8, .int (g_st M a b)), (7, .int (nI z)), (6, .int (nI b)), (5, .int (nI a)), (4, .int (nI how)), (0, .ref (ob 0)), (1, .int w), (2, .int v), (3, .int (kI cm))]) hx hcd dL_act_75 hl (by decide) rfl (fun ls hl => ?_)
      refine lv_iload hx hcd dL_act_77 (lv_at hl 4 rfl) ?_
      refine lv_iconst (v := nI 3) hx hcd dL_act_79 (by decide) ?_
      refine kr_cge (tgt := 132) hx hcd (by omega) (by omega) dL_act_80 (by decide) (fun (c_80 : 3 ≤ how) => ?_) (fun (c_80 : how < 3) => absurd c_80 (by omega))
      refine lv_iload hx hcd dL_act_132 (lv_at hl 4 rfl) ?_
      refine lv_iconst (v := nI 5) hx hcd dL_act_134 (by decide) ?_
      refine kr_cge (tgt := 197) hx hcd (by omega) (by omega) dL_act_135 (by decide) (fun (c_135 : 5 ≤ how) => ?_) (fun (c_135 : how < 5) => absurd c_135 (by omega))
      refine lv_iload hx hcd dL_act_197 (lv_at hl 4 rfl) ?_
      refine lv_iconst (v := nI 5) hx hcd dL_act_199 (by decide) ?_
      refine kr_cne (tgt := 254) hx hcd (by omega) (by omega) dL_act_200 (by decide) (fun (c_200 : ¬ how = 5) => ?_) (fun (c_200 : how = 5) => absurd c_200 (by omega))
      refine lv_iload hx hcd dL_act_254 (lv_at hl 4 rfl) ?_
      refine lv_bipush (v := nI 6) hx hcd dL_act_256 (by decide) ?_
      refine kr_cne (tgt := 310) hx hcd (by omega) (by omega) dL_act_258 (by decide) (fun (c_258 : ¬ how = 6) => ?_) (fun (c_258 : how = 6) => absurd c_258 (by omega))
      refine lv_iload hx hcd dL_act_310 (lv_at hl 4 rfl) ?_
      refine lv_bipush (v := nI 10) hx hcd dL_act_312 (by decide) ?_
      refine kr_cge (tgt := 388) hx hcd (by omega) (by omega) dL_act_314 (by decide) (fun (c_314 : 10 ≤ how) => ?_) (fun (c_314 : how < 10) => absurd c_314 (by omega))
      refine lv_iload hx hcd dL_act_388 (lv_at hl 4 rfl) ?_
      refine lv_bipush (v := nI 10) hx hcd dL_act_390 (by decide) ?_
      refine kr_cne (tgt := 462) hx hcd (by omega) (by omega) dL_act_392 (by decide) (fun (c_392 : ¬ how = 10) => ?_) (fun (c_392 : how = 10) => absurd c_392 (by omega))
      refine lv_iload hx hcd dL_act_462 (lv_at hl 4 rfl) ?_
      refine lv_bipush (v := nI 11) hx hcd dL_act_464 (by decide) ?_
      refine kr_cne (tgt := 522) hx hcd (by omega) (by omega) dL_act_466 (by decide) (fun (c_466 : ¬ how = 11) => ?_) (fun (c_466 : how = 11) => absurd c_466 (by omega))
      refine lv_iload hx hcd dL_act_522 (lv_at hl 4 rfl) ?_
      refine lv_bipush (v := nI 12) hx hcd dL_act_524 (by decide) ?_
      refine kr_cne (tgt := 575) hx hcd (by omega) (by omega) dL_act_526 (by decide) (fun (c_526 : ¬ how = 12) => absurd c_526 (by omega)) (fun (c_526 : how = 12) => ?_)
      refine lv_aload_n hx hcd dL_act_529 rfl (lv_at hl 5 rfl) ?_
      refine kr_Vi (As := []) (rest := []) (ws2 := wX cI cB cW ob nw tr qs sc (g_rot qs r) M N S n L T) (q := (RX6, TX6, 5)) ⟨hx, hcd, hml, hown, hts⟩ (c_X6_underWay__ok l D cI cB cW cL ob nw tr qs sc (g_rot qs r) N S n L T _ M hI) (cwV 0 hts gL_act_X6_underWay rfl rfl rfl (by decide +kernel) ⟨Nat.le_of_ble_eq_true rfl, Nat.le_of_ble_eq_true rfl⟩) hK hP hD hS hA [0, 1, 2, 3, 4, 5, 6, 7, 8, 9, 10, 11, 12, 13, 14, 15, 16, 17, 18, 19, 20, 21, 22, 23, 24, 25, 26, 27, 28, 29, 30, 31, 32, 33, 34, 35, 36, 37, 38, 39, 40, 41, 42, 43, 44, 45, 46, 47, 48, 49, 50, 51, 52, 53, 54, 55, 56, 57, 58, 59, 60, 61, 62, 63, 64, 65, 66, 67, 68, 69, 70, 71, 72, 73, 74, 75, 76, 77, 78, 79, 80, 81, 82, 83, 84, 85, 86, 87, 88, 89, 90, 91, 92, 93] wX_allC wX_nd wX_adr wX_all 0 rfl rfl rfl hl.1 rfl (Nat.le_of_ble_eq_true rfl) dL_act_530 ⟨Nat.le_of_ble_eq_true rfl, Nat.le_of_ble_eq_true rfl⟩ (fun H locs hP hD hS => ?_)
      refine kr_zle (tgt := 575) hx hcd (by omega) dL_act_533 (by decide) (fun (c_533 : wyN M = 0) => absurd c_533 (by omega)) (fun (c_533 : 0 < wyN M) => ?_)
      refine lv_iload_n hx hcd dL_act_536 rfl (lv_at hl 7 rfl) ?_
      refine lv_aload_n hx hcd dL_act_537 rfl (lv_at hl 5 rfl) ?_
      refine kr_Vi (As := []) (rest := [.int v]) (ws2 := wX cI cB cW ob nw tr qs sc (g_rot qs r) M N S n L T) (q := (RX6, TX6, 5)) ⟨hx, hcd, hml, hown, hts⟩ (c_X6_underWay__ok l D cI cB cW cL ob nw tr qs sc (g_rot qs r) N S n L T _ M hI) (cwV 0 hts gL_act_X6_underWay rfl rfl rfl (by decide +kernel) ⟨Nat.le_of_ble_eq_true rfl, Nat.le_of_ble_eq_true rfl⟩) hK hP hD hS hA [0, 1, 2, 3, 4, 5, 6, 7, 8, 9, 10, 11, 12, 13, 14, 15, 16, 17, 18, 19, 20, 21, 22, 23, 24, 25, 26, 27, 28, 29, 30, 31, 32, 33, 34, 35, 36, 37, 38, 39, 40, 41, 42, 43, 44, 45, 46, 47, 48, 49, 50, 51, 52, 53, 54, 55, 56, 57, 58, 59, 60, 61, 62, 63, 64, 65, 66, 67, 68, 69, 70, 71, 72, 73, 74, 75, 76, 77, 78, 79, 80, 81, 82, 83, 84, 85, 86, 87, 88, 89, 90, 91, 92, 93] wX_allC wX_nd wX_adr wX_all 0 rfl rfl rfl hl.1 rfl (Nat.le_of_ble_eq_true rfl) dL_act_538 ⟨Nat.le_of_ble_eq_true rfl, Nat.le_of_ble_eq_true rfl⟩ (fun H locs hP hD hS => ?_)
      refine kr_Si (As := [.int v, .int (nI (wyN M))]) (rest := []) (ws2 := wX cI cB cW ob nw tr qs sc (g_rot qs r) M N S n L T) ⟨hx, hcd, hml, hown, hts⟩ (c_L_low l D cI cB cW cL  _ M v (wyN M) (by omega) (by omega)) (va_cwS 2 hts gL_act_L_low rfl rfl rfl (by decide +kernel) ⟨Nat.le_of_ble_eq_true rfl, Nat.le_of_ble_eq_true rfl⟩) hK hP hD hS hA [] rfl (by decide) rfl rfl rfl hl.1 rfl (Nat.le_of_ble_eq_true rfl) dL_act_541 ⟨Nat.le_of_ble_eq_true rfl, Nat.le_of_ble_eq_true rfl⟩ (fun H locs hP hD hS => ?_)
      refine kr_top (w := nI i) (congrArg nI ei) ?_
      refine lv_istore (lv' := [(9, .int (nI i)), (8, .int (g_st M a b)), (7, .int (nI z)), (6, .int (nI b)), (5, .int (nI a)), (4, .int (nI how)), (0, .ref (ob 0)), (1, .int w), (2, .int v), (3, .int (kI cm))]) hx hcd dL_act_544 hl (by decide) rfl (fun ls hl => ?_)
      refine lv_aload_n hx hcd dL_act_546 rfl (lv_at hl 6 rfl) ?_
      refine lv_iload hx hcd dL_act_547 (lv_at hl 0 rfl) ?_
      refine lv_iconst (v := nI 0) hx hcd dL_act_549 (by decide) ?_
      refine kl_S (As := [.ref (ob 0), .int (nI i), .int (nI 0)]) (rest := []) (ws2 := wX cI cB cW ob nw tr qs sc (g_rot qs r) M N S n L T) ⟨hx, hcd, hml, hown, hts⟩ (c_L_message__ok l hst D cI cB cW cL ob nw tr qs sc (g_rot qs r) N S n L T _ M i 0 hI (by omega) (by omega)) (vx_cwSW 3 hts gL_act_L_message rfl rfl rfl (by decide +kernel) ⟨Nat.le_of_ble_eq_true rfl, Nat.le_of_ble_eq_true rfl⟩) hZ hN hK hP hD hS hA [0, 1, 2, 3, 4, 5, 6, 7, 8, 9, 10, 11, 12, 13, 14, 15, 16, 17, 18, 19, 20, 21, 22, 23, 24, 25, 26, 27, 28, 29, 30, 31, 32, 33, 34, 35, 36, 37, 38, 39, 40, 41, 42, 43, 44, 45, 46, 47, 48, 49, 50, 51, 52, 53, 54, 55, 56, 57, 58, 59, 60, 61, 62, 63, 64, 65, 66, 67, 68, 69, 70, 71, 72, 73, 74, 75, 76, 77, 78, 79, 80, 81, 82, 83, 84, 85, 86, 87, 88, 89, 90, 91, 92, 93] wX_allC wX_nd wX_adr wX_all rfl hl.1 rfl (Nat.le_of_ble_eq_true rfl) dL_act_550 ⟨Nat.le_of_ble_eq_true rfl, Nat.le_of_ble_eq_true rfl⟩ (fun H locs hP hD hS => ?_)
      refine lv_istore (lv' := [(10, .int (g_part (g_msg M i) 0)), (9, .int (nI i)), (8, .int (g_st M a b)), (7, .int (nI z)), (6, .int (nI b)), (5, .int (nI a)), (4, .int (nI how)), (0, .ref (ob 0)), (1, .int w), (2, .int v), (3, .int (kI cm))]) hx hcd dL_act_553 hl (by decide) rfl (fun ls hl => ?_)
      refine lv_aload_n hx hcd dL_act_555 rfl (lv_at hl 7 rfl) ?_
      refine lv_iload hx hcd dL_act_556 (lv_at hl 1 rfl) ?_
      refine kl_S (As := [.ref (ob 0), .int (nI i)]) (rest := []) (ws2 := wX cI cB cW ob nw tr qs sc (g_rot qs (rj n r)) (g_drop M i) N (sset S (pj n r) M) (g_kn n) L T) ⟨hx, hcd, hml, hown, hts⟩ (c_L_lose__ok l hst D cI cB cW cL ob nw tr qs sc (g_rot qs r) N S n L T _ M i r hI (by omega) (by omega) (by omega)) (vx_cwSW 2 hts gL_act_L_lose rfl rfl rfl (by decide +kernel) ⟨Nat.le_of_ble_eq_true rfl, Nat.le_of_ble_eq_true rfl⟩) hZ hN hK hP hD hS hA [0, 1, 2, 3, 4, 5, 6, 7, 8, 9, 10, 11, 12, 13, 14, 15, 16, 17, 18, 19, 20, 21, 22, 23, 24, 25, 26, 27, 28, 29, 30, 31, 32, 33, 34, 35, 36, 37, 38, 39, 40, 41, 42, 43, 44, 45, 46, 47, 48, 49, 50, 51, 52, 53, 54, 55, 56, 57, 58, 59, 60, 61, 62, 63, 64, 65, 66, 67, 68, 69, 70, 71, 72, 73, 74, 75, 76, 77, 78, 79, 80, 81, 82, 83, 84, 85, 86, 87, 88, 89, 90, 91, 92, 93] wX_allC wX_nd wX_adr wX_all rfl hl.1 rfl (Nat.le_of_ble_eq_true rfl) dL_act_558 ⟨Nat.le_of_ble_eq_true rfl, Nat.le_of_ble_eq_true rfl⟩ (fun H locs hP hD hS => ?_)
      refine lv_iload hx hcd dL_act_561 (lv_at hl 0 rfl) ?_
      refine lv_icmp_ne (tgt := 571) hx hcd dL_act_563 (by decide) (fun (c_563 : ¬ (g_part (g_msg M i) 0) = (g_part (g_msg M i) 0)) => absurd c_563 (not_not_intro rfl)) (fun (c_563 : (g_part (g_msg M i) 0) = (g_part (g_msg M i) 0)) => ?_)
      refine lv_iload hx hcd dL_act_566 (lv_at hl 0 rfl) ?_
      refine lv_goto (tgt := 574) hx hcd dL_act_568 (by decide) ?_
      refine W.widen (k := 1) (n := 6) (Nat.zero_le _) (Nat.zero_le _) ?_
      exact kr_iret hx hcd hr hlocks hK hP hD hS rfl rfl dL_act_574

set_option maxHeartbeats 4000000 in
set_option maxRecDepth 100000 in
theorem c_L_act__deliver (l : Launch) (hst : l.stackTraces = false) (D : va_G) (cI cB cW cL : ClassId) (ob nw tr : Nat → Nat) (qs : Nat → Nat → Nat) (sc : Nat → Nat) (G : Nat → Option Nat) (N : kM) (S : Nat → kM) (n L : Nat) (T : Nat → Int32) (sz : Nat) (M : kM) (w : Int32) (v : Int32) (cm : Bool) (mo how a jj k b z r c : Nat) (hI : kInv M) (em : (if cm = true then 11 else 14) = mo) (hmo : mo = 11 ∨ mo = 14) (eh : g_low w mo = how) (ea : g_low (w >>> ((4 : Int32) &&& 31)) 6 = a) (ej : (if g_low (w >>> ((20 : Int32) &&& 31)) 2 = 0 then 2 else 5) = jj) (hjj : jj = 2 ∨ jj = 5) (ek : g_low (w >>> ((7 : Int32) &&& 31)) jj = k) (eb : (a + 1 + k) % 6 = b) (ez : g_low v 3 = z) (ha : a < 6) (hb : b < 6) (hne : a ≠ b) (hz : z < 3) (hk5 : k < 5) (hhow : how < 14) (hh : how = 13 ∨ (how = 12 ∧ wyN M = 0)) (ec : g_low v 9 = c) (hc : c < 9) (hn : n ≤ 4) (hr : r < 4) : kMg l yL_act wsL_act ({ frames := 8, cells := 1, slots := 6, locals := 191 }) D vwCl (kT cI cB cW cL) sz [.ref (ob 0), .int w, .int v, .int (kI cm)] (wX cI cB cW ob nw tr qs sc (g_rot qs r) M N S n L T) (wX cI cB cW ob nw tr qs sc (g_rot qs (rj n r)) (g_del c M) N (sset S (pj n r) M) (g_kn n) L T) (nI (g_delC c M)) 1 6 := by
  refine kr_ofg (cc := cL_act) (maxL := 12) (ret := (some .int)) (by decide) rfl (Nat.le_of_ble_eq_true rfl) ?_
  intro pp ee ss mm args below meth cc AA ls hx hcd hr hts hown hlocks hml hZ hN hK hP hD hA hl
  have hS : va_S AA ss.heap ss.heap [] := va_S.rf
  have hown : ss.vm.findClass RL = some mm.cls := hown
  have hl : lv_has ls 12 [(0, .ref (ob 0)), (1, .int w), (2, .int v), (3, .int (kI cm))] := hl
  have lx := low_lt (v := w >>> ((20 : Int32) &&& 31)) (n := 2) (by omega)
  have b577 := i_wyle hI
  have bd := delC_le c M
  have bw := i_wyle (i_del c hI)
  refine lv_iload_n hx hcd dL_act_0 rfl (lv_at hl 1 rfl) ?_
  refine kr_cut (D := D) (cl := vwCl) (A := AA) (ws := wX cI cB cW ob nw tr qs sc (g_rot qs r) M N S n L T) (H0 := ss.heap) (g := F0 mm 12 ls [.int (nI mo), .int w]) (fun kM_1 => ?_) (fun H locs hP hD hS => ?_)
  · refine lv_iload_n hx hcd dL_act_1 rfl (lv_at hl 3 rfl) ?_
    refine kr_beq (tgt := 10) hx hcd dL_act_2 (by decide) (fun (c_2 : cm = false) => ?_) (fun (c_2 : cm = true) => ?_)
    · refine lv_bipush (v := nI 14) hx hcd dL_act_10 (by decide) ?_
      refine kr_top (w := nI mo) (by first | exact congrArg nI (md_f em c_2) | exact congrArg nI (md_t em c_2)) ?_
      exact kM_1 _ _ hP hD hS
    · refine lv_bipush (v := nI 11) hx hcd dL_act_5 (by decide) ?_
      refine lv_goto (tgt := 12) hx hcd dL_act_7 (by decide) ?_
      refine kr_top (w := nI mo) (by first | exact congrArg nI (md_f em c_2) | exact congrArg nI (md_t em c_2)) ?_
      exact kM_1 _ _ hP hD hS
  · refine kr_Si (As := [.int w, .int (nI mo)]) (rest := []) (ws2 := wX cI cB cW ob nw tr qs sc (g_rot qs r) M N S n L T) ⟨hx, hcd, hml, hown, hts⟩ (c_L_low l D cI cB cW cL  _ M w mo (by omega) (by omega)) (va_cwS 2 hts gL_act_L_low rfl rfl rfl (by decide +kernel) ⟨Nat.le_of_ble_eq_true rfl, Nat.le_of_ble_eq_true rfl⟩) hK hP hD hS hA [] rfl (by decide) rfl rfl rfl hl.1 rfl (Nat.le_of_ble_eq_true rfl) dL_act_12 ⟨Nat.le_of_ble_eq_true rfl, Nat.le_of_ble_eq_true rfl⟩ (fun H locs hP hD hS => ?_)
    refine kr_top (w := nI how) (congrArg nI eh) ?_
    refine lv_istore (lv' := [(4, .int (nI how)), (0, .ref (ob 0)), (1, .int w), (2, .int v), (3, .int (kI cm))]) hx hcd dL_act_15 hl (by decide) rfl (fun ls hl => ?_)
    refine lv_iload_n hx hcd dL_act_17 rfl (lv_at hl 2 rfl) ?_
    refine lv_iconst (v := nI 4) hx hcd dL_act_18 (by decide) ?_
    refine lv_ishr hx hcd dL_act_19 ?_
    refine lv_bipush (v := nI 6) hx hcd dL_act_20 (by decide) ?_
    refine kr_Si (As := [.int (w >>> (4 &&& 31)), .int (nI 6)]) (rest := []) (ws2 := wX cI cB cW ob nw tr qs sc (g_rot qs r) M N S n L T) ⟨hx, hcd, hml, hown, hts⟩ (c_L_low l D cI cB cW cL  _ M (w >>> (4 &&& 31)) 6 (by omega) (by omega)) (va_cwS 2 hts gL_act_L_low rfl rfl rfl (by decide +kernel) ⟨Nat.le_of_ble_eq_true rfl, Nat.le_of_ble_eq_true rfl⟩) hK hP hD hS hA [] rfl (by decide) rfl rfl rfl hl.1 rfl (Nat.le_of_ble_eq_true rfl) dL_act_22 ⟨Nat.le_of_ble_eq_true rfl, Nat.le_of_ble_eq_true rfl⟩ (fun H locs hP hD hS => ?_)
    refine kr_top (w := nI a) (congrArg nI ea) ?_
    refine lv_istore (lv' := [(5, .int (nI a)), (4, .int (nI how)), (0, .ref (ob 0)), (1, .int w), (2, .int v), (3, .int (kI cm))]) hx hcd dL_act_25 hl (by decide) rfl (fun ls hl => ?_)
    refine lv_iload hx hcd dL_act_27 (lv_at hl 0 rfl) ?_
    refine lv_iconst (v := nI 1) hx hcd dL_act_29 (by decide) ?_
    refine kr_add hx hcd dL_act_30 ?_
    refine lv_iload_n hx hcd dL_act_31 rfl (lv_at hl 3 rfl) ?_
    refine lv_bipush (v := nI 7) hx hcd dL_act_32 (by decide) ?_
    refine lv_ishr hx hcd dL_act_34 ?_
    refine kr_cut (D := D) (cl := vwCl) (A := AA) (ws := wX cI cB cW ob nw tr qs sc (g_rot qs r) M N S n L T) (H0 := ss.heap) (g := F0 mm 51 ls [.int (nI jj), .int (w >>> (7 &&& 31)), .int (nI (a + 1))]) (fun kM_35 => ?_) (fun H locs hP hD hS => ?_)
    · refine lv_iload_n hx hcd dL_act_35 rfl (lv_at hl 3 rfl) ?_
      refine lv_bipush (v := nI 20) hx hcd dL_act_36 (by decide) ?_
      refine lv_ishr hx hcd dL_act_38 ?_
      refine lv_iconst (v := nI 2) hx hcd dL_act_39 (by decide) ?_
      refine kr_Si (As := [.int (w >>> (20 &&& 31)), .int (nI 2)]) (rest := [.int (w >>> (7 &&& 31)), .int (nI (a + 1))]) (ws2 := wX cI cB cW ob nw tr qs sc (g_rot qs r) M N S n L T) ⟨hx, hcd, hml, hown, hts⟩ (c_L_low l D cI cB cW cL  _ M (w >>> (20 &&& 31)) 2 (by omega) (by omega)) (va_cwS 2 hts gL_act_L_low rfl rfl rfl (by decide +kernel) ⟨Nat.le_of_ble_eq_true rfl, Nat.le_of_ble_eq_true rfl⟩) hK hP hD hS hA [] rfl (by decide) rfl rfl rfl hl.1 rfl (Nat.le_of_ble_eq_true rfl) dL_act_40 ⟨Nat.le_of_ble_eq_true rfl, Nat.le_of_ble_eq_true rfl⟩ (fun H locs hP hD hS => ?_)
      refine kr_zne (tgt := 50) hx hcd (by omega) dL_act_43 (by decide) (fun (c_43 : 0 < g_low (w >>> (20 &&& 31)) 2) => ?_) (fun (c_43 : g_low (w >>> (20 &&& 31)) 2 = 0) => ?_)
      · refine lv_iconst (v := nI 5) hx hcd dL_act_50 (by decide) ?_
        refine kr_top (w := nI jj) (by first | exact congrArg nI (sl_t ej c_43) | exact congrArg nI (sl_f ej (Nat.ne_of_gt c_43))) ?_
        exact kM_35 _ _ hP hD hS
      · refine lv_iconst (v := nI 2) hx hcd dL_act_46 (by decide) ?_
        refine lv_goto (tgt := 51) hx hcd dL_act_47 (by decide) ?_
        refine kr_top (w := nI jj) (by first | exact congrArg nI (sl_t ej c_43) | exact congrArg nI (sl_f ej (Nat.ne_of_gt c_43))) ?_
        exact kM_35 _ _ hP hD hS
    · refine kr_Si (As := [.int (w >>> (7 &&& 31)), .int (nI jj)]) (rest := [.int (nI (a + 1))]) (ws2 := wX cI cB cW ob nw tr qs sc (g_rot qs r) M N S n L T) ⟨hx, hcd, hml, hown, hts⟩ (c_L_low l D cI cB cW cL  _ M (w >>> (7 &&& 31)) jj (by omega) (by omega)) (va_cwS 2 hts gL_act_L_low rfl rfl rfl (by decide +kernel) ⟨Nat.le_of_ble_eq_true rfl, Nat.le_of_ble_eq_true rfl⟩) hK hP hD hS hA [] rfl (by decide) rfl rfl rfl hl.1 rfl (Nat.le_of_ble_eq_true rfl) dL_act_51 ⟨Nat.le_of_ble_eq_true rfl, Nat.le_of_ble_eq_true rfl⟩ (fun H locs hP hD hS => ?_)
      refine kr_top (w := nI k) (congrArg nI ek) ?_
      refine kr_add hx hcd dL_act_54 ?_
      refine lv_bipush (v := nI 6) hx hcd dL_act_55 (by decide) ?_
      refine kr_rem hx hcd (by omega) (by decide) (by decide) dL_act_57 ?_
      refine kr_top (w := nI b) (congrArg nI (by omega)) ?_
      refine lv_istore (lv' := [(6, .int (nI b)), (5, .int (nI a)), (4, .int (nI how)), (0, .ref (ob 0)), (1, .int w), (2, .int v), (3, .int (kI cm))]) hx hcd dL_act_58 hl (by decide) rfl (fun ls hl => ?_)
      refine lv_iload_n hx hcd dL_act_60 rfl (lv_at hl 5 rfl) ?_
      refine lv_iconst (v := nI 3) hx hcd dL_act_61 (by decide) ?_
      refine kr_Si (As := [.int v, .int (nI 3)]) (rest := []) (ws2 := wX cI cB cW ob nw tr qs sc (g_rot qs r) M N S n L T) ⟨hx, hcd, hml, hown, hts⟩ (c_L_low l D cI cB cW cL  _ M v 3 (by omega) (by omega)) (va_cwS 2 hts gL_act_L_low rfl rfl rfl (by decide +kernel) ⟨Nat.le_of_ble_eq_true rfl, Nat.le_of_ble_eq_true rfl⟩) hK hP hD hS hA [] rfl (by decide) rfl rfl rfl hl.1 rfl (Nat.le_of_ble_eq_true rfl) dL_act_62 ⟨Nat.le_of_ble_eq_true rfl, Nat.le_of_ble_eq_true rfl⟩ (fun H locs hP hD hS => ?_)
      refine kr_top (w := nI z) (congrArg nI ez) ?_
      refine lv_istore (lv' := [(7, .int (nI z)), (6, .int (nI b)), (5, .int (nI a)), (4, .int (nI how)), (0, .ref (ob 0)), (1, .int w), (2, .int v), (3, .int (kI cm))]) hx hcd dL_act_65 hl (by decide) rfl (fun ls hl => ?_)
      refine lv_aload_n hx hcd dL_act_67 rfl (lv_at hl 4 rfl) ?_
      refine lv_iload hx hcd dL_act_68 (lv_at hl 2 rfl) ?_
      refine lv_iload hx hcd dL_act_70 (lv_at hl 1 rfl) ?_
      refine kl_S (As := [.ref (ob 0), .int (nI a), .int (nI b)]) (rest := []) (ws2 := wX cI cB cW ob nw tr qs sc (g_rot qs r) M N S n L T) ⟨hx, hcd, hml, hown, hts⟩ (c_L_entry__ok l hst D cI cB cW cL ob nw tr qs sc (g_rot qs r) N S n L T _ M a b (by omega) (by omega) (by omega)) (vx_cwSW 3 hts gL_act_L_entry rfl rfl rfl (by decide +kernel) ⟨Nat.le_of_ble_eq_true rfl, Nat.le_of_ble_eq_true rfl⟩) hZ hN hK hP hD hS hA [0, 1, 2, 3, 4, 5, 6, 7, 8, 9, 10, 11, 12, 13, 14, 15, 16, 17, 18, 19, 20, 21, 22, 23, 24, 25, 26, 27, 28, 29, 30, 31, 32, 33, 34, 35, 36, 37, 38, 39, 40, 41, 42, 43, 44, 45, 46, 47, 48, 49, 50, 51, 52, 53, 54, 55, 56, 57, 58, 59, 60, 61, 62, 63, 64, 65, 66, 67, 68, 69, 70, 71, 72, 73, 74, 75, 76, 77, 78, 79, 80, 81, 82, 83, 84, 85, 86, 87, 88, 89, 90, 91, 92, 93] wX_allC wX_nd wX_adr wX_all rfl hl.1 rfl (Nat.le_of_ble_eq_true rfl) dL_act_72 ⟨Nat.le_of_ble_eq_true rfl, Nat.le_of_ble_eq_true rfl⟩ (fun H locs hP hD hS => ?_)
      refine lv_istore (lv' := [(8, .int (g_st M a b)), (7, .int (nI z)), (6, .int (nI b)), (5, .int (nI a)), (4, .int (nI how)), (0, .ref (ob 0)), (1, .int w), (2, .int v), (3, .int (kI cm))]) hx hcd dL_act_75 hl (by decide) rfl (fun ls hl => ?_)
      refine lv_iload hx hcd dL_act_77 (lv_at hl 4 rfl) ?_
      refine lv_iconst (v := nI 3) hx hcd dL_act_79 (by decide) ?_
      refine kr_cge (tgt := 132) hx hcd (by omega) (by omega) dL_act_80 (by decide) (fun (c_80 : 3 ≤ how) => ?_) (fun (c_80 : how < 3) => absurd c_80 (by omega))
      refine lv_iload hx hcd dL_act_132 (lv_at hl 4 rfl) ?_
      refine lv_iconst (v := nI 5) hx hcd dL_act_134 (by decide) ?_
      refine kr_cge (tgt := 197) hx hcd (by omega) (by omega) dL_act_135 (by decide) (fun (c_135 : 5 ≤ how) => ?_) (fun (c_135 : how < 5) => absurd c_135 (by omega))
      refine lv_iload hx hcd dL_act_197 (lv_at hl 4 rfl) ?_
      refine lv_iconst (v := nI 5) hx hcd dL_act_199 (by decide) ?_
      refine kr_cne (tgt := 254) hx hcd (by omega) (by omega) dL_act_200 (by decide) (fun (c_200 : ¬ how = 5) => ?_) (fun (c_200 : how = 5) => absurd c_200 (by omega))
      refine lv_iload hx hcd dL_act_254 (lv_at hl 4 rfl) ?_
      refine lv_bipush (v := nI 6) hx hcd dL_act_256 (by decide) ?_
      refine kr_cne (tgt := 310) hx hcd (by omega) (by omega) dL_act_258 (by decide) (fun (c_258 : ¬ how = 6) => ?_) (fun (c_258 : how = 6) => absurd c_258 (by omega))
      refine lv_iload hx hcd dL_act_310 (lv_at hl 4 rfl) ?_
      refine lv_bipush (v := nI 10) hx hcd dL_act_312 (by decide) ?_
      refine kr_cge (tgt := 388) hx hcd (by omega) (by omega) dL_act_314 (by decide) (fun (c_314 : 10 ≤ how) => ?_) (fun (c_314 : how < 10) => absurd c_314 (by omega))
      refine lv_iload hx hcd dL_act_388 (lv_at hl 4 rfl) ?_
      refine lv_bipush (v := nI 10) hx hcd dL_act_390 (by decide) ?_
      refine kr_cne (tgt := 462) hx hcd (by omega) (by omega) dL_act_392 (by decide) (fun (c_392 : ¬ how = 10) => ?_) (fun (c_392 : how = 10) => absurd c_392 (by omega))
      refine lv_iload hx hcd dL_act_462 (lv_at hl 4 rfl) ?_
      refine lv_bipush (v := nI 11) hx hcd dL_act_464 (by decide) ?_
      refine kr_cne (tgt := 522) hx hcd (by omega) (by omega) dL_act_466 (by decide) (fun (c_466 : ¬ how = 11) => ?_) (fun (c_466 : how = 11) => absurd c_466 (by omega))
      refine kr_cut (D := D) (cl := vwCl) (A := AA) (ws := wX cI cB cW ob nw tr qs sc (g_rot qs r) M N S n L T) (H0 := ss.heap) (g := F0 mm 575 ls []) (fun kM_522 => ?_) (fun H locs hP hD hS => ?_)
      · refine lv_iload hx hcd dL_act_522 (lv_at hl 4 rfl) ?_
        refine lv_bipush (v := nI 12) hx hcd dL_act_524 (by decide) ?_
        refine kr_cne (tgt := 575) hx hcd (by omega) (by omega) dL_act_526 (by decide) (fun (c_526 : ¬ how = 12) => ?_) (fun (c_526 : how = 12) => ?_)
        · exact kM_522 _ _ hP hD hS
        · refine lv_aload_n hx hcd dL_act_529 rfl (lv_at hl 5 rfl) ?_
          refine kr_Vi (As := []) (rest := []) (ws2 := wX cI cB cW ob nw tr qs sc (g_rot qs r) M N S n L T) (q := (RX6, TX6, 5)) ⟨hx, hcd, hml, hown, hts⟩ (c_X6_underWay__ok l D cI cB cW cL ob nw tr qs sc (g_rot qs r) N S n L T _ M hI) (cwV 0 hts gL_act_X6_underWay rfl rfl rfl (by decide +kernel) ⟨Nat.le_of_ble_eq_true rfl, Nat.le_of_ble_eq_true rfl⟩) hK hP hD hS hA [0, 1, 2, 3, 4, 5, 6, 7, 8, 9, 10, 11, 12, 13, 14, 15, 16, 17, 18, 19, 20, 21, 22, 23, 24, 25, 26, 27, 28, 29, 30, 31, 32, 33, 34, 35, 36, 37, 38, 39, 40, 41, 42, 43, 44, 45, 46, 47, 48, 49, 50, 51, 52, 53, 54, 55, 56, 57, 58, 59, 60, 61, 62, 63, 64, 65, 66, 67, 68, 69, 70, 71, 72, 73, 74, 75, 76, 77, 78, 79, 80, 81, 82, 83, 84, 85, 86, 87, 88, 89, 90, 91, 92, 93] wX_allC wX_nd wX_adr wX_all 0 rfl rfl rfl hl.1 rfl (Nat.le_of_ble_eq_true rfl) dL_act_530 ⟨Nat.le_of_ble_eq_true rfl, Nat.le_of_ble_eq_true rfl⟩ (fun H locs hP hD hS => ?_)
          refine kr_zle (tgt := 575) hx hcd (by omega) dL_act_533 (by decide) (fun (c_533 : wyN M = 0) => ?_) (fun (c_533 : 0 < wyN M) => absurd c_533 (by omega))
          exact kM_522 _ _ hP hD hS
      · refine lv_aload_n hx hcd dL_act_575 rfl (lv_at hl 5 rfl) ?_
        refine kr_Vi (As := []) (rest := []) (ws2 := wX cI cB cW ob nw tr qs sc (g_rot qs r) M N S n L T) (q := (RX6, TX6, 5)) ⟨hx, hcd, hml, hown, hts⟩ (c_X6_underWay__ok l D cI cB cW cL ob nw tr qs sc (g_rot qs r) N S n L T _ M hI) (cwV 0 hts gL_act_X6_underWay rfl rfl rfl (by decide +kernel) ⟨Nat.le_of_ble_eq_true rfl, Nat.le_of_ble_eq_true rfl⟩) hK hP hD hS hA [0, 1, 2, 3, 4, 5, 6, 7, 8, 9, 10, 11, 12, 13, 14, 15, 16, 17, 18, 19, 20, 21, 22, 23, 24, 25, 26, 27, 28, 29, 30, 31, 32, 33, 34, 35, 36, 37, 38, 39, 40, 41, 42, 43, 44, 45, 46, 47, 48, 49, 50, 51, 52, 53, 54, 55, 56, 57, 58, 59, 60, 61, 62, 63, 64, 65, 66, 67, 68, 69, 70, 71, 72, 73, 74, 75, 76, 77, 78, 79, 80, 81, 82, 83, 84, 85, 86, 87, 88, 89, 90, 91, 92, 93] wX_allC wX_nd wX_adr wX_all 0 rfl rfl rfl hl.1 rfl (Nat.le_of_ble_eq_true rfl) dL_act_576 ⟨Nat.le_of_ble_eq_true rfl, Nat.le_of_ble_eq_true rfl⟩ (fun H locs hP hD hS => ?_)
        refine lv_istore (lv' := [(9, .int (nI (wyN M))), (8, .int (g_st M a b)), (7, .int (nI z)), (6, .int (nI b)), (5, .int (nI a)), (4, .int (nI how)), (0, .ref (ob 0)), (1, .int w), (2, .int v), (3, .int (kI cm))]) hx hcd dL_act_579 hl (by decide) rfl (fun ls hl => ?_)
        refine lv_iload_n hx hcd dL_act_581 rfl (lv_at hl 8 rfl) ?_
        refine lv_bipush (v := nI 9) hx hcd dL_act_582 (by decide) ?_
        refine kr_Si (As := [.int v, .int (nI 9)]) (rest := []) (ws2 := wX cI cB cW ob nw tr qs sc (g_rot qs r) M N S n L T) ⟨hx, hcd, hml, hown, hts⟩ (c_L_low l D cI cB cW cL  _ M v 9 (by omega) (by omega)) (va_cwS 2 hts gL_act_L_low rfl rfl rfl (by decide +kernel) ⟨Nat.le_of_ble_eq_true rfl, Nat.le_of_ble_eq_true rfl⟩) hK hP hD hS hA [] rfl (by decide) rfl rfl rfl hl.1 rfl (Nat.le_of_ble_eq_true rfl) dL_act_584 ⟨Nat.le_of_ble_eq_true rfl, Nat.le_of_ble_eq_true rfl⟩ (fun H locs hP hD hS => ?_)
        refine kr_top (w := nI c) (congrArg nI ec) ?_
        refine lv_istore (lv' := [(10, .int (nI c)), (9, .int (nI (wyN M))), (8, .int (g_st M a b)), (7, .int (nI z)), (6, .int (nI b)), (5, .int (nI a)), (4, .int (nI how)), (0, .ref (ob 0)), (1, .int w), (2, .int v), (3, .int (kI cm))]) hx hcd dL_act_587 hl (by decide) rfl (fun ls hl => ?_)
        refine lv_aload_n hx hcd dL_act_589 rfl (lv_at hl 7 rfl) ?_
        refine lv_iload hx hcd dL_act_590 (lv_at hl 0 rfl) ?_
        refine kl_S (As := [.ref (ob 0), .int (nI c)]) (rest := []) (ws2 := wX cI cB cW ob nw tr qs sc (g_rot qs (rj n r)) (g_del c M) N (sset S (pj n r) M) (g_kn n) L T) ⟨hx, hcd, hml, hown, hts⟩ (c_L_deliver__ok l hst D cI cB cW cL ob nw tr qs sc (g_rot qs r) N S n L T _ M c r hI (by omega) (by omega) (by omega)) (vx_cwSW 2 hts gL_act_L_deliver rfl rfl rfl (by decide +kernel) ⟨Nat.le_of_ble_eq_true rfl, Nat.le_of_ble_eq_true rfl⟩) hZ hN hK hP hD hS hA [0, 1, 2, 3, 4, 5, 6, 7, 8, 9, 10, 11, 12, 13, 14, 15, 16, 17, 18, 19, 20, 21, 22, 23, 24, 25, 26, 27, 28, 29, 30, 31, 32, 33, 34, 35, 36, 37, 38, 39, 40, 41, 42, 43, 44, 45, 46, 47, 48, 49, 50, 51, 52, 53, 54, 55, 56, 57, 58, 59, 60, 61, 62, 63, 64, 65, 66, 67, 68, 69, 70, 71, 72, 73, 74, 75, 76, 77, 78, 79, 80, 81, 82, 83, 84, 85, 86, 87, 88, 89, 90, 91, 92, 93] wX_allC wX_nd wX_adr wX_all rfl hl.1 rfl (Nat.le_of_ble_eq_true rfl) dL_act_592 ⟨Nat.le_of_ble_eq_true rfl, Nat.le_of_ble_eq_true rfl⟩ (fun H locs hP hD hS => ?_)
        have hI_1 : kInv (g_del c M) := i_del c hI
        refine lv_istore (lv' := [(11, .int (nI (g_delC c M))), (10, .int (nI c)), (9, .int (nI (wyN M))), (8, .int (g_st M a b)), (7, .int (nI z)), (6, .int (nI b)), (5, .int (nI a)), (4, .int (nI how)), (0, .ref (ob 0)), (1, .int w), (2, .int v), (3, .int (kI cm))]) hx hcd dL_act_595 hl (by decide) rfl (fun ls hl => ?_)
        refine lv_iload hx hcd dL_act_597 (lv_at hl 0 rfl) ?_
        refine lv_iload hx hcd dL_act_599 (lv_at hl 1 rfl) ?_
        refine kr_cgt (tgt := 633) hx hcd (by omega) (by omega) dL_act_601 (by decide) (fun (c_601 : c < g_delC c M) => absurd c_601 (by omega)) (fun (c_601 : g_delC c M ≤ c) => ?_)
        refine kr_cut (D := D) (cl := vwCl) (A := AA) (ws := wX cI cB cW ob nw tr qs sc (g_rot qs (rj n r)) (g_del c M) N (sset S (pj n r) M) (g_kn n) L T) (H0 := ss.heap) (g := F0 mm 618 ls []) (fun kM_604 => ?_) (fun H locs hP hD hS => ?_)
        · refine lv_iload hx hcd dL_act_604 (lv_at hl 0 rfl) ?_
          refine lv_iload hx hcd dL_act_606 (lv_at hl 1 rfl) ?_
          refine kr_ceq (tgt := 618) hx hcd (by omega) (by omega) dL_act_608 (by decide) (fun (c_608 : g_delC c M = c) => ?_) (fun (c_608 : ¬ g_delC c M = c) => ?_)
          · exact kM_604 _ _ hP hD hS
          · refine lv_aload_n hx hcd dL_act_611 rfl (lv_at hl 8 rfl) ?_
            refine kr_Vi (As := []) (rest := []) (ws2 := wX cI cB cW ob nw tr qs sc (g_rot qs (rj n r)) (g_del c M) N (sset S (pj n r) M) (g_kn n) L T) (q := (RX6, TX6, 5)) ⟨hx, hcd, hml, hown, hts⟩ (c_X6_underWay__ok l D cI cB cW cL ob nw tr qs sc (g_rot qs (rj n r)) N (sset S (pj n r) M) (g_kn n) L T _ (g_del c M) hI_1) (cwV 0 hts gL_act_X6_underWay rfl rfl rfl (by decide +kernel) ⟨Nat.le_of_ble_eq_true rfl, Nat.le_of_ble_eq_true rfl⟩) hK hP hD hS hA [0, 1, 2, 3, 4, 5, 6, 7, 8, 9, 10, 11, 12, 13, 14, 15, 16, 17, 18, 19, 20, 21, 22, 23, 24, 25, 26, 27, 28, 29, 30, 31, 32, 33, 34, 35, 36, 37, 38, 39, 40, 41, 42, 43, 44, 45, 46, 47, 48, 49, 50, 51, 52, 53, 54, 55, 56, 57, 58, 59, 60, 61, 62, 63, 64, 65, 66, 67, 68, 69, 70, 71, 72, 73, 74, 75, 76, 77, 78, 79, 80, 81, 82, 83, 84, 85, 86, 87, 88, 89, 90, 91, 92, 93] wX_allC wX_nd wX_adr wX_all 0 rfl rfl rfl hl.1 rfl (Nat.le_of_ble_eq_true rfl) dL_act_612 ⟨Nat.le_of_ble_eq_true rfl, Nat.le_of_ble_eq_true rfl⟩ (fun H locs hP hD hS => ?_)
            refine kr_zne (tgt := 633) hx hcd (by omega) dL_act_615 (by decide) (fun (c_615 : 0 < wyN (g_del c M)) => absurd c_615 (by have := del_end c_608; omega)) (fun (c_615 : wyN (g_del c M) = 0) => ?_)
            exact kM_604 _ _ hP hD hS
        · refine kr_cut (D := D) (cl := vwCl) (A := AA) (ws := wX cI cB cW ob nw tr qs sc (g_rot qs (rj n r)) (g_del c M) N (sset S (pj n r) M) (g_kn n) L T) (H0 := ss.heap) (g := F0 mm 628 ls []) (fun kM_618 => ?_) (fun H locs hP hD hS => ?_)
          · refine lv_iload hx hcd dL_act_618 (lv_at hl 2 rfl) ?_
            refine kr_zgt (tgt := 628) hx hcd (by omega) dL_act_620 (by decide) (fun (c_620 : 0 < wyN M) => ?_) (fun (c_620 : wyN M = 0) => ?_)
            · exact kM_618 _ _ hP hD hS
            · refine lv_iload hx hcd dL_act_623 (lv_at hl 0 rfl) ?_
              refine kr_zne (tgt := 633) hx hcd (by omega) dL_act_625 (by decide) (fun (c_625 : 0 < g_delC c M) => absurd c_625 (by have := g_delC_stop c_620 c; omega)) (fun (c_625 : g_delC c M = 0) => ?_)
              exact kM_618 _ _ hP hD hS
          · refine lv_iload hx hcd dL_act_628 (lv_at hl 0 rfl) ?_
            refine lv_goto (tgt := 636) hx hcd dL_act_630 (by decide) ?_
            refine W.widen (k := 1) (n := 6) (Nat.zero_le _) (Nat.zero_le _) ?_
            exact kr_iret hx hcd hr hlocks hK hP hD hS rfl rfl dL_act_636
