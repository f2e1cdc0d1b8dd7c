set_option maxHeartbeats 4000000 in
set_option maxRecDepth 100000 in
theorem c_L_act__ask (l : Launch) (hst : l.stackTraces = false) (D : va_G) (cI cB cW cL : ClassId) (ob nw tr : Nat → Nat) (qs : Nat → Nat → Nat) (sc : Nat → Nat) (G : Nat → Option Nat) (N : kM) (S : Nat → kM) (n L : Nat) (T : Nat → Int32) (sz : Nat) (M : kM) (w : Int32) (v : Int32) (cm : Bool) (mo how a jj k b z r : Nat) (hI : kInv M) (em : (if cm = true then 11 else 14) = mo) (hmo : mo = 11 ∨ mo = 14) (eh : g_low w mo = how) (ea : g_low (w >>> ((4 : Int32) &&& 31)) 6 = a) (ej : (if g_low (w >>> ((20 : Int32) &&& 31)) 2 = 0 then 2 else 5) = jj) (hjj : jj = 2 ∨ jj = 5) (ek : g_low (w >>> ((7 : Int32) &&& 31)) jj = k) (eb : (a + 1 + k) % 6 = b) (ez : g_low v 3 = z) (ha : a < 6) (hb : b < 6) (hne : a ≠ b) (hz : z < 3) (hk5 : k < 5) (hhow : how < 14) (hh : how < 3) (hn : n ≤ 4) (hr : r < 4) : kMg l yL_act wsL_act ({ frames := 8, cells := 1, slots := 6, locals := 191 }) D vwCl (kT cI cB cW cL) sz [.ref (ob 0), .int w, .int v, .int (kI cm)] (wX cI cB cW ob nw tr qs sc (g_rot qs r) M N S n L T) (wX cI cB cW ob nw tr qs sc (g_rot qs (rj n r)) (g_ask M a b) N (sset S (pj n r) M) (g_kn n) L T) (if g_has M a b 5 = true then 0 else 1) 1 6 := by
  refine kr_ofg (cc := cL_act) (maxL := 12) (ret := (some .int)) (by decide) rfl (Nat.le_of_ble_eq_true rfl) ?_
  intro pp ee ss mm args below meth cc AA ls hx hcd hr hts hown hlocks hml hZ hN hK hP hD hA hl
  have hS : va_S AA ss.heap ss.heap [] := va_S.rf
  have hown : ss.vm.findClass RL = some mm.cls := hown
  have hl : lv_has ls 12 [(0, .ref (ob 0)), (1, .int w), (2, .int v), (3, .int (kI cm))] := hl
  have lx := low_lt (v := w >>> ((20 : Int32) &&& 31)) (n := 2) (by omega)
  refine lv_iload_n hx hcd dL_act_0 rfl (lv_at hl 1 rfl) ?_
  refine kr_cut (D := D) (cl := vwCl) (A := AA) (ws := wX cI cB cW ob nw tr qs sc (g_rot qs r) M N S n L T) (H0 := ss.heap) (g := F0 mm 12 ls [.int (nI mo), .int w]) (fun kM_1 => ?_) (fun H locs hP hD hS => ?_)
  · refine lv_iload_n hx hcd dL_act_1 rfl (lv_at hl 3 rfl) ?_
    refine kr_beq (tgt := 10) hx hcd dL_act_2 (by decide) (fun (c_2 : cm = false) => ?_) (fun (c_2 : cm = true) => ?_)
    · refine lv_bipush (v := nI 14) hx hcd dL_act_10 (by decide) ?_
      refine kr_top (w := nI mo) (by first | exact congrArg nI (md_f em c_2) | exact congrArg nI (md_t em c_2)) ?_
      exact kM_1 _ _ hP hD hS
    · refine lv_bipush (v := nI 11) hx hcd dL_act_5 (by decide) ?_
      refine lv_goto (tgt := 12) hx hcd dL_act_7 (by decide) ?_
      refine kr_top (w := nI mo) (by first | exact congrArg nI (md_f em c_2) | exact congrArg nI (md_t em c_2)) ?_
      exact kM_1 _ _ hP hD hS
  · refine kr_Si (As := [.int w, .int (nI mo)]) (rest := []) (ws2 := wX cI cB cW ob nw tr qs sc (g_rot qs r) M N S n L T) ⟨hx, hcd, hml, hown, hts⟩ (c_L_low l D cI cB cW cL  _ M w mo (by omega) (by omega)) (va_cwS 2 hts gL_act_L_low rfl rfl rfl (by decide +kernel) ⟨Nat.le_of_ble_eq_true rfl, Nat.le_of_ble_eq_true rfl⟩) hK hP hD hS hA [] rfl (by decide) rfl rfl rfl hl.1 rfl (Nat.le_of_ble_eq_true rfl) dL_act_12 ⟨Nat.le_of_ble_eq_true rfl, Nat.le_of_ble_eq_true rfl⟩ (fun H locs hP hD hS => ?_)
    refine kr_top (w := nI how) (congrArg nI eh) ?_
    refine lv_istore (lv' := [(4, .int (nI how)), (0, .ref (ob 0)), (1, .int w), (2, .int v), (3, .int (kI cm))]) hx hcd dL_act_15 hl (by decide) rfl (fun ls hl => ?_)
    refine lv_iload_n hx hcd dL_act_17 rfl (lv_at hl 2 rfl) ?_
    refine lv_iconst (v := nI 4) hx hcd dL_act_18 (by decide) ?_
    refine lv_ishr hx hcd dL_act_19 ?_
    refine lv_bipush (v := nI 6) hx hcd dL_act_20 (by decide) ?_
    refine kr_Si (As := [.int (w >>> (4 &&& 31)), .int (nI 6)]) (rest := []) (ws2 := wX cI cB cW ob nw tr qs sc (g_rot qs r) M N S n L T) ⟨hx, hcd, hml, hown, hts⟩ (c_L_low l D cI cB cW cL  _ M (w >>> (4 &&& 31)) 6 (by omega) (by omega)) (va_cwS 2 hts gL_act_L_low rfl rfl rfl (by decide +kernel) ⟨Nat.le_of_ble_eq_true rfl, Nat.le_of_ble_eq_true rfl⟩) hK hP hD hS hA [] rfl (by decide) rfl rfl rfl hl.1 rfl (Nat.le_of_ble_eq_true rfl) dL_act_22 ⟨Nat.le_of_ble_eq_true rfl, Nat.le_of_ble_eq_true rfl⟩ (fun H locs hP hD hS => ?_)
    refine kr_top (w := nI a) (congrArg nI ea) ?_
    refine lv_istore (lv' := [(5, .int (nI a)), (4, .int (nI how)), (0, .ref (ob 0)), (1, .int w), (2, .int v), (3, .int (kI cm))]) hx hcd dL_act_25 hl (by decide) rfl (fun ls hl => ?_)
    refine lv_iload hx hcd dL_act_27 (lv_at hl 0 rfl) ?_
    refine lv_iconst (v := nI 1) hx hcd dL_act_29 (by decide) ?_
    refine kr_add hx hcd dL_act_30 ?_
    refine lv_iload_n hx hcd dL_act_31 rfl (lv_at hl 3 rfl) ?_
    refine lv_bipush (v := nI 7) hx hcd dL_act_32 (by decide) ?_
    refine lv_ishr hx hcd dL_act_34 ?_
    refine kr_cut (D := D) (cl := vwCl) (A := AA) (ws := wX cI cB cW ob nw tr qs sc (g_rot qs r) M N S n L T) (H0 := ss.heap) (g := F0 mm 51 ls [.int (nI jj), .int (w >>> (7 &&& 31)), .int (nI (a + 1))]) (fun kM_35 => ?_) (fun H locs hP hD hS => ?_)
    · refine lv_iload_n hx hcd dL_act_35 rfl (lv_at hl 3 rfl) ?_
      refine lv_bipush (v := nI 20) hx hcd dL_act_36 (by decide) ?_
      refine lv_ishr hx hcd dL_act_38 ?_
      refine lv_iconst (v := nI 2) hx hcd dL_act_39 (by decide) ?_
      refine kr_Si (As := [.int (w >>> (20 &&& 31)), .int (nI 2)]) (rest := [.int (w >>> (7 &&& 31)), .int (nI (a + 1))]) (ws2 := wX cI cB cW ob nw tr qs sc (g_rot qs r) M N S n L T) ⟨hx, hcd, hml, hown, hts⟩ (c_L_low l D cI cB cW cL  _ M (w >>> (20 &&& 31)) 2 (by omega) (by omega)) (va_cwS 2 hts gL_act_L_low rfl rfl rfl (by decide +kernel) ⟨Nat.le_of_ble_eq_true rfl, Nat.le_of_ble_eq_true rfl⟩) hK hP hD hS hA [] rfl (by decide) rfl rfl rfl hl.1 rfl (Nat.le_of_ble_eq_true rfl) dL_act_40 ⟨Nat.le_of_ble_eq_true rfl, Nat.le_of_ble_eq_true rfl⟩ (fun H locs hP hD hS => ?_)
      refine kr_zne (tgt := 50) hx hcd (by omega) dL_act_43 (by decide) (fun (c_43 : 0 < g_low (w >>> (20 &&& 31)) 2) => ?_) (fun (c_43 : g_low (w >>> (20 &&& 31)) 2 = 0) => ?_)
      · refine lv_iconst (v := nI 5) hx hcd dL_act_50 (by decide) ?_
        refine kr_top (w := nI jj) (by first | exact congrArg nI (sl_t ej c_43) | exact congrArg nI (sl_f ej (Nat.ne_of_gt c_43))) ?_
        exact kM_35 _ _ hP hD hS
      · refine lv_iconst (v := nI 2) hx hcd dL_act_46 (by decide) ?_
        refine lv_goto (tgt := 51) hx hcd dL_act_47 (by decide) ?_
        refine kr_top (w := nI jj) (by first | exact congrArg nI (sl_t ej c_43) | exact congrArg nI (sl_f ej (Nat.ne_of_gt c_43))) ?_
        exact kM_35 _ _ hP hD hS
    · refine kr_Si (As := [.int (w >>> (7 &&& 31)), .int (nI jj)]) (rest := [.int (nI (a + 1))]) (ws2 := wX cI cB cW ob nw tr qs sc (g_rot qs r) M N S n L T) ⟨hx, hcd, hml, hown, hts⟩ (c_L_low l D cI cB cW cL  _ M (w >>> (7 &&& 31)) jj (by omega) (by omega)) (va_cwS 2 hts gL_act_L_low rfl rfl rfl (by decide +kernel) ⟨Nat.le_of_ble_eq_true rfl, Nat.le_of_ble_eq_true rfl⟩) hK hP hD hS hA [] rfl (by decide) rfl rfl rfl hl.1 rfl (Nat.le_of_ble_eq_true rfl) dL_act_51 ⟨Nat.le_of_ble_eq_true rfl, Nat.le_of_ble_eq_true rfl⟩ (fun H locs hP hD hS => ?_)
      refine kr_top (w := nI k) (congrArg nI ek) ?_
      refine kr_add hx hcd dL_act_54 ?_
      refine lv_bipush (v := nI 6) hx hcd dL_act_55 (by decide) ?_
      refine kr_rem hx hcd (by omega) (by decide) (by decide) dL_act_57 ?_
      refine kr_top (w := nI b) (congrArg nI (by omega)) ?_
      refine lv_istore (lv' := [(6, .int (nI b)), (5, .int (nI a)), (4, .int (nI how)), (0, .ref (ob 0)), (1, .int w), (2, .int v), (3, .int (kI cm))]) hx hcd dL_act_58 hl (by decide) rfl (fun ls hl => ?_)
      refine lv_iload_n hx hcd dL_act_60 rfl (lv_at hl 5 rfl) ?_
      refine lv_iconst (v := nI 3) hx hcd dL_act_61 (by decide) ?_
      refine kr_Si (As := [.int v, .int (nI 3)]) (rest := []) (ws2 := wX cI cB cW ob nw tr qs sc (g_rot qs r) M N S n L T) ⟨hx, hcd, hml, hown, hts⟩ (c_L_low l D cI cB cW cL  _ M v 3 (by omega) (by omega)) (va_cwS 2 hts gL_act_L_low rfl rfl rfl (by decide +kernel) ⟨Nat.le_of_ble_eq_true rfl, Nat.le_of_ble_eq_true rfl⟩) hK hP hD hS hA [] rfl (by decide) rfl rfl rfl hl.1 rfl (Nat.le_of_ble_eq_true rfl) dL_act_62 ⟨Nat.le_of_ble_eq_true rfl, Nat.le_of_ble_eq_true rfl⟩ (fun H locs hP hD hS => ?_)
      refine kr_top (w := nI z) (congrArg nI ez) ?_
      refine lv_istore (lv' := [(7, .int (nI z)), (6, .int (nI b)), (5, .int (nI a)), (4, .int (nI how)), (0, .ref (ob 0)), (1, .int w), (2, .int v), (3, .int (kI cm))]) hx hcd dL_act_65 hl (by decide) rfl (fun ls hl => ?_)
      refine lv_aload_n hx hcd dL_act_67 rfl (lv_at hl 4 rfl) ?_
      refine lv_iload hx hcd dL_act_68 (lv_at hl 2 rfl) ?_
      refine lv_iload hx hcd dL_act_70 (lv_at hl 1 rfl) ?_
      refine kl_S (As := [.ref (ob 0), .int (nI a), .int (nI b)]) (rest := []) (ws2 := wX cI cB cW ob nw tr qs sc (g_rot qs r) M N S n L T) ⟨hx, hcd, hml, hown, hts⟩ (c_L_entry__ok l hst D cI cB cW cL ob nw tr qs sc (g_rot qs r) N S n L T _ M a b (by omega) (by omega) (by omega)) (vx_cwSW 3 hts gL_act_L_entry rfl rfl rfl (by decide +kernel) ⟨Nat.le_of_ble_eq_true rfl, Nat.le_of_ble_eq_true rfl⟩) hZ hN hK hP hD hS hA [0, 1, 2, 3, 4, 5, 6, 7, 8, 9, 10, 11, 12, 13, 14, 15, 16, 17, 18, 19, 20, 21, 22, 23, 24, 25, 26, 27, 28, 29, 30, 31, 32, 33, 34, 35, 36, 37, 38, 39, 40, 41, 42, 43, 44, 45, 46, 47, 48, 49, 50, 51, 52, 53, 54, 55, 56, 57, 58, 59, 60, 61, 62, 63, 64, 65, 66, 67, 68, 69, 70, 71, 72, 73, 74, 75, 76, 77, 78, 79, 80, 81, 82, 83, 84, 85, 86, 87, 88, 89, 90, 91, 92, 93] wX_allC wX_nd wX_adr wX_all rfl hl.1 rfl (Nat.le_of_ble_eq_true rfl) dL_act_72 ⟨Nat.le_of_ble_eq_true rfl, Nat.le_of_ble_eq_true rfl⟩ (fun H locs hP hD hS => ?_)
      refine lv_istore (lv' := [(8, .int (g_st M a b)), (7, .int (nI z)), (6, .int (nI b)), (5, .int (nI a)), (4, .int (nI how)), (0, .ref (ob 0)), (1, .int w), (2, .int v), (3, .int (kI cm))]) hx hcd dL_act_75 hl (by decide) rfl (fun ls hl => ?_)
      refine lv_iload hx hcd dL_act_77 (lv_at hl 4 rfl) ?_
      refine lv_iconst (v := nI 3) hx hcd dL_act_79 (by decide) ?_
      refine kr_cge (tgt := 132) hx hcd (by omega) (by omega) dL_act_80 (by decide) (fun (c_80 : 3 ≤ how) => absurd c_80 (by omega)) (fun (c_80 : how < 3) => ?_)
      refine lv_aload_n hx hcd dL_act_83 rfl (lv_at hl 5 rfl) ?_
      refine lv_iload hx hcd dL_act_84 (lv_at hl 3 rfl) ?_
      refine lv_iload hx hcd dL_act_86 (lv_at hl 2 rfl) ?_
      refine kl_S (As := [.ref (ob 0), .int (nI a), .int (nI b)]) (rest := []) (ws2 := wX cI cB cW ob nw tr qs sc (g_rot qs (rj n r)) (g_ask M a b) N (sset S (pj n r) M) (g_kn n) L T) ⟨hx, hcd, hml, hown, hts⟩ (c_L_ask__ok l hst D cI cB cW cL ob nw tr qs sc (g_rot qs r) N S n L T _ M a b r hI (by omega) (by omega) (by omega) (by omega) (by omega)) (vx_cwSW 3 hts gL_act_L_ask rfl rfl rfl (by decide +kernel) ⟨Nat.le_of_ble_eq_true rfl, Nat.le_of_ble_eq_true rfl⟩) hZ hN hK hP hD hS hA [0, 1, 2, 3, 4, 5, 6, 7, 8, 9, 10, 11, 12, 13, 14, 15, 16, 17, 18, 19, 20, 21, 22, 23, 24, 25, 26, 27, 28, 29, 30, 31, 32, 33, 34, 35, 36, 37, 38, 39, 40, 41, 42, 43, 44, 45, 46, 47, 48, 49, 50, 51, 52, 53, 54, 55, 56, 57, 58, 59, 60, 61, 62, 63, 64, 65, 66, 67, 68, 69, 70, 71, 72, 73, 74, 75, 76, 77, 78, 79, 80, 81, 82, 83, 84, 85, 86, 87, 88, 89, 90, 91, 92, 93] wX_allC wX_nd wX_adr wX_all rfl hl.1 rfl (Nat.le_of_ble_eq_true rfl) dL_act_88 ⟨Nat.le_of_ble_eq_true rfl, Nat.le_of_ble_eq_true rfl⟩ (fun H locs hP hD hS => ?_)
      refine lv_istore (lv' := [(9, .int (if g_has M a b 5 = true then 0 else 1)), (8, .int (g_st M a b)), (7, .int (nI z)), (6, .int (nI b)), (5, .int (nI a)), (4, .int (nI how)), (0, .ref (ob 0)), (1, .int w), (2, .int v), (3, .int (kI cm))]) hx hcd dL_act_91 hl (by decide) rfl (fun ls hl => ?_)
      refine lv_iload hx hcd dL_act_93 (lv_at hl 0 rfl) ?_
      refine kr_cut (D := D) (cl := vwCl) (A := AA) (ws := wX cI cB cW ob nw tr qs sc (g_rot qs (rj n r)) (g_ask M a b) N (sset S (pj n r) M) (g_kn n) L T) (H0 := ss.heap) (g := F0 mm 107 ls [.int (if g_has M a b 5 = true then 0 else 1), .int (if g_has M a b 5 = true then 0 else 1)]) (fun kM_95 => ?_) (fun H locs hP hD hS => ?_)
      · refine lv_iload hx hcd dL_act_95 (lv_at hl 1 rfl) ?_
        refine lv_iconst (v := nI 5) hx hcd dL_act_97 (by decide) ?_
        refine lv_iand hx hcd dL_act_98 ?_
        refine lv_if_ne (tgt := 106) hx hcd dL_act_99 (by decide) (fun (c_99 : ¬ ((g_st M a b) &&& 5) = 0) => ?_) (fun (c_99 : ((g_st M a b) &&& 5) = 0) => ?_)
        · refine lv_iconst (v := nI 0) hx hcd dL_act_106 (by decide) ?_
          refine kr_top (w := if g_has M a b 5 = true then 0 else 1) (by first | exact tl5_t c_99 | exact tl5_f c_99) ?_
          exact kM_95 _ _ hP hD hS
        · refine lv_iconst (v := nI 1) hx hcd dL_act_102 (by decide) ?_
          refine lv_goto (tgt := 107) hx hcd dL_act_103 (by decide) ?_
          refine kr_top (w := if g_has M a b 5 = true then 0 else 1) (by first | exact tl5_t c_99 | exact tl5_f c_99) ?_
          exact kM_95 _ _ hP hD hS
      · refine lv_icmp_ne (tgt := 128) hx hcd dL_act_107 (by decide) (fun (c_107 : ¬ (if g_has M a b 5 = true then 0 else 1) = (if g_has M a b 5 = true then 0 else 1)) => absurd c_107 (not_not_intro rfl)) (fun (c_107 : (if g_has M a b 5 = true then 0 else 1) = (if g_has M a b 5 = true then 0 else 1)) => ?_)
        refine lv_aload_n hx hcd dL_act_110 rfl (lv_at hl 6 rfl) ?_
        refine lv_iload hx hcd dL_act_111 (lv_at hl 4 rfl) ?_
        refine lv_iload hx hcd dL_act_113 (lv_at hl 3 rfl) ?_
        refine kl_S (As := [.ref (ob 0), .int (nI a), .int (nI b)]) (rest := []) (ws2 := wX cI cB cW ob nw tr qs sc (g_rot qs (rj n r)) (g_ask M a b) N (sset S (pj n r) M) (g_kn n) L T) ⟨hx, hcd, hml, hown, hts⟩ (c_L_entry__ok l hst D cI cB cW cL ob nw tr qs sc (g_rot qs (rj n r)) N (sset S (pj n r) M) (g_kn n) L T _ (g_ask M a b) a b (by omega) (by omega) (by omega)) (vx_cwSW 3 hts gL_act_L_entry rfl rfl rfl (by decide +kernel) ⟨Nat.le_of_ble_eq_true rfl, Nat.le_of_ble_eq_true rfl⟩) hZ hN hK hP hD hS hA [0, 1, 2, 3, 4, 5, 6, 7, 8, 9, 10, 11, 12, 13, 14, 15, 16, 17, 18, 19, 20, 21, 22, 23, 24, 25, 26, 27, 28, 29, 30, 31, 32, 33, 34, 35, 36, 37, 38, 39, 40, 41, 42, 43, 44, 45, 46, 47, 48, 49, 50, 51, 52, 53, 54, 55, 56, 57, 58, 59, 60, 61, 62, 63, 64, 65, 66, 67, 68, 69, 70, 71, 72, 73, 74, 75, 76, 77, 78, 79, 80, 81, 82, 83, 84, 85, 86, 87, 88, 89, 90, 91, 92, 93] wX_allC wX_nd wX_adr wX_all rfl hl.1 rfl (Nat.le_of_ble_eq_true rfl) dL_act_115 ⟨Nat.le_of_ble_eq_true rfl, Nat.le_of_ble_eq_true rfl⟩ (fun H locs hP hD hS => ?_)
        refine lv_iconst (v := nI 5) hx hcd dL_act_118 (by decide) ?_
        refine lv_iand hx hcd dL_act_119 ?_
        refine lv_if_le (tgt := 128) hx hcd dL_act_120 (by decide) (fun (c_120 : ((g_st (g_ask M a b) a b) &&& 5) ≤ 0) => absurd c_120 (ask_pos hI ha hb)) (fun (c_120 : ¬ ((g_st (g_ask M a b) a b) &&& 5) ≤ 0) => ?_)
        refine lv_iload hx hcd dL_act_123 (lv_at hl 0 rfl) ?_
        refine lv_goto (tgt := 131) hx hcd dL_act_125 (by decide) ?_
        refine W.widen (k := 1) (n := 6) (Nat.zero_le _) (Nat.zero_le _) ?_
        exact kr_iret hx hcd hr hlocks hK hP hD hS rfl rfl dL_act_131

set_option maxHeartbeats 4000000 in
set_option maxRecDepth 100000 in
theorem c_L_act__grant (l : Launch) (hst : l.stackTraces = false) (D : va_G) (cI cB cW cL : ClassId) (ob nw tr : Nat → Nat) (qs : Nat → Nat → Nat) (sc : Nat → Nat) (G : Nat → Option Nat) (N : kM) (S : Nat → kM) (n L : Nat) (T : Nat → Int32) (sz : Nat) (M : kM) (w : Int32) (v : Int32) (cm : Bool) (mo how a jj k b z r : Nat) (hI : kInv M) (em : (if cm = true then 11 else 14) = mo) (hmo : mo = 11 ∨ mo = 14) (eh : g_low w mo = how) (ea : g_low (w >>> ((4 : Int32) &&& 31)) 6 = a) (ej : (if g_low (w >>> ((20 : Int32) &&& 31)) 2 = 0 then 2 else 5) = jj) (hjj : jj = 2 ∨ jj = 5) (ek : g_low (w >>> ((7 : Int32) &&& 31)) jj = k) (eb : (a + 1 + k) % 6 = b) (ez : g_low v 3 = z) (ha : a < 6) (hb : b < 6) (hne : a ≠ b) (hz : z < 3) (hk5 : k < 5) (hhow : how < 14) (hh : 3 ≤ how ∧ how < 5) (hn : n ≤ 4) (hr : r < 4) : kMg l yL_act wsL_act ({ frames := 8, cells := 1, slots := 6, locals := 191 }) D vwCl (kT cI cB cW cL) sz [.ref (ob 0), .int w, .int v, .int (kI cm)] (wX cI cB cW ob nw tr qs sc (g_rot qs r) M N S n L T) (wX cI cB cW ob nw tr qs sc (g_rot qs (rj n r)) (g_grant M a b) N (sset S (pj n r) M) (g_kn n) L T) (if g_has M a b 8 = true then 1 else 0) 1 6 := by
  refine kr_ofg (cc := cL_act) (maxL := 12) (ret := (some .int)) (by decide) rfl (Nat.le_of_ble_eq_true rfl) ?_
  intro pp ee ss mm args below meth cc AA ls hx hcd hr hts hown hlocks hml hZ hN hK hP hD hA hl
  have hS : va_S AA ss.heap ss.heap [] := va_S.rf
  have hown : ss.vm.findClass RL = some mm.cls := hown
  have hl : lv_has ls 12 [(0, .ref (ob 0)), (1, .int w), (2, .int v), (3, .int (kI cm))] := hl
  have lx := low_lt (v := w >>> ((20 : Int32) &&& 31)) (n := 2) (by omega)
  refine lv_iload_n hx hcd dL_act_0 rfl (lv_at hl 1 rfl) ?_
  refine kr_cut (D := D) (cl := vwCl) (A := AA) (ws := wX cI cB cW ob nw tr qs sc (g_rot qs r) M N S n L T) (H0 := ss.heap) (g := F0 mm 12 ls [.int (nI mo), .int w]) (fun kM_1 => ?_) (fun H locs hP hD hS => ?_)
  · refine lv_iload_n hx hcd dL_act_1 rfl (lv_at hl 3 rfl) ?_
    refine kr_beq (tgt := 10) hx hcd dL_act_2 (by decide) (fun (c_2 : cm = false) => ?_) (fun (c_2 : cm = true) => ?_)
    · refine lv_bipush (v := nI 14) hx hcd dL_act_10 (by decide) ?_
      refine kr_top (w := nI mo) (by first | exact congrArg nI (md_f em c_2) | exact congrArg nI (md_t em c_2)) ?_
      exact kM_1 _ _ hP hD hS
    · refine lv_bipush (v := nI 11) hx hcd dL_act_5 (by decide) ?_
      refine lv_goto (tgt := 12) hx hcd dL_act_7 (by decide) ?_
      refine kr_top (w := nI mo) (by first | exact congrArg nI (md_f em c_2) | exact congrArg nI (md_t em c_2)) ?_
      exact kM_1 _ _ hP hD hS
  · refine kr_Si (As := [.int w, .int (nI mo)]) (rest := []) (ws2 := wX cI cB cW ob nw tr qs sc (g_rot qs r) M N S n L T) ⟨hx, hcd, hml, hown, hts⟩ (c_L_low l D cI cB cW cL  _ M w mo (by omega) (by omega)) (va_cwS 2 hts gL_act_L_low rfl rfl rfl (by decide +kernel) ⟨Nat.le_of_ble_eq_true rfl, Nat.le_of_ble_eq_true rfl⟩) hK hP hD hS hA [] rfl (by decide) rfl rfl rfl hl.1 rfl (Nat.le_of_ble_eq_true rfl) dL_act_12 ⟨Nat.le_of_ble_eq_true rfl, Nat.le_of_ble_eq_true rfl⟩ (fun H locs hP hD hS => ?_)
    refine kr_top (w := nI how) (congrArg nI eh) ?_
    refine lv_istore (lv' := [(4, .int (nI how)), (0, .ref (ob 0)), (1, .int w), (2, .int v), (3, .int (kI cm))]) hx hcd dL_act_15 hl (by decide) rfl (fun ls hl => ?_)
    refine lv_iload_n hx hcd dL_act_17 rfl (lv_at hl 2 rfl) ?_
    refine lv_iconst (v := nI 4) hx hcd dL_act_18 (by decide) ?_
    refine lv_ishr hx hcd dL_act_19 ?_
    refine lv_bipush (v := nI 6) hx hcd dL_act_20 (by decide) ?_
    refine kr_Si (As := [.int (w >>> (4 &&& 31)), .int (nI 6)]) (rest := []) (ws2 := wX cI cB cW ob nw tr qs sc (g_rot qs r) M N S n L T) ⟨hx, hcd, hml, hown, hts⟩ (c_L_low l D cI cB cW cL  _ M (w >>> (4 &&& 31)) 6 (by omega) (by omega)) (va_cwS 2 hts gL_act_L_low rfl rfl rfl (by decide +kernel) ⟨Nat.le_of_ble_eq_true rfl, Nat.le_of_ble_eq_true rfl⟩) hK hP hD hS hA [] rfl (by decide) rfl rfl rfl hl.1 rfl (Nat.le_of_ble_eq_true rfl) dL_act_22 ⟨Nat.le_of_ble_eq_true rfl, Nat.le_of_ble_eq_true rfl⟩ (fun H locs hP hD hS => ?_)
    refine kr_top (w := nI a) (congrArg nI ea) ?_
    refine lv_istore (lv' := [(5, .int (nI a)), (4, .int (nI how)), (0, .ref (ob 0)), (1, .int w), (2, .int v), (3, .int (kI cm))]) hx hcd dL_act_25 hl (by decide) rfl (fun ls hl => ?_)
    refine lv_iload hx hcd dL_act_27 (lv_at hl 0 rfl) ?_
    refine lv_iconst (v := nI 1) hx hcd dL_act_29 (by decide) ?_
    refine kr_add hx hcd dL_act_30 ?_
    refine lv_iload_n hx hcd dL_act_31 rfl (lv_at hl 3 rfl) ?_
    refine lv_bipush (v := nI 7) hx hcd dL_act_32 (by decide) ?_
    refine lv_ishr hx hcd dL_act_34 ?_
    refine kr_cut (D := D) (cl := vwCl) (A := AA) (ws := wX cI cB cW ob nw tr qs sc (g_rot qs r) M N S n L T) (H0 := ss.heap) (g := F0 mm 51 ls [.int (nI jj), .int (w >>> (7 &&& 31)), .int (nI (a + 1))]) (fun kM_35 => ?_) (fun H locs hP hD hS => ?_)
    · refine lv_iload_n hx hcd dL_act_35 rfl (lv_at hl 3 rfl) ?_
      refine lv_bipush (v := nI 20) hx hcd dL_act_36 (by decide) ?_
      refine lv_ishr hx hcd dL_act_38 ?_
      refine lv_iconst (v := nI 2) hx hcd dL_act_39 (by decide) ?_
      refine kr_Si (As := [.int (w >>> (20 &&& 31)), .int (nI 2)]) (rest := [.int (w >>> (7 &&& 31)), .int (nI (a + 1))]) (ws2 := wX cI cB cW ob nw tr qs sc (g_rot qs r) M N S n L T) ⟨hx, hcd, hml, hown, hts⟩ (c_L_low l D cI cB cW cL  _ M (w >>> (20 &&& 31)) 2 (by omega) (by omega)) (va_cwS 2 hts gL_act_L_low rfl rfl rfl (by decide +kernel) ⟨Nat.le_of_ble_eq_true rfl, Nat.le_of_ble_eq_true rfl⟩) hK hP hD hS hA [] rfl (by decide) rfl rfl rfl hl.1 rfl (Nat.le_of_ble_eq_true rfl) dL_act_40 ⟨Nat.le_of_ble_eq_true rfl, Nat.le_of_ble_eq_true rfl⟩ (fun H locs hP hD hS => ?_)
      refine kr_zne (tgt := 50) hx hcd (by omega) dL_act_43 (by decide) (fun (c_43 : 0 < g_low (w >>> (20 &&& 31)) 2) => ?_) (fun (c_43 : g_low (w >>> (20 &&& 31)) 2 = 0) => ?_)
      · refine lv_iconst (v := nI 5) hx hcd dL_act_50 (by decide) ?_
        refine kr_top (w := nI jj) (by first | exact congrArg nI (sl_t ej c_43) | exact congrArg nI (sl_f ej (Nat.ne_of_gt c_43))) ?_
        exact kM_35 _ _ hP hD hS
      · refine lv_iconst (v := nI 2) hx hcd dL_act_46 (by decide) ?_
        refine lv_goto (tgt := 51) hx hcd dL_act_47 (by decide) ?_
        refine kr_top (w := nI jj) (by first | exact congrArg nI (sl_t ej c_43) | exact congrArg nI (sl_f ej (Nat.ne_of_gt c_43))) ?_
        exact kM_35 _ _ hP hD hS
    · refine kr_Si (As := [.int (w >>> (7 &&& 31)), .int (nI jj)]) (rest := [.int (nI (a + 1))]) (ws2 := wX cI cB cW ob nw tr qs sc (g_rot qs r) M N S n L T) ⟨hx, hcd, hml, hown, hts⟩ (c_L_low l D cI cB cW cL  _ M (w >>> (7 &&& 31)) jj (by omega) (by omega)) (va_cwS 2 hts gL_act_L_low rfl rfl rfl (by decide +kernel) ⟨Nat.le_of_ble_eq_true rfl, Nat.le_of_ble_eq_true rfl⟩) hK hP hD hS hA [] rfl (by decide) rfl rfl rfl hl.1 rfl (Nat.le_of_ble_eq_true rfl) dL_act_51 ⟨Nat.le_of_ble_eq_true rfl, Nat.le_of_ble_eq_true rfl⟩ (fun H locs hP hD hS => ?_)
      refine kr_top (w := nI k) (congrArg nI ek) ?_
      refine kr_add hx hcd dL_act_54 ?_
      refine lv_bipush (v := nI 6) hx hcd dL_act_55 (by decide) ?_
      refine kr_rem hx hcd (by omega) (by decide) (by decide) dL_act_57 ?_
      refine kr_top (w := nI b) (congrArg nI (by omega)) ?_
      refine lv_istore (lv' := [(6, .int (nI b)), (5, .int (nI a)), (4, .int (nI how)), (0, .ref (ob 0)), (1, .int w), (2, .int v), (3, .int (kI cm))]) hx hcd dL_act_58 hl (by decide) rfl (fun ls hl => ?_)
      refine lv_iload_n hx hcd dL_act_60 rfl (lv_at hl 5 rfl) ?_
      refine lv_iconst (v := nI 3) hx hcd dL_act_61 (by decide) ?_
      refine kr_Si (As := [.int v, .int (nI 3)]) (rest := []) (ws2 := wX cI cB cW ob nw tr qs sc (g_rot qs r) M N S n L T) ⟨hx, hcd, hml, hown, hts⟩ (c_L_low l D cI cB cW cL  _ M v 3 (by omega) (by omega)) (va_cwS 2 hts gL_act_L_low rfl rfl rfl (by decide +kernel) ⟨Nat.le_of_ble_eq_true rfl, Nat.le_of_ble_eq_true rfl⟩) hK hP hD hS hA [] rfl (by decide) rfl rfl rfl hl.1 rfl (Nat.le_of_ble_eq_true rfl) dL_act_62 ⟨Nat.le_of_ble_eq_true rfl, Nat.le_of_ble_eq_true rfl⟩ (fun H locs hP hD hS => ?_)
      refine kr_top (w := nI z) (congrArg nI ez) ?_
      refine lv_istore (lv' := [(7, .int (nI z)), (6, .int (nI b)), (5, .int (nI a)), (4, .int (nI how)), (0, .ref (ob 0)), (1, .int w), (2, .int v), (3, .int (kI cm))]) hx hcd dL_act_65 hl (by decide) rfl (fun ls hl => ?_)
      refine lv_aload_n hx hcd dL_act_67 rfl (lv_at hl 4 rfl) ?_
      refine lv_iload hx hcd dL_act_68 (lv_at hl 2 rfl) ?_
      refine lv_iload hx hcd dL_act_70 (lv_at hl 1 rfl) ?_
      refine kl_S (As := [.ref (ob 0), .int (nI a), .int (nI b)]) (rest := []) (ws2 := wX cI cB cW ob nw tr qs sc (g_rot qs r) M N S n L T) ⟨hx, hcd, hml, hown, hts⟩ (c_L_entry__ok l hst D cI cB cW cL ob nw tr qs sc (g_rot qs r) N S n L T _ M a b (by omega) (by omega) (by omega)) (vx_cwSW 3 hts gL_act_L_entry rfl rfl rfl (by decide +kernel) ⟨Nat.le_of_ble_eq_true rfl, Nat.le_of_ble_eq_true rfl⟩) hZ hN hK hP hD hS hA [0, 1, 2, 3, 4, 5, 6, 7, 8, 9, 10, 11, 12, 13, 14, 15, 16, 17, 18, 19, 20, 21, 22, 23, 24, 25, 26, 27, 28, 29, 30, 31, 32, 33, 34, 35, 36, 37, 38, 39, 40, 41, 42, 43, 44, 45, 46, 47, 48, 49, 50, 51, 52, 53, 54, 55, 56, 57, 58, 59, 60, 61, 62, 63, 64, 65, 66, 67, 68, 69, 70, 71, 72, 73, 74, 75, 76, 77, 78, 79, 80, 81, 82, 83, 84, 85, 86, 87, 88, 89, 90, 91, 92, 93] wX_allC wX_nd wX_adr wX_all rfl hl.1 rfl (Nat.le_of_ble_eq_true rfl) dL_act_72 ⟨Nat.le_of_ble_eq_true rfl, Nat.le_of_ble_eq_true rfl⟩ (fun H locs hP hD hS => ?_)
      refine lv_istore (lv' := [(8, .int (g_st M a b)), (7, .int (nI z)), (6, .int (nI b)), (5, .int (nI a)), (4, .int (nI how)), (0, .ref (ob 0)), (1, .int w), (2, .int v), (3, .int (kI cm))]) hx hcd dL_act_75 hl (by decide) rfl (fun ls hl => ?_)
      refine lv_iload hx hcd dL_act_77 (lv_at hl 4 rfl) ?_
      refine lv_iconst (v := nI 3) hx hcd dL_act_79 (by decide) ?_
      refine kr_cge (tgt := 132) hx hcd (by omega) (by omega) dL_act_80 (by decide) (fun (c_80 : 3 ≤ how) => ?_) (fun (c_80 : how < 3) => absurd c_80 (by omega))
      refine lv_iload hx hcd dL_act_132 (lv_at hl 4 rfl) ?_
      refine lv_iconst (v := nI 5) hx hcd dL_act_134 (by decide) ?_
      refine kr_cge (tgt := 197) hx hcd (by omega) (by omega) dL_act_135 (by decide) (fun (c_135 : 5 ≤ how) => absurd c_135 (by omega)) (fun (c_135 : how < 5) => ?_)
      refine lv_aload_n hx hcd dL_act_138 rfl (lv_at hl 5 rfl) ?_
      refine lv_iload hx hcd dL_act_139 (lv_at hl 3 rfl) ?_
      refine lv_iload hx hcd dL_act_141 (lv_at hl 2 rfl) ?_
      refine kl_S (As := [.ref (ob 0), .int (nI a), .int (nI b)]) (rest := []) (ws2 := wX cI cB cW ob nw tr qs sc (g_rot qs (rj n r)) (g_grant M a b) N (sset S (pj n r) M) (g_kn n) L T) ⟨hx, hcd, hml, hown, hts⟩ (c_L_grant__ok l hst D cI cB cW cL ob nw tr qs sc (g_rot qs r) N S n L T _ M a b r hI (by omega) (by omega) (by omega) (by omega) (by omega)) (vx_cwSW 3 hts gL_act_L_grant rfl rfl rfl (by decide +kernel) ⟨Nat.le_of_ble_eq_true rfl, Nat.le_of_ble_eq_true rfl⟩) hZ hN hK hP hD hS hA [0, 1, 2, 3, 4, 5, 6, 7, 8, 9, 10, 11, 12, 13, 14, 15, 16, 17, 18, 19, 20, 21, 22, 23, 24, 25, 26, 27, 28, 29, 30, 31, 32, 33, 34, 35, 36, 37, 38, 39, 40, 41, 42, 43, 44, 45, 46, 47, 48, 49, 50, 51, 52, 53, 54, 55, 56, 57, 58, 59, 60, 61, 62, 63, 64, 65, 66, 67, 68, 69, 70, 71, 72, 73, 74, 75, 76, 77, 78, 79, 80, 81, 82, 83, 84, 85, 86, 87, 88, 89, 90, 91, 92, 93] wX_allC wX_nd wX_adr wX_all rfl hl.1 rfl (Nat.le_of_ble_eq_true rfl) dL_act_143 ⟨Nat.le_of_ble_eq_true rfl, Nat.le_of_ble_eq_true rfl⟩ (fun H locs hP hD hS => ?_)
      refine lv_istore (lv' := [(9, .int (if g_has M a b 8 = true then 1 else 0)), (8, .int (g_st M a b)), (7, .int (nI z)), (6, .int (nI b)), (5, .int (nI a)), (4, .int (nI how)), (0, .ref (ob 0)), (1, .int w), (2, .int v), (3, .int (kI cm))]) hx hcd dL_act_146 hl (by decide) rfl (fun ls hl => ?_)
      refine lv_iload hx hcd dL_act_148 (lv_at hl 0 rfl) ?_
      refine kr_cut (D := D) (cl := vwCl) (A := AA) (ws := wX cI cB cW ob nw tr qs sc (g_rot qs (rj n r)) (g_grant M a b) N (sset S (pj n r) M) (g_kn n) L T) (H0 := ss.heap) (g := F0 mm 165 ls [.int (if g_has M a b 8 = true then 1 else 0), .int (if g_has M a b 8 = true then 1 else 0)]) (fun kM_150 => ?_) (fun H locs hP hD hS => ?_)
      · refine lv_iload hx hcd dL_act_150 (lv_at hl 1 rfl) ?_
        refine lv_bipush (v := nI 8) hx hcd dL_act_152 (by decide) ?_
        refine lv_iand hx hcd dL_act_154 ?_
        refine lv_bipush (v := nI 8) hx hcd dL_act_155 (by decide) ?_
        refine lv_icmp_ne (tgt := 164) hx hcd dL_act_157 (by decide) (fun (c_157 : ¬ ((g_st M a b) &&& 8) = 8) => ?_) (fun (c_157 : ((g_st M a b) &&& 8) = 8) => ?_)
        · refine lv_iconst (v := nI 0) hx hcd dL_act_164 (by decide) ?_
          refine kr_top (w := if g_has M a b 8 = true then 1 else 0) (by first | exact tl8_f hI ha hb c_157 | exact tl8_t hI ha hb c_157) ?_
          exact kM_150 _ _ hP hD hS
        · refine lv_iconst (v := nI 1) hx hcd dL_act_160 (by decide) ?_
          refine lv_goto (tgt := 165) hx hcd dL_act_161 (by decide) ?_
          refine kr_top (w := if g_has M a b 8 = true then 1 else 0) (by first | exact tl8_f hI ha hb c_157 | exact tl8_t hI ha hb c_157) ?_
          exact kM_150 _ _ hP hD hS
      · refine lv_icmp_ne (tgt := 193) hx hcd dL_act_165 (by decide) (fun (c_165 : ¬ (if g_has M a b 8 = true then 1 else 0) = (if g_has M a b 8 = true then 1 else 0)) => absurd c_165 (not_not_intro rfl)) (fun (c_165 : (if g_has M a b 8 = true then 1 else 0) = (if g_has M a b 8 = true then 1 else 0)) => ?_)
        refine kr_cut (D := D) (cl := vwCl) (A := AA) (ws := wX cI cB cW ob nw tr qs sc (g_rot qs (rj n r)) (g_grant M a b) N (sset S (pj n r) M) (g_kn n) L T) (H0 := ss.heap) (g := F0 mm 188 ls []) (fun kM_168 => ?_) (fun H locs hP hD hS => ?_)
        · refine lv_iload hx hcd dL_act_168 (lv_at hl 0 rfl) ?_
          refine lv_if_eq (tgt := 188) hx hcd dL_act_170 (by decide) (fun (c_170 : (if g_has M a b 8 = true then 1 else 0) = 0) => ?_) (fun (c_170 : ¬ (if g_has M a b 8 = true then 1 else 0) = 0) => ?_)
          · exact kM_168 _ _ hP hD hS
          · refine lv_aload_n hx hcd dL_act_173 rfl (lv_at hl 6 rfl) ?_
            refine lv_iload hx hcd dL_act_174 (lv_at hl 4 rfl) ?_
            refine lv_iload hx hcd dL_act_176 (lv_at hl 3 rfl) ?_
            refine kl_S (As := [.ref (ob 0), .int (nI a), .int (nI b)]) (rest := []) (ws2 := wX cI cB cW ob nw tr qs sc (g_rot qs (rj n r)) (g_grant M a b) N (sset S (pj n r) M) (g_kn n) L T) ⟨hx, hcd, hml, hown, hts⟩ (c_L_entry__ok l hst D cI cB cW cL ob nw tr qs sc (g_rot qs (rj n r)) N (sset S (pj n r) M) (g_kn n) L T _ (g_grant M a b) a b (by omega) (by omega) (by omega)) (vx_cwSW 3 hts gL_act_L_entry rfl rfl rfl (by decide +kernel) ⟨Nat.le_of_ble_eq_true rfl, Nat.le_of_ble_eq_true rfl⟩) hZ hN hK hP hD hS hA [0, 1, 2, 3, 4, 5, 6, 7, 8, 9, 10, 11, 12, 13, 14, 15, 16, 17, 18, 19, 20, 21, 22, 23, 24, 25, 26, 27, 28, 29, 30, 31, 32, 33, 34, 35, 36, 37, 38, 39, 40, 41, 42, 43, 44, 45, 46, 47, 48, 49, 50, 51, 52, 53, 54, 55, 56, 57, 58, 59, 60, 61, 62, 63, 64, 65, 66, 67, 68, 69, 70, 71, 72, 73, 74, 75, 76, 77, 78, 79, 80, 81, 82, 83, 84, 85, 86, 87, 88, 89, 90, 91, 92, 93] wX_allC wX_nd wX_adr wX_all rfl hl.1 rfl (Nat.le_of_ble_eq_true rfl) dL_act_178 ⟨Nat.le_of_ble_eq_true rfl, Nat.le_of_ble_eq_true rfl⟩ (fun H locs hP hD hS => ?_)
            refine lv_bipush (v := nI 10) hx hcd dL_act_181 (by decide) ?_
            refine lv_iand hx hcd dL_act_183 ?_
            refine lv_iconst (v := nI 2) hx hcd dL_act_184 (by decide) ?_
            refine lv_icmp_ne (tgt := 193) hx hcd dL_act_185 (by decide) (fun (c_185 : ¬ ((g_st (g_grant M a b) a b) &&& 10) = 2) => absurd c_185 (not_not_intro (grant_10 hI ha hb c_170))) (fun (c_185 : ((g_st (g_grant M a b) a b) &&& 10) = 2) => ?_)
            exact kM_168 _ _ hP hD hS
        · refine lv_iload hx hcd dL_act_188 (lv_at hl 0 rfl) ?_
          refine lv_goto (tgt := 196) hx hcd dL_act_190 (by decide) ?_
          refine W.widen (k := 1) (n := 6) (Nat.zero_le _) (Nat.zero_le _) ?_
          exact kr_iret hx hcd hr hlocks hK hP hD hS rfl rfl dL_act_196

set_option maxHeartbeats 4000000 in
set_option maxRecDepth 100000 in
theorem c_L_act__refuse (l : Launch) (hst : l.stackTraces = false) (D : va_G) (cI cB cW cL : ClassId) (ob nw tr : Nat → Nat) (qs : Nat → Nat → Nat) (sc : Nat → Nat) (G : Nat → Option Nat) (N : kM) (S : Nat → kM) (n L : Nat) (T : Nat → Int32) (sz : Nat) (M : kM) (w : Int32) (v : Int32) (cm : Bool) (mo how a jj k b z r : Nat) (hI : kInv M) (em : (if cm = true then 11 else 14) = mo) (hmo : mo = 11 ∨ mo = 14) (eh : g_low w mo = how) (ea : g_low (w >>> ((4 : Int32) &&& 31)) 6 = a) (ej : (if g_low (w >>> ((20 : Int32) &&& 31)) 2 = 0 then 2 else 5) = jj) (hjj : jj = 2 ∨ jj = 5) (ek : g_low (w >>> ((7 : Int32) &&& 31)) jj = k) (eb : (a + 1 + k) % 6 = b) (ez : g_low v 3 = z) (ha : a < 6) (hb : b < 6) (hne : a ≠ b) (hz : z < 3) (hk5 : k < 5) (hhow : how < 14) (hh : how = 5) (hn : n ≤ 4) (hr : r < 4) : kMg l yL_act wsL_act ({ frames := 8, cells := 1, slots := 6, locals := 191 }) D vwCl (kT cI cB cW cL) sz [.ref (ob 0), .int w, .int v, .int (kI cm)] (wX cI cB cW ob nw tr qs sc (g_rot qs r) M N S n L T) (wX cI cB cW ob nw tr qs sc (g_rot qs (rj n r)) (g_refuse M a b) N (sset S (pj n r) M) (g_kn n) L T) (if g_has M a b 10 = true then 1 else 0) 1 6 := by
  refine kr_ofg (cc := cL_act) (maxL := 12) (ret := (some .int)) (by decide) rfl (Nat.le_of_ble_eq_true rfl) ?_
  intro pp ee ss mm args below meth cc AA ls hx hcd hr hts hown hlocks hml hZ hN hK hP hD hA hl
  have hS : va_S AA ss.heap ss.heap [] := va_S.rf
  have hown : ss.vm.findClass RL = some mm.cls := hown
  have hl : lv_has ls 12 [(0, .ref (ob 0)), (1, .int w), (2, .int v), (3, .int (kI cm))] := hl
  have lx := low_lt (v := w >>> ((20 : Int32) &&& 31)) (n := 2) (by omega)
  refine lv_iload_n hx hcd dL_act_0 rfl (lv_at hl 1 rfl) ?_
  refine kr_cut (D := D) (cl := vwCl) (A := AA) (ws := wX cI cB cW ob nw tr qs sc (g_rot qs r) M N S n L T) (H0 := ss.heap) (g := F0 mm 12 ls [.int (nI mo), .int w]) (fun kM_1 => ?_) (fun H locs hP hD hS => ?_)
  · refine lv_iload_n hx hcd dL_act_1 rfl (lv_at hl 3 rfl) ?_
    refine kr_beq (tgt := 10) hx hcd dL_act_2 (by decide) (fun (c_2 : cm = false) => ?_) (fun (c_2 : cm = true) => ?_)
    · refine lv_bipush (v := nI 14) hx hcd dL_act_10 (by decide) ?_
      refine kr_top (w := nI mo) (by first | exact congrArg nI (md_f em c_2) | exact congrArg nI (md_t em c_2)) ?_
      exact kM_1 _ _ hP hD hS
    · refine lv_bipush (v := nI 11) hx hcd dL_act_5 (by decide) ?_
      refine lv_goto (tgt := 12) hx hcd dL_act_7 (by decide) ?_
      refine kr_top (w := nI mo) (by first | exact congrArg nI (md_f em c_2) | exact congrArg nI (md_t em c_2)) ?_
      exact kM_1 _ _ hP hD hS
  · refine kr_Si (As := [.int w, .int (nI mo)]) (rest := []) (ws2 := wX cI cB cW ob nw tr qs sc (g_rot qs r) M N S n L T) ⟨hx, hcd, hml, hown, hts⟩ (c_L_low l D cI cB cW cL  _ M w mo (by omega) (by omega)) (va_cwS 2 hts gL_act_L_low rfl rfl rfl (by decide +kernel) ⟨Nat.le_of_ble_eq_true rfl, Nat.le_of_ble_eq_true rfl⟩) hK hP hD hS hA [] rfl (by decide) rfl rfl rfl hl.1 rfl (Nat.le_of_ble_eq_true rfl) dL_act_12 ⟨Nat.le_of_ble_eq_true rfl, Nat.le_of_ble_eq_true rfl⟩ (fun H locs hP hD hS => ?_)
    refine kr_top (w := nI how) (congrArg nI eh) ?_
    refine lv_istore (lv' := [(4, .int (nI how)), (0, .ref (ob 0)), (1, .int w), (2, .int v), (3, .int (kI cm))]) hx hcd dL_act_15 hl (by decide) rfl (fun ls hl => ?_)
    refine lv_iload_n hx hcd dL_act_17 rfl (lv_at hl 2 rfl) ?_
    refine lv_iconst (v := nI 4) hx hcd dL_act_18 (by decide) ?_
    refine lv_ishr hx hcd dL_act_19 ?_
    refine lv_bipush (v := nI 6) hx hcd dL_act_20 (by decide) ?_
    refine kr_Si (As := [.int (w >>> (4 &&& 31)), .int (nI 6)]) (rest := []) (ws2 := wX cI cB cW ob nw tr qs sc (g_rot qs r) M N S n L T) ⟨hx, hcd, hml, hown, hts⟩ (c_L_low l D cI cB cW cL  _ M (w >>> (4 &&& 31)) 6 (by omega) (by omega)) (va_cwS 2 hts gL_act_L_low rfl rfl rfl (by decide +kernel) ⟨Nat.le_of_ble_eq_true rfl, Nat.le_of_ble_eq_true rfl⟩) hK hP hD hS hA [] rfl (by decide) rfl rfl rfl hl.1 rfl (Nat.le_of_ble_eq_true rfl) dL_act_22 ⟨Nat.le_of_ble_eq_true rfl, Nat.le_of_ble_eq_true rfl⟩ (fun H locs hP hD hS => ?_)
    refine kr_top (w := nI a) (congrArg nI ea) ?_
    refine lv_istore (lv' := [(5, .int (nI a)), (4, .int (nI how)), (0, .ref (ob 0)), (1, .int w), (2, .int v), (3, .int (kI cm))]) hx hcd dL_act_25 hl (by decide) rfl (fun ls hl => ?_)
    refine lv_iload hx hcd dL_act_27 (lv_at hl 0 rfl) ?_
    refine lv_iconst (v := nI 1) hx hcd dL_act_29 (by decide) ?_
    refine kr_add hx hcd dL_act_30 ?_
    refine lv_iload_n hx hcd dL_act_31 rfl (lv_at hl 3 rfl) ?_
    refine lv_bipush (v := nI 7) hx hcd dL_act_32 (by decide) ?_
    refine lv_ishr hx hcd dL_act_34 ?_
    refine kr_cut (D := D) (cl := vwCl) (A := AA) (ws := wX cI cB cW ob nw tr qs sc (g_rot qs r) M N S n L T) (H0 := ss.heap) (g := F0 mm 51 ls [.int (nI jj), .int (w >>> (7 &&& 31)), .int (nI (a + 1))]) (fun kM_35 => ?_) (fun H locs hP hD hS => ?_)
    · refine lv_iload_n hx hcd dL_act_35 rfl (lv_at hl 3 rfl) ?_
      refine lv_bipush (v := nI 20) hx hcd dL_act_36 (by decide) ?_
      refine lv_ishr hx hcd dL_act_38 ?_
      refine lv_iconst (v := nI 2) hx hcd dL_act_39 (by decide) ?_
      refine kr_Si (As := [.int (w >>> (20 &&& 31)), .int (nI 2)]) (rest := [.int (w >>> (7 &&& 31)), .int (nI (a + 1))]) (ws2 := wX cI cB cW ob nw tr qs sc (g_rot qs r) M N S n L T) ⟨hx, hcd, hml, hown, hts⟩ (c_L_low l D cI cB cW cL  _ M (w >>> (20 &&& 31)) 2 (by omega) (by omega)) (va_cwS 2 hts gL_act_L_low rfl rfl rfl (by decide +kernel) ⟨Nat.le_of_ble_eq_true rfl, Nat.le_of_ble_eq_true rfl⟩) hK hP hD hS hA [] rfl (by decide) rfl rfl rfl hl.1 rfl (Nat.le_of_ble_eq_true rfl) dL_act_40 ⟨Nat.le_of_ble_eq_true rfl, Nat.le_of_ble_eq_true rfl⟩ (fun H locs hP hD hS => ?_)
      refine kr_zne (tgt := 50) hx hcd (by omega) dL_act_43 (by decide) (fun (c_43 : 0 < g_low (w >>> (20 &&& 31)) 2) => ?_) (fun (c_43 : g_low (w >>> (20 &&& 31)) 2 = 0) => ?_)
      · refine lv_iconst (v := nI 5) hx hcd dL_act_50 (by decide) ?_
        refine kr_top (w := nI jj) (by first | exact congrArg nI (sl_t ej c_43) | exact congrArg nI (sl_f ej (Nat.ne_of_gt c_43))) ?_
        exact kM_35 _ _ hP hD hS
      · refine lv_iconst (v := nI 2) hx hcd dL_act_46 (by decide) ?_
        refine lv_goto (tgt := 51) hx hcd dL_act_47 (by decide) ?_
        refine kr_top (w := nI jj) (by first | exact congrArg nI (sl_t ej c_43) | exact congrArg nI (sl_f ej (Nat.ne_of_gt c_43))) ?_
        exact kM_35 _ _ hP hD hS
    · refine kr_Si (As := [.int (w >>> (7 &&& 31)), .int (nI jj)]) (rest := [.int (nI (a + 1))]) (ws2 := wX cI cB cW ob nw tr qs sc (g_rot qs r) M N S n L T) ⟨hx, hcd, hml, hown, hts⟩ (c_L_low l D cI cB cW cL  _ M (w >>> (7 &&& 31)) jj (by omega) (by omega)) (va_cwS 2 hts gL_act_L_low rfl rfl rfl (by decide +kernel) ⟨Nat.le_of_ble_eq_true rfl, Nat.le_of_ble_eq_true rfl⟩) hK hP hD hS hA [] rfl (by decide) rfl rfl rfl hl.1 rfl (Nat.le_of_ble_eq_true rfl) dL_act_51 ⟨Nat.le_of_ble_eq_true rfl, Nat.le_of_ble_eq_true rfl⟩ (fun H locs hP hD hS => ?_)
      refine kr_top (w := nI k) (congrArg nI ek) ?_
      refine kr_add hx hcd dL_act_54 ?_
      refine lv_bipush (v := nI 6) hx hcd dL_act_55 (by decide) ?_
      refine kr_rem hx hcd (by omega) (by decide) (by decide) dL_act_57 ?_
      refine kr_top (w := nI b) (congrArg nI (by omega)) ?_
      refine lv_istore (lv' := [(6, .int (nI b)), (5, .int (nI a)), (4, .int (nI how)), (0, .ref (ob 0)), (1, .int w), (2, .int v), (3, .int (kI cm))]) hx hcd dL_act_58 hl (by decide) rfl (fun ls hl => ?_)
      refine lv_iload_n hx hcd dL_act_60 rfl (lv_at hl 5 rfl) ?_
      refine lv_iconst (v := nI 3) hx hcd dL_act_61 (by decide) ?_
      refine kr_Si (As := [.int v, .int (nI 3)]) (rest := []) (ws2 := wX cI cB cW ob nw tr qs sc (g_rot qs r) M N S n L T) ⟨hx, hcd, hml, hown, hts⟩ (c_L_low l D cI cB cW cL  _ M v 3 (by omega) (by omega)) (va_cwS 2 hts gL_act_L_low rfl rfl rfl (by decide +kernel) ⟨Nat.le_of_ble_eq_true rfl, Nat.le_of_ble_eq_true rfl⟩) hK hP hD hS hA [] rfl (by decide) rfl rfl rfl hl.1 rfl (Nat.le_of_ble_eq_true rfl) dL_act_62 ⟨Nat.le_of_ble_eq_true rfl, Nat.le_of_ble_eq_true rfl⟩ (fun H locs hP hD hS => ?_)
      refine kr_top (w := nI z) (congrArg nI ez) ?_
      refine lv_istore (lv' := [(7, .int (nI z)), (6, .int (nI b)), (5, .int (nI a)), (4, .int (nI how)), (0, .ref (ob 0)), (1, .int w), (2, .int v), (3, .int (kI cm))]) hx hcd dL_act_65 hl (by decide) rfl (fun ls hl => ?_)
      refine lv_aload_n hx hcd dL_act_67 rfl (lv_at hl 4 rfl) ?_
      refine lv_iload hx hcd dL_act_68 (lv_at hl 2 rfl) ?_
      refine lv_iload hx hcd dL_act_70 (lv_at hl 1 rfl) ?_
      refine kl_S (As := [.ref (ob 0), .int (nI a), .int (nI b)]) (rest := []) (ws2 := wX cI cB cW ob nw tr qs sc (g_rot qs r) M N S n L T) ⟨hx, hcd, hml, hown, hts⟩ (c_L_entry__ok l hst D cI cB cW cL ob nw tr qs sc (g_rot qs r) N S n L T _ M a b (by omega) (by omega) (by omega)) (vx_cwSW 3 hts gL_act_L_entry rfl rfl rfl (by decide +kernel) ⟨Nat.le_of_ble_eq_true rfl, Nat.le_of_ble_eq_true rfl⟩) hZ hN hK hP hD hS hA [0, 1, 2, 3, 4, 5, 6, 7, 8, 9, 10, 11, 12, 13, 14, 15, 16, 17, 18, 19, 20, 21, 22, 23, 24, 25, 26, 27, 28, 29, 30, 31, 32, 33, 34, 35, 36, 37, 38, 39, 40, 41, 42, 43, 44, 45, 46, 47, 48, 49, 50, 51, 52, 53, 54, 55, 56, 57, 58, 59, 60, 61, 62, 63, 64, 65, 66, 67, 68, 69, 70, 71, 72, 73, 74, 75, 76, 77, 78, 79, 80, 81, 82, 83, 84, 85, 86, 87, 88, 89, 90, 91, 92, 93] wX_allC wX_nd wX_adr wX_all rfl hl.1 rfl (Nat.le_of_ble_eq_true rfl) dL_act_72 ⟨Nat.le_of_ble_eq_true rfl, Nat.le_of_ble_eq_true rfl⟩ (fun H locs hP hD hS => ?_)
      refine lv_istore (lv' := [(8, .int (g_st M a b)), (7, .int (nI z)), (6, .int (nI b)), (5, .int (nI a)), (4, .int (nI how)), (0, .ref (ob 0)), (1, .int w), (2, .int v), (3, .int (kI cm))]) hx hcd dL_act_75 hl (by decide) rfl (fun ls hl => ?_)
      refine lv_iload hx hcd dL_act_77 (lv_at hl 4 rfl) ?_
      refine lv_iconst (v := nI 3) hx hcd dL_act_79 (by decide) ?_
      refine kr_cge (tgt := 132) hx hcd (by omega) (by omega) dL_act_80 (by decide) (fun (c_80 : 3 ≤ how) => ?_) (fun (c_80 : how < 3) => absurd c_80 (by omega))
      refine lv_iload hx hcd dL_act_132 (lv_at hl 4 rfl) ?_
      refine lv_iconst (v := nI 5) hx hcd dL_act_134 (by decide) ?_
      refine kr_cge (tgt := 197) hx hcd (by omega) (by omega) dL_act_135 (by decide) (fun (c_135 : 5 ≤ how) => ?_) (fun (c_135 : how < 5) => absurd c_135 (by omega))
      refine lv_iload hx hcd dL_act_197 (lv_at hl 4 rfl) ?_
      refine lv_iconst (v := nI 5) hx hcd dL_act_199 (by decide) ?_
      refine kr_cne (tgt := 254) hx hcd (by omega) (by omega) dL_act_200 (by decide) (fun (c_200 : ¬ how = 5) => absurd c_200 (by omega)) (fun (c_200 : how = 5) => ?_)
      refine lv_aload_n hx hcd dL_act_203 rfl (lv_at hl 5 rfl) ?_
      refine lv_iload hx hcd dL_act_204 (lv_at hl 3 rfl) ?_
      refine lv_iload hx hcd dL_act_206 (lv_at hl 2 rfl) ?_
      refine kl_S (As := [.ref (ob 0), .int (nI a), .int (nI b)]) (rest := []) (ws2 := wX cI cB cW ob nw tr qs sc (g_rot qs (rj n r)) (g_refuse M a b) N (sset S (pj n r) M) (g_kn n) L T) ⟨hx, hcd, hml, hown, hts⟩ (c_L_refuse__ok l hst D cI cB cW cL ob nw tr qs sc (g_rot qs r) N S n L T _ M a b r hI (by omega) (by omega) (by omega) (by omega) (by omega)) (vx_cwSW 3 hts gL_act_L_refuse rfl rfl rfl (by decide +kernel) ⟨Nat.le_of_ble_eq_true rfl, Nat.le_of_ble_eq_true rfl⟩) hZ hN hK hP hD hS hA [0, 1, 2, 3, 4, 5, 6, 7, 8, 9, 10, 11, 12, 13, 14, 15, 16, 17, 18, 19, 20, 21, 22, 23, 24, 25, 26, 27, 28, 29, 30, 31, 32, 33, 34, 35, 36, 37, 38, 39, 40, 41, 42, 43, 44, 45, 46, 47, 48, 49, 50, 51, 52, 53, 54, 55, 56, 57, 58, 59, 60, 61, 62, 63, 64, 65, 66, 67, 68, 69, 70, 71, 72, 73, 74, 75, 76, 77, 78, 79, 80, 81, 82, 83, 84, 85, 86, 87, 88, 89, 90, 91, 92, 93] wX_allC wX_nd wX_adr wX_all rfl hl.1 rfl (Nat.le_of_ble_eq_true rfl) dL_act_208 ⟨Nat.le_of_ble_eq_true rfl, Nat.le_of_ble_eq_true rfl⟩ (fun H locs hP hD hS => ?_)
      refine lv_istore (lv' := [(9, .int (if g_has M a b 10 = true then 1 else 0)), (8, .int (g_st M a b)), (7, .int (nI z)), (6, .int (nI b)), (5, .int (nI a)), (4, .int (nI how)), (0, .ref (ob 0)), (1, .int w), (2, .int v), (3, .int (kI cm))]) hx hcd dL_act_211 hl (by decide) rfl (fun ls hl => ?_)
      refine lv_iload hx hcd dL_act_213 (lv_at hl 0 rfl) ?_
      refine kr_cut (D := D) (cl := vwCl) (A := AA) (ws := wX cI cB cW ob nw tr qs sc (g_rot qs (rj n r)) (g_refuse M a b) N (sset S (pj n r) M) (g_kn n) L T) (H0 := ss.heap) (g := F0 mm 228 ls [.int (if g_has M a b 10 = true then 1 else 0), .int (if g_has M a b 10 = true then 1 else 0)]) (fun kM_215 => ?_) (fun H locs hP hD hS => ?_)
      · refine lv_iload hx hcd dL_act_215 (lv_at hl 1 rfl) ?_
        refine lv_bipush (v := nI 10) hx hcd dL_act_217 (by decide) ?_
        refine lv_iand hx hcd dL_act_219 ?_
        refine lv_if_le (tgt := 227) hx hcd dL_act_220 (by decide) (fun (c_220 : ((g_st M a b) &&& 10) ≤ 0) => ?_) (fun (c_220 : ¬ ((g_st M a b) &&& 10) ≤ 0) => ?_)
        · refine lv_iconst (v := nI 0) hx hcd dL_act_227 (by decide) ?_
          refine kr_top (w := if g_has M a b 10 = true then 1 else 0) (by first | exact tl10_f hI ha hb c_220 | exact tl10_t hI ha hb c_220) ?_
          exact kM_215 _ _ hP hD hS
        · refine lv_iconst (v := nI 1) hx hcd dL_act_223 (by decide) ?_
          refine lv_goto (tgt := 228) hx hcd dL_act_224 (by decide) ?_
          refine kr_top (w := if g_has M a b 10 = true then 1 else 0) (by first | exact tl10_f hI ha hb c_220 | exact tl10_t hI ha hb c_220) ?_
          exact kM_215 _ _ hP hD hS
      · refine lv_icmp_ne (tgt := 250) hx hcd dL_act_228 (by decide) (fun (c_228 : ¬ (if g_has M a b 10 = true then 1 else 0) = (if g_has M a b 10 = true then 1 else 0)) => absurd c_228 (not_not_intro rfl)) (fun (c_228 : (if g_has M a b 10 = true then 1 else 0) = (if g_has M a b 10 = true then 1 else 0)) => ?_)
        refine lv_aload_n hx hcd dL_act_231 rfl (lv_at hl 6 rfl) ?_
        refine lv_iload hx hcd dL_act_232 (lv_at hl 4 rfl) ?_
        refine lv_iload hx hcd dL_act_234 (lv_at hl 3 rfl) ?_
        refine kl_S (As := [.ref (ob 0), .int (nI a), .int (nI b)]) (rest := []) (ws2 := wX cI cB cW ob nw tr qs sc (g_rot qs (rj n r)) (g_refuse M a b) N (sset S (pj n r) M) (g_kn n) L T) ⟨hx, hcd, hml, hown, hts⟩ (c_L_entry__ok l hst D cI cB cW cL ob nw tr qs sc (g_rot qs (rj n r)) N (sset S (pj n r) M) (g_kn n) L T _ (g_refuse M a b) a b (by omega) (by omega) (by omega)) (vx_cwSW 3 hts gL_act_L_entry rfl rfl rfl (by decide +kernel) ⟨Nat.le_of_ble_eq_true rfl, Nat.le_of_ble_eq_true rfl⟩) hZ hN hK hP hD hS hA [0, 1, 2, 3, 4, 5, 6, 7, 8, 9, 10, 11, 12, 13, 14, 15, 16, 17, 18, 19, 20, 21, 22, 23, 24, 25, 26, 27, 28, 29, 30, 31, 32, 33, 34, 35, 36, 37, 38, 39, 40, 41, 42, 43, 44, 45, 46, 47, 48, 49, 50, 51, 52, 53, 54, 55, 56, 57, 58, 59, 60, 61, 62, 63, 64, 65, 66, 67, 68, 69, 70, 71, 72, 73, 74, 75, 76, 77, 78, 79, 80, 81, 82, 83, 84, 85, 86, 87, 88, 89, 90, 91, 92, 93] wX_allC wX_nd wX_adr wX_all rfl hl.1 rfl (Nat.le_of_ble_eq_true rfl) dL_act_236 ⟨Nat.le_of_ble_eq_true rfl, Nat.le_of_ble_eq_true rfl⟩ (fun H locs hP hD hS => ?_)
        refine lv_bipush (v := nI 10) hx hcd dL_act_239 (by decide) ?_
        refine lv_iand hx hcd dL_act_241 ?_
        refine lv_if_ne (tgt := 250) hx hcd dL_act_242 (by decide) (fun (c_242 : ¬ ((g_st (g_refuse M a b) a b) &&& 10) = 0) => absurd c_242 (not_not_intro (refuse_10 hI ha hb))) (fun (c_242 : ((g_st (g_refuse M a b) a b) &&& 10) = 0) => ?_)
        refine lv_iload hx hcd dL_act_245 (lv_at hl 0 rfl) ?_
        refine lv_goto (tgt := 253) hx hcd dL_act_247 (by decide) ?_
        refine W.widen (k := 1) (n := 6) (Nat.zero_le _) (Nat.zero_le _) ?_
        exact kr_iret hx hcd hr hlocks hK hP hD hS rfl rfl dL_act_253

set_option maxHeartbeats 4000000 in
set_option maxRecDepth 100000 in
theorem c_L_act__stop (l : Launch) (hst : l.stackTraces = false) (D : va_G) (cI cB cW cL : ClassId) (ob nw tr : Nat → Nat) (qs : Nat → Nat → Nat) (sc : Nat → Nat) (G : Nat → Option Nat) (N : kM) (S : Nat → kM) (n L : Nat) (T : Nat → Int32) (sz : Nat) (M : kM) (w : Int32) (v : Int32) (cm : Bool) (mo how a jj k b z r : Nat) (hI : kInv M) (em : (if cm = true then 11 else 14) = mo) (hmo : mo = 11 ∨ mo = 14) (eh : g_low w mo = how) (ea : g_low (w >>> ((4 : Int32) &&& 31)) 6 = a) (ej : (if g_low (w >>> ((20 : Int32) &&& 31)) 2 = 0 then 2 else 5) = jj) (hjj : jj = 2 ∨ jj = 5) (ek : g_low (w >>> ((7 : Int32) &&& 31)) jj = k) (eb : (a + 1 + k) % 6 = b) (ez : g_low v 3 = z) (ha : a < 6) (hb : b < 6) (hne : a ≠ b) (hz : z < 3) (hk5 : k < 5) (hhow : how < 14) (hh : how = 6) (hn : n ≤ 4) (hr : r < 4) : kMg l yL_act wsL_act ({ frames := 8, cells := 1, slots := 6, locals := 191 }) D vwCl (kT cI cB cW cL) sz [.ref (ob 0), .int w, .int v, .int (kI cm)] (wX cI cB cW ob nw tr qs sc (g_rot qs r) M N S n L T) (wX cI cB cW ob nw tr qs sc (g_rot qs (rj n r)) (g_stop M a b) N (sset S (pj n r) M) (g_kn n) L T) (if g_has M a b 5 = true then 1 else 0) 1 6 := by
  refine kr_ofg (cc := cL_act) (maxL := 12) (ret := (some .int)) (by decide) rfl (Nat.le_of_ble_eq_true rfl) ?_
  intro pp ee ss mm args below meth cc AA ls hx hcd hr hts hown hlocks hml hZ hN hK hP hD hA hl
  have hS : va_S AA ss.heap ss.heap [] := va_S.rf
  have hown : ss.vm.findClass RL = some mm.cls := hown
  have hl : lv_has ls 12 [(0, .ref (ob 0)), (1, .int w), (2, .int v), (3, .int (kI cm))] := hl
  have lx := low_lt (v := w >>> ((20 : Int32) &&& 31)) (n := 2) (by omega)
  refine lv_iload_n hx hcd dL_act_0 rfl (lv_at hl 1 rfl) ?_
  refine kr_cut (D := D) (cl := vwCl) (A := AA) (ws := wX cI cB cW ob nw tr qs sc (g_rot qs r) M N S n L T) (H0 := ss.heap) (g := F0 mm 12 ls [.int (nI mo), .int w]) (fun kM_1 => ?_) (fun H locs hP hD hS => ?_)
  · refine lv_iload_n hx hcd dL_act_1 rfl (lv_at hl 3 rfl) ?_
    refine kr_beq (tgt := 10) hx hcd dL_act_2 (by decide) (fun (c_2 : cm = false) => ?_) (fun (c_2 : cm = true) => ?_)
    · refine lv_bipush (v := nI 14) hx hcd dL_act_10 (by decide) ?_
      refine kr_top (w := nI mo) (by first | exact congrArg nI (md_f em c_2) | exact congrArg nI (md_t em c_2)) ?_
      exact kM_1 _ _ hP hD hS
    · refine lv_bipush (v := nI 11) hx hcd dL_act_5 (by decide) ?_
      refine lv_goto (tgt := 12) hx hcd dL_act_7 (by decide) ?_
      refine kr_top (w := nI mo) (by first | exact congrArg nI (md_f em c_2) | exact congrArg nI (md_t em c_2)) ?_
      exact kM_1 _ _ hP hD hS
  · refine kr_Si (As := [.int w, .int (nI mo)]) (rest := []) (ws2 := wX cI cB cW ob nw tr qs sc (g_rot qs r) M N S n L T) ⟨hx, hcd, hml, hown, hts⟩ (c_L_low l D cI cB cW cL  _ M w mo (by omega) (by omega)) (va_cwS 2 hts gL_act_L_low rfl rfl rfl (by decide +kernel) ⟨Nat.le_of_ble_eq_true rfl, Nat.le_of_ble_eq_true rfl⟩) hK hP hD hS hA [] rfl (by decide) rfl rfl rfl hl.1 rfl (Nat.le_of_ble_eq_true rfl) dL_act_12 ⟨Nat.le_of_ble_eq_true rfl, Nat.le_of_ble_eq_true rfl⟩ (fun H locs hP hD hS => ?_)
    refine kr_top (w := nI how) (congrArg nI eh) ?_
    refine lv_istore (lv' := [(4, .int (nI how)), (0, .ref (ob 0)), (1, .int w), (2, .int v), (3, .int (kI cm))]) hx hcd dL_act_15 hl (by decide) rfl (fun ls hl => ?_)
    refine lv_iload_n hx hcd dL_act_17 rfl (lv_at hl 2 rfl) ?_
    refine lv_iconst (v := nI 4) hx hcd dL_act_18 (by decide) ?_
    refine lv_ishr hx hcd dL_act_19 ?_
    refine lv_bipush (v := nI 6) hx hcd dL_act_20 (by decide) ?_
    refine kr_Si (As := [.int (w >>> (4 &&& 31)), .int (nI 6)]) (rest := []) (ws2 := wX cI cB cW ob nw tr qs sc (g_rot qs r) M N S n L T) ⟨hx, hcd, hml, hown, hts⟩ (c_L_low l D cI cB cW cL  _ M (w >>> (4 &&& 31)) 6 (by omega) (by omega)) (va_cwS 2 hts gL_act_L_low rfl rfl rfl (by decide +kernel) ⟨Nat.le_of_ble_eq_true rfl, Nat.le_of_ble_eq_true rfl⟩) hK hP hD hS hA [] rfl (by decide) rfl rfl rfl hl.1 rfl (Nat.le_of_ble_eq_true rfl) dL_act_22 ⟨Nat.le_of_ble_eq_true rfl, Nat.le_of_ble_eq_true rfl⟩ (fun H locs hP hD hS => ?_)
    refine kr_top (w := nI a) (congrArg nI ea) ?_
    refine lv_istore (lv' := [(5, .int (nI a)), (4, .int (nI how)), (0, .ref (ob 0)), (1, .int w), (2, .int v), (3, .int (kI cm))]) hx hcd dL_act_25 hl (by decide) rfl (fun ls hl => ?_)
    refine lv_iload hx hcd dL_act_27 (lv_at hl 0 rfl) ?_
    refine lv_iconst (v := nI 1) hx hcd dL_act_29 (by decide) ?_
    refine kr_add hx hcd dL_act_30 ?_
    refine lv_iload_n hx hcd dL_act_31 rfl (lv_at hl 3 rfl) ?_
    refine lv_bipush (v := nI 7) hx hcd dL_act_32 (by decide) ?_
    refine lv_ishr hx hcd dL_act_34 ?_
    refine kr_cut (D := D) (cl := vwCl) (A := AA) (ws := wX cI cB cW ob nw tr qs sc (g_rot qs r) M N S n L T) (H0 := ss.heap) (g := F0 mm 51 ls [.int (nI jj), .int (w >>> (7 &&& 31)), .int (nI (a + 1))]) (fun kM_35 => ?_) (fun H locs hP hD hS => ?_)
    · refine lv_iload_n hx hcd dL_act_35 rfl (lv_at hl 3 rfl) ?_
      refine lv_bipush (v := nI 20) hx hcd dL_act_36 (by decide) ?_
      refine lv_ishr hx hcd dL_act_38 ?_
      refine lv_iconst (v := nI 2) hx hcd dL_act_39 (by decide) ?_
      refine kr_Si (As := [.int (w >>> (20 &&& 31)), .int (nI 2)]) (rest := [.int (w >>> (7 &&& 31)), .int (nI (a + 1))]) (ws2 := wX cI cB cW ob nw tr qs sc (g_rot qs r) M N S n L T) ⟨hx, hcd, hml, hown, hts⟩ (c_L_low l D cI cB cW cL  _ M (w >>> (20 &&& 31)) 2 (by omega) (by omega)) (va_cwS 2 hts gL_act_L_low rfl rfl rfl (by decide +kernel) ⟨Nat.le_of_ble_eq_true rfl, Nat.le_of_ble_eq_true rfl⟩) hK hP hD hS hA [] rfl (by decide) rfl rfl rfl hl.1 rfl (Nat.le_of_ble_eq_true rfl) dL_act_40 ⟨Nat.le_of_ble_eq_true rfl, Nat.le_of_ble_eq_true rfl⟩ (fun H locs hP hD hS => ?_)
      refine kr_zne (tgt := 50) hx hcd (by omega) dL_act_43 (by decide) (fun (c_43 : 0 < g_low (w >>> (20 &&& 31)) 2) => ?_) (fun (c_43 : g_low (w >>> (20 &&& 31)) 2 = 0) => ?_)
      · refine lv_iconst (v := nI 5) hx hcd dL_act_50 (by decide) ?_
        refine kr_top (w := nI jj) (by first | exact congrArg nI (sl_t ej c_43) | exact congrArg nI (sl_f ej (Nat.ne_of_gt c_43))) ?_
        exact kM_35 _ _ hP hD hS
      · refine lv_iconst (v := nI 2) hx hcd dL_act_46 (by decide) ?_
        refine lv_goto (tgt := 51) hx hcd dL_act_47 (by decide) ?_
        refine kr_top (w := nI jj) (by first | exact congrArg nI (sl_t ej c_43) | exact congrArg nI (sl_f ej (Nat.ne_of_gt c_43))) ?_
        exact kM_35 _ _ hP hD hS
    · refine kr_Si (As := [.int (w >>> (7 &&& 31)), .int (nI jj)]) (rest := [.int (nI (a + 1))]) (ws2 := wX cI cB cW ob nw tr qs sc (g_rot qs r) M N S n L T) ⟨hx, hcd, hml, hown, hts⟩ (c_L_low l D cI cB cW cL  _ M (w >>> (7 &&& 31)) jj (by omega) (by omega)) (va_cwS 2 hts gL_act_L_low rfl rfl rfl (by decide +kernel) ⟨Nat.le_of_ble_eq_true rfl, Nat.le_of_ble_eq_true rfl⟩) hK hP hD hS hA [] rfl (by decide) rfl rfl rfl hl.1 rfl (Nat.le_of_ble_eq_true rfl) dL_act_51 ⟨Nat.le_of_ble_eq_true rfl, Nat.le_of_ble_eq_true rfl⟩ (fun H locs hP hD hS => ?_)
      refine kr_top (w := nI k) (congrArg nI ek) ?_
      refine kr_add hx hcd dL_act_54 ?_
      refine lv_bipush (v := nI 6) hx hcd dL_act_55 (by decide) ?_
      refine kr_rem hx hcd (by omega) (by decide) (by decide) dL_act_57 ?_
      refine kr_top (w := nI b) (congrArg nI (by omega)) ?_
      refine lv_istore (lv' := [(6, .int (nI b)), (5, .int (nI a)), (4, .int (nI how)), (0, .ref (ob 0)), (1, .int w), (2, .int v), (3, .int (kI cm))]) hx hcd dL_act_58 hl (by decide) rfl (fun ls hl => ?_)
      refine lv_iload_n hx hcd dL_act_60 rfl (lv_at hl 5 rfl) ?_
      refine lv_iconst (v := nI 3) hx hcd dL_act_61 (by decide) ?_
      refine kr_Si (As := [.int v, .int (nI 3)]) (rest := []) (ws2 := wX cI cB cW ob nw tr qs sc (g_rot qs r) M N S n L T) ⟨hx, hcd, hml, hown, hts⟩ (c_L_low l D cI cB cW cL  _ M v 3 (by omega) (by omega)) (va_cwS 2 hts gL_act_L_low rfl rfl rfl (by decide +kernel) ⟨Nat.le_of_ble_eq_true rfl, Nat.le_of_ble_eq_true rfl⟩) hK hP hD hS hA [] rfl (by decide) rfl rfl rfl hl.1 rfl (Nat.le_of_ble_eq_true rfl) dL_act_62 ⟨Nat.le_of_ble_eq_true rfl, Nat.le_of_ble_eq_true rfl⟩ (fun H locs hP hD hS => ?_)
      refine kr_top (w := nI z) (congrArg nI ez) ?_
      refine lv_istore (lv' := [(7, .int (nI z)), (6, .int (nI b)), (5, .int (nI a)), (4, .int (nI how)), (0, .ref (ob 0)), (1, .int w), (2, .int v), (3, .int (kI cm))]) hx hcd dL_act_65 hl (by decide) rfl (fun ls hl => ?_)
      refine lv_aload_n hx hcd dL_act_67 rfl (lv_at hl 4 rfl) ?_
      refine lv_iload hx hcd dL_act_68 (lv_at hl 2 rfl) ?_
      refine lv_iload hx hcd dL_act_70 (lv_at hl 1 rfl) ?_
      refine kl_S (As := [.ref (ob 0), .int (nI a), .int (nI b)]) (rest := []) (ws2 := wX cI cB cW ob nw tr qs sc (g_rot qs r) M N S n L T) ⟨hx, hcd, hml, hown, hts⟩ (c_L_entry__ok l hst D cI cB cW cL ob nw tr qs sc (g_rot qs r) N S n L T _ M a b (by omega) (by omega) (by omega)) (vx_cwSW 3 hts gL_act_L_entry rfl rfl rfl (by decide +kernel) ⟨Nat.le_of_ble_eq_true rfl, Nat.le_of_ble_eq_true rfl⟩) hZ hN hK hP hD hS hA [0, 1, 2, 3, 4, 5, 6, 7, 8, 9, 10, 11, 12, 13, 14, 15, 16, 17, 18, 19, 20, 21, 22, 23, 24, 25, 26, 27, 28, 29, 30, 31, 32, 33, 34, 35, 36, 37, 38, 39, 40, 41, 42, 43, 44, 45, 46, 47, 48, 49, 50, 51, 52, 53, 54, 55, 56, 57, 58, 59, 60, 61, 62, 63, 64, 65, 66, 67, 68, 69, 70, 71, 72, 73, 74, 75, 76, 77, 78, 79, 80, 81, 82, 83, 84, 85, 86, 87, 88, 89, 90, 91, 92, 93] wX_allC wX_nd wX_adr wX_all rfl hl.1 rfl (Nat.le_of_ble_eq_true rfl) dL_act_72 ⟨Nat.le_of_ble_eq_true rfl, Nat.le_of_ble_eq_true rfl⟩ (fun H locs hP hD hS => ?_)
      refine lv_istore (lv' := [(8, .int (g_st M a b)), (7, .int (nI z)), (6, .int (nI b)), (5, .int (nI a)), (4, .int (nI how)), (0, .ref (ob 0)), (1, .int w), (2, .int v), (3, .int (kI cm))]) hx hcd dL_act_75 hl (by decide) rfl (fun ls hl => ?_)
      refine lv_iload hx hcd dL_act_77 (lv_at hl 4 rfl) ?_
      refine lv_iconst (v := nI 3) hx hcd dL_act_79 (by decide) ?_
      refine kr_cge (tgt := 132) hx hcd (by omega) (by omega) dL_act_80 (by decide) (fun (c_80 : 3 ≤ how) => ?_) (fun (c_80 : how < 3) => absurd c_80 (by omega))
      refine lv_iload hx hcd dL_act_132 (lv_at hl 4 rfl) ?_
      refine lv_iconst (v := nI 5) hx hcd dL_act_134 (by decide) ?_
      refine kr_cge (tgt := 197) hx hcd (by omega) (by omega) dL_act_135 (by decide) (fun (c_135 : 5 ≤ how) => ?_) (fun (c_135 : how < 5) => absurd c_135 (by omega))
      refine lv_iload hx hcd dL_act_197 (lv_at hl 4 rfl) ?_
      refine lv_iconst (v := nI 5) hx hcd dL_act_199 (by decide) ?_
      refine kr_cne (tgt := 254) hx hcd (by omega) (by omega) dL_act_200 (by decide) (fun (c_200 : ¬ how = 5) => ?_) (fun (c_200 : how = 5) => absurd c_200 (by omega))
      refine lv_iload hx hcd dL_act_254 (lv_at hl 4 rfl) ?_
      refine lv_bipush (v := nI 6) hx hcd dL_act_256 (by decide) ?_
      refine kr_cne (tgt := 310) hx hcd (by omega) (by omega) dL_act_258 (by decide) (fun (c_258 : ¬ how = 6) => absurd c_258 (by omega)) (fun (c_258 : how = 6) => ?_)
      refine lv_aload_n hx hcd dL_act_261 rfl (lv_at hl 5 rfl) ?_
      refine lv_iload hx hcd dL_act_262 (lv_at hl 3 rfl) ?_
      refine lv_iload hx hcd dL_act_264 (lv_at hl 2 rfl) ?_
      refine kl_S (As := [.ref (ob 0), .int (nI a), .int (nI b)]) (rest := []) (ws2 := wX cI cB cW ob nw tr qs sc (g_rot qs (rj n r)) (g_stop M a b) N (sset S (pj n r) M) (g_kn n) L T) ⟨hx, hcd, hml, hown, hts⟩ (c_L_stop__ok l hst D cI cB cW cL ob nw tr qs sc (g_rot qs r) N S n L T _ M a b r hI (by omega) (by omega) (by omega) (by omega) (by omega)) (vx_cwSW 3 hts gL_act_L_stop rfl rfl rfl (by decide +kernel) ⟨Nat.le_of_ble_eq_true rfl, Nat.le_of_ble_eq_true rfl⟩) hZ hN hK hP hD hS hA [0, 1, 2, 3, 4, 5, 6, 7, 8, 9, 10, 11, 12, 13, 14, 15, 16, 17, 18, 19, 20, 21, 22, 23, 24, 25, 26, 27, 28, 29, 30, 31, 32, 33, 34, 35, 36, 37, 38, 39, 40, 41, 42, 43, 44, 45, 46, 47, 48, 49, 50, 51, 52, 53, 54, 55, 56, 57, 58, 59, 60, 61, 62, 63, 64, 65, 66, 67, 68, 69, 70, 71, 72, 73, 74, 75, 76, 77, 78, 79, 80, 81, 82, 83, 84, 85, 86, 87, 88, 89, 90, 91, 92, 93] wX_allC wX_nd wX_adr wX_all rfl hl.1 rfl (Nat.le_of_ble_eq_true rfl) dL_act_266 ⟨Nat.le_of_ble_eq_true rfl, Nat.le_of_ble_eq_true rfl⟩ (fun H locs hP hD hS => ?_)
      refine lv_istore (lv' := [(9, .int (if g_has M a b 5 = true then 1 else 0)), (8, .int (g_st M a b)), (7, .int (nI z)), (6, .int (nI b)), (5, .int (nI a)), (4, .int (nI how)), (0, .ref (ob 0)), (1, .int w), (2, .int v), (3, .int (kI cm))]) hx hcd dL_act_269 hl (by decide) rfl (fun ls hl => ?_)
      refine lv_iload hx hcd dL_act_271 (lv_at hl 0 rfl) ?_
      refine kr_cut (D := D) (cl := vwCl) (A := AA) (ws := wX cI cB cW ob nw tr qs sc (g_rot qs (rj n r)) (g_stop M a b) N (sset S (pj n r) M) (g_kn n) L T) (H0 := ss.heap) (g := F0 mm 285 ls [.int (if g_has M a b 5 = true then 1 else 0), .int (if g_has M a b 5 = true then 1 else 0)]) (fun kM_273 => ?_) (fun H locs hP hD hS => ?_)
      · refine lv_iload hx hcd dL_act_273 (lv_at hl 1 rfl) ?_
        refine lv_iconst (v := nI 5) hx hcd dL_act_275 (by decide) ?_
        refine lv_iand hx hcd dL_act_276 ?_
        refine lv_if_le (tgt := 284) hx hcd dL_act_277 (by decide) (fun (c_277 : ((g_st M a b) &&& 5) ≤ 0) => ?_) (fun (c_277 : ¬ ((g_st M a b) &&& 5) ≤ 0) => ?_)
        · refine lv_iconst (v := nI 0) hx hcd dL_act_284 (by decide) ?_
          refine kr_top (w := if g_has M a b 5 = true then 1 else 0) (by first | exact tl5b_f hI ha hb c_277 | exact tl5b_t hI ha hb c_277) ?_
          exact kM_273 _ _ hP hD hS
        · refine lv_iconst (v := nI 1) hx hcd dL_act_280 (by decide) ?_
          refine lv_goto (tgt := 285) hx hcd dL_act_281 (by decide) ?_
          refine kr_top (w := if g_has M a b 5 = true then 1 else 0) (by first | exact tl5b_f hI ha hb c_277 | exact tl5b_t hI ha hb c_277) ?_
          exact kM_273 _ _ hP hD hS
      · refine lv_icmp_ne (tgt := 306) hx hcd dL_act_285 (by decide) (fun (c_285 : ¬ (if g_has M a b 5 = true then 1 else 0) = (if g_has M a b 5 = true then 1 else 0)) => absurd c_285 (not_not_intro rfl)) (fun (c_285 : (if g_has M a b 5 = true then 1 else 0) = (if g_has M a b 5 = true then 1 else 0)) => ?_)
        refine lv_aload_n hx hcd dL_act_288 rfl (lv_at hl 6 rfl) ?_
        refine lv_iload hx hcd dL_act_289 (lv_at hl 4 rfl) ?_
        refine lv_iload hx hcd dL_act_291 (lv_at hl 3 rfl) ?_
        refine kl_S (As := [.ref (ob 0), .int (nI a), .int (nI b)]) (rest := []) (ws2 := wX cI cB cW ob nw tr qs sc (g_rot qs (rj n r)) (g_stop M a b) N (sset S (pj n r) M) (g_kn n) L T) ⟨hx, hcd, hml, hown, hts⟩ (c_L_entry__ok l hst D cI cB cW cL ob nw tr qs sc (g_rot qs (rj n r)) N (sset S (pj n r) M) (g_kn n) L T _ (g_stop M a b) a b (by omega) (by omega) (by omega)) (vx_cwSW 3 hts gL_act_L_entry rfl rfl rfl (by decide +kernel) ⟨Nat.le_of_ble_eq_true rfl, Nat.le_of_ble_eq_true rfl⟩) hZ hN hK hP hD hS hA [0, 1, 2, 3, 4, 5, 6, 7, 8, 9, 10, 11, 12, 13, 14, 15, 16, 17, 18, 19, 20, 21, 22, 23, 24, 25, 26, 27, 28, 29, 30, 31, 32, 33, 34, 35, 36, 37, 38, 39, 40, 41, 42, 43, 44, 45, 46, 47, 48, 49, 50, 51, 52, 53, 54, 55, 56, 57, 58, 59, 60, 61, 62, 63, 64, 65, 66, 67, 68, 69, 70, 71, 72, 73, 74, 75, 76, 77, 78, 79, 80, 81, 82, 83, 84, 85, 86, 87, 88, 89, 90, 91, 92, 93] wX_allC wX_nd wX_adr wX_all rfl hl.1 rfl (Nat.le_of_ble_eq_true rfl) dL_act_293 ⟨Nat.le_of_ble_eq_true rfl, Nat.le_of_ble_eq_true rfl⟩ (fun H locs hP hD hS => ?_)
        refine lv_iconst (v := nI 5) hx hcd dL_act_296 (by decide) ?_
        refine lv_iand hx hcd dL_act_297 ?_
        refine lv_if_ne (tgt := 306) hx hcd dL_act_298 (by decide) (fun (c_298 : ¬ ((g_st (g_stop M a b) a b) &&& 5) = 0) => absurd c_298 (not_not_intro (stop_5 hI ha hb))) (fun (c_298 : ((g_st (g_stop M a b) a b) &&& 5) = 0) => ?_)
        refine lv_iload hx hcd dL_act_301 (lv_at hl 0 rfl) ?_
        refine lv_goto (tgt := 309) hx hcd dL_act_303 (by decide) ?_
        refine W.widen (k := 1) (n := 6) (Nat.zero_le _) (Nat.zero_le _) ?_
        exact kr_iret hx hcd hr hlocks hK hP hD hS rfl rfl dL_act_309
