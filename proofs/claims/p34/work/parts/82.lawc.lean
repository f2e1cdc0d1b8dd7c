set_option maxHeartbeats 4000000 in
set_option maxRecDepth 100000 in
theorem c_L_rosters (l : Launch) (hst : l.stackTraces = false) (D : va_G) (cI cB cW cL : ClassId) (ob nw tr : Nat → Nat) (qs : Nat → Nat → Nat) (sc : Nat → Nat) (G : Nat → Option Nat) (N : kM) (S : Nat → kM) (n L : Nat) (T : Nat → Int32) (sz : Nat) (M : kM) (w : Int32) (B : Nat) (hI : kInv M) (hX : oX 6 B M) (hB : B < 2 ^ 30) : kMg l yL_rosters wsL_rosters ({ frames := 4, cells := 0, slots := 0, locals := 86 }) D vwCl (kT cI cB cW cL) sz [.ref (ob 0), .int w] (wX cI cB cW ob nw tr qs sc G M N S n L T) (wX cI cB cW ob nw tr qs sc G M N S n L T) 1 0 0 := by
  refine kr_ofg (cc := cL_rosters) (maxL := 11) (ret := (some .boolean)) (by decide) rfl (Nat.le_of_ble_eq_true rfl) ?_
  intro pp ee ss mm args below meth cc AA ls hx hcd hr hts hown hlocks hml hZ hN hK hP hD hA hl
  have hS : va_S AA ss.heap ss.heap [] := va_S.rf
  have hown : ss.vm.findClass RL = some mm.cls := hown
  have hl : lv_has ls 11 [(0, .ref (ob 0)), (1, .int w)] := hl
  have bg := agS_le (M := M) 6
  have bp := pairs_le (M := M)
  refine lv_iconst (v := nI 0) hx hcd dL_rosters_0 (by decide) ?_
  refine lv_istore_n (lv' := [(2, .int (nI 0)), (0, .ref (ob 0)), (1, .int w)]) hx hcd dL_rosters_1 rfl hl (by decide) rfl (fun ls hl => ?_)
  refine lv_iconst (v := nI 0) hx hcd dL_rosters_2 (by decide) ?_
  refine lv_istore_n (lv' := [(3, .int (nI 0)), (2, .int (nI 0)), (0, .ref (ob 0)), (1, .int w)]) hx hcd dL_rosters_3 rfl hl (by decide) rfl (fun ls hl => ?_)
  refine kr_up (fun a => wX cI cB cW ob nw tr qs sc G M N S n L T) (fun a => [(0, .ref (ob 0)), (1, .int w), (2, .int (nI (g_agS M a))), (3, .int (nI a))]) 6 (nL := 11) (fun a ha ih_4 H locs ls hP hD hS hl => ?_) (fun H locs ls hP hD hS hl => ?_) 0 (by omega) hP hD hS (lv_sub hl [2, 3, 1, 0] rfl)
  · have hl : lv_has ls 11 [(0, .ref (ob 0)), (1, .int w), (2, .int (nI (g_agS M a))), (3, .int (nI a))] := hl
    obtain ⟨ev, bv⟩ := ver_v hX hB ha
    have bs := low_lt (v := w) (n := vN M a + 2) (by omega)
    refine lv_iload_n hx hcd dL_rosters_4 rfl (lv_at hl 3 rfl) ?_
    refine lv_bipush (v := nI 6) hx hcd dL_rosters_5 (by decide) ?_
    refine kr_cge (tgt := 256) hx hcd (by omega) (by omega) dL_rosters_7 (by decide) (fun (c_7 : 6 ≤ a) => absurd c_7 (by omega)) (fun (c_7 : a < 6) => ?_)
    refine lv_aload_n hx hcd dL_rosters_10 rfl (lv_at hl 0 rfl) ?_
    refine lv_iload_n hx hcd dL_rosters_11 rfl (lv_at hl 3 rfl) ?_
    refine lv_iconst (v := (-1)) hx hcd dL_rosters_12 (by decide) ?_
    refine kl_S (As := [.ref (ob 0), .int (nI a), .int (-1)]) (rest := []) (ws2 := wX cI cB cW ob nw tr qs sc G M N S n L T) ⟨hx, hcd, hml, hown, hts⟩ (c_L_version__ok0 l hst D cI cB cW cL ob nw tr qs sc G N S n L T _ M a (by omega)) (vx_cwSW 3 hts gL_rosters_L_version rfl rfl rfl (by decide +kernel) ⟨Nat.le_of_ble_eq_true rfl, Nat.le_of_ble_eq_true rfl⟩) hZ hN hK hP hD hS hA [0, 1, 2, 3, 4, 5, 6, 7, 8, 9, 10, 11, 12, 13, 14, 15, 16, 17, 18, 19, 20, 21, 22, 23, 24, 25, 26, 27, 28, 29, 30, 31, 32, 33, 34, 35, 36, 37, 38, 39, 40, 41, 42, 43, 44, 45, 46, 47, 48, 49, 50, 51, 52, 53, 54, 55, 56, 57, 58, 59, 60, 61, 62, 63, 64, 65, 66, 67, 68, 69, 70, 71, 72, 73, 74, 75, 76, 77, 78, 79, 80, 81, 82, 83, 84, 85, 86, 87, 88, 89, 90, 91, 92, 93] wX_allC wX_nd wX_adr wX_all rfl hl.1 rfl (Nat.le_of_ble_eq_true rfl) dL_rosters_13 ⟨Nat.le_of_ble_eq_true rfl, Nat.le_of_ble_eq_true rfl⟩ (fun H locs hP hD hS => ?_)
    refine kr_top (w := nI (vN M a)) ev ?_
    refine lv_istore (lv' := [(4, .int (nI (vN M a))), (0, .ref (ob 0)), (1, .int w), (2, .int (nI (g_agS M a))), (3, .int (nI a))]) hx hcd dL_rosters_16 hl (by decide) rfl (fun ls hl => ?_)
    refine lv_iload_n hx hcd dL_rosters_18 rfl (lv_at hl 2 rfl) ?_
    refine lv_iload hx hcd dL_rosters_19 (lv_at hl 0 rfl) ?_
    refine lv_iconst (v := nI 2) hx hcd dL_rosters_21 (by decide) ?_
    refine kr_add hx hcd dL_rosters_22 ?_
    refine kr_Si (As := [.int w, .int (nI ((vN M a) + 2))]) (rest := []) (ws2 := wX cI cB cW ob nw tr qs sc G M N S n L T) ⟨hx, hcd, hml, hown, hts⟩ (c_L_low l D cI cB cW cL  _ M w ((vN M a) + 2) (by omega) (by omega)) (va_cwS 2 hts gL_rosters_L_low rfl rfl rfl (by decide +kernel) ⟨Nat.le_of_ble_eq_true rfl, Nat.le_of_ble_eq_true rfl⟩) hK hP hD hS hA [] rfl (by decide) rfl rfl rfl hl.1 rfl (Nat.le_of_ble_eq_true rfl) dL_rosters_23 ⟨Nat.le_of_ble_eq_true rfl, Nat.le_of_ble_eq_true rfl⟩ (fun H locs hP hD hS => ?_)
    refine kr_top (w := nI (g_low w (vN M a + 2))) (congrArg nI rfl) ?_
    refine lv_istore (lv' := [(5, .int (nI (g_low w (vN M a + 2)))), (4, .int (nI (vN M a))), (0, .ref (ob 0)), (1, .int w), (2, .int (nI (g_agS M a))), (3, .int (nI a))]) hx hcd dL_rosters_26 hl (by decide) rfl (fun ls hl => ?_)
    refine lv_iconst (v := nI 0) hx hcd dL_rosters_28 (by decide) ?_
    refine lv_istore (lv' := [(6, .int (nI 0)), (5, .int (nI (g_low w (vN M a + 2)))), (4, .int (nI (vN M a))), (0, .ref (ob 0)), (1, .int w), (2, .int (nI (g_agS M a))), (3, .int (nI a))]) hx hcd dL_rosters_29 hl (by decide) rfl (fun ls hl => ?_)
    refine lv_iconst (v := nI 0) hx hcd dL_rosters_31 (by decide) ?_
    refine lv_istore (lv' := [(7, .int (nI 0)), (6, .int (nI 0)), (5, .int (nI (g_low w (vN M a + 2)))), (4, .int (nI (vN M a))), (0, .ref (ob 0)), (1, .int w), (2, .int (nI (g_agS M a))), (3, .int (nI a))]) hx hcd dL_rosters_32 hl (by decide) rfl (fun ls hl => ?_)
    refine lv_iconst (v := nI 0) hx hcd dL_rosters_34 (by decide) ?_
    refine lv_istore (lv' := [(8, .int (nI 0)), (7, .int (nI 0)), (6, .int (nI 0)), (5, .int (nI (g_low w (vN M a + 2)))), (4, .int (nI (vN M a))), (0, .ref (ob 0)), (1, .int w), (2, .int (nI (g_agS M a))), (3, .int (nI a))]) hx hcd dL_rosters_35 hl (by decide) rfl (fun ls hl => ?_)
    refine kr_up (fun b => wX cI cB cW ob nw tr qs sc G M N S n L T) (fun b => [(0, .ref (ob 0)), (1, .int w), (2, .int (nI (g_agS M a + g_agR M a b))), (3, .int (nI a)), (4, .int (nI (vN M a))), (5, .int (nI (g_low w (vN M a + 2)))), (6, .int (nI (g_nw M a (g_low w (vN M a + 2)) b))), (7, .int (kI (g_sn M a b))), (8, .int (nI b))]) 6 (nL := 11) (fun b hb ih_37 H locs ls hP hD hS hl => ?_) (fun H locs ls hP hD hS hl => ?_) 0 (by omega) hP hD hS (lv_sub hl [5, 6, 7, 8, 4, 3, 2, 1, 0] rfl)
    · have hl : lv_has ls 11 [(0, .ref (ob 0)), (1, .int w), (2, .int (nI (g_agS M a + g_agR M a b))), (3, .int (nI a)), (4, .int (nI (vN M a))), (5, .int (nI (g_low w (vN M a + 2)))), (6, .int (nI (g_nw M a (g_low w (vN M a + 2)) b))), (7, .int (kI (g_sn M a b))), (8, .int (nI b))] := hl
      obtain ⟨ee, be, bz⟩ := ver_e hX hB ha hb
      obtain ⟨r1, r2, r3, r4⟩ := st_r hX ha hb
      refine lv_iload hx hcd dL_rosters_37 (lv_at hl 8 rfl) ?_
      refine lv_bipush (v := nI 6) hx hcd dL_rosters_39 (by decide) ?_
      refine kr_cge (tgt := 221) hx hcd (by omega) (by omega) dL_rosters_41 (by decide) (fun (c_41 : 6 ≤ b) => absurd c_41 (by omega)) (fun (c_41 : b < 6) => ?_)
      refine lv_iload hx hcd dL_rosters_44 (lv_at hl 8 rfl) ?_
      refine lv_iload_n hx hcd dL_rosters_46 rfl (lv_at hl 3 rfl) ?_
      refine kr_cne (tgt := 53) hx hcd (by omega) (by omega) dL_rosters_47 (by decide) (fun (c_47 : ¬ b = a) => ?_) (fun (c_47 : b = a) => ?_)
      · refine lv_aload_n hx hcd dL_rosters_53 rfl (lv_at hl 0 rfl) ?_
        refine lv_iload_n hx hcd dL_rosters_54 rfl (lv_at hl 3 rfl) ?_
        refine lv_iload hx hcd dL_rosters_55 (lv_at hl 8 rfl) ?_
        refine kl_S (As := [.ref (ob 0), .int (nI a), .int (nI b)]) (rest := []) (ws2 := wX cI cB cW ob nw tr qs sc G M N S n L T) ⟨hx, hcd, hml, hown, hts⟩ (c_L_entry__ok l hst D cI cB cW cL ob nw tr qs sc G N S n L T _ M a b (by omega) (by omega) (by omega)) (vx_cwSW 3 hts gL_rosters_L_entry rfl rfl rfl (by decide +kernel) ⟨Nat.le_of_ble_eq_true rfl, Nat.le_of_ble_eq_true rfl⟩) hZ hN hK hP hD hS hA [0, 1, 2, 3, 4, 5, 6, 7, 8, 9, 10, 11, 12, 13, 14, 15, 16, 17, 18, 19, 20, 21, 22, 23, 24, 25, 26, 27, 28, 29, 30, 31, 32, 33, 34, 35, 36, 37, 38, 39, 40, 41, 42, 43, 44, 45, 46, 47, 48, 49, 50, 51, 52, 53, 54, 55, 56, 57, 58, 59, 60, 61, 62, 63, 64, 65, 66, 67, 68, 69, 70, 71, 72, 73, 74, 75, 76, 77, 78, 79, 80, 81, 82, 83, 84, 85, 86, 87, 88, 89, 90, 91, 92, 93] wX_allC wX_nd wX_adr wX_all rfl hl.1 rfl (Nat.le_of_ble_eq_true rfl) dL_rosters_57 ⟨Nat.le_of_ble_eq_true rfl, Nat.le_of_ble_eq_true rfl⟩ (fun H locs hP hD hS => ?_)
        refine lv_istore (lv' := [(9, .int (g_st M a b)), (0, .ref (ob 0)), (1, .int w), (2, .int (nI (g_agS M a + g_agR M a b))), (3, .int (nI a)), (4, .int (nI (vN M a))), (5, .int (nI (g_low w (vN M a + 2)))), (6, .int (nI (g_nw M a (g_low w (vN M a + 2)) b))), (7, .int (kI (g_sn M a b))), (8, .int (nI b))]) hx hcd dL_rosters_60 hl (by decide) rfl (fun ls hl => ?_)
        refine lv_aload_n hx hcd dL_rosters_62 rfl (lv_at hl 1 rfl) ?_
        refine lv_iload_n hx hcd dL_rosters_63 rfl (lv_at hl 4 rfl) ?_
        refine lv_iload hx hcd dL_rosters_64 (lv_at hl 9 rfl) ?_
        refine kl_S (As := [.ref (ob 0), .int (nI a), .int (nI b)]) (rest := []) (ws2 := wX cI cB cW ob nw tr qs sc G M N S n L T) ⟨hx, hcd, hml, hown, hts⟩ (c_L_version__ok1 l hst D cI cB cW cL ob nw tr qs sc G N S n L T _ M a b (by omega) (by omega) (by omega)) (vx_cwSW 3 hts gL_rosters_L_version rfl rfl rfl (by decide +kernel) ⟨Nat.le_of_ble_eq_true rfl, Nat.le_of_ble_eq_true rfl⟩) hZ hN hK hP hD hS hA [0, 1, 2, 3, 4, 5, 6, 7, 8, 9, 10, 11, 12, 13, 14, 15, 16, 17, 18, 19, 20, 21, 22, 23, 24, 25, 26, 27, 28, 29, 30, 31, 32, 33, 34, 35, 36, 37, 38, 39, 40, 41, 42, 43, 44, 45, 46, 47, 48, 49, 50, 51, 52, 53, 54, 55, 56, 57, 58, 59, 60, 61, 62, 63, 64, 65, 66, 67, 68, 69, 70, 71, 72, 73, 74, 75, 76, 77, 78, 79, 80, 81, 82, 83, 84, 85, 86, 87, 88, 89, 90, 91, 92, 93] wX_allC wX_nd wX_adr wX_all rfl hl.1 rfl (Nat.le_of_ble_eq_true rfl) dL_rosters_66 ⟨Nat.le_of_ble_eq_true rfl, Nat.le_of_ble_eq_true rfl⟩ (fun H locs hP hD hS => ?_)
        refine kr_top (w := nI (eN M a b)) ee ?_
        refine lv_istore (lv' := [(10, .int (nI (eN M a b))), (9, .int (g_st M a b)), (0, .ref (ob 0)), (1, .int w), (2, .int (nI (g_agS M a + g_agR M a b))), (3, .int (nI a)), (4, .int (nI (vN M a))), (5, .int (nI (g_low w (vN M a + 2)))), (6, .int (nI (g_nw M a (g_low w (vN M a + 2)) b))), (7, .int (kI (g_sn M a b))), (8, .int (nI b))]) hx hcd dL_rosters_69 hl (by decide) rfl (fun ls hl => ?_)
        refine lv_iload hx hcd dL_rosters_71 (lv_at hl 8 rfl) ?_
        refine kr_cut (D := D) (cl := vwCl) (A := AA) (ws := wX cI cB cW ob nw tr qs sc G M N S n L T) (H0 := ss.heap) (g := F0 mm 85 ls [.int (kI (decide (g_low w (vN M a + 2) < eN M a b))), .int (nI (g_nw M a (g_low w (vN M a + 2)) b))]) (fun kM_73 => ?_) (fun H locs hP hD hS => ?_)
        · refine lv_iload hx hcd dL_rosters_73 (lv_at hl 0 rfl) ?_
          refine lv_iload hx hcd dL_rosters_75 (lv_at hl 7 rfl) ?_
          refine kr_cle (tgt := 84) hx hcd (by omega) (by omega) dL_rosters_77 (by decide) (fun (c_77 : eN M a b ≤ g_low w (vN M a + 2)) => ?_) (fun (c_77 : g_low w (vN M a + 2) < eN M a b) => ?_)
          · refine lv_iconst (v := nI 0) hx hcd dL_rosters_84 (by decide) ?_
            refine kr_top (w := kI (decide (g_low w (vN M a + 2) < eN M a b))) (by first | exact kI_pt c_77 | exact kI_pf (Nat.not_lt.mpr c_77)) ?_
            exact kM_73 _ _ hP hD hS
          · refine lv_iconst (v := nI 1) hx hcd dL_rosters_80 (by decide) ?_
            refine lv_goto (tgt := 85) hx hcd dL_rosters_81 (by decide) ?_
            refine kr_top (w := kI (decide (g_low w (vN M a + 2) < eN M a b))) (by first | exact kI_pt c_77 | exact kI_pf (Nat.not_lt.mpr c_77)) ?_
            exact kM_73 _ _ hP hD hS
        · refine lv_iadd hx hcd dL_rosters_85 ?_
          refine kr_top (w := nI (g_nw M a (g_low w (vN M a + 2)) (b + 1))) (nw_up c_47) ?_
          refine lv_istore (lv' := [(6, .int (nI (g_nw M a (g_low w (vN M a + 2)) (b + 1)))), (10, .int (nI (eN M a b))), (9, .int (g_st M a b)), (0, .ref (ob 0)), (1, .int w), (2, .int (nI (g_agS M a + g_agR M a b))), (3, .int (nI a)), (4, .int (nI (vN M a))), (5, .int (nI (g_low w (vN M a + 2)))), (7, .int (kI (g_sn M a b))), (8, .int (nI b))]) hx hcd dL_rosters_86 hl (by decide) rfl (fun ls hl => ?_)
          refine kr_cut (D := D) (cl := vwCl) (A := AA) (ws := wX cI cB cW ob nw tr qs sc G M N S n L T) (H0 := ss.heap) (g := F0 mm 105 ls [.int (kI (g_sn M a (b + 1)))]) (fun kM_88 => ?_) (fun H locs hP hD hS => ?_)
          · refine lv_iload hx hcd dL_rosters_88 (lv_at hl 9 rfl) ?_
            refine kr_bne (tgt := 100) hx hcd dL_rosters_90 (by decide) (fun (c_90 : g_sn M a b = true) => ?_) (fun (c_90 : g_sn M a b = false) => ?_)
            · refine lv_iconst (v := nI 1) hx hcd dL_rosters_100 (by decide) ?_
              refine lv_goto (tgt := 105) hx hcd dL_rosters_101 (by decide) ?_
              refine kr_top (w := kI (g_sn M a (b + 1))) (by first | exact sn_a c_90 | exact sn_b c_47 c_97 | exact sn_c c_90 c_97) ?_
              exact kM_88 _ _ hP hD hS
            · refine lv_iload hx hcd dL_rosters_93 (lv_at hl 1 rfl) ?_
              refine lv_iload hx hcd dL_rosters_95 (lv_at hl 7 rfl) ?_
              refine kr_cne (tgt := 104) hx hcd (by omega) (by omega) dL_rosters_97 (by decide) (fun (c_97 : ¬ eN M a b = vN M a) => ?_) (fun (c_97 : eN M a b = vN M a) => ?_)
              · refine lv_iconst (v := nI 0) hx hcd dL_rosters_104 (by decide) ?_
                refine kr_top (w := kI (g_sn M a (b + 1))) (by first | exact sn_a c_90 | exact sn_b c_47 c_97 | exact sn_c c_90 c_97) ?_
                exact kM_88 _ _ hP hD hS
              · refine lv_iconst (v := nI 1) hx hcd dL_rosters_100 (by decide) ?_
                refine lv_goto (tgt := 105) hx hcd dL_rosters_101 (by decide) ?_
                refine kr_top (w := kI (g_sn M a (b + 1))) (by first | exact sn_a c_90 | exact sn_b c_47 c_97 | exact sn_c c_90 c_97) ?_
                exact kM_88 _ _ hP hD hS
          · refine lv_istore (lv' := [(7, .int (kI (g_sn M a (b + 1)))), (6, .int (nI (g_nw M a (g_low w (vN M a + 2)) (b + 1)))), (10, .int (nI (eN M a b))), (9, .int (g_st M a b)), (0, .ref (ob 0)), (1, .int w), (2, .int (nI (g_agS M a + g_agR M a b))), (3, .int (nI a)), (4, .int (nI (vN M a))), (5, .int (nI (g_low w (vN M a + 2)))), (8, .int (nI b))]) hx hcd dL_rosters_105 hl (by decide) rfl (fun ls hl => ?_)
            refine lv_iload hx hcd dL_rosters_107 (lv_at hl 3 rfl) ?_
            refine lv_if_lt (tgt := 193) hx hcd dL_rosters_109 (by decide) (fun (c_109 : (g_st M a b) < 0) => absurd c_109 r1) (fun (c_109 : ¬ (g_st M a b) < 0) => ?_)
            refine lv_iload hx hcd dL_rosters_112 (lv_at hl 3 rfl) ?_
            refine lv_bipush (v := nI 15) hx hcd dL_rosters_114 (by decide) ?_
            refine lv_icmp_gt (tgt := 193) hx hcd dL_rosters_116 (by decide) (fun (c_116 : 15 < (g_st M a b)) => absurd c_116 r2) (fun (c_116 : ¬ 15 < (g_st M a b)) => ?_)
            refine lv_iload hx hcd dL_rosters_119 (lv_at hl 3 rfl) ?_
            refine lv_iconst (v := nI 5) hx hcd dL_rosters_121 (by decide) ?_
            refine lv_iand hx hcd dL_rosters_122 ?_
            refine lv_iconst (v := nI 5) hx hcd dL_rosters_123 (by decide) ?_
            refine lv_icmp_eq (tgt := 193) hx hcd dL_rosters_124 (by decide) (fun (c_124 : ((g_st M a b) &&& 5) = 5) => absurd c_124 r3) (fun (c_124 : ¬ ((g_st M a b) &&& 5) = 5) => ?_)
            refine lv_iload hx hcd dL_rosters_127 (lv_at hl 3 rfl) ?_
            refine lv_bipush (v := nI 10) hx hcd dL_rosters_129 (by decide) ?_
            refine lv_iand hx hcd dL_rosters_131 ?_
            refine lv_bipush (v := nI 10) hx hcd dL_rosters_132 (by decide) ?_
            refine lv_icmp_eq (tgt := 193) hx hcd dL_rosters_134 (by decide) (fun (c_134 : ((g_st M a b) &&& 10) = 10) => absurd c_134 r4) (fun (c_134 : ¬ ((g_st M a b) &&& 10) = 10) => ?_)
            refine lv_iload hx hcd dL_rosters_137 (lv_at hl 2 rfl) ?_
            refine lv_iload hx hcd dL_rosters_139 (lv_at hl 8 rfl) ?_
            refine kr_cgt (tgt := 193) hx hcd (by omega) (by omega) dL_rosters_141 (by decide) (fun (c_141 : vN M a < eN M a b) => absurd c_141 (by omega)) (fun (c_141 : eN M a b ≤ vN M a) => ?_)
            refine lv_iload hx hcd dL_rosters_144 (lv_at hl 2 rfl) ?_
            refine kr_zlt (tgt := 193) hx hcd (by omega) dL_rosters_146 (by decide) ?_
            refine kr_cut (D := D) (cl := vwCl) (A := AA) (ws := wX cI cB cW ob nw tr qs sc G M N S n L T) (H0 := ss.heap) (g := F0 mm 159 ls []) (fun kM_149 => ?_) (fun H locs hP hD hS => ?_)
            · refine lv_iload hx hcd dL_rosters_149 (lv_at hl 2 rfl) ?_
              refine kr_zne (tgt := 159) hx hcd (by omega) dL_rosters_151 (by decide) (fun (c_151 : 0 < eN M a b) => ?_) (fun (c_151 : eN M a b = 0) => ?_)
              · exact kM_149 _ _ hP hD hS
              · refine lv_iload hx hcd dL_rosters_154 (lv_at hl 3 rfl) ?_
                refine lv_if_ne (tgt := 193) hx hcd dL_rosters_156 (by decide) (fun (c_156 : ¬ (g_st M a b) = 0) => absurd c_156 (not_not_intro (bz c_151))) (fun (c_156 : (g_st M a b) = 0) => ?_)
                exact kM_149 _ _ hP hD hS
            · refine lv_aload_n hx hcd dL_rosters_159 rfl (lv_at hl 4 rfl) ?_
              refine lv_iload_n hx hcd dL_rosters_160 rfl (lv_at hl 7 rfl) ?_
              refine lv_iload hx hcd dL_rosters_161 (lv_at hl 10 rfl) ?_
              refine kl_S (As := [.ref (ob 0), .int (nI a), .int (nI b)]) (rest := []) (ws2 := wX cI cB cW ob nw tr qs sc G M N S n L T) ⟨hx, hcd, hml, hown, hts⟩ (c_L_agree__ok l hst D cI cB cW cL ob nw tr qs sc G N S n L T _ M a b hI (by omega) (by omega) (by omega)) (vx_cwSW 3 hts gL_rosters_L_agree rfl rfl rfl (by decide +kernel) ⟨Nat.le_of_ble_eq_true rfl, Nat.le_of_ble_eq_true rfl⟩) hZ hN hK hP hD hS hA [0, 1, 2, 3, 4, 5, 6, 7, 8, 9, 10, 11, 12, 13, 14, 15, 16, 17, 18, 19, 20, 21, 22, 23, 24, 25, 26, 27, 28, 29, 30, 31, 32, 33, 34, 35, 36, 37, 38, 39, 40, 41, 42, 43, 44, 45, 46, 47, 48, 49, 50, 51, 52, 53, 54, 55, 56, 57, 58, 59, 60, 61, 62, 63, 64, 65, 66, 67, 68, 69, 70, 71, 72, 73, 74, 75, 76, 77, 78, 79, 80, 81, 82, 83, 84, 85, 86, 87, 88, 89, 90, 91, 92, 93] wX_allC wX_nd wX_adr wX_all rfl hl.1 rfl (Nat.le_of_ble_eq_true rfl) dL_rosters_163 ⟨Nat.le_of_ble_eq_true rfl, Nat.le_of_ble_eq_true rfl⟩ (fun H locs hP hD hS => ?_)
              refine lv_aload_n hx hcd dL_rosters_166 rfl (lv_at hl 4 rfl) ?_
              refine lv_iload hx hcd dL_rosters_167 (lv_at hl 10 rfl) ?_
              refine lv_iload_n hx hcd dL_rosters_169 rfl (lv_at hl 7 rfl) ?_
              refine kl_S (As := [.ref (ob 0), .int (nI b), .int (nI a)]) (rest := [.int (kI (g_agr M a b))]) (ws2 := wX cI cB cW ob nw tr qs sc G M N S n L T) ⟨hx, hcd, hml, hown, hts⟩ (c_L_agree__ok l hst D cI cB cW cL ob nw tr qs sc G N S n L T _ M b a hI (by omega) (by omega) (by omega)) (vx_cwSW 3 hts gL_rosters_L_agree rfl rfl rfl (by decide +kernel) ⟨Nat.le_of_ble_eq_true rfl, Nat.le_of_ble_eq_true rfl⟩) hZ hN hK hP hD hS hA [0, 1, 2, 3, 4, 5, 6, 7, 8, 9, 10, 11, 12, 13, 14, 15, 16, 17, 18, 19, 20, 21, 22, 23, 24, 25, 26, 27, 28, 29, 30, 31, 32, 33, 34, 35, 36, 37, 38, 39, 40, 41, 42, 43, 44, 45, 46, 47, 48, 49, 50, 51, 52, 53, 54, 55, 56, 57, 58, 59, 60, 61, 62, 63, 64, 65, 66, 67, 68, 69, 70, 71, 72, 73, 74, 75, 76, 77, 78, 79, 80, 81, 82, 83, 84, 85, 86, 87, 88, 89, 90, 91, 92, 93] wX_allC wX_nd wX_adr wX_all rfl hl.1 rfl (Nat.le_of_ble_eq_true rfl) dL_rosters_170 ⟨Nat.le_of_ble_eq_true rfl, Nat.le_of_ble_eq_true rfl⟩ (fun H locs hP hD hS => ?_)
              refine kr_bcne (tgt := 193) hx hcd dL_rosters_173 (by decide) (fun (c_173 : ¬ g_agr M a b = g_agr M b a) => absurd c_173 (not_not_intro (agr_sym a b))) (fun (c_173 : g_agr M a b = g_agr M b a) => ?_)
              refine lv_aload_n hx hcd dL_rosters_176 rfl (lv_at hl 4 rfl) ?_
              refine lv_iload_n hx hcd dL_rosters_177 rfl (lv_at hl 7 rfl) ?_
              refine lv_iload hx hcd dL_rosters_178 (lv_at hl 10 rfl) ?_
              refine kl_S (As := [.ref (ob 0), .int (nI a), .int (nI b)]) (rest := []) (ws2 := wX cI cB cW ob nw tr qs sc G M N S n L T) ⟨hx, hcd, hml, hown, hts⟩ (c_L_areApart__ok l hst D cI cB cW cL ob nw tr qs sc G N S n L T _ M a b (by omega) (by omega) (by omega)) (vx_cwSW 3 hts gL_rosters_L_areApart rfl rfl rfl (by decide +kernel) ⟨Nat.le_of_ble_eq_true rfl, Nat.le_of_ble_eq_true rfl⟩) hZ hN hK hP hD hS hA [0, 1, 2, 3, 4, 5, 6, 7, 8, 9, 10, 11, 12, 13, 14, 15, 16, 17, 18, 19, 20, 21, 22, 23, 24, 25, 26, 27, 28, 29, 30, 31, 32, 33, 34, 35, 36, 37, 38, 39, 40, 41, 42, 43, 44, 45, 46, 47, 48, 49, 50, 51, 52, 53, 54, 55, 56, 57, 58, 59, 60, 61, 62, 63, 64, 65, 66, 67, 68, 69, 70, 71, 72, 73, 74, 75, 76, 77, 78, 79, 80, 81, 82, 83, 84, 85, 86, 87, 88, 89, 90, 91, 92, 93] wX_allC wX_nd wX_adr wX_all rfl hl.1 rfl (Nat.le_of_ble_eq_true rfl) dL_rosters_180 ⟨Nat.le_of_ble_eq_true rfl, Nat.le_of_ble_eq_true rfl⟩ (fun H locs hP hD hS => ?_)
              refine lv_aload_n hx hcd dL_rosters_183 rfl (lv_at hl 4 rfl) ?_
              refine lv_iload hx hcd dL_rosters_184 (lv_at hl 10 rfl) ?_
              refine lv_iload_n hx hcd dL_rosters_186 rfl (lv_at hl 7 rfl) ?_
              refine kl_S (As := [.ref (ob 0), .int (nI b), .int (nI a)]) (rest := [.int (kI (g_apart M a b))]) (ws2 := wX cI cB cW ob nw tr qs sc G M N S n L T) ⟨hx, hcd, hml, hown, hts⟩ (c_L_areApart__ok l hst D cI cB cW cL ob nw tr qs sc G N S n L T _ M b a (by omega) (by omega) (by omega)) (vx_cwSW 3 hts gL_rosters_L_areApart rfl rfl rfl (by decide +kernel) ⟨Nat.le_of_ble_eq_true rfl, Nat.le_of_ble_eq_true rfl⟩) hZ hN hK hP hD hS hA [0, 1, 2, 3, 4, 5, 6, 7, 8, 9, 10, 11, 12, 13, 14, 15, 16, 17, 18, 19, 20, 21, 22, 23, 24, 25, 26, 27, 28, 29, 30, 31, 32, 33, 34, 35, 36, 37, 38, 39, 40, 41, 42, 43, 44, 45, 46, 47, 48, 49, 50, 51, 52, 53, 54, 55, 56, 57, 58, 59, 60, 61, 62, 63, 64, 65, 66, 67, 68, 69, 70, 71, 72, 73, 74, 75, 76, 77, 78, 79, 80, 81, 82, 83, 84, 85, 86, 87, 88, 89, 90, 91, 92, 93] wX_allC wX_nd wX_adr wX_all rfl hl.1 rfl (Nat.le_of_ble_eq_true rfl) dL_rosters_187 ⟨Nat.le_of_ble_eq_true rfl, Nat.le_of_ble_eq_true rfl⟩ (fun H locs hP hD hS => ?_)
              refine lv_icmp_eq (tgt := 195) hx hcd dL_rosters_190 (by decide) (fun (c_190 : (kI (g_apart M a b)) = (kI (g_apart M b a))) => ?_) (fun (c_190 : ¬ (kI (g_apart M a b)) = (kI (g_apart M b a))) => absurd c_190 (not_not_intro (congrArg kI (apart_sym a b))))
              refine lv_iload_n hx hcd dL_rosters_195 rfl (lv_at hl 6 rfl) ?_
              refine kr_cut (D := D) (cl := vwCl) (A := AA) (ws := wX cI cB cW ob nw tr qs sc G M N S n L T) (H0 := ss.heap) (g := F0 mm 213 ls [.int (kI (decide (a < b) && g_agr M a b)), .int (nI (g_agS M a + g_agR M a b))]) (fun kM_196 => ?_) (fun H locs hP hD hS => ?_)
              · refine lv_iload_n hx hcd dL_rosters_196 rfl (lv_at hl 7 rfl) ?_
                refine lv_iload hx hcd dL_rosters_197 (lv_at hl 10 rfl) ?_
                refine kr_cge (tgt := 212) hx hcd (by omega) (by omega) dL_rosters_199 (by decide) (fun (c_199 : b ≤ a) => ?_) (fun (c_199 : a < b) => ?_)
                · refine lv_iconst (v := nI 0) hx hcd dL_rosters_212 (by decide) ?_
                  refine kr_top (w := kI (decide (a < b) && g_agr M a b)) (by first | exact ag_t c_199 | exact ag_f (Nat.not_lt.mpr c_199)) ?_
                  exact kM_196 _ _ hP hD hS
                · refine lv_aload_n hx hcd dL_rosters_202 rfl (lv_at hl 4 rfl) ?_
                  refine lv_iload_n hx hcd dL_rosters_203 rfl (lv_at hl 7 rfl) ?_
                  refine lv_iload hx hcd dL_rosters_204 (lv_at hl 10 rfl) ?_
                  refine kl_S (As := [.ref (ob 0), .int (nI a), .int (nI b)]) (rest := [.int (nI (g_agS M a + g_agR M a b))]) (ws2 := wX cI cB cW ob nw tr qs sc G M N S n L T) ⟨hx, hcd, hml, hown, hts⟩ (c_L_agree__ok l hst D cI cB cW cL ob nw tr qs sc G N S n L T _ M a b hI (by omega) (by omega) (by omega)) (vx_cwSW 3 hts gL_rosters_L_agree rfl rfl rfl (by decide +kernel) ⟨Nat.le_of_ble_eq_true rfl, Nat.le_of_ble_eq_true rfl⟩) hZ hN hK hP hD hS hA [0, 1, 2, 3, 4, 5, 6, 7, 8, 9, 10, 11, 12, 13, 14, 15, 16, 17, 18, 19, 20, 21, 22, 23, 24, 25, 26, 27, 28, 29, 30, 31, 32, 33, 34, 35, 36, 37, 38, 39, 40, 41, 42, 43, 44, 45, 46, 47, 48, 49, 50, 51, 52, 53, 54, 55, 56, 57, 58, 59, 60, 61, 62, 63, 64, 65, 66, 67, 68, 69, 70, 71, 72, 73, 74, 75, 76, 77, 78, 79, 80, 81, 82, 83, 84, 85, 86, 87, 88, 89, 90, 91, 92, 93] wX_allC wX_nd wX_adr wX_all rfl hl.1 rfl (Nat.le_of_ble_eq_true rfl) dL_rosters_206 ⟨Nat.le_of_ble_eq_true rfl, Nat.le_of_ble_eq_true rfl⟩ (fun H locs hP hD hS => ?_)
                  refine lv_goto (tgt := 213) hx hcd dL_rosters_209 (by decide) ?_
                  refine kr_top (w := kI (decide (a < b) && g_agr M a b)) (by first | exact ag_t c_199 | exact ag_f (Nat.not_lt.mpr c_199)) ?_
                  exact kM_196 _ _ hP hD hS
              · refine lv_iadd hx hcd dL_rosters_213 ?_
                refine kr_top (w := nI (g_agS M a + g_agR M a (b + 1))) ag_up ?_
                refine lv_istore_n (lv' := [(2, .int (nI (g_agS M a + g_agR M a (b + 1)))), (7, .int (kI (g_sn M a (b + 1)))), (6, .int (nI (g_nw M a (g_low w (vN M a + 2)) (b + 1)))), (10, .int (nI (eN M a b))), (9, .int (g_st M a b)), (0, .ref (ob 0)), (1, .int w), (3, .int (nI a)), (4, .int (nI (vN M a))), (5, .int (nI (g_low w (vN M a + 2)))), (8, .int (nI b))]) hx hcd dL_rosters_214 rfl hl (by decide) rfl (fun ls hl => ?_)
                refine kr_iinc (lv' := [(8, .int (nI (b + 1))), (2, .int (nI (g_agS M a + g_agR M a (b + 1)))), (7, .int (kI (g_sn M a (b + 1)))), (6, .int (nI (g_nw M a (g_low w (vN M a + 2)) (b + 1)))), (10, .int (nI (eN M a b))), (9, .int (g_st M a b)), (0, .ref (ob 0)), (1, .int w), (3, .int (nI a)), (4, .int (nI (vN M a))), (5, .int (nI (g_low w (vN M a + 2))))]) hx hcd dL_rosters_215 hl (k := 10) rfl (by decide) rfl (fun ls hl => ?_)
                refine lv_goto (tgt := 37) hx hcd dL_rosters_218 (by decide) ?_
                have hl : lv_has ls 11 [(0, .ref (ob 0)), (1, .int w), (2, .int (nI (g_agS M a + g_agR M a (b + 1)))), (3, .int (nI a)), (4, .int (nI (vN M a))), (5, .int (nI (g_low w (vN M a + 2)))), (6, .int (nI (g_nw M a (g_low w (vN M a + 2)) (b + 1)))), (7, .int (kI (g_sn M a (b + 1)))), (8, .int (nI (b + 1)))] := lv_sub hl [6, 7, 1, 8, 9, 10, 3, 2, 0] rfl
                have e9 : ([(0, .ref (ob 0)), (1, .int w), (2, .int (nI (g_agS M a + g_agR M a (b + 1)))), (3, .int (nI a)), (4, .int (nI (vN M a))), (5, .int (nI (g_low w (vN M a + 2)))), (6, .int (nI (g_nw M a (g_low w (vN M a + 2)) (b + 1)))), (7, .int (kI (g_sn M a (b + 1)))), (8, .int (nI (b + 1)))] : List (Nat × Value)) = [(0, .ref (ob 0)), (1, .int w), (2, .int (nI (g_agS M a + g_agR M a (b + 1)))), (3, .int (nI a)), (4, .int (nI (vN M a))), (5, .int (nI (g_low w (vN M a + 2)))), (6, .int (nI (g_nw M a (g_low w (vN M a + 2)) (b + 1)))), (7, .int (kI (g_sn M a (b + 1)))), (8, .int (nI (b + 1)))] := by first | rfl | rw [nw_eq c_47, sn_eq c_47, ag_eq c_47]
                exact ih_37 H locs ls hP hD hS (e9 ▸ hl)
      · refine lv_goto (tgt := 215) hx hcd dL_rosters_50 (by decide) ?_
        refine kr_iinc (lv' := [(8, .int (nI (b + 1))), (0, .ref (ob 0)), (1, .int w), (2, .int (nI (g_agS M a + g_agR M a b))), (3, .int (nI a)), (4, .int (nI (vN M a))), (5, .int (nI (g_low w (vN M a + 2)))), (6, .int (nI (g_nw M a (g_low w (vN M a + 2)) b))), (7, .int (kI (g_sn M a b)))]) hx hcd dL_rosters_215 hl (k := 8) rfl (by decide) rfl (fun ls hl => ?_)
        refine lv_goto (tgt := 37) hx hcd dL_rosters_218 (by decide) ?_
        have hl : lv_has ls 11 [(0, .ref (ob 0)), (1, .int w), (2, .int (nI (g_agS M a + g_agR M a b))), (3, .int (nI a)), (4, .int (nI (vN M a))), (5, .int (nI (g_low w (vN M a + 2)))), (6, .int (nI (g_nw M a (g_low w (vN M a + 2)) b))), (7, .int (kI (g_sn M a b))), (8, .int (nI (b + 1)))] := lv_sub hl [1, 2, 3, 4, 5, 6, 7, 8, 0] rfl
        have e9 : ([(0, .ref (ob 0)), (1, .int w), (2, .int (nI (g_agS M a + g_agR M a b))), (3, .int (nI a)), (4, .int (nI (vN M a))), (5, .int (nI (g_low w (vN M a + 2)))), (6, .int (nI (g_nw M a (g_low w (vN M a + 2)) b))), (7, .int (kI (g_sn M a b))), (8, .int (nI (b + 1)))] : List (Nat × Value)) = [(0, .ref (ob 0)), (1, .int w), (2, .int (nI (g_agS M a + g_agR M a (b + 1)))), (3, .int (nI a)), (4, .int (nI (vN M a))), (5, .int (nI (g_low w (vN M a + 2)))), (6, .int (nI (g_nw M a (g_low w (vN M a + 2)) (b + 1)))), (7, .int (kI (g_sn M a (b + 1)))), (8, .int (nI (b + 1)))] := by first | rfl | rw [nw_eq c_47, sn_eq c_47, ag_eq c_47]
        exact ih_37 H locs ls hP hD hS (e9 ▸ hl)
    · have hl : lv_has ls 11 [(0, .ref (ob 0)), (1, .int w), (2, .int (nI (g_agS M a + g_agR M a 6))), (3, .int (nI a)), (4, .int (nI (vN M a))), (5, .int (nI (g_low w (vN M a + 2)))), (6, .int (nI (g_nw M a (g_low w (vN M a + 2)) 6))), (7, .int (kI (g_sn M a 6))), (8, .int (nI 6))] := hl
      have bn := nw_le (M := M) (a := a) (v := g_low w (vN M a + 2)) 6
      refine lv_iload hx hcd dL_rosters_37 (lv_at hl 8 rfl) ?_
      refine lv_bipush (v := nI 6) hx hcd dL_rosters_39 (by decide) ?_
      refine kr_cge (tgt := 221) hx hcd (by omega) (by omega) dL_rosters_41 (by decide) (fun (c_41 : 6 ≤ 6) => ?_) (fun (c_41 : 6 < 6) => absurd c_41 (by omega))
      refine lv_iload hx hcd dL_rosters_221 (lv_at hl 7 rfl) ?_
      refine kr_beq (tgt := 248) hx hcd dL_rosters_223 (by decide) (fun (c_223 : g_sn M a 6 = false) => absurd c_223 (by rw [sn_true hX hB ha]; decide)) (fun (c_223 : g_sn M a 6 = true) => ?_)
      refine lv_aload_n hx hcd dL_rosters_226 rfl (lv_at hl 0 rfl) ?_
      refine lv_iload_n hx hcd dL_rosters_227 rfl (lv_at hl 3 rfl) ?_
      refine lv_iload hx hcd dL_rosters_228 (lv_at hl 5 rfl) ?_
      refine kl_S (As := [.ref (ob 0), .int (nI a), .int (nI (g_low w (vN M a + 2)))]) (rest := []) (ws2 := wX cI cB cW ob nw tr qs sc G M N S n L T) ⟨hx, hcd, hml, hown, hts⟩ (c_L_changedSince__ok l hst D cI cB cW cL ob nw tr qs sc G N S n L T _ M a (nI (g_low w (vN M a + 2))) (by omega) (nI_pos (by omega))) (vx_cwSW 3 hts gL_rosters_L_changedSince rfl rfl rfl (by decide +kernel) ⟨Nat.le_of_ble_eq_true rfl, Nat.le_of_ble_eq_true rfl⟩) hZ hN hK hP hD hS hA [0, 1, 2, 3, 4, 5, 6, 7, 8, 9, 10, 11, 12, 13, 14, 15, 16, 17, 18, 19, 20, 21, 22, 23, 24, 25, 26, 27, 28, 29, 30, 31, 32, 33, 34, 35, 36, 37, 38, 39, 40, 41, 42, 43, 44, 45, 46, 47, 48, 49, 50, 51, 52, 53, 54, 55, 56, 57, 58, 59, 60, 61, 62, 63, 64, 65, 66, 67, 68, 69, 70, 71, 72, 73, 74, 75, 76, 77, 78, 79, 80, 81, 82, 83, 84, 85, 86, 87, 88, 89, 90, 91, 92, 93] wX_allC wX_nd wX_adr wX_all rfl hl.1 rfl (Nat.le_of_ble_eq_true rfl) dL_rosters_230 ⟨Nat.le_of_ble_eq_true rfl, Nat.le_of_ble_eq_true rfl⟩ (fun H locs hP hD hS => ?_)
      refine kr_top (w := nI (g_nw M a (g_low w (vN M a + 2)) 6)) (congrArg nI (chg_nw hX hB ha (by omega) 6 (by omega))) ?_
      refine lv_iload hx hcd dL_rosters_233 (lv_at hl 6 rfl) ?_
      refine kr_cne (tgt := 248) hx hcd (by omega) (by omega) dL_rosters_235 (by decide) (fun (c_235 : ¬ g_nw M a (g_low w (vN M a + 2)) 6 = g_nw M a (g_low w (vN M a + 2)) 6) => absurd c_235 (not_not_intro rfl)) (fun (c_235 : g_nw M a (g_low w (vN M a + 2)) 6 = g_nw M a (g_low w (vN M a + 2)) 6) => ?_)
      refine lv_aload_n hx hcd dL_rosters_238 rfl (lv_at hl 0 rfl) ?_
      refine lv_iload_n hx hcd dL_rosters_239 rfl (lv_at hl 3 rfl) ?_
      refine lv_iload hx hcd dL_rosters_240 (lv_at hl 4 rfl) ?_
      refine kl_S (As := [.ref (ob 0), .int (nI a), .int (nI (vN M a))]) (rest := []) (ws2 := wX cI cB cW ob nw tr qs sc G M N S n L T) ⟨hx, hcd, hml, hown, hts⟩ (c_L_changedSince__ok l hst D cI cB cW cL ob nw tr qs sc G N S n L T _ M a (nI (vN M a)) (by omega) (nI_pos (by omega))) (vx_cwSW 3 hts gL_rosters_L_changedSince rfl rfl rfl (by decide +kernel) ⟨Nat.le_of_ble_eq_true rfl, Nat.le_of_ble_eq_true rfl⟩) hZ hN hK hP hD hS hA [0, 1, 2, 3, 4, 5, 6, 7, 8, 9, 10, 11, 12, 13, 14, 15, 16, 17, 18, 19, 20, 21, 22, 23, 24, 25, 26, 27, 28, 29, 30, 31, 32, 33, 34, 35, 36, 37, 38, 39, 40, 41, 42, 43, 44, 45, 46, 47, 48, 49, 50, 51, 52, 53, 54, 55, 56, 57, 58, 59, 60, 61, 62, 63, 64, 65, 66, 67, 68, 69, 70, 71, 72, 73, 74, 75, 76, 77, 78, 79, 80, 81, 82, 83, 84, 85, 86, 87, 88, 89, 90, 91, 92, 93] wX_allC wX_nd wX_adr wX_all rfl hl.1 rfl (Nat.le_of_ble_eq_true rfl) dL_rosters_242 ⟨Nat.le_of_ble_eq_true rfl, Nat.le_of_ble_eq_true rfl⟩ (fun H locs hP hD hS => ?_)
      refine kr_top (w := nI 0) (congrArg nI (chg_top hX hB ha)) ?_
      refine kr_zeq (tgt := 250) hx hcd (by omega) dL_rosters_245 (by decide) (fun (c_245 : 0 = 0) => ?_) (fun (c_245 : 0 < 0) => absurd c_245 (by omega))
      refine kr_iinc (lv' := [(3, .int (nI (a + 1))), (0, .ref (ob 0)), (1, .int w), (2, .int (nI (g_agS M a + g_agR M a 6))), (4, .int (nI (vN M a))), (5, .int (nI (g_low w (vN M a + 2)))), (6, .int (nI (g_nw M a (g_low w (vN M a + 2)) 6))), (7, .int (kI (g_sn M a 6))), (8, .int (nI 6))]) hx hcd dL_rosters_250 hl (k := 3) rfl (by decide) rfl (fun ls hl => ?_)
      refine lv_goto (tgt := 4) hx hcd dL_rosters_253 (by decide) ?_
      have hl : lv_has ls 11 [(0, .ref (ob 0)), (1, .int w), (2, .int (nI (g_agS M a + g_agR M a 6))), (3, .int (nI (a + 1)))] := lv_sub hl [1, 2, 3, 0] rfl
      have e9 : ([(0, .ref (ob 0)), (1, .int w), (2, .int (nI (g_agS M a + g_agR M a 6))), (3, .int (nI (a + 1)))] : List (Nat × Value)) = [(0, .ref (ob 0)), (1, .int w), (2, .int (nI (g_agS M (a + 1)))), (3, .int (nI (a + 1)))] := by rfl
      exact ih_4 H locs ls hP hD hS (e9 ▸ hl)
  · have hl : lv_has ls 11 [(0, .ref (ob 0)), (1, .int w), (2, .int (nI (g_agS M 6))), (3, .int (nI 6))] := hl
    refine lv_iload_n hx hcd dL_rosters_4 rfl (lv_at hl 3 rfl) ?_
    refine lv_bipush (v := nI 6) hx hcd dL_rosters_5 (by decide) ?_
    refine kr_cge (tgt := 256) hx hcd (by omega) (by omega) dL_rosters_7 (by decide) (fun (c_7 : 6 ≤ 6) => ?_) (fun (c_7 : 6 < 6) => absurd c_7 (by omega))
    refine lv_iload_n hx hcd dL_rosters_256 rfl (lv_at hl 2 rfl) ?_
    refine lv_aload_n hx hcd dL_rosters_257 rfl (lv_at hl 0 rfl) ?_
    refine kr_Vi (As := []) (rest := [.int (nI (g_agS M 6))]) (ws2 := wX cI cB cW ob nw tr qs sc G M N S n L T) (q := (RX6, TX6, 5)) ⟨hx, hcd, hml, hown, hts⟩ (c_X6_agreeing__ok l D cI cB cW cL ob nw tr qs sc G N S n L T _ M hI) (cwV 0 hts gL_rosters_X6_agreeing rfl rfl rfl (by decide +kernel) ⟨Nat.le_of_ble_eq_true rfl, Nat.le_of_ble_eq_true rfl⟩) hK hP hD hS hA [0, 1, 2, 3, 4, 5, 6, 7, 8, 9, 10, 11, 12, 13, 14, 15, 16, 17, 18, 19, 20, 21, 22, 23, 24, 25, 26, 27, 28, 29, 30, 31, 32, 33, 34, 35, 36, 37, 38, 39, 40, 41, 42, 43, 44, 45, 46, 47, 48, 49, 50, 51, 52, 53, 54, 55, 56, 57, 58, 59, 60, 61, 62, 63, 64, 65, 66, 67, 68, 69, 70, 71, 72, 73, 74, 75, 76, 77, 78, 79, 80, 81, 82, 83, 84, 85, 86, 87, 88, 89, 90, 91, 92, 93] wX_allC wX_nd wX_adr wX_all 0 rfl rfl rfl hl.1 rfl (Nat.le_of_ble_eq_true rfl) dL_rosters_258 ⟨Nat.le_of_ble_eq_true rfl, Nat.le_of_ble_eq_true rfl⟩ (fun H locs hP hD hS => ?_)
    refine kr_cne (tgt := 268) hx hcd (by omega) (by omega) dL_rosters_261 (by decide) (fun (c_261 : ¬ g_agS M 6 = g_pairs M) => absurd c_261 (not_not_intro agS_pairs)) (fun (c_261 : g_agS M 6 = g_pairs M) => ?_)
    refine lv_iconst (v := nI 1) hx hcd dL_rosters_264 (by decide) ?_
    refine lv_goto (tgt := 269) hx hcd dL_rosters_265 (by decide) ?_
    exact kr_zret hx hcd hr hlocks hK hP hD hS rfl rfl rfl dL_rosters_269
