set_option maxHeartbeats 4000000 in
set_option maxRecDepth 100000 in
theorem c_L_messages (l : Launch) (hst : l.stackTraces = false) (D : va_G) (cI cB cW cL : ClassId) (ob nw tr : Nat → Nat) (qs : Nat → Nat → Nat) (sc : Nat → Nat) (G : Nat → Option Nat) (N : kM) (S : Nat → kM) (n L : Nat) (T : Nat → Int32) (sz : Nat) (M : kM) (B : Nat) (hI : kInv M) (hX : oX 6 B M) : kMg l yL_messages wsL_messages ({ frames := 9, cells := 1, slots := 6, locals := 164 }) D vwCl (kT cI cB cW cL) sz [.ref (ob 0)] (wX cI cB cW ob nw tr qs sc G M N S n L T) (wX cI cB cW ob nw tr qs sc G M (if 40 < wyN M then g_del 1000 M else g_ndT M (wyN M)) S n L T) 1 1 6 := by
  refine kr_ofg (cc := cL_messages) (maxL := 5) (ret := (some .boolean)) (by decide) rfl (Nat.le_of_ble_eq_true rfl) ?_
  intro pp ee ss mm args below meth cc AA ls hx hcd hr hts hown hlocks hml hZ hN hK hP hD hA hl
  have hS : va_S AA ss.heap ss.heap [] := va_S.rf
  have hown : ss.vm.findClass RL = some mm.cls := hown
  have hl : lv_has ls 5 [(0, .ref (ob 0))] := hl
  have b577 := i_wyle hI
  have bd := delC_le 1000 M
  have bp := pairs_le (M := g_del 1000 M)
  have bq := pairs_le (M := M)
  refine lv_aload_n hx hcd dL_messages_0 rfl (lv_at hl 0 rfl) ?_
  refine kr_Vi (As := []) (rest := []) (ws2 := wX cI cB cW ob nw tr qs sc G M N S n L T) (q := (RX6, TX6, 5)) ⟨hx, hcd, hml, hown, hts⟩ (c_X6_underWay__ok l D cI cB cW cL ob nw tr qs sc G N S n L T _ M hI) (cwV 0 hts gL_messages_X6_underWay rfl rfl rfl (by decide +kernel) ⟨Nat.le_of_ble_eq_true rfl, Nat.le_of_ble_eq_true rfl⟩) hK hP hD hS hA [0, 1, 2, 3, 4, 5, 6, 7, 8, 9, 10, 11, 12, 13, 14, 15, 16, 17, 18, 19, 20, 21, 22, 23, 24, 25, 26, 27, 28, 29, 30, 31, 32, 33, 34, 35, 36, 37, 38, 39, 40, 41, 42, 43, 44, 45, 46, 47, 48, 49, 50, 51, 52, 53, 54, 55, 56, 57, 58, 59, 60, 61, 62, 63, 64, 65, 66, 67, 68, 69, 70, 71, 72, 73, 74, 75, 76, 77, 78, 79, 80, 81, 82, 83, 84, 85, 86, 87, 88, 89, 90, 91, 92, 93] wX_allC wX_nd wX_adr wX_all 0 rfl rfl rfl hl.1 rfl (Nat.le_of_ble_eq_true rfl) dL_messages_1 ⟨Nat.le_of_ble_eq_true rfl, Nat.le_of_ble_eq_true rfl⟩ (fun H locs hP hD hS => ?_)
  refine lv_istore_n (lv' := [(1, .int (nI (wyN M))), (0, .ref (ob 0))]) hx hcd dL_messages_4 rfl hl (by decide) rfl (fun ls hl => ?_)
  refine lv_iconst (v := nI 0) hx hcd dL_messages_5 (by decide) ?_
  refine lv_istore_n (lv' := [(2, .int (nI 0)), (1, .int (nI (wyN M))), (0, .ref (ob 0))]) hx hcd dL_messages_6 rfl hl (by decide) rfl (fun ls hl => ?_)
  refine kr_up (fun i => wX cI cB cW ob nw tr qs sc G M N S n L T) (fun i => [(0, .ref (ob 0)), (1, .int (nI (wyN M))), (2, .int (nI i))]) (wyN M) (nL := 5) (fun i hi ih_7 H locs ls hP hD hS hl => ?_) (fun H locs ls hP hD hS hl => ?_) 0 (by omega) hP hD hS (lv_sub hl [2, 1, 0] rfl)
  · have hl : lv_has ls 5 [(0, .ref (ob 0)), (1, .int (nI (wyN M))), (2, .int (nI i))] := hl
    obtain ⟨m1, m2, m3, m4⟩ := msg_f hX hi
    have m5 := msg_d (k := i) hX
    refine lv_iload_n hx hcd dL_messages_7 rfl (lv_at hl 2 rfl) ?_
    refine lv_iload_n hx hcd dL_messages_8 rfl (lv_at hl 1 rfl) ?_
    refine kr_cge (tgt := 134) hx hcd (by omega) (by omega) dL_messages_9 (by decide) (fun (c_9 : wyN M ≤ i) => absurd c_9 (by omega)) (fun (c_9 : i < wyN M) => ?_)
    refine lv_aload_n hx hcd dL_messages_12 rfl (lv_at hl 0 rfl) ?_
    refine lv_iload_n hx hcd dL_messages_13 rfl (lv_at hl 2 rfl) ?_
    refine lv_iconst (v := nI 0) hx hcd dL_messages_14 (by decide) ?_
    refine kl_S (As := [.ref (ob 0), .int (nI i), .int (nI 0)]) (rest := []) (ws2 := wX cI cB cW ob nw tr qs sc G M N S n L T) ⟨hx, hcd, hml, hown, hts⟩ (c_L_message__ok l hst D cI cB cW cL ob nw tr qs sc G N S n L T _ M i 0 hI (by omega) (by omega)) (vx_cwSW 3 hts gL_messages_L_message rfl rfl rfl (by decide +kernel) ⟨Nat.le_of_ble_eq_true rfl, Nat.le_of_ble_eq_true rfl⟩) hZ hN hK hP hD hS hA [0, 1, 2, 3, 4, 5, 6, 7, 8, 9, 10, 11, 12, 13, 14, 15, 16, 17, 18, 19, 20, 21, 22, 23, 24, 25, 26, 27, 28, 29, 30, 31, 32, 33, 34, 35, 36, 37, 38, 39, 40, 41, 42, 43, 44, 45, 46, 47, 48, 49, 50, 51, 52, 53, 54, 55, 56, 57, 58, 59, 60, 61, 62, 63, 64, 65, 66, 67, 68, 69, 70, 71, 72, 73, 74, 75, 76, 77, 78, 79, 80, 81, 82, 83, 84, 85, 86, 87, 88, 89, 90, 91, 92, 93] wX_allC wX_nd wX_adr wX_all rfl hl.1 rfl (Nat.le_of_ble_eq_true rfl) dL_messages_15 ⟨Nat.le_of_ble_eq_true rfl, Nat.le_of_ble_eq_true rfl⟩ (fun H locs hP hD hS => ?_)
    refine kr_top (w := nI (g_msg M i % 8)) rfl ?_
    refine lv_istore_n (lv' := [(3, .int (nI (g_msg M i % 8))), (0, .ref (ob 0)), (1, .int (nI (wyN M))), (2, .int (nI i))]) hx hcd dL_messages_18 rfl hl (by decide) rfl (fun ls hl => ?_)
    refine kr_cut (D := D) (cl := vwCl) (A := AA) (ws := wX cI cB cW ob nw tr qs sc G M N S n L T) (H0 := ss.heap) (g := F0 mm 34 ls [.int (kI (decide (g_msg M i % 8 = 4 ∨ g_msg M i % 8 = 5)))]) (fun kM_19 => ?_) (fun H locs hP hD hS => ?_)
    · refine lv_iload_n hx hcd dL_messages_19 rfl (lv_at hl 0 rfl) ?_
      refine lv_iconst (v := nI 4) hx hcd dL_messages_20 (by decide) ?_
      refine kr_ceq (tgt := 29) hx hcd (by omega) (by omega) dL_messages_21 (by decide) (fun (c_21 : g_msg M i % 8 = 4) => ?_) (fun (c_21 : ¬ g_msg M i % 8 = 4) => ?_)
      · refine lv_iconst (v := nI 1) hx hcd dL_messages_29 (by decide) ?_
        refine lv_goto (tgt := 34) hx hcd dL_messages_30 (by decide) ?_
        refine kr_top (w := kI (decide (g_msg M i % 8 = 4 ∨ g_msg M i % 8 = 5))) (by first | exact kI_pt (Or.inl c_21) | exact kI_pt (Or.inr c_26) | exact kI_pf (fun q => q.elim c_21 c_26)) ?_
        exact kM_19 _ _ hP hD hS
      · refine lv_iload_n hx hcd dL_messages_24 rfl (lv_at hl 0 rfl) ?_
        refine lv_iconst (v := nI 5) hx hcd dL_messages_25 (by decide) ?_
        refine kr_cne (tgt := 33) hx hcd (by omega) (by omega) dL_messages_26 (by decide) (fun (c_26 : ¬ g_msg M i % 8 = 5) => ?_) (fun (c_26 : g_msg M i % 8 = 5) => ?_)
        · refine lv_iconst (v := nI 0) hx hcd dL_messages_33 (by decide) ?_
          refine kr_top (w := kI (decide (g_msg M i % 8 = 4 ∨ g_msg M i % 8 = 5))) (by first | exact kI_pt (Or.inl c_21) | exact kI_pt (Or.inr c_26) | exact kI_pf (fun q => q.elim c_21 c_26)) ?_
          exact kM_19 _ _ hP hD hS
        · refine lv_iconst (v := nI 1) hx hcd dL_messages_29 (by decide) ?_
          refine lv_goto (tgt := 34) hx hcd dL_messages_30 (by decide) ?_
          refine kr_top (w := kI (decide (g_msg M i % 8 = 4 ∨ g_msg M i % 8 = 5))) (by first | exact kI_pt (Or.inl c_21) | exact kI_pt (Or.inr c_26) | exact kI_pf (fun q => q.elim c_21 c_26)) ?_
          exact kM_19 _ _ hP hD hS
    · refine lv_istore (lv' := [(4, .int (kI (decide (g_msg M i % 8 = 4 ∨ g_msg M i % 8 = 5)))), (3, .int (nI (g_msg M i % 8))), (0, .ref (ob 0)), (1, .int (nI (wyN M))), (2, .int (nI i))]) hx hcd dL_messages_34 hl (by decide) rfl (fun ls hl => ?_)
      refine lv_iload_n hx hcd dL_messages_36 rfl (lv_at hl 1 rfl) ?_
      refine kr_zlt (tgt := 126) hx hcd (by omega) dL_messages_37 (by decide) ?_
      refine lv_iload_n hx hcd dL_messages_40 rfl (lv_at hl 1 rfl) ?_
      refine lv_bipush (v := nI 6) hx hcd dL_messages_41 (by decide) ?_
      refine kr_cgt (tgt := 126) hx hcd (by omega) (by omega) dL_messages_43 (by decide) (fun (c_43 : 6 < g_msg M i % 8) => absurd c_43 (by omega)) (fun (c_43 : g_msg M i % 8 ≤ 6) => ?_)
      refine lv_aload_n hx hcd dL_messages_46 rfl (lv_at hl 2 rfl) ?_
      refine lv_iload_n hx hcd dL_messages_47 rfl (lv_at hl 4 rfl) ?_
      refine lv_iconst (v := nI 1) hx hcd dL_messages_48 (by decide) ?_
      refine kl_S (As := [.ref (ob 0), .int (nI i), .int (nI 1)]) (rest := []) (ws2 := wX cI cB cW ob nw tr qs sc G M N S n L T) ⟨hx, hcd, hml, hown, hts⟩ (c_L_message__ok l hst D cI cB cW cL ob nw tr qs sc G N S n L T _ M i 1 hI (by omega) (by omega)) (vx_cwSW 3 hts gL_messages_L_message rfl rfl rfl (by decide +kernel) ⟨Nat.le_of_ble_eq_true rfl, Nat.le_of_ble_eq_true rfl⟩) hZ hN hK hP hD hS hA [0, 1, 2, 3, 4, 5, 6, 7, 8, 9, 10, 11, 12, 13, 14, 15, 16, 17, 18, 19, 20, 21, 22, 23, 24, 25, 26, 27, 28, 29, 30, 31, 32, 33, 34, 35, 36, 37, 38, 39, 40, 41, 42, 43, 44, 45, 46, 47, 48, 49, 50, 51, 52, 53, 54, 55, 56, 57, 58, 59, 60, 61, 62, 63, 64, 65, 66, 67, 68, 69, 70, 71, 72, 73, 74, 75, 76, 77, 78, 79, 80, 81, 82, 83, 84, 85, 86, 87, 88, 89, 90, 91, 92, 93] wX_allC wX_nd wX_adr wX_all rfl hl.1 rfl (Nat.le_of_ble_eq_true rfl) dL_messages_49 ⟨Nat.le_of_ble_eq_true rfl, Nat.le_of_ble_eq_true rfl⟩ (fun H locs hP hD hS => ?_)
      refine kr_top (w := nI (g_msg M i / 8 % 8)) rfl ?_
      refine lv_aload_n hx hcd dL_messages_52 rfl (lv_at hl 2 rfl) ?_
      refine lv_iload_n hx hcd dL_messages_53 rfl (lv_at hl 4 rfl) ?_
      refine lv_iconst (v := nI 2) hx hcd dL_messages_54 (by decide) ?_
      refine kl_S (As := [.ref (ob 0), .int (nI i), .int (nI 2)]) (rest := [.int (nI (g_msg M i / 8 % 8))]) (ws2 := wX cI cB cW ob nw tr qs sc G M N S n L T) ⟨hx, hcd, hml, hown, hts⟩ (c_L_message__ok l hst D cI cB cW cL ob nw tr qs sc G N S n L T _ M i 2 hI (by omega) (by omega)) (vx_cwSW 3 hts gL_messages_L_message rfl rfl rfl (by decide +kernel) ⟨Nat.le_of_ble_eq_true rfl, Nat.le_of_ble_eq_true rfl⟩) hZ hN hK hP hD hS hA [0, 1, 2, 3, 4, 5, 6, 7, 8, 9, 10, 11, 12, 13, 14, 15, 16, 17, 18, 19, 20, 21, 22, 23, 24, 25, 26, 27, 28, 29, 30, 31, 32, 33, 34, 35, 36, 37, 38, 39, 40, 41, 42, 43, 44, 45, 46, 47, 48, 49, 50, 51, 52, 53, 54, 55, 56, 57, 58, 59, 60, 61, 62, 63, 64, 65, 66, 67, 68, 69, 70, 71, 72, 73, 74, 75, 76, 77, 78, 79, 80, 81, 82, 83, 84, 85, 86, 87, 88, 89, 90, 91, 92, 93] wX_allC wX_nd wX_adr wX_all rfl hl.1 rfl (Nat.le_of_ble_eq_true rfl) dL_messages_55 ⟨Nat.le_of_ble_eq_true rfl, Nat.le_of_ble_eq_true rfl⟩ (fun H locs hP hD hS => ?_)
      refine kr_top (w := nI (g_msg M i / 64 % 8)) rfl ?_
      refine kr_ceq (tgt := 126) hx hcd (by omega) (by omega) dL_messages_58 (by decide) (fun (c_58 : g_msg M i / 8 % 8 = g_msg M i / 64 % 8) => absurd c_58 m4) (fun (c_58 : ¬ g_msg M i / 8 % 8 = g_msg M i / 64 % 8) => ?_)
      refine lv_aload_n hx hcd dL_messages_61 rfl (lv_at hl 2 rfl) ?_
      refine lv_iload_n hx hcd dL_messages_62 rfl (lv_at hl 4 rfl) ?_
      refine lv_iconst (v := nI 1) hx hcd dL_messages_63 (by decide) ?_
      refine kl_S (As := [.ref (ob 0), .int (nI i), .int (nI 1)]) (rest := []) (ws2 := wX cI cB cW ob nw tr qs sc G M N S n L T) ⟨hx, hcd, hml, hown, hts⟩ (c_L_message__ok l hst D cI cB cW cL ob nw tr qs sc G N S n L T _ M i 1 hI (by omega) (by omega)) (vx_cwSW 3 hts gL_messages_L_message rfl rfl rfl (by decide +kernel) ⟨Nat.le_of_ble_eq_true rfl, Nat.le_of_ble_eq_true rfl⟩) hZ hN hK hP hD hS hA [0, 1, 2, 3, 4, 5, 6, 7, 8, 9, 10, 11, 12, 13, 14, 15, 16, 17, 18, 19, 20, 21, 22, 23, 24, 25, 26, 27, 28, 29, 30, 31, 32, 33, 34, 35, 36, 37, 38, 39, 40, 41, 42, 43, 44, 45, 46, 47, 48, 49, 50, 51, 52, 53, 54, 55, 56, 57, 58, 59, 60, 61, 62, 63, 64, 65, 66, 67, 68, 69, 70, 71, 72, 73, 74, 75, 76, 77, 78, 79, 80, 81, 82, 83, 84, 85, 86, 87, 88, 89, 90, 91, 92, 93] wX_allC wX_nd wX_adr wX_all rfl hl.1 rfl (Nat.le_of_ble_eq_true rfl) dL_messages_64 ⟨Nat.le_of_ble_eq_true rfl, Nat.le_of_ble_eq_true rfl⟩ (fun H locs hP hD hS => ?_)
      refine kr_top (w := nI (g_msg M i / 8 % 8)) rfl ?_
      refine kr_zlt (tgt := 126) hx hcd (by omega) dL_messages_67 (by decide) ?_
      refine lv_aload_n hx hcd dL_messages_70 rfl (lv_at hl 2 rfl) ?_
      refine lv_iload_n hx hcd dL_messages_71 rfl (lv_at hl 4 rfl) ?_
      refine lv_iconst (v := nI 2) hx hcd dL_messages_72 (by decide) ?_
      refine kl_S (As := [.ref (ob 0), .int (nI i), .int (nI 2)]) (rest := []) (ws2 := wX cI cB cW ob nw tr qs sc G M N S n L T) ⟨hx, hcd, hml, hown, hts⟩ (c_L_message__ok l hst D cI cB cW cL ob nw tr qs sc G N S n L T _ M i 2 hI (by omega) (by omega)) (vx_cwSW 3 hts gL_messages_L_message rfl rfl rfl (by decide +kernel) ⟨Nat.le_of_ble_eq_true rfl, Nat.le_of_ble_eq_true rfl⟩) hZ hN hK hP hD hS hA [0, 1, 2, 3, 4, 5, 6, 7, 8, 9, 10, 11, 12, 13, 14, 15, 16, 17, 18, 19, 20, 21, 22, 23, 24, 25, 26, 27, 28, 29, 30, 31, 32, 33, 34, 35, 36, 37, 38, 39, 40, 41, 42, 43, 44, 45, 46, 47, 48, 49, 50, 51, 52, 53, 54, 55, 56, 57, 58, 59, 60, 61, 62, 63, 64, 65, 66, 67, 68, 69, 70, 71, 72, 73, 74, 75, 76, 77, 78, 79, 80, 81, 82, 83, 84, 85, 86, 87, 88, 89, 90, 91, 92, 93] wX_allC wX_nd wX_adr wX_all rfl hl.1 rfl (Nat.le_of_ble_eq_true rfl) dL_messages_73 ⟨Nat.le_of_ble_eq_true rfl, Nat.le_of_ble_eq_true rfl⟩ (fun H locs hP hD hS => ?_)
      refine kr_top (w := nI (g_msg M i / 64 % 8)) rfl ?_
      refine lv_iconst (v := nI 5) hx hcd dL_messages_76 (by decide) ?_
      refine kr_cgt (tgt := 126) hx hcd (by omega) (by omega) dL_messages_77 (by decide) (fun (c_77 : 5 < g_msg M i / 64 % 8) => absurd c_77 (by omega)) (fun (c_77 : g_msg M i / 64 % 8 ≤ 5) => ?_)
      refine kr_cut (D := D) (cl := vwCl) (A := AA) (ws := wX cI cB cW ob nw tr qs sc G M N S n L T) (H0 := ss.heap) (g := F0 mm 94 ls [.int (kI (decide (g_msg M i % 8 = 4 ∨ g_msg M i % 8 = 5)))]) (fun kM_80 => ?_) (fun H locs hP hD hS => ?_)
      · refine lv_aload_n hx hcd dL_messages_80 rfl (lv_at hl 2 rfl) ?_
        refine lv_iload_n hx hcd dL_messages_81 rfl (lv_at hl 4 rfl) ?_
        refine lv_iconst (v := nI 3) hx hcd dL_messages_82 (by decide) ?_
        refine kl_S (As := [.ref (ob 0), .int (nI i), .int (nI 3)]) (rest := []) (ws2 := wX cI cB cW ob nw tr qs sc G M N S n L T) ⟨hx, hcd, hml, hown, hts⟩ (c_L_message__ok l hst D cI cB cW cL ob nw tr qs sc G N S n L T _ M i 3 hI (by omega) (by omega)) (vx_cwSW 3 hts gL_messages_L_message rfl rfl rfl (by decide +kernel) ⟨Nat.le_of_ble_eq_true rfl, Nat.le_of_ble_eq_true rfl⟩) hZ hN hK hP hD hS hA [0, 1, 2, 3, 4, 5, 6, 7, 8, 9, 10, 11, 12, 13, 14, 15, 16, 17, 18, 19, 20, 21, 22, 23, 24, 25, 26, 27, 28, 29, 30, 31, 32, 33, 34, 35, 36, 37, 38, 39, 40, 41, 42, 43, 44, 45, 46, 47, 48, 49, 50, 51, 52, 53, 54, 55, 56, 57, 58, 59, 60, 61, 62, 63, 64, 65, 66, 67, 68, 69, 70, 71, 72, 73, 74, 75, 76, 77, 78, 79, 80, 81, 82, 83, 84, 85, 86, 87, 88, 89, 90, 91, 92, 93] wX_allC wX_nd wX_adr wX_all rfl hl.1 rfl (Nat.le_of_ble_eq_true rfl) dL_messages_83 ⟨Nat.le_of_ble_eq_true rfl, Nat.le_of_ble_eq_true rfl⟩ (fun H locs hP hD hS => ?_)
        refine lv_if_lt (tgt := 93) hx hcd dL_messages_86 (by decide) (fun (c_86 : (g_part (g_msg M i) 3) < 0) => ?_) (fun (c_86 : ¬ (g_part (g_msg M i) 3) < 0) => ?_)
        · refine lv_iconst (v := nI 0) hx hcd dL_messages_93 (by decide) ?_
          refine kr_top (w := kI (decide (g_msg M i % 8 = 4 ∨ g_msg M i % 8 = 5))) (by first | exact kI_pf (p3_f c_86) | exact kI_pt (p3_t c_86)) ?_
          exact kM_80 _ _ hP hD hS
        · refine lv_iconst (v := nI 1) hx hcd dL_messages_89 (by decide) ?_
          refine lv_goto (tgt := 94) hx hcd dL_messages_90 (by decide) ?_
          refine kr_top (w := kI (decide (g_msg M i % 8 = 4 ∨ g_msg M i % 8 = 5))) (by first | exact kI_pf (p3_f c_86) | exact kI_pt (p3_t c_86)) ?_
          exact kM_80 _ _ hP hD hS
      · refine lv_iload hx hcd dL_messages_94 (lv_at hl 0 rfl) ?_
        refine kr_bcne (tgt := 126) hx hcd dL_messages_96 (by decide) (fun (c_96 : ¬ decide (g_msg M i % 8 = 4 ∨ g_msg M i % 8 = 5) = decide (g_msg M i % 8 = 4 ∨ g_msg M i % 8 = 5)) => absurd c_96 (not_not_intro rfl)) (fun (c_96 : decide (g_msg M i % 8 = 4 ∨ g_msg M i % 8 = 5) = decide (g_msg M i % 8 = 4 ∨ g_msg M i % 8 = 5)) => ?_)
        refine kr_cut (D := D) (cl := vwCl) (A := AA) (ws := wX cI cB cW ob nw tr qs sc G M N S n L T) (H0 := ss.heap) (g := F0 mm 113 ls [.int (kI (decide (g_msg M i % 8 = 4)))]) (fun kM_99 => ?_) (fun H locs hP hD hS => ?_)
        · refine lv_aload_n hx hcd dL_messages_99 rfl (lv_at hl 2 rfl) ?_
          refine lv_iload_n hx hcd dL_messages_100 rfl (lv_at hl 4 rfl) ?_
          refine lv_iconst (v := nI 4) hx hcd dL_messages_101 (by decide) ?_
          refine kl_S (As := [.ref (ob 0), .int (nI i), .int (nI 4)]) (rest := []) (ws2 := wX cI cB cW ob nw tr qs sc G M N S n L T) ⟨hx, hcd, hml, hown, hts⟩ (c_L_message__ok l hst D cI cB cW cL ob nw tr qs sc G N S n L T _ M i 4 hI (by omega) (by omega)) (vx_cwSW 3 hts gL_messages_L_message rfl rfl rfl (by decide +kernel) ⟨Nat.le_of_ble_eq_true rfl, Nat.le_of_ble_eq_true rfl⟩) hZ hN hK hP hD hS hA [0, 1, 2, 3, 4, 5, 6, 7, 8, 9, 10, 11, 12, 13, 14, 15, 16, 17, 18, 19, 20, 21, 22, 23, 24, 25, 26, 27, 28, 29, 30, 31, 32, 33, 34, 35, 36, 37, 38, 39, 40, 41, 42, 43, 44, 45, 46, 47, 48, 49, 50, 51, 52, 53, 54, 55, 56, 57, 58, 59, 60, 61, 62, 63, 64, 65, 66, 67, 68, 69, 70, 71, 72, 73, 74, 75, 76, 77, 78, 79, 80, 81, 82, 83, 84, 85, 86, 87, 88, 89, 90, 91, 92, 93] wX_allC wX_nd wX_adr wX_all rfl hl.1 rfl (Nat.le_of_ble_eq_true rfl) dL_messages_102 ⟨Nat.le_of_ble_eq_true rfl, Nat.le_of_ble_eq_true rfl⟩ (fun H locs hP hD hS => ?_)
          refine lv_if_lt (tgt := 112) hx hcd dL_messages_105 (by decide) (fun (c_105 : (g_part (g_msg M i) 4) < 0) => ?_) (fun (c_105 : ¬ (g_part (g_msg M i) 4) < 0) => ?_)
          · refine lv_iconst (v := nI 0) hx hcd dL_messages_112 (by decide) ?_
            refine kr_top (w := kI (decide (g_msg M i % 8 = 4))) (by first | exact kI_pf (p4_f m5 c_105) | exact kI_pt (p4_t c_105)) ?_
            exact kM_99 _ _ hP hD hS
          · refine lv_iconst (v := nI 1) hx hcd dL_messages_108 (by decide) ?_
            refine lv_goto (tgt := 113) hx hcd dL_messages_109 (by decide) ?_
            refine kr_top (w := kI (decide (g_msg M i % 8 = 4))) (by first | exact kI_pf (p4_f m5 c_105) | exact kI_pt (p4_t c_105)) ?_
            exact kM_99 _ _ hP hD hS
        · refine kr_cut (D := D) (cl := vwCl) (A := AA) (ws := wX cI cB cW ob nw tr qs sc G M N S n L T) (H0 := ss.heap) (g := F0 mm 123 ls [.int (kI (decide (g_msg M i % 8 = 4))), .int (kI (decide (g_msg M i % 8 = 4)))]) (fun kM_113 => ?_) (fun H locs hP hD hS => ?_)
          · refine lv_iload_n hx hcd dL_messages_113 rfl (lv_at hl 1 rfl) ?_
            refine lv_iconst (v := nI 4) hx hcd dL_messages_114 (by decide) ?_
            refine kr_cne (tgt := 122) hx hcd (by omega) (by omega) dL_messages_115 (by decide) (fun (c_115 : ¬ g_msg M i % 8 = 4) => ?_) (fun (c_115 : g_msg M i % 8 = 4) => ?_)
            · refine lv_iconst (v := nI 0) hx hcd dL_messages_122 (by decide) ?_
              refine kr_top (w := kI (decide (g_msg M i % 8 = 4))) (by first | exact kI_pt c_115 | exact kI_pf c_115) ?_
              exact kM_113 _ _ hP hD hS
            · refine lv_iconst (v := nI 1) hx hcd dL_messages_118 (by decide) ?_
              refine lv_goto (tgt := 123) hx hcd dL_messages_119 (by decide) ?_
              refine kr_top (w := kI (decide (g_msg M i % 8 = 4))) (by first | exact kI_pt c_115 | exact kI_pf c_115) ?_
              exact kM_113 _ _ hP hD hS
          · refine lv_icmp_eq (tgt := 128) hx hcd dL_messages_123 (by decide) (fun (c_123 : (kI (decide (g_msg M i % 8 = 4))) = (kI (decide (g_msg M i % 8 = 4)))) => ?_) (fun (c_123 : ¬ (kI (decide (g_msg M i % 8 = 4))) = (kI (decide (g_msg M i % 8 = 4)))) => absurd c_123 (not_not_intro rfl))
            refine kr_iinc (lv' := [(2, .int (nI (i + 1))), (4, .int (kI (decide (g_msg M i % 8 = 4 ∨ g_msg M i % 8 = 5)))), (3, .int (nI (g_msg M i % 8))), (0, .ref (ob 0)), (1, .int (nI (wyN M)))]) hx hcd dL_messages_128 hl (k := 4) rfl (by decide) rfl (fun ls hl => ?_)
            refine lv_goto (tgt := 7) hx hcd dL_messages_131 (by decide) ?_
            exact ih_7 H locs ls hP hD hS (lv_sub hl [3, 4, 0] rfl)
  · have hl : lv_has ls 5 [(0, .ref (ob 0)), (1, .int (nI (wyN M))), (2, .int (nI (wyN M)))] := hl
    refine lv_iload_n hx hcd dL_messages_7 rfl (lv_at hl 2 rfl) ?_
    refine lv_iload_n hx hcd dL_messages_8 rfl (lv_at hl 1 rfl) ?_
    refine kr_cge (tgt := 134) hx hcd (by omega) (by omega) dL_messages_9 (by decide) (fun (c_9 : wyN M ≤ (wyN M)) => ?_) (fun (c_9 : (wyN M) < wyN M) => absurd c_9 (by omega))
    refine lv_aload_n hx hcd dL_messages_134 rfl (lv_at hl 0 rfl) ?_
    refine kr_Vi (As := []) (rest := []) (ws2 := wX cI cB cW ob nw tr qs sc G M (g_del 1000 M) S n L T) (q := (RX6, TX6, 5)) ⟨hx, hcd, hml, hown, hts⟩ (c_X6_untilRest__ok l D cI cB cW cL ob nw tr qs sc G N S n L T _ M hI) (cwV 0 hts gL_messages_X6_untilRest rfl rfl rfl (by decide +kernel) ⟨Nat.le_of_ble_eq_true rfl, Nat.le_of_ble_eq_true rfl⟩) hK hP hD hS hA [0, 1, 2, 3, 4, 5, 6, 7, 8, 9, 10, 11, 12, 13, 14, 15, 16, 17, 18, 19, 20, 21, 22, 23, 24, 25, 26, 27, 28, 29, 30, 31, 32, 33, 34, 35, 36, 37, 38, 39, 40, 41, 42, 43, 44, 45, 46, 47, 48, 49, 50, 51, 52, 53, 54, 55, 56, 57, 58, 59, 60, 61, 62, 63, 64, 65, 66, 67, 68, 69, 70, 71, 72, 73, 74, 75, 76, 77, 78, 79, 80, 81, 82, 83, 84, 85, 86, 87, 88, 89, 90, 91, 92, 93] wX_allC wX_nd wX_adr wX_all 0 rfl rfl rfl hl.1 rfl (Nat.le_of_ble_eq_true rfl) dL_messages_135 ⟨Nat.le_of_ble_eq_true rfl, Nat.le_of_ble_eq_true rfl⟩ (fun H locs hP hD hS => ?_)
    refine lv_istore_n (lv' := [(2, .int (nI (g_delC 1000 M))), (0, .ref (ob 0)), (1, .int (nI (wyN M)))]) hx hcd dL_messages_138 rfl hl (by decide) rfl (fun ls hl => ?_)
    refine lv_aload_n hx hcd dL_messages_139 rfl (lv_at hl 1 rfl) ?_
    refine kr_Vi (As := []) (rest := []) (ws2 := wX cI cB cW ob nw tr qs sc G M (g_del 1000 M) S n L T) (q := (RX6, TX6, 5)) ⟨hx, hcd, hml, hown, hts⟩ (c_X6_agreeingAtRest__ok l D cI cB cW cL ob nw tr qs sc G (g_del 1000 M) S n L T _ M hI) (cwV 0 hts gL_messages_X6_agreeingAtRest rfl rfl rfl (by decide +kernel) ⟨Nat.le_of_ble_eq_true rfl, Nat.le_of_ble_eq_true rfl⟩) hK hP hD hS hA [0, 1, 2, 3, 4, 5, 6, 7, 8, 9, 10, 11, 12, 13, 14, 15, 16, 17, 18, 19, 20, 21, 22, 23, 24, 25, 26, 27, 28, 29, 30, 31, 32, 33, 34, 35, 36, 37, 38, 39, 40, 41, 42, 43, 44, 45, 46, 47, 48, 49, 50, 51, 52, 53, 54, 55, 56, 57, 58, 59, 60, 61, 62, 63, 64, 65, 66, 67, 68, 69, 70, 71, 72, 73, 74, 75, 76, 77, 78, 79, 80, 81, 82, 83, 84, 85, 86, 87, 88, 89, 90, 91, 92, 93] wX_allC wX_nd wX_adr wX_all 0 rfl rfl rfl hl.1 rfl (Nat.le_of_ble_eq_true rfl) dL_messages_140 ⟨Nat.le_of_ble_eq_true rfl, Nat.le_of_ble_eq_true rfl⟩ (fun H locs hP hD hS => ?_)
    refine lv_istore_n (lv' := [(3, .int (nI (g_pairs (g_del 1000 M)))), (2, .int (nI (g_delC 1000 M))), (0, .ref (ob 0)), (1, .int (nI (wyN M)))]) hx hcd dL_messages_143 rfl hl (by decide) rfl (fun ls hl => ?_)
    refine lv_iload_n hx hcd dL_messages_144 rfl (lv_at hl 3 rfl) ?_
    refine lv_bipush (v := nI 40) hx hcd dL_messages_145 (by decide) ?_
    refine kr_cle (tgt := 154) hx hcd (by omega) (by omega) dL_messages_147 (by decide) (fun (c_147 : wyN M ≤ 40) => ?_) (fun (c_147 : 40 < wyN M) => ?_)
    · refine lv_aload_n hx hcd dL_messages_154 rfl (lv_at hl 2 rfl) ?_
      refine kr_Vi (As := []) (rest := []) (ws2 := wX cI cB cW ob nw tr qs sc G M (g_ndT M (wyN M)) S n L T) (q := (RX6, TX6, 5)) ⟨hx, hcd, hml, hown, hts⟩ (c_X6_mostNeeded__ok l D cI cB cW cL ob nw tr qs sc G (g_del 1000 M) S n L T _ M hI) (cwV 0 hts gL_messages_X6_mostNeeded rfl rfl rfl (by decide +kernel) ⟨Nat.le_of_ble_eq_true rfl, Nat.le_of_ble_eq_true rfl⟩) hK hP hD hS hA [0, 1, 2, 3, 4, 5, 6, 7, 8, 9, 10, 11, 12, 13, 14, 15, 16, 17, 18, 19, 20, 21, 22, 23, 24, 25, 26, 27, 28, 29, 30, 31, 32, 33, 34, 35, 36, 37, 38, 39, 40, 41, 42, 43, 44, 45, 46, 47, 48, 49, 50, 51, 52, 53, 54, 55, 56, 57, 58, 59, 60, 61, 62, 63, 64, 65, 66, 67, 68, 69, 70, 71, 72, 73, 74, 75, 76, 77, 78, 79, 80, 81, 82, 83, 84, 85, 86, 87, 88, 89, 90, 91, 92, 93] wX_allC wX_nd wX_adr wX_all 0 rfl rfl rfl hl.1 rfl (Nat.le_of_ble_eq_true rfl) dL_messages_155 ⟨Nat.le_of_ble_eq_true rfl, Nat.le_of_ble_eq_true rfl⟩ (fun H locs hP hD hS => ?_)
      refine lv_istore (lv' := [(4, .int (g_need M)), (3, .int (nI (g_pairs (g_del 1000 M)))), (2, .int (nI (g_delC 1000 M))), (0, .ref (ob 0)), (1, .int (nI (wyN M)))]) hx hcd dL_messages_158 hl (by decide) rfl (fun ls hl => ?_)
      refine lv_iload_n hx hcd dL_messages_160 rfl (lv_at hl 4 rfl) ?_
      refine kr_zlt (tgt := 292) hx hcd (by omega) dL_messages_161 (by decide) ?_
      refine lv_iload_n hx hcd dL_messages_164 rfl (lv_at hl 4 rfl) ?_
      refine lv_sipush (v := nI 300) hx hcd dL_messages_165 (by decide) ?_
      refine kr_cgt (tgt := 292) hx hcd (by omega) (by omega) dL_messages_168 (by decide) (fun (c_168 : 300 < wyN M) => absurd c_168 (by omega)) (fun (c_168 : wyN M ≤ 300) => ?_)
      refine lv_aload_n hx hcd dL_messages_171 rfl (lv_at hl 3 rfl) ?_
      refine lv_iconst (v := nI 0) hx hcd dL_messages_172 (by decide) ?_
      refine kl_S (As := [.ref (ob 0), .int (nI 0)]) (rest := []) (ws2 := wX cI cB cW ob nw tr qs sc G M (g_ndT M (wyN M)) S n L T) ⟨hx, hcd, hml, hown, hts⟩ (c_L_count__ok l hst D cI cB cW cL ob nw tr qs sc G (g_ndT M (wyN M)) S n L T _ M 0 (by omega)) (vx_cwSW 2 hts gL_messages_L_count rfl rfl rfl (by decide +kernel) ⟨Nat.le_of_ble_eq_true rfl, Nat.le_of_ble_eq_true rfl⟩) hZ hN hK hP hD hS hA [0, 1, 2, 3, 4, 5, 6, 7, 8, 9, 10, 11, 12, 13, 14, 15, 16, 17, 18, 19, 20, 21, 22, 23, 24, 25, 26, 27, 28, 29, 30, 31, 32, 33, 34, 35, 36, 37, 38, 39, 40, 41, 42, 43, 44, 45, 46, 47, 48, 49, 50, 51, 52, 53, 54, 55, 56, 57, 58, 59, 60, 61, 62, 63, 64, 65, 66, 67, 68, 69, 70, 71, 72, 73, 74, 75, 76, 77, 78, 79, 80, 81, 82, 83, 84, 85, 86, 87, 88, 89, 90, 91, 92, 93] wX_allC wX_nd wX_adr wX_all rfl hl.1 rfl (Nat.le_of_ble_eq_true rfl) dL_messages_173 ⟨Nat.le_of_ble_eq_true rfl, Nat.le_of_ble_eq_true rfl⟩ (fun H locs hP hD hS => ?_)
      refine kr_top (w := M 578) rfl ?_
      refine lv_aload_n hx hcd dL_messages_176 rfl (lv_at hl 3 rfl) ?_
      refine lv_iconst (v := nI 1) hx hcd dL_messages_177 (by decide) ?_
      refine kl_S (As := [.ref (ob 0), .int (nI 1)]) (rest := [.int (M 578)]) (ws2 := wX cI cB cW ob nw tr qs sc G M (g_ndT M (wyN M)) S n L T) ⟨hx, hcd, hml, hown, hts⟩ (c_L_count__ok l hst D cI cB cW cL ob nw tr qs sc G (g_ndT M (wyN M)) S n L T _ M 1 (by omega)) (vx_cwSW 2 hts gL_messages_L_count rfl rfl rfl (by decide +kernel) ⟨Nat.le_of_ble_eq_true rfl, Nat.le_of_ble_eq_true rfl⟩) hZ hN hK hP hD hS hA [0, 1, 2, 3, 4, 5, 6, 7, 8, 9, 10, 11, 12, 13, 14, 15, 16, 17, 18, 19, 20, 21, 22, 23, 24, 25, 26, 27, 28, 29, 30, 31, 32, 33, 34, 35, 36, 37, 38, 39, 40, 41, 42, 43, 44, 45, 46, 47, 48, 49, 50, 51, 52, 53, 54, 55, 56, 57, 58, 59, 60, 61, 62, 63, 64, 65, 66, 67, 68, 69, 70, 71, 72, 73, 74, 75, 76, 77, 78, 79, 80, 81, 82, 83, 84, 85, 86, 87, 88, 89, 90, 91, 92, 93] wX_allC wX_nd wX_adr wX_all rfl hl.1 rfl (Nat.le_of_ble_eq_true rfl) dL_messages_178 ⟨Nat.le_of_ble_eq_true rfl, Nat.le_of_ble_eq_true rfl⟩ (fun H locs hP hD hS => ?_)
      refine kr_top (w := M 579) rfl ?_
      refine lv_aload_n hx hcd dL_messages_181 rfl (lv_at hl 3 rfl) ?_
      refine lv_iconst (v := nI 2) hx hcd dL_messages_182 (by decide) ?_
      refine kl_S (As := [.ref (ob 0), .int (nI 2)]) (rest := [.int (M 579), .int (M 578)]) (ws2 := wX cI cB cW ob nw tr qs sc G M (g_ndT M (wyN M)) S n L T) ⟨hx, hcd, hml, hown, hts⟩ (c_L_count__ok l hst D cI cB cW cL ob nw tr qs sc G (g_ndT M (wyN M)) S n L T _ M 2 (by omega)) (vx_cwSW 2 hts gL_messages_L_count rfl rfl rfl (by decide +kernel) ⟨Nat.le_of_ble_eq_true rfl, Nat.le_of_ble_eq_true rfl⟩) hZ hN hK hP hD hS hA [0, 1, 2, 3, 4, 5, 6, 7, 8, 9, 10, 11, 12, 13, 14, 15, 16, 17, 18, 19, 20, 21, 22, 23, 24, 25, 26, 27, 28, 29, 30, 31, 32, 33, 34, 35, 36, 37, 38, 39, 40, 41, 42, 43, 44, 45, 46, 47, 48, 49, 50, 51, 52, 53, 54, 55, 56, 57, 58, 59, 60, 61, 62, 63, 64, 65, 66, 67, 68, 69, 70, 71, 72, 73, 74, 75, 76, 77, 78, 79, 80, 81, 82, 83, 84, 85, 86, 87, 88, 89, 90, 91, 92, 93] wX_allC wX_nd wX_adr wX_all rfl hl.1 rfl (Nat.le_of_ble_eq_true rfl) dL_messages_183 ⟨Nat.le_of_ble_eq_true rfl, Nat.le_of_ble_eq_true rfl⟩ (fun H locs hP hD hS => ?_)
      refine kr_top (w := M 580) rfl ?_
      refine lv_iadd hx hcd dL_messages_186 ?_
      refine lv_iload_n hx hcd dL_messages_187 rfl (lv_at hl 4 rfl) ?_
      refine lv_iadd hx hcd dL_messages_188 ?_
      refine lv_icmp_ne (tgt := 292) hx hcd dL_messages_189 (by decide) (fun (c_189 : ¬ (M 578) = (((M 579) + (M 580)) + (nI (wyN M)))) => absurd c_189 (not_not_intro (x_ct hX))) (fun (c_189 : (M 578) = (((M 579) + (M 580)) + (nI (wyN M)))) => ?_)
      refine kr_cut (D := D) (cl := vwCl) (A := AA) (ws := wX cI cB cW ob nw tr qs sc G M (g_ndT M (wyN M)) S n L T) (H0 := ss.heap) (g := F0 mm 201 ls [.int (kI (decide (g_delC 1000 M = 0)))]) (fun kM_192 => ?_) (fun H locs hP hD hS => ?_)
      · refine lv_iload_n hx hcd dL_messages_192 rfl (lv_at hl 2 rfl) ?_
        refine kr_zne (tgt := 200) hx hcd (by omega) dL_messages_193 (by decide) (fun (c_193 : 0 < g_delC 1000 M) => ?_) (fun (c_193 : g_delC 1000 M = 0) => ?_)
        · refine lv_iconst (v := nI 0) hx hcd dL_messages_200 (by decide) ?_
          refine kr_top (w := kI (decide (g_delC 1000 M = 0))) (by first | exact kI_pt c_193 | exact kI_pf (Nat.ne_of_gt c_193)) ?_
          exact kM_192 _ _ hP hD hS
        · refine lv_iconst (v := nI 1) hx hcd dL_messages_196 (by decide) ?_
          refine lv_goto (tgt := 201) hx hcd dL_messages_197 (by decide) ?_
          refine kr_top (w := kI (decide (g_delC 1000 M = 0))) (by first | exact kI_pt c_193 | exact kI_pf (Nat.ne_of_gt c_193)) ?_
          exact kM_192 _ _ hP hD hS
      · refine kr_cut (D := D) (cl := vwCl) (A := AA) (ws := wX cI cB cW ob nw tr qs sc G M (g_ndT M (wyN M)) S n L T) (H0 := ss.heap) (g := F0 mm 210 ls [.int (kI (decide (wyN M = 0))), .int (kI (decide (g_delC 1000 M = 0)))]) (fun kM_201 => ?_) (fun H locs hP hD hS => ?_)
        · refine lv_iload_n hx hcd dL_messages_201 rfl (lv_at hl 4 rfl) ?_
          refine kr_zne (tgt := 209) hx hcd (by omega) dL_messages_202 (by decide) (fun (c_202 : 0 < wyN M) => ?_) (fun (c_202 : wyN M = 0) => ?_)
          · refine lv_iconst (v := nI 0) hx hcd dL_messages_209 (by decide) ?_
            refine kr_top (w := kI (decide (wyN M = 0))) (by first | exact kI_pt c_202 | exact kI_pf (Nat.ne_of_gt c_202)) ?_
            exact kM_201 _ _ hP hD hS
          · refine lv_iconst (v := nI 1) hx hcd dL_messages_205 (by decide) ?_
            refine lv_goto (tgt := 210) hx hcd dL_messages_206 (by decide) ?_
            refine kr_top (w := kI (decide (wyN M = 0))) (by first | exact kI_pt c_202 | exact kI_pf (Nat.ne_of_gt c_202)) ?_
            exact kM_201 _ _ hP hD hS
        · refine kr_bcne (tgt := 292) hx hcd dL_messages_210 (by decide) (fun (c_210 : ¬ decide (g_delC 1000 M = 0) = decide (wyN M = 0)) => absurd c_210 (not_not_intro until_z)) (fun (c_210 : decide (g_delC 1000 M = 0) = decide (wyN M = 0)) => ?_)
          refine lv_iload_n hx hcd dL_messages_213 rfl (lv_at hl 2 rfl) ?_
          refine kr_zge (tgt := 221) hx hcd (by omega) dL_messages_214 (by decide) ?_
          refine lv_iconst (v := nI 0) hx hcd dL_messages_221 (by decide) ?_
          refine lv_iload_n hx hcd dL_messages_222 rfl (lv_at hl 1 rfl) ?_
          refine kr_zge (tgt := 230) hx hcd (by omega) dL_messages_223 (by decide) ?_
          refine lv_iconst (v := nI 0) hx hcd dL_messages_230 (by decide) ?_
          refine kr_cne (tgt := 292) hx hcd (by omega) (by omega) dL_messages_231 (by decide) (fun (c_231 : ¬ 0 = 0) => absurd c_231 (by omega)) (fun (c_231 : 0 = 0) => ?_)
          refine kr_cut (D := D) (cl := vwCl) (A := AA) (ws := wX cI cB cW ob nw tr qs sc G M (g_ndT M (wyN M)) S n L T) (H0 := ss.heap) (g := F0 mm 252 ls []) (fun kM_234 => ?_) (fun H locs hP hD hS => ?_)
          · refine lv_iload_n hx hcd dL_messages_234 rfl (lv_at hl 4 rfl) ?_
            refine kr_zgt (tgt := 252) hx hcd (by omega) dL_messages_235 (by decide) (fun (c_235 : 0 < wyN M) => ?_) (fun (c_235 : wyN M = 0) => ?_)
            · exact kM_234 _ _ hP hD hS
            · refine lv_iload_n hx hcd dL_messages_238 rfl (lv_at hl 1 rfl) ?_
              refine lv_aload_n hx hcd dL_messages_239 rfl (lv_at hl 3 rfl) ?_
              refine kr_Vi (As := []) (rest := [.int (nI (g_pairs (g_del 1000 M)))]) (ws2 := wX cI cB cW ob nw tr qs sc G M (g_ndT M (wyN M)) S n L T) (q := (RX6, TX6, 5)) ⟨hx, hcd, hml, hown, hts⟩ (c_X6_agreeing__ok l D cI cB cW cL ob nw tr qs sc G (g_ndT M (wyN M)) S n L T _ M hI) (cwV 0 hts gL_messages_X6_agreeing rfl rfl rfl (by decide +kernel) ⟨Nat.le_of_ble_eq_true rfl, Nat.le_of_ble_eq_true rfl⟩) hK hP hD hS hA [0, 1, 2, 3, 4, 5, 6, 7, 8, 9, 10, 11, 12, 13, 14, 15, 16, 17, 18, 19, 20, 21, 22, 23, 24, 25, 26, 27, 28, 29, 30, 31, 32, 33, 34, 35, 36, 37, 38, 39, 40, 41, 42, 43, 44, 45, 46, 47, 48, 49, 50, 51, 52, 53, 54, 55, 56, 57, 58, 59, 60, 61, 62, 63, 64, 65, 66, 67, 68, 69, 70, 71, 72, 73, 74, 75, 76, 77, 78, 79, 80, 81, 82, 83, 84, 85, 86, 87, 88, 89, 90, 91, 92, 93] wX_allC wX_nd wX_adr wX_all 0 rfl rfl rfl hl.1 rfl (Nat.le_of_ble_eq_true rfl) dL_messages_240 ⟨Nat.le_of_ble_eq_true rfl, Nat.le_of_ble_eq_true rfl⟩ (fun H locs hP hD hS => ?_)
              refine kr_cne (tgt := 292) hx hcd (by omega) (by omega) dL_messages_243 (by decide) (fun (c_243 : ¬ g_pairs (g_del 1000 M) = g_pairs M) => absurd c_243 (by rw [g_del_stop c_235]; exact not_not_intro rfl)) (fun (c_243 : g_pairs (g_del 1000 M) = g_pairs M) => ?_)
              refine lv_iload hx hcd dL_messages_246 (lv_at hl 0 rfl) ?_
              refine lv_iconst (v := (-1)) hx hcd dL_messages_248 (by decide) ?_
              refine lv_icmp_ne (tgt := 292) hx hcd dL_messages_249 (by decide) (fun (c_249 : ¬ (g_need M) = (-1)) => absurd c_249 (by first | exact not_not_intro (need_0 c_235) | (exfalso; omega))) (fun (c_249 : (g_need M) = (-1)) => ?_)
              exact kM_234 _ _ hP hD hS
          · refine lv_iload hx hcd dL_messages_252 (lv_at hl 0 rfl) ?_
            refine lv_iload_n hx hcd dL_messages_254 rfl (lv_at hl 4 rfl) ?_
            refine kr_cut (D := D) (cl := vwCl) (A := AA) (ws := wX cI cB cW ob nw tr qs sc G M (g_ndT M (wyN M)) S n L T) (H0 := ss.heap) (g := F0 mm 264 ls [.int (kI (decide (wyN M = 0))), .int (nI (wyN M)), .int (g_need M)]) (fun kM_255 => ?_) (fun H locs hP hD hS => ?_)
            · refine lv_iload_n hx hcd dL_messages_255 rfl (lv_at hl 4 rfl) ?_
              refine kr_zne (tgt := 263) hx hcd (by omega) dL_messages_256 (by decide) (fun (c_256 : 0 < wyN M) => ?_) (fun (c_256 : wyN M = 0) => ?_)
              · refine lv_iconst (v := nI 0) hx hcd dL_messages_263 (by decide) ?_
                refine kr_top (w := kI (decide (wyN M = 0))) (by first | exact kI_pt c_256 | exact kI_pf (Nat.ne_of_gt c_256)) ?_
                exact kM_255 _ _ hP hD hS
              · refine lv_iconst (v := nI 1) hx hcd dL_messages_259 (by decide) ?_
                refine lv_goto (tgt := 264) hx hcd dL_messages_260 (by decide) ?_
                refine kr_top (w := kI (decide (wyN M = 0))) (by first | exact kI_pt c_256 | exact kI_pf (Nat.ne_of_gt c_256)) ?_
                exact kM_255 _ _ hP hD hS
            · refine lv_iadd hx hcd dL_messages_264 ?_
              refine lv_icmp_ge (tgt := 292) hx hcd dL_messages_265 (by decide) (fun (c_265 : ((nI (wyN M)) + (kI (decide (wyN M = 0)))) ≤ (g_need M)) => absurd c_265 (by first | exact need_lt b577 | exact need_lt0 b577 c_147)) (fun (c_265 : ¬ ((nI (wyN M)) + (kI (decide (wyN M = 0)))) ≤ (g_need M)) => ?_)
              refine lv_aload_n hx hcd dL_messages_268 rfl (lv_at hl 3 rfl) ?_
              refine kr_Vi (As := []) (rest := []) (ws2 := wX cI cB cW ob nw tr qs sc G M (g_ndT M (wyN M)) S n L T) (q := (RX6, TX6, 5)) ⟨hx, hcd, hml, hown, hts⟩ (c_X6_underWay__ok l D cI cB cW cL ob nw tr qs sc G (g_ndT M (wyN M)) S n L T _ M hI) (cwV 0 hts gL_messages_X6_underWay rfl rfl rfl (by decide +kernel) ⟨Nat.le_of_ble_eq_true rfl, Nat.le_of_ble_eq_true rfl⟩) hK hP hD hS hA [0, 1, 2, 3, 4, 5, 6, 7, 8, 9, 10, 11, 12, 13, 14, 15, 16, 17, 18, 19, 20, 21, 22, 23, 24, 25, 26, 27, 28, 29, 30, 31, 32, 33, 34, 35, 36, 37, 38, 39, 40, 41, 42, 43, 44, 45, 46, 47, 48, 49, 50, 51, 52, 53, 54, 55, 56, 57, 58, 59, 60, 61, 62, 63, 64, 65, 66, 67, 68, 69, 70, 71, 72, 73, 74, 75, 76, 77, 78, 79, 80, 81, 82, 83, 84, 85, 86, 87, 88, 89, 90, 91, 92, 93] wX_allC wX_nd wX_adr wX_all 0 rfl rfl rfl hl.1 rfl (Nat.le_of_ble_eq_true rfl) dL_messages_269 ⟨Nat.le_of_ble_eq_true rfl, Nat.le_of_ble_eq_true rfl⟩ (fun H locs hP hD hS => ?_)
              refine lv_iload_n hx hcd dL_messages_272 rfl (lv_at hl 4 rfl) ?_
              refine kr_cne (tgt := 292) hx hcd (by omega) (by omega) dL_messages_273 (by decide) (fun (c_273 : ¬ wyN M = wyN M) => absurd c_273 (not_not_intro rfl)) (fun (c_273 : wyN M = wyN M) => ?_)
              refine lv_aload_n hx hcd dL_messages_276 rfl (lv_at hl 3 rfl) ?_
              refine lv_iload_n hx hcd dL_messages_277 rfl (lv_at hl 4 rfl) ?_
              refine lv_iconst (v := nI 0) hx hcd dL_messages_278 (by decide) ?_
              refine kl_S (As := [.ref (ob 0), .int (nI (wyN M)), .int (nI 0)]) (rest := []) (ws2 := wX cI cB cW ob nw tr qs sc G M (g_ndT M (wyN M)) S n L T) ⟨hx, hcd, hml, hown, hts⟩ (c_L_message__e1 l hst D cI cB cW cL ob nw tr qs sc G (g_ndT M (wyN M)) S n L T _ M (nI (wyN M)) (nI 0) hI (msg_w hI)) (vx_cwSW 3 hts gL_messages_L_message rfl rfl rfl (by decide +kernel) ⟨Nat.le_of_ble_eq_true rfl, Nat.le_of_ble_eq_true rfl⟩) hZ hN hK hP hD hS hA [0, 1, 2, 3, 4, 5, 6, 7, 8, 9, 10, 11, 12, 13, 14, 15, 16, 17, 18, 19, 20, 21, 22, 23, 24, 25, 26, 27, 28, 29, 30, 31, 32, 33, 34, 35, 36, 37, 38, 39, 40, 41, 42, 43, 44, 45, 46, 47, 48, 49, 50, 51, 52, 53, 54, 55, 56, 57, 58, 59, 60, 61, 62, 63, 64, 65, 66, 67, 68, 69, 70, 71, 72, 73, 74, 75, 76, 77, 78, 79, 80, 81, 82, 83, 84, 85, 86, 87, 88, 89, 90, 91, 92, 93] wX_allC wX_nd wX_adr wX_all rfl hl.1 rfl (Nat.le_of_ble_eq_true rfl) dL_messages_279 ⟨Nat.le_of_ble_eq_true rfl, Nat.le_of_ble_eq_true rfl⟩ (fun H locs hP hD hS => ?_)
              refine lv_sipush (v := (-903)) hx hcd dL_messages_282 (by decide) ?_
              refine lv_icmp_ne (tgt := 292) hx hcd dL_messages_285 (by decide) (fun (c_285 : ¬ (-903) = (-903)) => absurd c_285 (not_not_intro rfl)) (fun (c_285 : (-903) = (-903)) => ?_)
              refine lv_iconst (v := nI 1) hx hcd dL_messages_288 (by decide) ?_
              refine lv_goto (tgt := 293) hx hcd dL_messages_289 (by decide) ?_
              exact kr_zret hx hcd hr hlocks hK hP hD hS rfl rfl (by first | rw [if_pos c_147] | rw [if_neg (Nat.not_lt.mpr c_147)]) dL_messages_293
    · refine lv_iconst (v := nI 0) hx hcd dL_messages_150 (by decide) ?_
      refine lv_goto (tgt := 158) hx hcd dL_messages_151 (by decide) ?_
      refine lv_istore (lv' := [(4, .int (nI 0)), (3, .int (nI (g_pairs (g_del 1000 M)))), (2, .int (nI (g_delC 1000 M))), (0, .ref (ob 0)), (1, .int (nI (wyN M)))]) hx hcd dL_messages_158 hl (by decide) rfl (fun ls hl => ?_)
      refine lv_iload_n hx hcd dL_messages_160 rfl (lv_at hl 4 rfl) ?_
      refine kr_zlt (tgt := 292) hx hcd (by omega) dL_messages_161 (by decide) ?_
      refine lv_iload_n hx hcd dL_messages_164 rfl (lv_at hl 4 rfl) ?_
      refine lv_sipush (v := nI 300) hx hcd dL_messages_165 (by decide) ?_
      refine kr_cgt (tgt := 292) hx hcd (by omega) (by omega) dL_messages_168 (by decide) (fun (c_168 : 300 < wyN M) => absurd c_168 (by omega)) (fun (c_168 : wyN M ≤ 300) => ?_)
      refine lv_aload_n hx hcd dL_messages_171 rfl (lv_at hl 3 rfl) ?_
      refine lv_iconst (v := nI 0) hx hcd dL_messages_172 (by decide) ?_
      refine kl_S (As := [.ref (ob 0), .int (nI 0)]) (rest := []) (ws2 := wX cI cB cW ob nw tr qs sc G M (g_del 1000 M) S n L T) ⟨hx, hcd, hml, hown, hts⟩ (c_L_count__ok l hst D cI cB cW cL ob nw tr qs sc G (g_del 1000 M) S n L T _ M 0 (by omega)) (vx_cwSW 2 hts gL_messages_L_count rfl rfl rfl (by decide +kernel) ⟨Nat.le_of_ble_eq_true rfl, Nat.le_of_ble_eq_true rfl⟩) hZ hN hK hP hD hS hA [0, 1, 2, 3, 4, 5, 6, 7, 8, 9, 10, 11, 12, 13, 14, 15, 16, 17, 18, 19, 20, 21, 22, 23, 24, 25, 26, 27, 28, 29, 30, 31, 32, 33, 34, 35, 36, 37, 38, 39, 40, 41, 42, 43, 44, 45, 46, 47, 48, 49, 50, 51, 52, 53, 54, 55, 56, 57, 58, 59, 60, 61, 62, 63, 64, 65, 66, 67, 68, 69, 70, 71, 72, 73, 74, 75, 76, 77, 78, 79, 80, 81, 82, 83, 84, 85, 86, 87, 88, 89, 90, 91, 92, 93] wX_allC wX_nd wX_adr wX_all rfl hl.1 rfl (Nat.le_of_ble_eq_true rfl) dL_messages_173 ⟨Nat.le_of_ble_eq_true rfl, Nat.le_of_ble_eq_true rfl⟩ (fun H locs hP hD hS => ?_)
      refine kr_top (w := M 578) rfl ?_
      refine lv_aload_n hx hcd dL_messages_176 rfl (lv_at hl 3 rfl) ?_
      refine lv_iconst (v := nI 1) hx hcd dL_messages_177 (by decide) ?_
      refine kl_S (As := [.ref (ob 0), .int (nI 1)]) (rest := [.int (M 578)]) (ws2 := wX cI cB cW ob nw tr qs sc G M (g_del 1000 M) S n L T) ⟨hx, hcd, hml, hown, hts⟩ (c_L_count__ok l hst D cI cB cW cL ob nw tr qs sc G (g_del 1000 M) S n L T _ M 1 (by omega)) (vx_cwSW 2 hts gL_messages_L_count rfl rfl rfl (by decide +kernel) ⟨Nat.le_of_ble_eq_true rfl, Nat.le_of_ble_eq_true rfl⟩) hZ hN hK hP hD hS hA [0, 1, 2, 3, 4, 5, 6, 7, 8, 9, 10, 11, 12, 13, 14, 15, 16, 17, 18, 19, 20, 21, 22, 23, 24, 25, 26, 27, 28, 29, 30, 31, 32, 33, 34, 35, 36, 37, 38, 39, 40, 41, 42, 43, 44, 45, 46, 47, 48, 49, 50, 51, 52, 53, 54, 55, 56, 57, 58, 59, 60, 61, 62, 63, 64, 65, 66, 67, 68, 69, 70, 71, 72, 73, 74, 75, 76, 77, 78, 79, 80, 81, 82, 83, 84, 85, 86, 87, 88, 89, 90, 91, 92, 93] wX_allC wX_nd wX_adr wX_all rfl hl.1 rfl (Nat.le_of_ble_eq_true rfl) dL_messages_178 ⟨Nat.le_of_ble_eq_true rfl, Nat.le_of_ble_eq_true rfl⟩ (fun H locs hP hD hS => ?_)
      refine kr_top (w := M 579) rfl ?_
      refine lv_aload_n hx hcd dL_messages_181 rfl (lv_at hl 3 rfl) ?_
      refine lv_iconst (v := nI 2) hx hcd dL_messages_182 (by decide) ?_
      refine kl_S (As := [.ref (ob 0), .int (nI 2)]) (rest := [.int (M 579), .int (M 578)]) (ws2 := wX cI cB cW ob nw tr qs sc G M (g_del 1000 M) S n L T) ⟨hx, hcd, hml, hown, hts⟩ (c_L_count__ok l hst D cI cB cW cL ob nw tr qs sc G (g_del 1000 M) S n L T _ M 2 (by omega)) (vx_cwSW 2 hts gL_messages_L_count rfl rfl rfl (by decide +kernel) ⟨Nat.le_of_ble_eq_true rfl, Nat.le_of_ble_eq_true rfl⟩) hZ hN hK hP hD hS hA [0, 1, 2, 3, 4, 5, 6, 7, 8, 9, 10, 11, 12, 13, 14, 15, 16, 17, 18, 19, 20, 21, 22, 23, 24, 25, 26, 27, 28, 29, 30, 31, 32, 33, 34, 35, 36, 37, 38, 39, 40, 41, 42, 43, 44, 45, 46, 47, 48, 49, 50, 51, 52, 53, 54, 55, 56, 57, 58, 59, 60, 61, 62, 63, 64, 65, 66, 67, 68, 69, 70, 71, 72, 73, 74, 75, 76, 77, 78, 79, 80, 81, 82, 83, 84, 85, 86, 87, 88, 89, 90, 91, 92, 93] wX_allC wX_nd wX_adr wX_all rfl hl.1 rfl (Nat.le_of_ble_eq_true rfl) dL_messages_183 ⟨Nat.le_of_ble_eq_true rfl, Nat.le_of_ble_eq_true rfl⟩ (fun H locs hP hD hS => ?_)
      refine kr_top (w := M 580) rfl ?_
      refine lv_iadd hx hcd dL_messages_186 ?_
      refine lv_iload_n hx hcd dL_messages_187 rfl (lv_at hl 4 rfl) ?_
      refine lv_iadd hx hcd dL_messages_188 ?_
      refine lv_icmp_ne (tgt := 292) hx hcd dL_messages_189 (by decide) (fun (c_189 : ¬ (M 578) = (((M 579) + (M 580)) + (nI (wyN M)))) => absurd c_189 (not_not_intro (x_ct hX))) (fun (c_189 : (M 578) = (((M 579) + (M 580)) + (nI (wyN M)))) => ?_)
      refine kr_cut (D := D) (cl := vwCl) (A := AA) (ws := wX cI cB cW ob nw tr qs sc G M (g_del 1000 M) S n L T) (H0 := ss.heap) (g := F0 mm 201 ls [.int (kI (decide (g_delC 1000 M = 0)))]) (fun kM_192 => ?_) (fun H locs hP hD hS => ?_)
      · refine lv_iload_n hx hcd dL_messages_192 rfl (lv_at hl 2 rfl) ?_
        refine kr_zne (tgt := 200) hx hcd (by omega) dL_messages_193 (by decide) (fun (c_193 : 0 < g_delC 1000 M) => ?_) (fun (c_193 : g_delC 1000 M = 0) => ?_)
        · refine lv_iconst (v := nI 0) hx hcd dL_messages_200 (by decide) ?_
          refine kr_top (w := kI (decide (g_delC 1000 M = 0))) (by first | exact kI_pt c_193 | exact kI_pf (Nat.ne_of_gt c_193)) ?_
          exact kM_192 _ _ hP hD hS
        · refine lv_iconst (v := nI 1) hx hcd dL_messages_196 (by decide) ?_
          refine lv_goto (tgt := 201) hx hcd dL_messages_197 (by decide) ?_
          refine kr_top (w := kI (decide (g_delC 1000 M = 0))) (by first | exact kI_pt c_193 | exact kI_pf (Nat.ne_of_gt c_193)) ?_
          exact kM_192 _ _ hP hD hS
      · refine kr_cut (D := D) (cl := vwCl) (A := AA) (ws := wX cI cB cW ob nw tr qs sc G M (g_del 1000 M) S n L T) (H0 := ss.heap) (g := F0 mm 210 ls [.int (kI (decide (wyN M = 0))), .int (kI (decide (g_delC 1000 M = 0)))]) (fun kM_201 => ?_) (fun H locs hP hD hS => ?_)
        · refine lv_iload_n hx hcd dL_messages_201 rfl (lv_at hl 4 rfl) ?_
          refine kr_zne (tgt := 209) hx hcd (by omega) dL_messages_202 (by decide) (fun (c_202 : 0 < wyN M) => ?_) (fun (c_202 : wyN M = 0) => ?_)
          · refine lv_iconst (v := nI 0) hx hcd dL_messages_209 (by decide) ?_
            refine kr_top (w := kI (decide (wyN M = 0))) (by first | exact kI_pt c_202 | exact kI_pf (Nat.ne_of_gt c_202)) ?_
            exact kM_201 _ _ hP hD hS
          · refine lv_iconst (v := nI 1) hx hcd dL_messages_205 (by decide) ?_
            refine lv_goto (tgt := 210) hx hcd dL_messages_206 (by decide) ?_
            refine kr_top (w := kI (decide (wyN M = 0))) (by first | exact kI_pt c_202 | exact kI_pf (Nat.ne_of_gt c_202)) ?_
            exact kM_201 _ _ hP hD hS
        · refine kr_bcne (tgt := 292) hx hcd dL_messages_210 (by decide) (fun (c_210 : ¬ decide (g_delC 1000 M = 0) = decide (wyN M = 0)) => absurd c_210 (not_not_intro until_z)) (fun (c_210 : decide (g_delC 1000 M = 0) = decide (wyN M = 0)) => ?_)
          refine lv_iload_n hx hcd dL_messages_213 rfl (lv_at hl 2 rfl) ?_
          refine kr_zge (tgt := 221) hx hcd (by omega) dL_messages_214 (by decide) ?_
          refine lv_iconst (v := nI 0) hx hcd dL_messages_221 (by decide) ?_
          refine lv_iload_n hx hcd dL_messages_222 rfl (lv_at hl 1 rfl) ?_
          refine kr_zge (tgt := 230) hx hcd (by omega) dL_messages_223 (by decide) ?_
          refine lv_iconst (v := nI 0) hx hcd dL_messages_230 (by decide) ?_
          refine kr_cne (tgt := 292) hx hcd (by omega) (by omega) dL_messages_231 (by decide) (fun (c_231 : ¬ 0 = 0) => absurd c_231 (by omega)) (fun (c_231 : 0 = 0) => ?_)
          refine kr_cut (D := D) (cl := vwCl) (A := AA) (ws := wX cI cB cW ob nw tr qs sc G M (g_del 1000 M) S n L T) (H0 := ss.heap) (g := F0 mm 252 ls []) (fun kM_234 => ?_) (fun H locs hP hD hS => ?_)
          · refine lv_iload_n hx hcd dL_messages_234 rfl (lv_at hl 4 rfl) ?_
            refine kr_zgt (tgt := 252) hx hcd (by omega) dL_messages_235 (by decide) (fun (c_235 : 0 < wyN M) => ?_) (fun (c_235 : wyN M = 0) => ?_)
            · exact kM_234 _ _ hP hD hS
            · refine lv_iload_n hx hcd dL_messages_238 rfl (lv_at hl 1 rfl) ?_
              refine lv_aload_n hx hcd dL_messages_239 rfl (lv_at hl 3 rfl) ?_
              refine kr_Vi (As := []) (rest := [.int (nI (g_pairs (g_del 1000 M)))]) (ws2 := wX cI cB cW ob nw tr qs sc G M (g_del 1000 M) S n L T) (q := (RX6, TX6, 5)) ⟨hx, hcd, hml, hown, hts⟩ (c_X6_agreeing__ok l D cI cB cW cL ob nw tr qs sc G (g_del 1000 M) S n L T _ M hI) (cwV 0 hts gL_messages_X6_agreeing rfl rfl rfl (by decide +kernel) ⟨Nat.le_of_ble_eq_true rfl, Nat.le_of_ble_eq_true rfl⟩) hK hP hD hS hA [0, 1, 2, 3, 4, 5, 6, 7, 8, 9, 10, 11, 12, 13, 14, 15, 16, 17, 18, 19, 20, 21, 22, 23, 24, 25, 26, 27, 28, 29, 30, 31, 32, 33, 34, 35, 36, 37, 38, 39, 40, 41, 42, 43, 44, 45, 46, 47, 48, 49, 50, 51, 52, 53, 54, 55, 56, 57, 58, 59, 60, 61, 62, 63, 64, 65, 66, 67, 68, 69, 70, 71, 72, 73, 74, 75, 76, 77, 78, 79, 80, 81, 82, 83, 84, 85, 86, 87, 88, 89, 90, 91, 92, 93] wX_allC wX_nd wX_adr wX_all 0 rfl rfl rfl hl.1 rfl (Nat.le_of_ble_eq_true rfl) dL_messages_240 ⟨Nat.le_of_ble_eq_true rfl, Nat.le_of_ble_eq_true rfl⟩ (fun H locs hP hD hS => ?_)
              refine kr_cne (tgt := 292) hx hcd (by omega) (by omega) dL_messages_243 (by decide) (fun (c_243 : ¬ g_pairs (g_del 1000 M) = g_pairs M) => absurd c_243 (by rw [g_del_stop c_235]; exact not_not_intro rfl)) (fun (c_243 : g_pairs (g_del 1000 M) = g_pairs M) => ?_)
              refine lv_iload hx hcd dL_messages_246 (lv_at hl 0 rfl) ?_
              refine lv_iconst (v := (-1)) hx hcd dL_messages_248 (by decide) ?_
              refine lv_icmp_ne (tgt := 292) hx hcd dL_messages_249 (by decide) (fun (c_249 : ¬ 0 = (-1)) => absurd c_249 (by first | exact not_not_intro (need_0 c_235) | (exfalso; omega))) (fun (c_249 : 0 = (-1)) => ?_)
              exact kM_234 _ _ hP hD hS
          · refine lv_iload hx hcd dL_messages_252 (lv_at hl 0 rfl) ?_
            refine lv_iload_n hx hcd dL_messages_254 rfl (lv_at hl 4 rfl) ?_
            refine kr_cut (D := D) (cl := vwCl) (A := AA) (ws := wX cI cB cW ob nw tr qs sc G M (g_del 1000 M) S n L T) (H0 := ss.heap) (g := F0 mm 264 ls [.int (kI (decide (wyN M = 0))), .int (nI (wyN M)), .int (nI 0)]) (fun kM_255 => ?_) (fun H locs hP hD hS => ?_)
            · refine lv_iload_n hx hcd dL_messages_255 rfl (lv_at hl 4 rfl) ?_
              refine kr_zne (tgt := 263) hx hcd (by omega) dL_messages_256 (by decide) (fun (c_256 : 0 < wyN M) => ?_) (fun (c_256 : wyN M = 0) => ?_)
              · refine lv_iconst (v := nI 0) hx hcd dL_messages_263 (by decide) ?_
                refine kr_top (w := kI (decide (wyN M = 0))) (by first | exact kI_pt c_256 | exact kI_pf (Nat.ne_of_gt c_256)) ?_
                exact kM_255 _ _ hP hD hS
              · refine lv_iconst (v := nI 1) hx hcd dL_messages_259 (by decide) ?_
                refine lv_goto (tgt := 264) hx hcd dL_messages_260 (by decide) ?_
                refine kr_top (w := kI (decide (wyN M = 0))) (by first | exact kI_pt c_256 | exact kI_pf (Nat.ne_of_gt c_256)) ?_
                exact kM_255 _ _ hP hD hS
            · refine lv_iadd hx hcd dL_messages_264 ?_
              refine lv_icmp_ge (tgt := 292) hx hcd dL_messages_265 (by decide) (fun (c_265 : ((nI (wyN M)) + (kI (decide (wyN M = 0)))) ≤ 0) => absurd c_265 (by first | exact need_lt b577 | exact need_lt0 b577 c_147)) (fun (c_265 : ¬ ((nI (wyN M)) + (kI (decide (wyN M = 0)))) ≤ 0) => ?_)
              refine lv_aload_n hx hcd dL_messages_268 rfl (lv_at hl 3 rfl) ?_
              refine kr_Vi (As := []) (rest := []) (ws2 := wX cI cB cW ob nw tr qs sc G M (g_del 1000 M) S n L T) (q := (RX6, TX6, 5)) ⟨hx, hcd, hml, hown, hts⟩ (c_X6_underWay__ok l D cI cB cW cL ob nw tr qs sc G (g_del 1000 M) S n L T _ M hI) (cwV 0 hts gL_messages_X6_underWay rfl rfl rfl (by decide +kernel) ⟨Nat.le_of_ble_eq_true rfl, Nat.le_of_ble_eq_true rfl⟩) hK hP hD hS hA [0, 1, 2, 3, 4, 5, 6, 7, 8, 9, 10, 11, 12, 13, 14, 15, 16, 17, 18, 19, 20, 21, 22, 23, 24, 25, 26, 27, 28, 29, 30, 31, 32, 33, 34, 35, 36, 37, 38, 39, 40, 41, 42, 43, 44, 45, 46, 47, 48, 49, 50, 51, 52, 53, 54, 55, 56, 57, 58, 59, 60, 61, 62, 63, 64, 65, 66, 67, 68, 69, 70, 71, 72, 73, 74, 75, 76, 77, 78, 79, 80, 81, 82, 83, 84, 85, 86, 87, 88, 89, 90, 91, 92, 93] wX_allC wX_nd wX_adr wX_all 0 rfl rfl rfl hl.1 rfl (Nat.le_of_ble_eq_true rfl) dL_messages_269 ⟨Nat.le_of_ble_eq_true rfl, Nat.le_of_ble_eq_true rfl⟩ (fun H locs hP hD hS => ?_)
              refine lv_iload_n hx hcd dL_messages_272 rfl (lv_at hl 4 rfl) ?_
              refine kr_cne (tgt := 292) hx hcd (by omega) (by omega) dL_messages_273 (by decide) (fun (c_273 : ¬ wyN M = wyN M) => absurd c_273 (not_not_intro rfl)) (fun (c_273 : wyN M = wyN M) => ?_)
              refine lv_aload_n hx hcd dL_messages_276 rfl (lv_at hl 3 rfl) ?_
              refine lv_iload_n hx hcd dL_messages_277 rfl (lv_at hl 4 rfl) ?_
              refine lv_iconst (v := nI 0) hx hcd dL_messages_278 (by decide) ?_
              refine kl_S (As := [.ref (ob 0), .int (nI (wyN M)), .int (nI 0)]) (rest := []) (ws2 := wX cI cB cW ob nw tr qs sc G M (g_del 1000 M) S n L T) ⟨hx, hcd, hml, hown, hts⟩ (c_L_message__e1 l hst D cI cB cW cL ob nw tr qs sc G (g_del 1000 M) S n L T _ M (nI (wyN M)) (nI 0) hI (msg_w hI)) (vx_cwSW 3 hts gL_messages_L_message rfl rfl rfl (by decide +kernel) ⟨Nat.le_of_ble_eq_true rfl, Nat.le_of_ble_eq_true rfl⟩) hZ hN hK hP hD hS hA [0, 1, 2, 3, 4, 5, 6, 7, 8, 9, 10, 11, 12, 13, 14, 15, 16, 17, 18, 19, 20, 21, 22, 23, 24, 25, 26, 27, 28, 29, 30, 31, 32, 33, 34, 35, 36, 37, 38, 39, 40, 41, 42, 43, 44, 45, 46, 47, 48, 49, 50, 51, 52, 53, 54, 55, 56, 57, 58, 59, 60, 61, 62, 63, 64, 65, 66, 67, 68, 69, 70, 71, 72, 73, 74, 75, 76, 77, 78, 79, 80, 81, 82, 83, 84, 85, 86, 87, 88, 89, 90, 91, 92, 93] wX_allC wX_nd wX_adr wX_all rfl hl.1 rfl (Nat.le_of_ble_eq_true rfl) dL_messages_279 ⟨Nat.le_of_ble_eq_true rfl, Nat.le_of_ble_eq_true rfl⟩ (fun H locs hP hD hS => ?_)
              refine lv_sipush (v := (-903)) hx hcd dL_messages_282 (by decide) ?_
              refine lv_icmp_ne (tgt := 292) hx hcd dL_messages_285 (by decide) (fun (c_285 : ¬ (-903) = (-903)) => absurd c_285 (not_not_intro rfl)) (fun (c_285 : (-903) = (-903)) => ?_)
              refine lv_iconst (v := nI 1) hx hcd dL_messages_288 (by decide) ?_
              refine lv_goto (tgt := 293) hx hcd dL_messages_289 (by decide) ?_
              exact kr_zret hx hcd hr hlocks hK hP hD hS rfl rfl (by first | rw [if_pos c_147] | rw [if_neg (Nat.not_lt.mpr c_147)]) dL_messages_293
