set_option maxHeartbeats 4000000 in
set_option maxRecDepth 100000 in
theorem c_X7_block__ok (l : Launch) (D : va_G) (cI cB cW cL : ClassId) (z : Nat → Nat) (x : Nat → Int32) (hh : Int64) (Sp Ot Sv Tx : Nat → Int32) (sz : Nat) (M : kM) (a : Nat) (b : Nat) (v : Bool) (n : Nat) (hI : kInv M) (ha : a < 6) (hb : b < 6) (hne : a ≠ b) (hn4 : x 4 = nI n) (hn : n ≤ 4) : kMi l yX7_block wsX7_block ({ frames := 3, cells := 0, slots := 0, locals := 70 }) D vwCl (kT cI cB cW cL) sz [.ref (z 0), .int (nI a), .int (nI b), .int (kI v)] (wMA cI z x hh M Sp Ot Sv Tx) (wMA cI z (xu (xu x 7 0) 4 (nI (g_kn n))) hh (g_block M a b v) Sp Ot (g_keep Sv M n) Tx) (if M (240 + 6 * a + b) = kI v then 0 else 1) := by
  refine kr_ofi (cc := cX7_block) (maxL := 6) (ret := (some .int)) (by decide) rfl (Nat.le_of_ble_eq_true rfl) ?_
  intro pp ee ss mm args below meth cc AA ls hx hcd hr hts hown hlocks hml hK hP hD hA hl
  have hS : va_S AA ss.heap ss.heap [] := va_S.rf
  have hown : ss.vm.findClass RX7 = some mm.cls := hown
  have hl : lv_has ls 6 [(0, .ref (z 0)), (1, .int (nI a)), (2, .int (nI b)), (3, .int (kI v))] := hl
  have uX7 : ∀ w ∈ u_ws RX7 TX7 10, w ∈ wsX7_block := by decide +kernel
  refine lv_aload_n hx hcd dX7_block_0 rfl (lv_at hl 0 rfl) ?_
  refine lv_iload_n hx hcd dX7_block_1 rfl (lv_at hl 1 rfl) ?_
  refine lv_iload_n hx hcd dX7_block_2 rfl (lv_at hl 2 rfl) ?_
  refine kr_Si (As := [.int (nI a), .int (nI b)]) (rest := [.ref (z 0)]) (ws2 := wMA cI z x hh M Sp Ot Sv Tx) ⟨hx, hcd, hml, hown, hts⟩ (c_X7_whyNot l D cI cB cW cL  _ M (nI a) (nI b)) (va_cwS 2 hts gX7_block_X7_whyNot rfl rfl rfl (by decide +kernel) ⟨Nat.le_of_ble_eq_true rfl, Nat.le_of_ble_eq_true rfl⟩) hK hP hD hS hA [] rfl (by decide) rfl rfl rfl hl.1 rfl (Nat.le_of_ble_eq_true rfl) dX7_block_3 ⟨Nat.zero_le _, Nat.zero_le _⟩ (fun H locs hP hD hS => ?_)
  refine kr_top (w := nI 0) (why_ok ha hb hne) ?_
  refine kr_put hx hcd hts uX7 tyX7 tyX7_ok nmX7 hown hK hP hD hS 0 rfl rfl 7 (by decide) (by decide +kernel) rfl rfl rfl (ws2 := wMA cI z (xu x 7 0) hh M Sp Ot Sv Tx) rfl dX7_block_6 (fun H locs hP hD hS => ?_)
  refine lv_aload_n hx hcd dX7_block_9 rfl (lv_at hl 0 rfl) ?_
  refine kr_get hx hcd hts uX7 hown hK hP 0 rfl rfl 7 (by decide) (by decide +kernel) (v := .int 0) rfl dX7_block_10 ?_
  refine kr_top (w := nI 0) rfl ?_
  refine kr_zeq (tgt := 18) hx hcd (by omega) dX7_block_13 (by decide) (fun (c_13 : 0 = 0) => ?_) (fun (c_13 : 0 < 0) => absurd c_13 (by omega))
  refine lv_aload_n hx hcd dX7_block_18 rfl (lv_at hl 0 rfl) ?_
  refine kr_Vv (As := []) (rest := []) (ws2 := wMA cI z (xu (xu x 7 0) 4 (nI (g_kn n))) hh M Sp Ot (g_keep Sv M n) Tx) (q := (RX7, TX7, 10)) ⟨hx, hcd, hml, hown, hts⟩ (c_X7_keep l D cI cB cW cL z (xu x 7 0) hh Sp Ot Sv Tx _ M n hn4 (by omega)) (cwV 0 hts gX7_block_X7_keep rfl rfl rfl (by decide +kernel) ⟨Nat.le_of_ble_eq_true rfl, Nat.le_of_ble_eq_true rfl⟩) hK hP hD hS hA [0, 1, 2, 3, 4, 5] wMA_allC (by decide) wMA_adr wMA_all 0 rfl rfl rfl hl.1 rfl (Nat.le_of_ble_eq_true rfl) dX7_block_19 ⟨Nat.zero_le _, Nat.zero_le _⟩ (fun H locs hP hD hS => ?_)
  refine lv_sipush (v := nI 240) hx hcd dX7_block_22 (by decide) ?_
  refine lv_bipush (v := nI 6) hx hcd dX7_block_25 (by decide) ?_
  refine lv_iload_n hx hcd dX7_block_27 rfl (lv_at hl 1 rfl) ?_
  refine kr_mul hx hcd dX7_block_28 ?_
  refine kr_add hx hcd dX7_block_29 ?_
  refine lv_iload_n hx hcd dX7_block_30 rfl (lv_at hl 2 rfl) ?_
  refine kr_add hx hcd dX7_block_31 ?_
  refine lv_istore (lv' := [(4, .int (nI ((240 + (6 * a)) + b))), (0, .ref (z 0)), (1, .int (nI a)), (2, .int (nI b)), (3, .int (kI v))]) hx hcd dX7_block_32 hl (by decide) rfl (fun ls hl => ?_)
  refine lv_aload_n hx hcd dX7_block_34 rfl (lv_at hl 1 rfl) ?_
  refine kr_get hx hcd hts uX7 hown hK hP 0 rfl rfl 0 (by decide) (by decide +kernel) (v := .ref (z 1)) rfl dX7_block_35 ?_
  refine lv_iload hx hcd dX7_block_38 (lv_at hl 0 rfl) ?_
  refine kr_iald hx hcd hK hP 1 0 rfl rfl (v := M (240 + 6 * a + b)) (by omega) (by decide) (congrArg M (by omega)) dX7_block_40 ?_
  refine lv_iload_n hx hcd dX7_block_41 rfl (lv_at hl 4 rfl) ?_
  refine kr_beq (tgt := 49) hx hcd dX7_block_42 (by decide) (fun (c_42 : v = false) => ?_) (fun (c_42 : v = true) => ?_)
  · refine lv_iconst (v := nI 0) hx hcd dX7_block_49 (by decide) ?_
    refine lv_icmp_ne (tgt := 55) hx hcd dX7_block_50 (by decide) (fun (c_50 : ¬ (M (240 + 6 * a + b)) = 0) => ?_) (fun (c_50 : (M (240 + 6 * a + b)) = 0) => ?_)
    · refine lv_aload_n hx hcd dX7_block_55 rfl (lv_at hl 1 rfl) ?_
      refine lv_iload_n hx hcd dX7_block_56 rfl (lv_at hl 2 rfl) ?_
      refine lv_iload_n hx hcd dX7_block_57 rfl (lv_at hl 3 rfl) ?_
      refine lv_iconst (v := nI 2) hx hcd dX7_block_58 (by decide) ?_
      refine kr_Vi (As := [.int (nI a), .int (nI b), .int (nI 2)]) (rest := []) (ws2 := wMA cI z (xu (xu x 7 0) 4 (nI (g_kn n))) hh M Sp Ot (g_keep Sv M n) Tx) (q := (RX7, TX7, 10)) ⟨hx, hcd, hml, hown, hts⟩ (c_X7_has l D cI cB cW cL z (xu (xu x 7 0) 4 (nI (g_kn n))) hh _ M a b 2 (by omega) (by omega)) (cwV 3 hts gX7_block_X7_has rfl rfl rfl (by decide +kernel) ⟨Nat.le_of_ble_eq_true rfl, Nat.le_of_ble_eq_true rfl⟩) hK hP hD hS hA [0, 1] wMA_MoC (by decide) wMo_adr2 wMA_Mo 0 rfl rfl rfl hl.1 rfl (Nat.le_of_ble_eq_true rfl) dX7_block_59 ⟨Nat.zero_le _, Nat.zero_le _⟩ (fun H locs hP hD hS => ?_)
      refine lv_istore (lv' := [(5, .int (kI (g_has M a b 2))), (4, .int (nI ((240 + (6 * a)) + b))), (0, .ref (z 0)), (1, .int (nI a)), (2, .int (nI b)), (3, .int (kI v))]) hx hcd dX7_block_62 hl (by decide) rfl (fun ls hl => ?_)
      refine lv_iload_n hx hcd dX7_block_64 rfl (lv_at hl 5 rfl) ?_
      refine kr_beq (tgt := 95) hx hcd dX7_block_65 (by decide) (fun (c_65 : v = false) => ?_) (fun (c_65 : v = true) => absurd c_65 (by rw [c_42]; decide))
      refine lv_aload_n hx hcd dX7_block_95 rfl (lv_at hl 2 rfl) ?_
      refine kr_get hx hcd hts uX7 hown hK hP 0 rfl rfl 0 (by decide) (by decide +kernel) (v := .ref (z 1)) rfl dX7_block_96 ?_
      refine lv_iload hx hcd dX7_block_99 (lv_at hl 1 rfl) ?_
      refine lv_iconst (v := nI 0) hx hcd dX7_block_101 (by decide) ?_
      refine kr_iast hx hcd hK hP hD hS 1 0 rfl rfl (by omega) (by decide) (congrArg (fun k9 => upd M k9 0) (by omega)) (ws2 := wMA cI z (xu (xu x 7 0) 4 (nI (g_kn n))) hh (upd M (240 + 6 * a + b) 0) Sp Ot (g_keep Sv M n) Tx) rfl dX7_block_102 (fun H locs hP hD hS => ?_)
      have hI_1 : kInv (upd M (240 + 6 * a + b) 0) := (i_blupd (b := false) hI (by omega))
      refine lv_aload_n hx hcd dX7_block_103 rfl (lv_at hl 2 rfl) ?_
      refine lv_iload_n hx hcd dX7_block_104 rfl (lv_at hl 3 rfl) ?_
      refine lv_iload_n hx hcd dX7_block_105 rfl (lv_at hl 4 rfl) ?_
      refine lv_iconst (v := nI 1) hx hcd dX7_block_106 (by decide) ?_
      refine kr_Vi (As := [.int (nI a), .int (nI b), .int (nI 1)]) (rest := []) (ws2 := wMA cI z (xu (xu x 7 0) 4 (nI (g_kn n))) hh (upd M (240 + 6 * a + b) 0) Sp Ot (g_keep Sv M n) Tx) (q := (RX7, TX7, 10)) ⟨hx, hcd, hml, hown, hts⟩ (c_X7_has l D cI cB cW cL z (xu (xu x 7 0) 4 (nI (g_kn n))) hh _ (upd M (240 + 6 * a + b) 0) a b 1 (by omega) (by omega)) (cwV 3 hts gX7_block_X7_has rfl rfl rfl (by decide +kernel) ⟨Nat.le_of_ble_eq_true rfl, Nat.le_of_ble_eq_true rfl⟩) hK hP hD hS hA [0, 1] wMA_MoC (by decide) wMo_adr2 wMA_Mo 0 rfl rfl rfl hl.1 rfl (Nat.le_of_ble_eq_true rfl) dX7_block_107 ⟨Nat.zero_le _, Nat.zero_le _⟩ (fun H locs hP hD hS => ?_)
      refine kr_beq (tgt := 131) hx hcd dX7_block_110 (by decide) (fun (c_110 : g_has (upd M (240 + 6 * a + b) 0) a b 1 = false) => ?_) (fun (c_110 : g_has (upd M (240 + 6 * a + b) 0) a b 1 = true) => ?_)
      · refine lv_iload hx hcd dX7_block_131 (lv_at hl 0 rfl) ?_
        refine kr_beq (tgt := 142) hx hcd dX7_block_133 (by decide) (fun (c_133 : g_has M a b 2 = false) => ?_) (fun (c_133 : g_has M a b 2 = true) => ?_)
        · refine lv_iconst (v := nI 1) hx hcd dX7_block_142 (by decide) ?_
          exact kr_iret hx hcd hr hlocks hK hP hD hS (by subst c_42; rw [if_neg (show ¬ M (240 + 6 * a + b) = kI false from c_50)]; rfl) (congrArg (fun M9 => wMA cI z (xu (xu x 7 0) 4 (nI (g_kn n))) hh M9 Sp Ot (g_keep Sv M n) Tx) (by subst c_42; rw [g_block, if_neg (show ¬ M (240 + 6 * a + b) = kI false from c_50)]; have z2 : g_has (upd M (240 + 6 * a + b) 0) a b 2 = g_has M a b 2 := upd_has ha hb (by omega); simp [g_greet, g_there, z2, c_65, c_110, c_133])) dX7_block_143
        · refine lv_aload_n hx hcd dX7_block_136 rfl (lv_at hl 2 rfl) ?_
          refine lv_iload_n hx hcd dX7_block_137 rfl (lv_at hl 3 rfl) ?_
          refine lv_iload_n hx hcd dX7_block_138 rfl (lv_at hl 4 rfl) ?_
          refine kr_Vv (As := [.int (nI a), .int (nI b)]) (rest := []) (ws2 := wMA cI z (xu (xu x 7 0) 4 (nI (g_kn n))) hh (g_show (upd M (240 + 6 * a + b) 0) a b) Sp Ot (g_keep Sv M n) Tx) (q := (RX7, TX7, 10)) ⟨hx, hcd, hml, hown, hts⟩ (c_X7_shows l D cI cB cW cL z (xu (xu x 7 0) 4 (nI (g_kn n))) hh _ (upd M (240 + 6 * a + b) 0) a b hI_1 (by omega) (by omega)) (cwV 2 hts gX7_block_X7_shows rfl rfl rfl (by decide +kernel) ⟨Nat.le_of_ble_eq_true rfl, Nat.le_of_ble_eq_true rfl⟩) hK hP hD hS hA [0, 1] wMA_MoC (by decide) wMo_adr2 wMA_Mo 0 rfl rfl rfl hl.1 rfl (Nat.le_of_ble_eq_true rfl) dX7_block_139 ⟨Nat.zero_le _, Nat.zero_le _⟩ (fun H locs hP hD hS => ?_)
          have hI_2 : kInv (g_show (upd M (240 + 6 * a + b) 0) a b) := i_show hI_1 (by omega) (by omega)
          refine lv_iconst (v := nI 1) hx hcd dX7_block_142 (by decide) ?_
          exact kr_iret hx hcd hr hlocks hK hP hD hS (by subst c_42; rw [if_neg (show ¬ M (240 + 6 * a + b) = kI false from c_50)]; rfl) (congrArg (fun M9 => wMA cI z (xu (xu x 7 0) 4 (nI (g_kn n))) hh M9 Sp Ot (g_keep Sv M n) Tx) (by subst c_42; rw [g_block, if_neg (show ¬ M (240 + 6 * a + b) = kI false from c_50)]; have z2 : g_has (upd M (240 + 6 * a + b) 0) a b 2 = g_has M a b 2 := upd_has ha hb (by omega); simp [g_greet, g_there, z2, c_65, c_110, c_133])) dX7_block_143
      · refine lv_aload_n hx hcd dX7_block_113 rfl (lv_at hl 2 rfl) ?_
        refine lv_iload_n hx hcd dX7_block_114 rfl (lv_at hl 3 rfl) ?_
        refine kr_Vi (As := [.int (nI a)]) (rest := []) (ws2 := wMA cI z (xu (xu x 7 0) 4 (nI (g_kn n))) hh (upd M (240 + 6 * a + b) 0) Sp Ot (g_keep Sv M n) Tx) (q := (RX7, TX7, 10)) ⟨hx, hcd, hml, hown, hts⟩ (c_X7_seatsOn l D cI cB cW cL z (xu (xu x 7 0) 4 (nI (g_kn n))) hh _ (upd M (240 + 6 * a + b) 0) a (by omega)) (cwV 1 hts gX7_block_X7_seatsOn rfl rfl rfl (by decide +kernel) ⟨Nat.le_of_ble_eq_true rfl, Nat.le_of_ble_eq_true rfl⟩) hK hP hD hS hA [0, 1] wMA_MoC (by decide) wMo_adr2 wMA_Mo 0 rfl rfl rfl hl.1 rfl (Nat.le_of_ble_eq_true rfl) dX7_block_115 ⟨Nat.zero_le _, Nat.zero_le _⟩ (fun H locs hP hD hS => ?_)
        refine lv_if_le (tgt := 131) hx hcd dX7_block_118 (by decide) (fun (c_118 : (g_cnt (upd M (240 + 6 * a + b) 0) a) ≤ 0) => ?_) (fun (c_118 : ¬ (g_cnt (upd M (240 + 6 * a + b) 0) a) ≤ 0) => ?_)
        · refine lv_iload hx hcd dX7_block_131 (lv_at hl 0 rfl) ?_
          refine kr_beq (tgt := 142) hx hcd dX7_block_133 (by decide) (fun (c_133 : g_has M a b 2 = false) => ?_) (fun (c_133 : g_has M a b 2 = true) => ?_)
          · refine lv_iconst (v := nI 1) hx hcd dX7_block_142 (by decide) ?_
            exact kr_iret hx hcd hr hlocks hK hP hD hS (by subst c_42; rw [if_neg (show ¬ M (240 + 6 * a + b) = kI false from c_50)]; rfl) (congrArg (fun M9 => wMA cI z (xu (xu x 7 0) 4 (nI (g_kn n))) hh M9 Sp Ot (g_keep Sv M n) Tx) (by subst c_42; rw [g_block, if_neg (show ¬ M (240 + 6 * a + b) = kI false from c_50)]; have z2 : g_has (upd M (240 + 6 * a + b) 0) a b 2 = g_has M a b 2 := upd_has ha hb (by omega); simp [g_greet, g_there, z2, c_65, c_110, c_118, c_133])) dX7_block_143
          · refine lv_aload_n hx hcd dX7_block_136 rfl (lv_at hl 2 rfl) ?_
            refine lv_iload_n hx hcd dX7_block_137 rfl (lv_at hl 3 rfl) ?_
            refine lv_iload_n hx hcd dX7_block_138 rfl (lv_at hl 4 rfl) ?_
            refine kr_Vv (As := [.int (nI a), .int (nI b)]) (rest := []) (ws2 := wMA cI z (xu (xu x 7 0) 4 (nI (g_kn n))) hh (g_show (upd M (240 + 6 * a + b) 0) a b) Sp Ot (g_keep Sv M n) Tx) (q := (RX7, TX7, 10)) ⟨hx, hcd, hml, hown, hts⟩ (c_X7_shows l D cI cB cW cL z (xu (xu x 7 0) 4 (nI (g_kn n))) hh _ (upd M (240 + 6 * a + b) 0) a b hI_1 (by omega) (by omega)) (cwV 2 hts gX7_block_X7_shows rfl rfl rfl (by decide +kernel) ⟨Nat.le_of_ble_eq_true rfl, Nat.le_of_ble_eq_true rfl⟩) hK hP hD hS hA [0, 1] wMA_MoC (by decide) wMo_adr2 wMA_Mo 0 rfl rfl rfl hl.1 rfl (Nat.le_of_ble_eq_true rfl) dX7_block_139 ⟨Nat.zero_le _, Nat.zero_le _⟩ (fun H locs hP hD hS => ?_)
            have hI_3 : kInv (g_show (upd M (240 + 6 * a + b) 0) a b) := i_show hI_1 (by omega) (by omega)
            refine lv_iconst (v := nI 1) hx hcd dX7_block_142 (by decide) ?_
            exact kr_iret hx hcd hr hlocks hK hP hD hS (by subst c_42; rw [if_neg (show ¬ M (240 + 6 * a + b) = kI false from c_50)]; rfl) (congrArg (fun M9 => wMA cI z (xu (xu x 7 0) 4 (nI (g_kn n))) hh M9 Sp Ot (g_keep Sv M n) Tx) (by subst c_42; rw [g_block, if_neg (show ¬ M (240 + 6 * a + b) = kI false from c_50)]; have z2 : g_has (upd M (240 + 6 * a + b) 0) a b 2 = g_has M a b 2 := upd_has ha hb (by omega); simp [g_greet, g_there, z2, c_65, c_110, c_118, c_133])) dX7_block_143
        · refine lv_aload_n hx hcd dX7_block_121 rfl (lv_at hl 2 rfl) ?_
          refine lv_bipush (v := nI 6) hx hcd dX7_block_122 (by decide) ?_
          refine lv_iload_n hx hcd dX7_block_124 rfl (lv_at hl 3 rfl) ?_
          refine lv_iload_n hx hcd dX7_block_125 rfl (lv_at hl 4 rfl) ?_
          refine lv_iconst (v := nI 0) hx hcd dX7_block_126 (by decide) ?_
          refine lv_iconst (v := nI 0) hx hcd dX7_block_127 (by decide) ?_
          refine kr_Vv (As := [.int (nI 6), .int (nI a), .int (nI b), .int (nI 0), .int (nI 0)]) (rest := []) (ws2 := wMA cI z (xu (xu x 7 0) 4 (nI (g_kn n))) hh (g_send (upd M (240 + 6 * a + b) 0) 6 a b 0 0) Sp Ot (g_keep Sv M n) Tx) (q := (RX7, TX7, 10)) ⟨hx, hcd, hml, hown, hts⟩ (c_X7_send l D cI cB cW cL z (xu (xu x 7 0) 4 (nI (g_kn n))) hh _ (upd M (240 + 6 * a + b) 0) 6 a b 0 0 hI_1 (by omega) (by omega) (by omega) (by omega) (by omega) (by omega) (by omega)) (cwV 5 hts gX7_block_X7_send rfl rfl rfl (by decide +kernel) ⟨Nat.le_of_ble_eq_true rfl, Nat.le_of_ble_eq_true rfl⟩) hK hP hD hS hA [0, 1] wMA_MoC (by decide) wMo_adr2 wMA_Mo 0 rfl rfl rfl hl.1 rfl (Nat.le_of_ble_eq_true rfl) dX7_block_128 ⟨Nat.zero_le _, Nat.zero_le _⟩ (fun H locs hP hD hS => ?_)
          have hI_4 : kInv (g_send (upd M (240 + 6 * a + b) 0) 6 a b 0 0) := i_send hI_1 (by omega) (by omega) (by omega) (by omega) (by omega) (by omega) (by omega)
          refine lv_iload hx hcd dX7_block_131 (lv_at hl 0 rfl) ?_
          refine kr_beq (tgt := 142) hx hcd dX7_block_133 (by decide) (fun (c_133 : g_has M a b 2 = false) => ?_) (fun (c_133 : g_has M a b 2 = true) => ?_)
          · refine lv_iconst (v := nI 1) hx hcd dX7_block_142 (by decide) ?_
            exact kr_iret hx hcd hr hlocks hK hP hD hS (by subst c_42; rw [if_neg (show ¬ M (240 + 6 * a + b) = kI false from c_50)]; rfl) (congrArg (fun M9 => wMA cI z (xu (xu x 7 0) 4 (nI (g_kn n))) hh M9 Sp Ot (g_keep Sv M n) Tx) (by subst c_42; rw [g_block, if_neg (show ¬ M (240 + 6 * a + b) = kI false from c_50)]; have z2 : g_has (upd M (240 + 6 * a + b) 0) a b 2 = g_has M a b 2 := upd_has ha hb (by omega); simp [g_greet, g_there, z2, c_65, c_110, c_118, c_133])) dX7_block_143
          · refine lv_aload_n hx hcd dX7_block_136 rfl (lv_at hl 2 rfl) ?_
            refine lv_iload_n hx hcd dX7_block_137 rfl (lv_at hl 3 rfl) ?_
            refine lv_iload_n hx hcd dX7_block_138 rfl (lv_at hl 4 rfl) ?_
            refine kr_Vv (As := [.int (nI a), .int (nI b)]) (rest := []) (ws2 := wMA cI z (xu (xu x 7 0) 4 (nI (g_kn n))) hh (g_show (g_send (upd M (240 + 6 * a + b) 0) 6 a b 0 0) a b) Sp Ot (g_keep Sv M n) Tx) (q := (RX7, TX7, 10)) ⟨hx, hcd, hml, hown, hts⟩ (c_X7_shows l D cI cB cW cL z (xu (xu x 7 0) 4 (nI (g_kn n))) hh _ (g_send (upd M (240 + 6 * a + b) 0) 6 a b 0 0) a b hI_4 (by omega) (by omega)) (cwV 2 hts gX7_block_X7_shows rfl rfl rfl (by decide +kernel) ⟨Nat.le_of_ble_eq_true rfl, Nat.le_of_ble_eq_true rfl⟩) hK hP hD hS hA [0, 1] wMA_MoC (by decide) wMo_adr2 wMA_Mo 0 rfl rfl rfl hl.1 rfl (Nat.le_of_ble_eq_true rfl) dX7_block_139 ⟨Nat.zero_le _, Nat.zero_le _⟩ (fun H locs hP hD hS => ?_)
            have hI_5 : kInv (g_show (g_send (upd M (240 + 6 * a + b) 0) 6 a b 0 0) a b) := i_show hI_4 (by omega) (by omega)
            refine lv_iconst (v := nI 1) hx hcd dX7_block_142 (by decide) ?_
            exact kr_iret hx hcd hr hlocks hK hP hD hS (by subst c_42; rw [if_neg (show ¬ M (240 + 6 * a + b) = kI false from c_50)]; rfl) (congrArg (fun M9 => wMA cI z (xu (xu x 7 0) 4 (nI (g_kn n))) hh M9 Sp Ot (g_keep Sv M n) Tx) (by subst c_42; rw [g_block, if_neg (show ¬ M (240 + 6 * a + b) = kI false from c_50)]; have z2 : g_has (upd M (240 + 6 * a + b) 0) a b 2 = g_has M a b 2 := upd_has ha hb (by omega); simp [g_greet, g_there, z2, c_65, c_110, c_118, c_133])) dX7_block_143
    · refine lv_iconst (v := nI 0) hx hcd dX7_block_53 (by decide) ?_
      exact kr_iret hx hcd hr hlocks hK hP hD hS (by subst c_42; first | (rw [if_pos (show M (240 + 6 * a + b) = kI true from c_50)]; rfl) | (rw [if_pos (show M (240 + 6 * a + b) = kI false from c_50)]; rfl)) (congrArg (fun M9 => wMA cI z (xu (xu x 7 0) 4 (nI (g_kn n))) hh M9 Sp Ot (g_keep Sv M n) Tx) (by subst c_42; first | rw [g_block, if_pos (show M (240 + 6 * a + b) = kI true from c_50)] | rw [g_block, if_pos (show M (240 + 6 * a + b) = kI false from c_50)])) dX7_block_54
  · refine lv_iconst (v := nI 1) hx hcd dX7_block_45 (by decide) ?_
    refine lv_goto (tgt := 50) hx hcd dX7_block_46 (by decide) ?_
    refine lv_icmp_ne (tgt := 55) hx hcd dX7_block_50 (by decide) (fun (c_50 : ¬ (M (240 + 6 * a + b)) = 1) => ?_) (fun (c_50 : (M (240 + 6 * a + b)) = 1) => ?_)
    · refine lv_aload_n hx hcd dX7_block_55 rfl (lv_at hl 1 rfl) ?_
      refine lv_iload_n hx hcd dX7_block_56 rfl (lv_at hl 2 rfl) ?_
      refine lv_iload_n hx hcd dX7_block_57 rfl (lv_at hl 3 rfl) ?_
      refine lv_iconst (v := nI 2) hx hcd dX7_block_58 (by decide) ?_
      refine kr_Vi (As := [.int (nI a), .int (nI b), .int (nI 2)]) (rest := []) (ws2 := wMA cI z (xu (xu x 7 0) 4 (nI (g_kn n))) hh M Sp Ot (g_keep Sv M n) Tx) (q := (RX7, TX7, 10)) ⟨hx, hcd, hml, hown, hts⟩ (c_X7_has l D cI cB cW cL z (xu (xu x 7 0) 4 (nI (g_kn n))) hh _ M a b 2 (by omega) (by omega)) (cwV 3 hts gX7_block_X7_has rfl rfl rfl (by decide +kernel) ⟨Nat.le_of_ble_eq_true rfl, Nat.le_of_ble_eq_true rfl⟩) hK hP hD hS hA [0, 1] wMA_MoC (by decide) wMo_adr2 wMA_Mo 0 rfl rfl rfl hl.1 rfl (Nat.le_of_ble_eq_true rfl) dX7_block_59 ⟨Nat.zero_le _, Nat.zero_le _⟩ (fun H locs hP hD hS => ?_)
      refine lv_istore (lv' := [(5, .int (kI (g_has M a b 2))), (4, .int (nI ((240 + (6 * a)) + b))), (0, .ref (z 0)), (1, .int (nI a)), (2, .int (nI b)), (3, .int (kI v))]) hx hcd dX7_block_62 hl (by decide) rfl (fun ls hl => ?_)
      refine lv_iload_n hx hcd dX7_block_64 rfl (lv_at hl 5 rfl) ?_
      refine kr_beq (tgt := 95) hx hcd dX7_block_65 (by decide) (fun (c_65 : v = false) => absurd c_65 (by rw [c_42]; decide)) (fun (c_65 : v = true) => ?_)
      refine lv_iload hx hcd dX7_block_68 (lv_at hl 0 rfl) ?_
      refine kr_beq (tgt := 79) hx hcd dX7_block_70 (by decide) (fun (c_70 : g_has M a b 2 = false) => ?_) (fun (c_70 : g_has M a b 2 = true) => ?_)
      · refine lv_aload_n hx hcd dX7_block_79 rfl (lv_at hl 2 rfl) ?_
        refine kr_get hx hcd hts uX7 hown hK hP 0 rfl rfl 0 (by decide) (by decide +kernel) (v := .ref (z 1)) rfl dX7_block_80 ?_
        refine lv_iload hx hcd dX7_block_83 (lv_at hl 1 rfl) ?_
        refine lv_iconst (v := nI 1) hx hcd dX7_block_85 (by decide) ?_
        refine kr_iast hx hcd hK hP hD hS 1 0 rfl rfl (by omega) (by decide) (congrArg (fun k9 => upd M k9 1) (by omega)) (ws2 := wMA cI z (xu (xu x 7 0) 4 (nI (g_kn n))) hh (upd M (240 + 6 * a + b) 1) Sp Ot (g_keep Sv M n) Tx) rfl dX7_block_86 (fun H locs hP hD hS => ?_)
        have hI_6 : kInv (upd M (240 + 6 * a + b) 1) := (i_blupd (b := true) hI (by omega))
        refine lv_aload_n hx hcd dX7_block_87 rfl (lv_at hl 2 rfl) ?_
        refine lv_iload_n hx hcd dX7_block_88 rfl (lv_at hl 3 rfl) ?_
        refine lv_iload_n hx hcd dX7_block_89 rfl (lv_at hl 4 rfl) ?_
        refine kr_Vv (As := [.int (nI a), .int (nI b)]) (rest := []) (ws2 := wMA cI z (xu (xu x 7 0) 4 (nI (g_kn n))) hh (g_forget (upd M (240 + 6 * a + b) 1) a b) Sp Ot (g_keep Sv M n) Tx) (q := (RX7, TX7, 10)) ⟨hx, hcd, hml, hown, hts⟩ (c_X7_clearViews l D cI cB cW cL z (xu (xu x 7 0) 4 (nI (g_kn n))) hh _ (upd M (240 + 6 * a + b) 1) a b (by omega) (by omega)) (cwV 2 hts gX7_block_X7_clearViews rfl rfl rfl (by decide +kernel) ⟨Nat.le_of_ble_eq_true rfl, Nat.le_of_ble_eq_true rfl⟩) hK hP hD hS hA [0, 1] wMA_MoC (by decide) wMo_adr2 wMA_Mo 0 rfl rfl rfl hl.1 rfl (Nat.le_of_ble_eq_true rfl) dX7_block_90 ⟨Nat.zero_le _, Nat.zero_le _⟩ (fun H locs hP hD hS => ?_)
        have hI_7 : kInv (g_forget (upd M (240 + 6 * a + b) 1) a b) := i_forget hI_6 (by omega) (by omega)
        refine lv_iconst (v := nI 1) hx hcd dX7_block_93 (by decide) ?_
        exact kr_iret hx hcd hr hlocks hK hP hD hS (by subst c_42; rw [if_neg (show ¬ M (240 + 6 * a + b) = kI true from c_50)]; rfl) (congrArg (fun M9 => wMA cI z (xu (xu x 7 0) 4 (nI (g_kn n))) hh M9 Sp Ot (g_keep Sv M n) Tx) (by subst c_42; rw [g_block, if_neg (show ¬ M (240 + 6 * a + b) = kI true from c_50)]; simp [c_65, c_70])) dX7_block_94
      · refine lv_aload_n hx hcd dX7_block_73 rfl (lv_at hl 2 rfl) ?_
        refine lv_iload_n hx hcd dX7_block_74 rfl (lv_at hl 3 rfl) ?_
        refine lv_iload_n hx hcd dX7_block_75 rfl (lv_at hl 4 rfl) ?_
        refine kr_Vv (As := [.int (nI a), .int (nI b)]) (rest := []) (ws2 := wMA cI z (xu (xu x 7 0) 4 (nI (g_kn n))) hh (g_hide M a b) Sp Ot (g_keep Sv M n) Tx) (q := (RX7, TX7, 10)) ⟨hx, hcd, hml, hown, hts⟩ (c_X7_hides l D cI cB cW cL z (xu (xu x 7 0) 4 (nI (g_kn n))) hh _ M a b hI (by omega) (by omega)) (cwV 2 hts gX7_block_X7_hides rfl rfl rfl (by decide +kernel) ⟨Nat.le_of_ble_eq_true rfl, Nat.le_of_ble_eq_true rfl⟩) hK hP hD hS hA [0, 1] wMA_MoC (by decide) wMo_adr2 wMA_Mo 0 rfl rfl rfl hl.1 rfl (Nat.le_of_ble_eq_true rfl) dX7_block_76 ⟨Nat.zero_le _, Nat.zero_le _⟩ (fun H locs hP hD hS => ?_)
        have hI_8 : kInv (g_hide M a b) := i_hide hI (by omega) (by omega)
        refine lv_aload_n hx hcd dX7_block_79 rfl (lv_at hl 2 rfl) ?_
        refine kr_get hx hcd hts uX7 hown hK hP 0 rfl rfl 0 (by decide) (by decide +kernel) (v := .ref (z 1)) rfl dX7_block_80 ?_
        refine lv_iload hx hcd dX7_block_83 (lv_at hl 1 rfl) ?_
        refine lv_iconst (v := nI 1) hx hcd dX7_block_85 (by decide) ?_
        refine kr_iast hx hcd hK hP hD hS 1 0 rfl rfl (by omega) (by decide) (congrArg (fun k9 => upd (g_hide M a b) k9 1) (by omega)) (ws2 := wMA cI z (xu (xu x 7 0) 4 (nI (g_kn n))) hh (upd (g_hide M a b) (240 + 6 * a + b) 1) Sp Ot (g_keep Sv M n) Tx) rfl dX7_block_86 (fun H locs hP hD hS => ?_)
        have hI_9 : kInv (upd (g_hide M a b) (240 + 6 * a + b) 1) := (i_blupd (b := true) hI_8 (by omega))
        refine lv_aload_n hx hcd dX7_block_87 rfl (lv_at hl 2 rfl) ?_
        refine lv_iload_n hx hcd dX7_block_88 rfl (lv_at hl 3 rfl) ?_
        refine lv_iload_n hx hcd dX7_block_89 rfl (lv_at hl 4 rfl) ?_
        refine kr_Vv (As := [.int (nI a), .int (nI b)]) (rest := []) (ws2 := wMA cI z (xu (xu x 7 0) 4 (nI (g_kn n))) hh (g_forget (upd (g_hide M a b) (240 + 6 * a + b) 1) a b) Sp Ot (g_keep Sv M n) Tx) (q := (RX7, TX7, 10)) ⟨hx, hcd, hml, hown, hts⟩ (c_X7_clearViews l D cI cB cW cL z (xu (xu x 7 0) 4 (nI (g_kn n))) hh _ (upd (g_hide M a b) (240 + 6 * a + b) 1) a b (by omega) (by omega)) (cwV 2 hts gX7_block_X7_clearViews rfl rfl rfl (by decide +kernel) ⟨Nat.le_of_ble_eq_true rfl, Nat.le_of_ble_eq_true rfl⟩) hK hP hD hS hA [0, 1] wMA_MoC (by decide) wMo_adr2 wMA_Mo 0 rfl rfl rfl hl.1 rfl (Nat.le_of_ble_eq_true rfl) dX7_block_90 ⟨Nat.zero_le _, Nat.zero_le _⟩ (fun H locs hP hD hS => ?_)
        have hI_10 : kInv (g_forget (upd (g_hide M a b) (240 + 6 * a + b) 1) a b) := i_forget hI_9 (by omega) (by omega)
        refine lv_iconst (v := nI 1) hx hcd dX7_block_93 (by decide) ?_
        exact kr_iret hx hcd hr hlocks hK hP hD hS (by subst c_42; rw [if_neg (show ¬ M (240 + 6 * a + b) = kI true from c_50)]; rfl) (congrArg (fun M9 => wMA cI z (xu (xu x 7 0) 4 (nI (g_kn n))) hh M9 Sp Ot (g_keep Sv M n) Tx) (by subst c_42; rw [g_block, if_neg (show ¬ M (240 + 6 * a + b) = kI true from c_50)]; simp [c_65, c_70])) dX7_block_94
    · refine lv_iconst (v := nI 0) hx hcd dX7_block_53 (by decide) ?_
      exact kr_iret hx hcd hr hlocks hK hP hD hS (by subst c_42; first | (rw [if_pos (show M (240 + 6 * a + b) = kI true from c_50)]; rfl) | (rw [if_pos (show M (240 + 6 * a + b) = kI false from c_50)]; rfl)) (congrArg (fun M9 => wMA cI z (xu (xu x 7 0) 4 (nI (g_kn n))) hh M9 Sp Ot (g_keep Sv M n) Tx) (by subst c_42; first | rw [g_block, if_pos (show M (240 + 6 * a + b) = kI true from c_50)] | rw [g_block, if_pos (show M (240 + 6 * a + b) = kI false from c_50)])) dX7_block_54

set_option maxHeartbeats 4000000 in
set_option maxRecDepth 100000 in
theorem c_X7_block__bad (l : Launch) (D : va_G) (cI cB cW cL : ClassId) (z : Nat → Nat) (x : Nat → Int32) (hh : Int64) (Sp Ot Sv Tx : Nat → Int32) (sz : Nat) (M : kM) (u : Int32) (w : Int32) (v : Bool) (n : Nat) (hw : g_why u w = nI n) (hn : 0 < n ∧ n < 3) : kMi l yX7_block wsX7_block ({ frames := 3, cells := 0, slots := 0, locals := 63 }) D vwCl (kT cI cB cW cL) sz [.ref (z 0), .int u, .int w, .int (kI v)] (wMA cI z x hh M Sp Ot Sv Tx) (wMA cI z (xu x 7 (nI n)) hh M Sp Ot Sv Tx) 0 := by
  refine kr_ofi (cc := cX7_block) (maxL := 6) (ret := (some .int)) (by decide) rfl (Nat.le_of_ble_eq_true rfl) ?_
  intro pp ee ss mm args below meth cc AA ls hx hcd hr hts hown hlocks hml hK hP hD hA hl
  have hS : va_S AA ss.heap ss.heap [] := va_S.rf
  have hown : ss.vm.findClass RX7 = some mm.cls := hown
  have hl : lv_has ls 6 [(0, .ref (z 0)), (1, .int u), (2, .int w), (3, .int (kI v))] := hl
  have uX7 : ∀ w ∈ u_ws RX7 TX7 10, w ∈ wsX7_block := by decide +kernel
  refine lv_aload_n hx hcd dX7_block_0 rfl (lv_at hl 0 rfl) ?_
  refine lv_iload_n hx hcd dX7_block_1 rfl (lv_at hl 1 rfl) ?_
  refine lv_iload_n hx hcd dX7_block_2 rfl (lv_at hl 2 rfl) ?_
  refine kr_Si (As := [.int u, .int w]) (rest := [.ref (z 0)]) (ws2 := wMA cI z x hh M Sp Ot Sv Tx) ⟨hx, hcd, hml, hown, hts⟩ (c_X7_whyNot l D cI cB cW cL  _ M u w) (va_cwS 2 hts gX7_block_X7_whyNot rfl rfl rfl (by decide +kernel) ⟨Nat.le_of_ble_eq_true rfl, Nat.le_of_ble_eq_true rfl⟩) hK hP hD hS hA [] rfl (by decide) rfl rfl rfl hl.1 rfl (Nat.le_of_ble_eq_true rfl) dX7_block_3 ⟨Nat.zero_le _, Nat.zero_le _⟩ (fun H locs hP hD hS => ?_)
  refine kr_top (w := nI n) hw ?_
  refine kr_put hx hcd hts uX7 tyX7 tyX7_ok nmX7 hown hK hP hD hS 0 rfl rfl 7 (by decide) (by decide +kernel) rfl rfl rfl (ws2 := wMA cI z (xu x 7 (nI n)) hh M Sp Ot Sv Tx) rfl dX7_block_6 (fun H locs hP hD hS => ?_)
  refine lv_aload_n hx hcd dX7_block_9 rfl (lv_at hl 0 rfl) ?_
  refine kr_get hx hcd hts uX7 hown hK hP 0 rfl rfl 7 (by decide) (by decide +kernel) (v := .int (nI n)) rfl dX7_block_10 ?_
  refine kr_zeq (tgt := 18) hx hcd (by omega) dX7_block_13 (by decide) (fun (c_13 : n = 0) => absurd c_13 (by omega)) (fun (c_13 : 0 < n) => ?_)
  refine lv_iconst (v := nI 0) hx hcd dX7_block_16 (by decide) ?_
  exact kr_iret hx hcd hr hlocks hK hP hD hS rfl rfl dX7_block_17

set_option maxHeartbeats 4000000 in
set_option maxRecDepth 100000 in
theorem c_X7_turnOn__ok (l : Launch) (D : va_G) (cI cB cW cL : ClassId) (z : Nat → Nat) (x : Nat → Int32) (hh : Int64) (Sp Ot Sv Tx : Nat → Int32) (sz : Nat) (M : kM) (a : Nat) (s : Nat) (rk : Int32) (d : Nat) (n : Nat) (hI : kInv M) (ha : a < 6) (hs : s < 3) (hd : d < 5) (hrk : g_in rk (-9) 9 = true) (hn4 : x 4 = nI n) (hn : n ≤ 4) : kMi l yX7_turnOn wsX7_turnOn ({ frames := 4, cells := 0, slots := 0, locals := 94 }) D vwCl (kT cI cB cW cL) sz [.ref (z 0), .int (nI a), .int (nI s), .int rk, .int (nI d)] (wMA cI z x hh M Sp Ot Sv Tx) (wMA cI z (xu (xu x 7 0) 4 (nI (g_kn n))) hh (g_turnOn M a s rk d) Sp Ot (g_keep Sv M n) Tx) (g_cnt (g_turnOn M a s rk d) a) := by
  refine kr_ofi (cc := cX7_turnOn) (maxL := 5) (ret := (some .int)) (by decide) rfl (Nat.le_of_ble_eq_true rfl) ?_
  intro pp ee ss mm args below meth cc AA ls hx hcd hr hts hown hlocks hml hK hP hD hA hl
  have hS : va_S AA ss.heap ss.heap [] := va_S.rf
  have hown : ss.vm.findClass RX7 = some mm.cls := hown
  have hl : lv_has ls 5 [(0, .ref (z 0)), (1, .int (nI a)), (2, .int (nI s)), (3, .int rk), (4, .int (nI d))] := hl
  have uX7 : ∀ w ∈ u_ws RX7 TX7 10, w ∈ wsX7_turnOn := by decide +kernel
  refine lv_aload_n hx hcd dX7_turnOn_0 rfl (lv_at hl 0 rfl) ?_
  refine lv_iload_n hx hcd dX7_turnOn_1 rfl (lv_at hl 1 rfl) ?_
  refine lv_iload_n hx hcd dX7_turnOn_2 rfl (lv_at hl 2 rfl) ?_
  refine kr_Si (As := [.int (nI a), .int (nI s)]) (rest := [.ref (z 0)]) (ws2 := wMA cI z x hh M Sp Ot Sv Tx) ⟨hx, hcd, hml, hown, hts⟩ (c_X7_isSeat l D cI cB cW cL  _ M (nI a) (nI s)) (va_cwS 2 hts gX7_turnOn_X7_isSeat rfl rfl rfl (by decide +kernel) ⟨Nat.le_of_ble_eq_true rfl, Nat.le_of_ble_eq_true rfl⟩) hK hP hD hS hA [] rfl (by decide) rfl rfl rfl hl.1 rfl (Nat.le_of_ble_eq_true rfl) dX7_turnOn_3 ⟨Nat.zero_le _, Nat.zero_le _⟩ (fun H locs hP hD hS => ?_)
  refine kr_top (w := nI 1) (kI_is (seat_ok ha hs) rfl) ?_
  refine kr_zne (tgt := 13) hx hcd (by omega) dX7_turnOn_6 (by decide) (fun (c_6 : 0 < 1) => ?_) (fun (c_6 : 1 = 0) => absurd c_6 (by omega))
  refine lv_iload_n hx hcd dX7_turnOn_13 rfl (lv_at hl 3 rfl) ?_
  refine lv_bipush (v := (-9)) hx hcd dX7_turnOn_14 (by decide) ?_
  refine lv_bipush (v := nI 9) hx hcd dX7_turnOn_16 (by decide) ?_
  refine kr_Si (As := [.int rk, .int (-9), .int (nI 9)]) (rest := [.ref (z 0)]) (ws2 := wMA cI z x hh M Sp Ot Sv Tx) ⟨hx, hcd, hml, hown, hts⟩ (c_X7_in l D cI cB cW cL  _ M rk (-9) 9) (va_cwS 3 hts gX7_turnOn_X7_in rfl rfl rfl (by decide +kernel) ⟨Nat.le_of_ble_eq_true rfl, Nat.le_of_ble_eq_true rfl⟩) hK hP hD hS hA [] rfl (by decide) rfl rfl rfl hl.1 rfl (Nat.le_of_ble_eq_true rfl) dX7_turnOn_18 ⟨Nat.zero_le _, Nat.zero_le _⟩ (fun H locs hP hD hS => ?_)
  refine kr_top (w := nI 1) (kI_is hrk rfl) ?_
  refine kr_zeq (tgt := 38) hx hcd (by omega) dX7_turnOn_21 (by decide) (fun (c_21 : 1 = 0) => absurd c_21 (by omega)) (fun (c_21 : 0 < 1) => ?_)
  refine lv_iload hx hcd dX7_turnOn_24 (lv_at hl 4 rfl) ?_
  refine lv_iconst (v := nI 0) hx hcd dX7_turnOn_26 (by decide) ?_
  refine lv_iconst (v := nI 4) hx hcd dX7_turnOn_27 (by decide) ?_
  refine kr_Si (As := [.int (nI d), .int (nI 0), .int (nI 4)]) (rest := [.ref (z 0)]) (ws2 := wMA cI z x hh M Sp Ot Sv Tx) ⟨hx, hcd, hml, hown, hts⟩ (c_X7_in l D cI cB cW cL  _ M (nI d) 0 4) (va_cwS 3 hts gX7_turnOn_X7_in rfl rfl rfl (by decide +kernel) ⟨Nat.le_of_ble_eq_true rfl, Nat.le_of_ble_eq_true rfl⟩) hK hP hD hS hA [] rfl (by decide) rfl rfl rfl hl.1 rfl (Nat.le_of_ble_eq_true rfl) dX7_turnOn_28 ⟨Nat.zero_le _, Nat.zero_le _⟩ (fun H locs hP hD hS => ?_)
  refine kr_top (w := nI 1) (kI_is (in_ok (lo := 0) (hi := 4) (by omega) (by omega) (by omega)) rfl) ?_
  refine kr_zeq (tgt := 38) hx hcd (by omega) dX7_turnOn_31 (by decide) (fun (c_31 : 1 = 0) => absurd c_31 (by omega)) (fun (c_31 : 0 < 1) => ?_)
  refine lv_iconst (v := nI 0) hx hcd dX7_turnOn_34 (by decide) ?_
  refine lv_goto (tgt := 39) hx hcd dX7_turnOn_35 (by decide) ?_
  refine kr_put hx hcd hts uX7 tyX7 tyX7_ok nmX7 hown hK hP hD hS 0 rfl rfl 7 (by decide) (by decide +kernel) rfl rfl rfl (ws2 := wMA cI z (xu x 7 0) hh M Sp Ot Sv Tx) rfl dX7_turnOn_39 (fun H locs hP hD hS => ?_)
  refine lv_aload_n hx hcd dX7_turnOn_42 rfl (lv_at hl 0 rfl) ?_
  refine kr_get hx hcd hts uX7 hown hK hP 0 rfl rfl 7 (by decide) (by decide +kernel) (v := .int 0) rfl dX7_turnOn_43 ?_
  refine kr_top (w := nI 0) rfl ?_
  refine kr_zeq (tgt := 51) hx hcd (by omega) dX7_turnOn_46 (by decide) (fun (c_46 : 0 = 0) => ?_) (fun (c_46 : 0 < 0) => absurd c_46 (by omega))
  refine lv_aload_n hx hcd dX7_turnOn_51 rfl (lv_at hl 0 rfl) ?_
  refine kr_Vv (As := []) (rest := []) (ws2 := wMA cI z (xu (xu x 7 0) 4 (nI (g_kn n))) hh M Sp Ot (g_keep Sv M n) Tx) (q := (RX7, TX7, 10)) ⟨hx, hcd, hml, hown, hts⟩ (c_X7_keep l D cI cB cW cL z (xu x 7 0) hh Sp Ot Sv Tx _ M n hn4 (by omega)) (cwV 0 hts gX7_turnOn_X7_keep rfl rfl rfl (by decide +kernel) ⟨Nat.le_of_ble_eq_true rfl, Nat.le_of_ble_eq_true rfl⟩) hK hP hD hS hA [0, 1, 2, 3, 4, 5] wMA_allC (by decide) wMA_adr wMA_all 0 rfl rfl rfl hl.1 rfl (Nat.le_of_ble_eq_true rfl) dX7_turnOn_52 ⟨Nat.zero_le _, Nat.zero_le _⟩ (fun H locs hP hD hS => ?_)
  refine lv_aload_n hx hcd dX7_turnOn_55 rfl (lv_at hl 0 rfl) ?_
  refine lv_iload_n hx hcd dX7_turnOn_56 rfl (lv_at hl 1 rfl) ?_
  refine lv_iload_n hx hcd dX7_turnOn_57 rfl (lv_at hl 2 rfl) ?_
  refine lv_iload_n hx hcd dX7_turnOn_58 rfl (lv_at hl 3 rfl) ?_
  refine lv_iload hx hcd dX7_turnOn_59 (lv_at hl 4 rfl) ?_
  refine kr_Vi (As := [.int (nI a), .int (nI s), .int rk, .int (nI d)]) (rest := []) (ws2 := wMA cI z (xu (xu x 7 0) 4 (nI (g_kn n))) hh (g_turnOn M a s rk d) Sp Ot (g_keep Sv M n) Tx) (q := (RX7, TX7, 10)) ⟨hx, hcd, hml, hown, hts⟩ (c_X7_turnsOn l D cI cB cW cL z (xu (xu x 7 0) 4 (nI (g_kn n))) hh _ M a s rk d hI (by omega) (by omega) (by omega)) (cwV 4 hts gX7_turnOn_X7_turnsOn rfl rfl rfl (by decide +kernel) ⟨Nat.le_of_ble_eq_true rfl, Nat.le_of_ble_eq_true rfl⟩) hK hP hD hS hA [0, 1] wMA_MoC (by decide) wMo_adr2 wMA_Mo 0 rfl rfl rfl hl.1 rfl (Nat.le_of_ble_eq_true rfl) dX7_turnOn_61 ⟨Nat.zero_le _, Nat.zero_le _⟩ (fun H locs hP hD hS => ?_)
  have hI_1 : kInv (g_turnOn M a s rk d) := i_turnOn hI (by omega) (by omega) (by omega)
  exact kr_iret hx hcd hr hlocks hK hP hD hS rfl rfl dX7_turnOn_64

set_option maxHeartbeats 4000000 in
set_option maxRecDepth 100000 in
theorem c_X7_turnOn__b1 (l : Launch) (D : va_G) (cI cB cW cL : ClassId) (z : Nat → Nat) (x : Nat → Int32) (hh : Int64) (Sp Ot Sv Tx : Nat → Int32) (sz : Nat) (M : kM) (u : Int32) (w : Int32) (t : Int32) (y : Int32) (g0 : g_seatok u w = false) : kMi l yX7_turnOn wsX7_turnOn ({ frames := 3, cells := 0, slots := 0, locals := 63 }) D vwCl (kT cI cB cW cL) sz [.ref (z 0), .int u, .int w, .int t, .int y] (wMA cI z x hh M Sp Ot Sv Tx) (wMA cI z (xu x 7 1) hh M Sp Ot Sv Tx) 0 := by
  refine kr_ofi (cc := cX7_turnOn) (maxL := 5) (ret := (some .int)) (by decide) rfl (Nat.le_of_ble_eq_true rfl) ?_
  intro pp ee ss mm args below meth cc AA ls hx hcd hr hts hown hlocks hml hK hP hD hA hl
  have hS : va_S AA ss.heap ss.heap [] := va_S.rf
  have hown : ss.vm.findClass RX7 = some mm.cls := hown
  have hl : lv_has ls 5 [(0, .ref (z 0)), (1, .int u), (2, .int w), (3, .int t), (4, .int y)] := hl
  have uX7 : ∀ w ∈ u_ws RX7 TX7 10, w ∈ wsX7_turnOn := by decide +kernel
  refine lv_aload_n hx hcd dX7_turnOn_0 rfl (lv_at hl 0 rfl) ?_
  refine lv_iload_n hx hcd dX7_turnOn_1 rfl (lv_at hl 1 rfl) ?_
  refine lv_iload_n hx hcd dX7_turnOn_2 rfl (lv_at hl 2 rfl) ?_
  refine kr_Si (As := [.int u, .int w]) (rest := [.ref (z 0)]) (ws2 := wMA cI z x hh M Sp Ot Sv Tx) ⟨hx, hcd, hml, hown, hts⟩ (c_X7_isSeat l D cI cB cW cL  _ M u w) (va_cwS 2 hts gX7_turnOn_X7_isSeat rfl rfl rfl (by decide +kernel) ⟨Nat.le_of_ble_eq_true rfl, Nat.le_of_ble_eq_true rfl⟩) hK hP hD hS hA [] rfl (by decide) rfl rfl rfl hl.1 rfl (Nat.le_of_ble_eq_true rfl) dX7_turnOn_3 ⟨Nat.zero_le _, Nat.zero_le _⟩ (fun H locs hP hD hS => ?_)
  refine kr_top (w := nI 0) (kI_no g0 rfl) ?_
  refine kr_zne (tgt := 13) hx hcd (by omega) dX7_turnOn_6 (by decide) (fun (c_6 : 0 < 0) => absurd c_6 (by omega)) (fun (c_6 : 0 = 0) => ?_)
  refine lv_iconst (v := nI 1) hx hcd dX7_turnOn_9 (by decide) ?_
  refine lv_goto (tgt := 39) hx hcd dX7_turnOn_10 (by decide) ?_
  refine kr_put hx hcd hts uX7 tyX7 tyX7_ok nmX7 hown hK hP hD hS 0 rfl rfl 7 (by decide) (by decide +kernel) rfl rfl rfl (ws2 := wMA cI z (xu x 7 1) hh M Sp Ot Sv Tx) rfl dX7_turnOn_39 (fun H locs hP hD hS => ?_)
  refine lv_aload_n hx hcd dX7_turnOn_42 rfl (lv_at hl 0 rfl) ?_
  refine kr_get hx hcd hts uX7 hown hK hP 0 rfl rfl 7 (by decide) (by decide +kernel) (v := .int 1) rfl dX7_turnOn_43 ?_
  refine kr_top (w := nI 1) rfl ?_
  refine kr_zeq (tgt := 51) hx hcd (by omega) dX7_turnOn_46 (by decide) (fun (c_46 : 1 = 0) => absurd c_46 (by omega)) (fun (c_46 : 0 < 1) => ?_)
  refine lv_iconst (v := nI 0) hx hcd dX7_turnOn_49 (by decide) ?_
  exact kr_iret hx hcd hr hlocks hK hP hD hS rfl rfl dX7_turnOn_50

set_option maxHeartbeats 4000000 in
set_option maxRecDepth 100000 in
theorem c_X7_turnOn__b2a (l : Launch) (D : va_G) (cI cB cW cL : ClassId) (z : Nat → Nat) (x : Nat → Int32) (hh : Int64) (Sp Ot Sv Tx : Nat → Int32) (sz : Nat) (M : kM) (u : Int32) (w : Int32) (t : Int32) (y : Int32) (g0 : g_seatok u w = true) (g1 : g_in t (-9) 9 = false) : kMi l yX7_turnOn wsX7_turnOn ({ frames := 3, cells := 0, slots := 0, locals := 63 }) D vwCl (kT cI cB cW cL) sz [.ref (z 0), .int u, .int w, .int t, .int y] (wMA cI z x hh M Sp Ot Sv Tx) (wMA cI z (xu x 7 2) hh M Sp Ot Sv Tx) 0 := by
  refine kr_ofi (cc := cX7_turnOn) (maxL := 5) (ret := (some .int)) (by decide) rfl (Nat.le_of_ble_eq_true rfl) ?_
  intro pp ee ss mm args below meth cc AA ls hx hcd hr hts hown hlocks hml hK hP hD hA hl
  have hS : va_S AA ss.heap ss.heap [] := va_S.rf
  have hown : ss.vm.findClass RX7 = some mm.cls := hown
  have hl : lv_has ls 5 [(0, .ref (z 0)), (1, .int u), (2, .int w), (3, .int t), (4, .int y)] := hl
  have uX7 : ∀ w ∈ u_ws RX7 TX7 10, w ∈ wsX7_turnOn := by decide +kernel
  refine lv_aload_n hx hcd dX7_turnOn_0 rfl (lv_at hl 0 rfl) ?_
  refine lv_iload_n hx hcd dX7_turnOn_1 rfl (lv_at hl 1 rfl) ?_
  refine lv_iload_n hx hcd dX7_turnOn_2 rfl (lv_at hl 2 rfl) ?_
  refine kr_Si (As := [.int u, .int w]) (rest := [.ref (z 0)]) (ws2 := wMA cI z x hh M Sp Ot Sv Tx) ⟨hx, hcd, hml, hown, hts⟩ (c_X7_isSeat l D cI cB cW cL  _ M u w) (va_cwS 2 hts gX7_turnOn_X7_isSeat rfl rfl rfl (by decide +kernel) ⟨Nat.le_of_ble_eq_true rfl, Nat.le_of_ble_eq_true rfl⟩) hK hP hD hS hA [] rfl (by decide) rfl rfl rfl hl.1 rfl (Nat.le_of_ble_eq_true rfl) dX7_turnOn_3 ⟨Nat.zero_le _, Nat.zero_le _⟩ (fun H locs hP hD hS => ?_)
  refine kr_top (w := nI 1) (kI_is g0 rfl) ?_
  refine kr_zne (tgt := 13) hx hcd (by omega) dX7_turnOn_6 (by decide) (fun (c_6 : 0 < 1) => ?_) (fun (c_6 : 1 = 0) => absurd c_6 (by omega))
  refine lv_iload_n hx hcd dX7_turnOn_13 rfl (lv_at hl 3 rfl) ?_
  refine lv_bipush (v := (-9)) hx hcd dX7_turnOn_14 (by decide) ?_
  refine lv_bipush (v := nI 9) hx hcd dX7_turnOn_16 (by decide) ?_
  refine kr_Si (As := [.int t, .int (-9), .int (nI 9)]) (rest := [.ref (z 0)]) (ws2 := wMA cI z x hh M Sp Ot Sv Tx) ⟨hx, hcd, hml, hown, hts⟩ (c_X7_in l D cI cB cW cL  _ M t (-9) 9) (va_cwS 3 hts gX7_turnOn_X7_in rfl rfl rfl (by decide +kernel) ⟨Nat.le_of_ble_eq_true rfl, Nat.le_of_ble_eq_true rfl⟩) hK hP hD hS hA [] rfl (by decide) rfl rfl rfl hl.1 rfl (Nat.le_of_ble_eq_true rfl) dX7_turnOn_18 ⟨Nat.zero_le _, Nat.zero_le _⟩ (fun H locs hP hD hS => ?_)
  refine kr_top (w := nI 0) (kI_no g1 rfl) ?_
  refine kr_zeq (tgt := 38) hx hcd (by omega) dX7_turnOn_21 (by decide) (fun (c_21 : 0 = 0) => ?_) (fun (c_21 : 0 < 0) => absurd c_21 (by omega))
  refine lv_iconst (v := nI 2) hx hcd dX7_turnOn_38 (by decide) ?_
  refine kr_put hx hcd hts uX7 tyX7 tyX7_ok nmX7 hown hK hP hD hS 0 rfl rfl 7 (by decide) (by decide +kernel) rfl rfl rfl (ws2 := wMA cI z (xu x 7 2) hh M Sp Ot Sv Tx) rfl dX7_turnOn_39 (fun H locs hP hD hS => ?_)
  refine lv_aload_n hx hcd dX7_turnOn_42 rfl (lv_at hl 0 rfl) ?_
  refine kr_get hx hcd hts uX7 hown hK hP 0 rfl rfl 7 (by decide) (by decide +kernel) (v := .int 2) rfl dX7_turnOn_43 ?_
  refine kr_top (w := nI 2) rfl ?_
  refine kr_zeq (tgt := 51) hx hcd (by omega) dX7_turnOn_46 (by decide) (fun (c_46 : 2 = 0) => absurd c_46 (by omega)) (fun (c_46 : 0 < 2) => ?_)
  refine lv_iconst (v := nI 0) hx hcd dX7_turnOn_49 (by decide) ?_
  exact kr_iret hx hcd hr hlocks hK hP hD hS rfl rfl dX7_turnOn_50

set_option maxHeartbeats 4000000 in
set_option maxRecDepth 100000 in
theorem c_X7_turnOn__b2b (l : Launch) (D : va_G) (cI cB cW cL : ClassId) (z : Nat → Nat) (x : Nat → Int32) (hh : Int64) (Sp Ot Sv Tx : Nat → Int32) (sz : Nat) (M : kM) (u : Int32) (w : Int32) (t : Int32) (y : Int32) (g0 : g_seatok u w = true) (g1 : g_in t (-9) 9 = true) (g2 : g_in y 0 4 = false) : kMi l yX7_turnOn wsX7_turnOn ({ frames := 3, cells := 0, slots := 0, locals := 63 }) D vwCl (kT cI cB cW cL) sz [.ref (z 0), .int u, .int w, .int t, .int y] (wMA cI z x hh M Sp Ot Sv Tx) (wMA cI z (xu x 7 2) hh M Sp Ot Sv Tx) 0 := by
  refine kr_ofi (cc := cX7_turnOn) (maxL := 5) (ret := (some .int)) (by decide) rfl (Nat.le_of_ble_eq_true rfl) ?_
  intro pp ee ss mm args below meth cc AA ls hx hcd hr hts hown hlocks hml hK hP hD hA hl
  have hS : va_S AA ss.heap ss.heap [] := va_S.rf
  have hown : ss.vm.findClass RX7 = some mm.cls := hown
  have hl : lv_has ls 5 [(0, .ref (z 0)), (1, .int u), (2, .int w), (3, .int t), (4, .int y)] := hl
  have uX7 : ∀ w ∈ u_ws RX7 TX7 10, w ∈ wsX7_turnOn := by decide +kernel
  refine lv_aload_n hx hcd dX7_turnOn_0 rfl (lv_at hl 0 rfl) ?_
  refine lv_iload_n hx hcd dX7_turnOn_1 rfl (lv_at hl 1 rfl) ?_
  refine lv_iload_n hx hcd dX7_turnOn_2 rfl (lv_at hl 2 rfl) ?_
  refine kr_Si (As := [.int u, .int w]) (rest := [.ref (z 0)]) (ws2 := wMA cI z x hh M Sp Ot Sv Tx) ⟨hx, hcd, hml, hown, hts⟩ (c_X7_isSeat l D cI cB cW cL  _ M u w) (va_cwS 2 hts gX7_turnOn_X7_isSeat rfl rfl rfl (by decide +kernel) ⟨Nat.le_of_ble_eq_true rfl, Nat.le_of_ble_eq_true rfl⟩) hK hP hD hS hA [] rfl (by decide) rfl rfl rfl hl.1 rfl (Nat.le_of_ble_eq_true rfl) dX7_turnOn_3 ⟨Nat.zero_le _, Nat.zero_le _⟩ (fun H locs hP hD hS => ?_)
  refine kr_top (w := nI 1) (kI_is g0 rfl) ?_
  refine kr_zne (tgt := 13) hx hcd (by omega) dX7_turnOn_6 (by decide) (fun (c_6 : 0 < 1) => ?_) (fun (c_6 : 1 = 0) => absurd c_6 (by omega))
  refine lv_iload_n hx hcd dX7_turnOn_13 rfl (lv_at hl 3 rfl) ?_
  refine lv_bipush (v := (-9)) hx hcd dX7_turnOn_14 (by decide) ?_
  refine lv_bipush (v := nI 9) hx hcd dX7_turnOn_16 (by decide) ?_
  refine kr_Si (As := [.int t, .int (-9), .int (nI 9)]) (rest := [.ref (z 0)]) (ws2 := wMA cI z x hh M Sp Ot Sv Tx) ⟨hx, hcd, hml, hown, hts⟩ (c_X7_in l D cI cB cW cL  _ M t (-9) 9) (va_cwS 3 hts gX7_turnOn_X7_in rfl rfl rfl (by decide +kernel) ⟨Nat.le_of_ble_eq_true rfl, Nat.le_of_ble_eq_true rfl⟩) hK hP hD hS hA [] rfl (by decide) rfl rfl rfl hl.1 rfl (Nat.le_of_ble_eq_true rfl) dX7_turnOn_18 ⟨Nat.zero_le _, Nat.zero_le _⟩ (fun H locs hP hD hS => ?_)
  refine kr_top (w := nI 1) (kI_is g1 rfl) ?_
  refine kr_zeq (tgt := 38) hx hcd (by omega) dX7_turnOn_21 (by decide) (fun (c_21 : 1 = 0) => absurd c_21 (by omega)) (fun (c_21 : 0 < 1) => ?_)
  refine lv_iload hx hcd dX7_turnOn_24 (lv_at hl 4 rfl) ?_
  refine lv_iconst (v := nI 0) hx hcd dX7_turnOn_26 (by decide) ?_
  refine lv_iconst (v := nI 4) hx hcd dX7_turnOn_27 (by decide) ?_
  refine kr_Si (As := [.int y, .int (nI 0), .int (nI 4)]) (rest := [.ref (z 0)]) (ws2 := wMA cI z x hh M Sp Ot Sv Tx) ⟨hx, hcd, hml, hown, hts⟩ (c_X7_in l D cI cB cW cL  _ M y 0 4) (va_cwS 3 hts gX7_turnOn_X7_in rfl rfl rfl (by decide +kernel) ⟨Nat.le_of_ble_eq_true rfl, Nat.le_of_ble_eq_true rfl⟩) hK hP hD hS hA [] rfl (by decide) rfl rfl rfl hl.1 rfl (Nat.le_of_ble_eq_true rfl) dX7_turnOn_28 ⟨Nat.zero_le _, Nat.zero_le _⟩ (fun H locs hP hD hS => ?_)
  refine kr_top (w := nI 0) (kI_no g2 rfl) ?_
  refine kr_zeq (tgt := 38) hx hcd (by omega) dX7_turnOn_31 (by decide) (fun (c_31 : 0 = 0) => ?_) (fun (c_31 : 0 < 0) => absurd c_31 (by omega))
  refine lv_iconst (v := nI 2) hx hcd dX7_turnOn_38 (by decide) ?_
  refine kr_put hx hcd hts uX7 tyX7 tyX7_ok nmX7 hown hK hP hD hS 0 rfl rfl 7 (by decide) (by decide +kernel) rfl rfl rfl (ws2 := wMA cI z (xu x 7 2) hh M Sp Ot Sv Tx) rfl dX7_turnOn_39 (fun H locs hP hD hS => ?_)
  refine lv_aload_n hx hcd dX7_turnOn_42 rfl (lv_at hl 0 rfl) ?_
  refine kr_get hx hcd hts uX7 hown hK hP 0 rfl rfl 7 (by decide) (by decide +kernel) (v := .int 2) rfl dX7_turnOn_43 ?_
  refine kr_top (w := nI 2) rfl ?_
  refine kr_zeq (tgt := 51) hx hcd (by omega) dX7_turnOn_46 (by decide) (fun (c_46 : 2 = 0) => absurd c_46 (by omega)) (fun (c_46 : 0 < 2) => ?_)
  refine lv_iconst (v := nI 0) hx hcd dX7_turnOn_49 (by decide) ?_
  exact kr_iret hx hcd hr hlocks hK hP hD hS rfl rfl dX7_turnOn_50

set_option maxHeartbeats 4000000 in
set_option maxRecDepth 100000 in
theorem c_X7_turnOff__ok (l : Launch) (D : va_G) (cI cB cW cL : ClassId) (z : Nat → Nat) (x : Nat → Int32) (hh : Int64) (Sp Ot Sv Tx : Nat → Int32) (sz : Nat) (M : kM) (a : Nat) (s : Nat) (n : Nat) (hI : kInv M) (ha : a < 6) (hs : s < 3) (ho : g_on M a s = true) (hn4 : x 4 = nI n) (hn : n ≤ 4) : kMi l yX7_turnOff wsX7_turnOff ({ frames := 4, cells := 0, slots := 0, locals := 90 }) D vwCl (kT cI cB cW cL) sz [.ref (z 0), .int (nI a), .int (nI s)] (wMA cI z x hh M Sp Ot Sv Tx) (wMA cI z (xu (xu x 7 0) 4 (nI (g_kn n))) hh (g_turnOff M a s) Sp Ot (g_keep Sv M n) Tx) (g_cnt (g_turnOff M a s) a) := by
  refine kr_ofi (cc := cX7_turnOff) (maxL := 3) (ret := (some .int)) (by decide) rfl (Nat.le_of_ble_eq_true rfl) ?_
  intro pp ee ss mm args below meth cc AA ls hx hcd hr hts hown hlocks hml hK hP hD hA hl
  have hS : va_S AA ss.heap ss.heap [] := va_S.rf
  have hown : ss.vm.findClass RX7 = some mm.cls := hown
  have hl : lv_has ls 3 [(0, .ref (z 0)), (1, .int (nI a)), (2, .int (nI s))] := hl
  have uX7 : ∀ w ∈ u_ws RX7 TX7 10, w ∈ wsX7_turnOff := by decide +kernel
  refine lv_aload_n hx hcd dX7_turnOff_0 rfl (lv_at hl 0 rfl) ?_
  refine lv_iload_n hx hcd dX7_turnOff_1 rfl (lv_at hl 1 rfl) ?_
  refine lv_iload_n hx hcd dX7_turnOff_2 rfl (lv_at hl 2 rfl) ?_
  refine kr_Si (As := [.int (nI a), .int (nI s)]) (rest := [.ref (z 0)]) (ws2 := wMA cI z x hh M Sp Ot Sv Tx) ⟨hx, hcd, hml, hown, hts⟩ (c_X7_isSeat l D cI cB cW cL  _ M (nI a) (nI s)) (va_cwS 2 hts gX7_turnOff_X7_isSeat rfl rfl rfl (by decide +kernel) ⟨Nat.le_of_ble_eq_true rfl, Nat.le_of_ble_eq_true rfl⟩) hK hP hD hS hA [] rfl (by decide) rfl rfl rfl hl.1 rfl (Nat.le_of_ble_eq_true rfl) dX7_turnOff_3 ⟨Nat.zero_le _, Nat.zero_le _⟩ (fun H locs hP hD hS => ?_)
  refine kr_top (w := nI 1) (kI_is (seat_ok ha hs) rfl) ?_
  refine kr_zne (tgt := 13) hx hcd (by omega) dX7_turnOff_6 (by decide) (fun (c_6 : 0 < 1) => ?_) (fun (c_6 : 1 = 0) => absurd c_6 (by omega))
  refine lv_aload_n hx hcd dX7_turnOff_13 rfl (lv_at hl 0 rfl) ?_
  refine lv_iload_n hx hcd dX7_turnOff_14 rfl (lv_at hl 1 rfl) ?_
  refine lv_iload_n hx hcd dX7_turnOff_15 rfl (lv_at hl 2 rfl) ?_
  refine kr_Vi (As := [.int (nI a), .int (nI s)]) (rest := [.ref (z 0)]) (ws2 := wMA cI z x hh M Sp Ot Sv Tx) (q := (RX7, TX7, 10)) ⟨hx, hcd, hml, hown, hts⟩ (c_X7_isOn l D cI cB cW cL z x hh _ M a s (by omega) (by omega)) (cwV 2 hts gX7_turnOff_X7_isOn rfl rfl rfl (by decide +kernel) ⟨Nat.le_of_ble_eq_true rfl, Nat.le_of_ble_eq_true rfl⟩) hK hP hD hS hA [0, 1] wMA_MoC (by decide) wMo_adr2 wMA_Mo 0 rfl rfl rfl hl.1 rfl (Nat.le_of_ble_eq_true rfl) dX7_turnOff_16 ⟨Nat.zero_le _, Nat.zero_le _⟩ (fun H locs hP hD hS => ?_)
  refine kr_top (w := nI 1) (kI_is ho rfl) ?_
  refine kr_zeq (tgt := 26) hx hcd (by omega) dX7_turnOff_19 (by decide) (fun (c_19 : 1 = 0) => absurd c_19 (by omega)) (fun (c_19 : 0 < 1) => ?_)
  refine lv_iconst (v := nI 0) hx hcd dX7_turnOff_22 (by decide) ?_
  refine lv_goto (tgt := 27) hx hcd dX7_turnOff_23 (by decide) ?_
  refine kr_put hx hcd hts uX7 tyX7 tyX7_ok nmX7 hown hK hP hD hS 0 rfl rfl 7 (by decide) (by decide +kernel) rfl rfl rfl (ws2 := wMA cI z (xu x 7 0) hh M Sp Ot Sv Tx) rfl dX7_turnOff_27 (fun H locs hP hD hS => ?_)
  refine lv_aload_n hx hcd dX7_turnOff_30 rfl (lv_at hl 0 rfl) ?_
  refine kr_get hx hcd hts uX7 hown hK hP 0 rfl rfl 7 (by decide) (by decide +kernel) (v := .int 0) rfl dX7_turnOff_31 ?_
  refine kr_top (w := nI 0) rfl ?_
  refine kr_zeq (tgt := 39) hx hcd (by omega) dX7_turnOff_34 (by decide) (fun (c_34 : 0 = 0) => ?_) (fun (c_34 : 0 < 0) => absurd c_34 (by omega))
  refine lv_aload_n hx hcd dX7_turnOff_39 rfl (lv_at hl 0 rfl) ?_
  refine kr_Vv (As := []) (rest := []) (ws2 := wMA cI z (xu (xu x 7 0) 4 (nI (g_kn n))) hh M Sp Ot (g_keep Sv M n) Tx) (q := (RX7, TX7, 10)) ⟨hx, hcd, hml, hown, hts⟩ (c_X7_keep l D cI cB cW cL z (xu x 7 0) hh Sp Ot Sv Tx _ M n hn4 (by omega)) (cwV 0 hts gX7_turnOff_X7_keep rfl rfl rfl (by decide +kernel) ⟨Nat.le_of_ble_eq_true rfl, Nat.le_of_ble_eq_true rfl⟩) hK hP hD hS hA [0, 1, 2, 3, 4, 5] wMA_allC (by decide) wMA_adr wMA_all 0 rfl rfl rfl hl.1 rfl (Nat.le_of_ble_eq_true rfl) dX7_turnOff_40 ⟨Nat.zero_le _, Nat.zero_le _⟩ (fun H locs hP hD hS => ?_)
  refine lv_aload_n hx hcd dX7_turnOff_43 rfl (lv_at hl 0 rfl) ?_
  refine lv_iload_n hx hcd dX7_turnOff_44 rfl (lv_at hl 1 rfl) ?_
  refine lv_iload_n hx hcd dX7_turnOff_45 rfl (lv_at hl 2 rfl) ?_
  refine kr_Vi (As := [.int (nI a), .int (nI s)]) (rest := []) (ws2 := wMA cI z (xu (xu x 7 0) 4 (nI (g_kn n))) hh (g_turnOff M a s) Sp Ot (g_keep Sv M n) Tx) (q := (RX7, TX7, 10)) ⟨hx, hcd, hml, hown, hts⟩ (c_X7_turnsOff l D cI cB cW cL z (xu (xu x 7 0) 4 (nI (g_kn n))) hh _ M a s hI (by omega) (by omega)) (cwV 2 hts gX7_turnOff_X7_turnsOff rfl rfl rfl (by decide +kernel) ⟨Nat.le_of_ble_eq_true rfl, Nat.le_of_ble_eq_true rfl⟩) hK hP hD hS hA [0, 1] wMA_MoC (by decide) wMo_adr2 wMA_Mo 0 rfl rfl rfl hl.1 rfl (Nat.le_of_ble_eq_true rfl) dX7_turnOff_46 ⟨Nat.zero_le _, Nat.zero_le _⟩ (fun H locs hP hD hS => ?_)
  have hI_1 : kInv (g_turnOff M a s) := i_turnOff hI (by omega) (by omega)
  exact kr_iret hx hcd hr hlocks hK hP hD hS rfl rfl dX7_turnOff_49

set_option maxHeartbeats 4000000 in
set_option maxRecDepth 100000 in
theorem c_X7_turnOff__b1 (l : Launch) (D : va_G) (cI cB cW cL : ClassId) (z : Nat → Nat) (x : Nat → Int32) (hh : Int64) (Sp Ot Sv Tx : Nat → Int32) (sz : Nat) (M : kM) (u : Int32) (w : Int32) (g0 : g_seatok u w = false) : kMi l yX7_turnOff wsX7_turnOff ({ frames := 3, cells := 0, slots := 0, locals := 63 }) D vwCl (kT cI cB cW cL) sz [.ref (z 0), .int u, .int w] (wMA cI z x hh M Sp Ot Sv Tx) (wMA cI z (xu x 7 1) hh M Sp Ot Sv Tx) 0 := by
  refine kr_ofi (cc := cX7_turnOff) (maxL := 3) (ret := (some .int)) (by decide) rfl (Nat.le_of_ble_eq_true rfl) ?_
  intro pp ee ss mm args below meth cc AA ls hx hcd hr hts hown hlocks hml hK hP hD hA hl
  have hS : va_S AA ss.heap ss.heap [] := va_S.rf
  have hown : ss.vm.findClass RX7 = some mm.cls := hown
  have hl : lv_has ls 3 [(0, .ref (z 0)), (1, .int u), (2, .int w)] := hl
  have uX7 : ∀ w ∈ u_ws RX7 TX7 10, w ∈ wsX7_turnOff := by decide +kernel
  refine lv_aload_n hx hcd dX7_turnOff_0 rfl (lv_at hl 0 rfl) ?_
  refine lv_iload_n hx hcd dX7_turnOff_1 rfl (lv_at hl 1 rfl) ?_
  refine lv_iload_n hx hcd dX7_turnOff_2 rfl (lv_at hl 2 rfl) ?_
  refine kr_Si (As := [.int u, .int w]) (rest := [.ref (z 0)]) (ws2 := wMA cI z x hh M Sp Ot Sv Tx) ⟨hx, hcd, hml, hown, hts⟩ (c_X7_isSeat l D cI cB cW cL  _ M u w) (va_cwS 2 hts gX7_turnOff_X7_isSeat rfl rfl rfl (by decide +kernel) ⟨Nat.le_of_ble_eq_true rfl, Nat.le_of_ble_eq_true rfl⟩) hK hP hD hS hA [] rfl (by decide) rfl rfl rfl hl.1 rfl (Nat.le_of_ble_eq_true rfl) dX7_turnOff_3 ⟨Nat.zero_le _, Nat.zero_le _⟩ (fun H locs hP hD hS => ?_)
  refine kr_top (w := nI 0) (kI_no g0 rfl) ?_
  refine kr_zne (tgt := 13) hx hcd (by omega) dX7_turnOff_6 (by decide) (fun (c_6 : 0 < 0) => absurd c_6 (by omega)) (fun (c_6 : 0 = 0) => ?_)
  refine lv_iconst (v := nI 1) hx hcd dX7_turnOff_9 (by decide) ?_
  refine lv_goto (tgt := 27) hx hcd dX7_turnOff_10 (by decide) ?_
  refine kr_put hx hcd hts uX7 tyX7 tyX7_ok nmX7 hown hK hP hD hS 0 rfl rfl 7 (by decide) (by decide +kernel) rfl rfl rfl (ws2 := wMA cI z (xu x 7 1) hh M Sp Ot Sv Tx) rfl dX7_turnOff_27 (fun H locs hP hD hS => ?_)
  refine lv_aload_n hx hcd dX7_turnOff_30 rfl (lv_at hl 0 rfl) ?_
  refine kr_get hx hcd hts uX7 hown hK hP 0 rfl rfl 7 (by decide) (by decide +kernel) (v := .int 1) rfl dX7_turnOff_31 ?_
  refine kr_top (w := nI 1) rfl ?_
  refine kr_zeq (tgt := 39) hx hcd (by omega) dX7_turnOff_34 (by decide) (fun (c_34 : 1 = 0) => absurd c_34 (by omega)) (fun (c_34 : 0 < 1) => ?_)
  refine lv_iconst (v := nI 0) hx hcd dX7_turnOff_37 (by decide) ?_
  exact kr_iret hx hcd hr hlocks hK hP hD hS rfl rfl dX7_turnOff_38

set_option maxHeartbeats 4000000 in
set_option maxRecDepth 100000 in
theorem c_X7_turnOff__b2 (l : Launch) (D : va_G) (cI cB cW cL : ClassId) (z : Nat → Nat) (x : Nat → Int32) (hh : Int64) (Sp Ot Sv Tx : Nat → Int32) (sz : Nat) (M : kM) (a : Nat) (s : Nat) (hI : kInv M) (ha : a < 6) (hs : s < 3) (ho : g_on M a s = false) : kMi l yX7_turnOff wsX7_turnOff ({ frames := 3, cells := 0, slots := 0, locals := 63 }) D vwCl (kT cI cB cW cL) sz [.ref (z 0), .int (nI a), .int (nI s)] (wMA cI z x hh M Sp Ot Sv Tx) (wMA cI z (xu x 7 2) hh M Sp Ot Sv Tx) 0 := by
  refine kr_ofi (cc := cX7_turnOff) (maxL := 3) (ret := (some .int)) (by decide) rfl (Nat.le_of_ble_eq_true rfl) ?_
  intro pp ee ss mm args below meth cc AA ls hx hcd hr hts hown hlocks hml hK hP hD hA hl
  have hS : va_S AA ss.heap ss.heap [] := va_S.rf
  have hown : ss.vm.findClass RX7 = some mm.cls := hown
  have hl : lv_has ls 3 [(0, .ref (z 0)), (1, .int (nI a)), (2, .int (nI s))] := hl
  have uX7 : ∀ w ∈ u_ws RX7 TX7 10, w ∈ wsX7_turnOff := by decide +kernel
  refine lv_aload_n hx hcd dX7_turnOff_0 rfl (lv_at hl 0 rfl) ?_
  refine lv_iload_n hx hcd dX7_turnOff_1 rfl (lv_at hl 1 rfl) ?_
  refine lv_iload_n hx hcd dX7_turnOff_2 rfl (lv_at hl 2 rfl) ?_
  refine kr_Si (As := [.int (nI a), .int (nI s)]) (rest := [.ref (z 0)]) (ws2 := wMA cI z x hh M Sp Ot Sv Tx) ⟨hx, hcd, hml, hown, hts⟩ (c_X7_isSeat l D cI cB cW cL  _ M (nI a) (nI s)) (va_cwS 2 hts gX7_turnOff_X7_isSeat rfl rfl rfl (by decide +kernel) ⟨Nat.le_of_ble_eq_true rfl, Nat.le_of_ble_eq_true rfl⟩) hK hP hD hS hA [] rfl (by decide) rfl rfl rfl hl.1 rfl (Nat.le_of_ble_eq_true rfl) dX7_turnOff_3 ⟨Nat.zero_le _, Nat.zero_le _⟩ (fun H locs hP hD hS => ?_)
  refine kr_top (w := nI 1) (kI_is (seat_ok ha hs) rfl) ?_
  refine kr_zne (tgt := 13) hx hcd (by omega) dX7_turnOff_6 (by decide) (fun (c_6 : 0 < 1) => ?_) (fun (c_6 : 1 = 0) => absurd c_6 (by omega))
  refine lv_aload_n hx hcd dX7_turnOff_13 rfl (lv_at hl 0 rfl) ?_
  refine lv_iload_n hx hcd dX7_turnOff_14 rfl (lv_at hl 1 rfl) ?_
  refine lv_iload_n hx hcd dX7_turnOff_15 rfl (lv_at hl 2 rfl) ?_
  refine kr_Vi (As := [.int (nI a), .int (nI s)]) (rest := [.ref (z 0)]) (ws2 := wMA cI z x hh M Sp Ot Sv Tx) (q := (RX7, TX7, 10)) ⟨hx, hcd, hml, hown, hts⟩ (c_X7_isOn l D cI cB cW cL z x hh _ M a s (by omega) (by omega)) (cwV 2 hts gX7_turnOff_X7_isOn rfl rfl rfl (by decide +kernel) ⟨Nat.le_of_ble_eq_true rfl, Nat.le_of_ble_eq_true rfl⟩) hK hP hD hS hA [0, 1] wMA_MoC (by decide) wMo_adr2 wMA_Mo 0 rfl rfl rfl hl.1 rfl (Nat.le_of_ble_eq_true rfl) dX7_turnOff_16 ⟨Nat.zero_le _, Nat.zero_le _⟩ (fun H locs hP hD hS => ?_)
  refine kr_top (w := nI 0) (kI_no ho rfl) ?_
  refine kr_zeq (tgt := 26) hx hcd (by omega) dX7_turnOff_19 (by decide) (fun (c_19 : 0 = 0) => ?_) (fun (c_19 : 0 < 0) => absurd c_19 (by omega))
  refine lv_iconst (v := nI 2) hx hcd dX7_turnOff_26 (by decide) ?_
  refine kr_put hx hcd hts uX7 tyX7 tyX7_ok nmX7 hown hK hP hD hS 0 rfl rfl 7 (by decide) (by decide +kernel) rfl rfl rfl (ws2 := wMA cI z (xu x 7 2) hh M Sp Ot Sv Tx) rfl dX7_turnOff_27 (fun H locs hP hD hS => ?_)
  refine lv_aload_n hx hcd dX7_turnOff_30 rfl (lv_at hl 0 rfl) ?_
  refine kr_get hx hcd hts uX7 hown hK hP 0 rfl rfl 7 (by decide) (by decide +kernel) (v := .int 2) rfl dX7_turnOff_31 ?_
  refine kr_top (w := nI 2) rfl ?_
  refine kr_zeq (tgt := 39) hx hcd (by omega) dX7_turnOff_34 (by decide) (fun (c_34 : 2 = 0) => absurd c_34 (by omega)) (fun (c_34 : 0 < 2) => ?_)
  refine lv_iconst (v := nI 0) hx hcd dX7_turnOff_37 (by decide) ?_
  exact kr_iret hx hcd hr hlocks hK hP hD hS rfl rfl dX7_turnOff_38

set_option maxHeartbeats 4000000 in
set_option maxRecDepth 100000 in
theorem c_X7_deliver__ok (l : Launch) (D : va_G) (cI cB cW cL : ClassId) (z : Nat → Nat) (x : Nat → Int32) (hh : Int64) (Sp Ot Sv Tx : Nat → Int32) (sz : Nat) (M : kM) (c : Nat) (n : Nat) (hI : kInv M) (hc : c ≤ 1000) (hn4 : x 4 = nI n) (hn : n ≤ 4) : kMi l yX7_deliver wsX7_deliver ({ frames := 5, cells := 0, slots := 0, locals := 118 }) D vwCl (kT cI cB cW cL) sz [.ref (z 0), .int (nI c)] (wMA cI z x hh M Sp Ot Sv Tx) (wMA cI z (xu (xu x 7 0) 4 (nI (g_kn n))) hh (g_del c M) Sp Ot (g_keep Sv M n) Tx) (nI (g_delC c M)) := by
  refine kr_ofi (cc := cX7_deliver) (maxL := 2) (ret := (some .int)) (by decide) rfl (Nat.le_of_ble_eq_true rfl) ?_
  intro pp ee ss mm args below meth cc AA ls hx hcd hr hts hown hlocks hml hK hP hD hA hl
  have hS : va_S AA ss.heap ss.heap [] := va_S.rf
  have hown : ss.vm.findClass RX7 = some mm.cls := hown
  have hl : lv_has ls 2 [(0, .ref (z 0)), (1, .int (nI c))] := hl
  have uX7 : ∀ w ∈ u_ws RX7 TX7 10, w ∈ wsX7_deliver := by decide +kernel
  refine lv_aload_n hx hcd dX7_deliver_0 rfl (lv_at hl 0 rfl) ?_
  refine lv_iload_n hx hcd dX7_deliver_1 rfl (lv_at hl 1 rfl) ?_
  refine lv_iconst (v := nI 0) hx hcd dX7_deliver_2 (by decide) ?_
  refine lv_sipush (v := nI 1000) hx hcd dX7_deliver_3 (by decide) ?_
  refine kr_Si (As := [.int (nI c), .int (nI 0), .int (nI 1000)]) (rest := [.ref (z 0)]) (ws2 := wMA cI z x hh M Sp Ot Sv Tx) ⟨hx, hcd, hml, hown, hts⟩ (c_X7_in l D cI cB cW cL  _ M (nI c) 0 1000) (va_cwS 3 hts gX7_deliver_X7_in rfl rfl rfl (by decide +kernel) ⟨Nat.le_of_ble_eq_true rfl, Nat.le_of_ble_eq_true rfl⟩) hK hP hD hS hA [] rfl (by decide) rfl rfl rfl hl.1 rfl (Nat.le_of_ble_eq_true rfl) dX7_deliver_6 ⟨Nat.zero_le _, Nat.zero_le _⟩ (fun H locs hP hD hS => ?_)
  refine kr_top (w := nI 1) (kI_is (in_ok (lo := 0) (hi := 1000) (by omega) (by omega) (by omega)) rfl) ?_
  refine kr_zeq (tgt := 16) hx hcd (by omega) dX7_deliver_9 (by decide) (fun (c_9 : 1 = 0) => absurd c_9 (by omega)) (fun (c_9 : 0 < 1) => ?_)
  refine lv_iconst (v := nI 0) hx hcd dX7_deliver_12 (by decide) ?_
  refine lv_goto (tgt := 17) hx hcd dX7_deliver_13 (by decide) ?_
  refine kr_put hx hcd hts uX7 tyX7 tyX7_ok nmX7 hown hK hP hD hS 0 rfl rfl 7 (by decide) (by decide +kernel) rfl rfl rfl (ws2 := wMA cI z (xu x 7 0) hh M Sp Ot Sv Tx) rfl dX7_deliver_17 (fun H locs hP hD hS => ?_)
  refine lv_aload_n hx hcd dX7_deliver_20 rfl (lv_at hl 0 rfl) ?_
  refine kr_get hx hcd hts uX7 hown hK hP 0 rfl rfl 7 (by decide) (by decide +kernel) (v := .int 0) rfl dX7_deliver_21 ?_
  refine kr_top (w := nI 0) rfl ?_
  refine kr_zeq (tgt := 29) hx hcd (by omega) dX7_deliver_24 (by decide) (fun (c_24 : 0 = 0) => ?_) (fun (c_24 : 0 < 0) => absurd c_24 (by omega))
  refine lv_aload_n hx hcd dX7_deliver_29 rfl (lv_at hl 0 rfl) ?_
  refine kr_Vv (As := []) (rest := []) (ws2 := wMA cI z (xu (xu x 7 0) 4 (nI (g_kn n))) hh M Sp Ot (g_keep Sv M n) Tx) (q := (RX7, TX7, 10)) ⟨hx, hcd, hml, hown, hts⟩ (c_X7_keep l D cI cB cW cL z (xu x 7 0) hh Sp Ot Sv Tx _ M n hn4 (by omega)) (cwV 0 hts gX7_deliver_X7_keep rfl rfl rfl (by decide +kernel) ⟨Nat.le_of_ble_eq_true rfl, Nat.le_of_ble_eq_true rfl⟩) hK hP hD hS hA [0, 1, 2, 3, 4, 5] wMA_allC (by decide) wMA_adr wMA_all 0 rfl rfl rfl hl.1 rfl (Nat.le_of_ble_eq_true rfl) dX7_deliver_30 ⟨Nat.zero_le _, Nat.zero_le _⟩ (fun H locs hP hD hS => ?_)
  refine lv_aload_n hx hcd dX7_deliver_33 rfl (lv_at hl 0 rfl) ?_
  refine lv_iload_n hx hcd dX7_deliver_34 rfl (lv_at hl 1 rfl) ?_
  refine kr_Vi (As := [.int (nI c)]) (rest := []) (ws2 := wMA cI z (xu (xu x 7 0) 4 (nI (g_kn n))) hh (g_del c M) Sp Ot (g_keep Sv M n) Tx) (q := (RX7, TX7, 10)) ⟨hx, hcd, hml, hown, hts⟩ (c_X7_delivers l D cI cB cW cL z (xu (xu x 7 0) 4 (nI (g_kn n))) hh _ M c hI (by omega)) (cwV 1 hts gX7_deliver_X7_delivers rfl rfl rfl (by decide +kernel) ⟨Nat.le_of_ble_eq_true rfl, Nat.le_of_ble_eq_true rfl⟩) hK hP hD hS hA [0, 1] wMA_MoC (by decide) wMo_adr2 wMA_Mo 0 rfl rfl rfl hl.1 rfl (Nat.le_of_ble_eq_true rfl) dX7_deliver_35 ⟨Nat.zero_le _, Nat.zero_le _⟩ (fun H locs hP hD hS => ?_)
  have hI_1 : kInv (g_del c M) := i_del _ hI
  exact kr_iret hx hcd hr hlocks hK hP hD hS rfl rfl dX7_deliver_38

set_option maxHeartbeats 4000000 in
set_option maxRecDepth 100000 in
theorem c_X7_deliver__b1 (l : Launch) (D : va_G) (cI cB cW cL : ClassId) (z : Nat → Nat) (x : Nat → Int32) (hh : Int64) (Sp Ot Sv Tx : Nat → Int32) (sz : Nat) (M : kM) (u : Int32) (g0 : g_in u 0 1000 = false) : kMi l yX7_deliver wsX7_deliver ({ frames := 1, cells := 0, slots := 0, locals := 22 }) D vwCl (kT cI cB cW cL) sz [.ref (z 0), .int u] (wMA cI z x hh M Sp Ot Sv Tx) (wMA cI z (xu x 7 1) hh M Sp Ot Sv Tx) 0 := by
  refine kr_ofi (cc := cX7_deliver) (maxL := 2) (ret := (some .int)) (by decide) rfl (Nat.le_of_ble_eq_true rfl) ?_
  intro pp ee ss mm args below meth cc AA ls hx hcd hr hts hown hlocks hml hK hP hD hA hl
  have hS : va_S AA ss.heap ss.heap [] := va_S.rf
  have hown : ss.vm.findClass RX7 = some mm.cls := hown
  have hl : lv_has ls 2 [(0, .ref (z 0)), (1, .int u)] := hl
  have uX7 : ∀ w ∈ u_ws RX7 TX7 10, w ∈ wsX7_deliver := by decide +kernel
  refine lv_aload_n hx hcd dX7_deliver_0 rfl (lv_at hl 0 rfl) ?_
  refine lv_iload_n hx hcd dX7_deliver_1 rfl (lv_at hl 1 rfl) ?_
  refine lv_iconst (v := nI 0) hx hcd dX7_deliver_2 (by decide) ?_
  refine lv_sipush (v := nI 1000) hx hcd dX7_deliver_3 (by decide) ?_
  refine kr_Si (As := [.int u, .int (nI 0), .int (nI 1000)]) (rest := [.ref (z 0)]) (ws2 := wMA cI z x hh M Sp Ot Sv Tx) ⟨hx, hcd, hml, hown, hts⟩ (c_X7_in l D cI cB cW cL  _ M u 0 1000) (va_cwS 3 hts gX7_deliver_X7_in rfl rfl rfl (by decide +kernel) ⟨Nat.le_of_ble_eq_true rfl, Nat.le_of_ble_eq_true rfl⟩) hK hP hD hS hA [] rfl (by decide) rfl rfl rfl hl.1 rfl (Nat.le_of_ble_eq_true rfl) dX7_deliver_6 ⟨Nat.zero_le _, Nat.zero_le _⟩ (fun H locs hP hD hS => ?_)
  refine kr_top (w := nI 0) (kI_no g0 rfl) ?_
  refine kr_zeq (tgt := 16) hx hcd (by omega) dX7_deliver_9 (by decide) (fun (c_9 : 0 = 0) => ?_) (fun (c_9 : 0 < 0) => absurd c_9 (by omega))
  refine lv_iconst (v := nI 1) hx hcd dX7_deliver_16 (by decide) ?_
  refine kr_put hx hcd hts uX7 tyX7 tyX7_ok nmX7 hown hK hP hD hS 0 rfl rfl 7 (by decide) (by decide +kernel) rfl rfl rfl (ws2 := wMA cI z (xu x 7 1) hh M Sp Ot Sv Tx) rfl dX7_deliver_17 (fun H locs hP hD hS => ?_)
  refine lv_aload_n hx hcd dX7_deliver_20 rfl (lv_at hl 0 rfl) ?_
  refine kr_get hx hcd hts uX7 hown hK hP 0 rfl rfl 7 (by decide) (by decide +kernel) (v := .int 1) rfl dX7_deliver_21 ?_
  refine kr_top (w := nI 1) rfl ?_
  refine kr_zeq (tgt := 29) hx hcd (by omega) dX7_deliver_24 (by decide) (fun (c_24 : 1 = 0) => absurd c_24 (by omega)) (fun (c_24 : 0 < 1) => ?_)
  refine lv_iconst (v := nI 0) hx hcd dX7_deliver_27 (by decide) ?_
  exact kr_iret hx hcd hr hlocks hK hP hD hS rfl rfl dX7_deliver_28

set_option maxHeartbeats 4000000 in
set_option maxRecDepth 100000 in
theorem c_X7_lose__ok (l : Launch) (D : va_G) (cI cB cW cL : ClassId) (z : Nat → Nat) (x : Nat → Int32) (hh : Int64) (Sp Ot Sv Tx : Nat → Int32) (sz : Nat) (M : kM) (i : Nat) (n : Nat) (hI : kInv M) (hi : i < wyN M) (hn4 : x 4 = nI n) (hn : n ≤ 4) : kMi l yX7_lose wsX7_lose ({ frames := 2, cells := 0, slots := 0, locals := 45 }) D vwCl (kT cI cB cW cL) sz [.ref (z 0), .int (nI i)] (wMA cI z x hh M Sp Ot Sv Tx) (wMA cI z (xu (xu x 7 0) 4 (nI (g_kn n))) hh (g_drop M i) Sp Ot (g_keep Sv M n) Tx) (nI (g_msg M i % 8)) := by
  refine kr_ofi (cc := cX7_lose) (maxL := 3) (ret := (some .int)) (by decide) rfl (Nat.le_of_ble_eq_true rfl) ?_
  intro pp ee ss mm args below meth cc AA ls hx hcd hr hts hown hlocks hml hK hP hD hA hl
  have hS : va_S AA ss.heap ss.heap [] := va_S.rf
  have hown : ss.vm.findClass RX7 = some mm.cls := hown
  have hl : lv_has ls 3 [(0, .ref (z 0)), (1, .int (nI i))] := hl
  have uX7 : ∀ w ∈ u_ws RX7 TX7 10, w ∈ wsX7_lose := by decide +kernel
  have b577 := i_wyle hI
  refine lv_aload_n hx hcd dX7_lose_0 rfl (lv_at hl 0 rfl) ?_
  refine lv_aload_n hx hcd dX7_lose_1 rfl (lv_at hl 0 rfl) ?_
  refine lv_iload_n hx hcd dX7_lose_2 rfl (lv_at hl 1 rfl) ?_
  refine kr_Vi (As := [.int (nI i)]) (rest := [.ref (z 0)]) (ws2 := wMA cI z x hh M Sp Ot Sv Tx) (q := (RX7, TX7, 10)) ⟨hx, hcd, hml, hown, hts⟩ (c_X7_isMessage l D cI cB cW cL z x hh _ M (nI i) hI) (cwV 1 hts gX7_lose_X7_isMessage rfl rfl rfl (by decide +kernel) ⟨Nat.le_of_ble_eq_true rfl, Nat.le_of_ble_eq_true rfl⟩) hK hP hD hS hA [0, 1] wMA_MoC (by decide) wMo_adr2 wMA_Mo 0 rfl rfl rfl hl.1 rfl (Nat.le_of_ble_eq_true rfl) dX7_lose_3 ⟨Nat.zero_le _, Nat.zero_le _⟩ (fun H locs hP hD hS => ?_)
  refine kr_top (w := nI 1) (kI_is (msg_ok hI hi) rfl) ?_
  refine kr_zeq (tgt := 13) hx hcd (by omega) dX7_lose_6 (by decide) (fun (c_6 : 1 = 0) => absurd c_6 (by omega)) (fun (c_6 : 0 < 1) => ?_)
  refine lv_iconst (v := nI 0) hx hcd dX7_lose_9 (by decide) ?_
  refine lv_goto (tgt := 14) hx hcd dX7_lose_10 (by decide) ?_
  refine kr_put hx hcd hts uX7 tyX7 tyX7_ok nmX7 hown hK hP hD hS 0 rfl rfl 7 (by decide) (by decide +kernel) rfl rfl rfl (ws2 := wMA cI z (xu x 7 0) hh M Sp Ot Sv Tx) rfl dX7_lose_14 (fun H locs hP hD hS => ?_)
  refine lv_aload_n hx hcd dX7_lose_17 rfl (lv_at hl 0 rfl) ?_
  refine kr_get hx hcd hts uX7 hown hK hP 0 rfl rfl 7 (by decide) (by decide +kernel) (v := .int 0) rfl dX7_lose_18 ?_
  refine kr_top (w := nI 0) rfl ?_
  refine kr_zeq (tgt := 26) hx hcd (by omega) dX7_lose_21 (by decide) (fun (c_21 : 0 = 0) => ?_) (fun (c_21 : 0 < 0) => absurd c_21 (by omega))
  refine lv_aload_n hx hcd dX7_lose_26 rfl (lv_at hl 0 rfl) ?_
  refine kr_Vv (As := []) (rest := []) (ws2 := wMA cI z (xu (xu x 7 0) 4 (nI (g_kn n))) hh M Sp Ot (g_keep Sv M n) Tx) (q := (RX7, TX7, 10)) ⟨hx, hcd, hml, hown, hts⟩ (c_X7_keep l D cI cB cW cL z (xu x 7 0) hh Sp Ot Sv Tx _ M n hn4 (by omega)) (cwV 0 hts gX7_lose_X7_keep rfl rfl rfl (by decide +kernel) ⟨Nat.le_of_ble_eq_true rfl, Nat.le_of_ble_eq_true rfl⟩) hK hP hD hS hA [0, 1, 2, 3, 4, 5] wMA_allC (by decide) wMA_adr wMA_all 0 rfl rfl rfl hl.1 rfl (Nat.le_of_ble_eq_true rfl) dX7_lose_27 ⟨Nat.zero_le _, Nat.zero_le _⟩ (fun H locs hP hD hS => ?_)
  refine lv_aload_n hx hcd dX7_lose_30 rfl (lv_at hl 0 rfl) ?_
  refine lv_iload_n hx hcd dX7_lose_31 rfl (lv_at hl 1 rfl) ?_
  refine kr_Vi (As := [.int (nI i)]) (rest := []) (ws2 := wMA cI z (xu (xu x 7 0) 4 (nI (g_kn n))) hh M Sp Ot (g_keep Sv M n) Tx) (q := (RX7, TX7, 10)) ⟨hx, hcd, hml, hown, hts⟩ (c_X7_messageAt l D cI cB cW cL z (xu (xu x 7 0) 4 (nI (g_kn n))) hh _ M i hI (by omega)) (cwV 1 hts gX7_lose_X7_messageAt rfl rfl rfl (by decide +kernel) ⟨Nat.le_of_ble_eq_true rfl, Nat.le_of_ble_eq_true rfl⟩) hK hP hD hS hA [0, 1] wMA_MoC (by decide) wMo_adr2 wMA_Mo 0 rfl rfl rfl hl.1 rfl (Nat.le_of_ble_eq_true rfl) dX7_lose_32 ⟨Nat.zero_le _, Nat.zero_le _⟩ (fun H locs hP hD hS => ?_)
  refine lv_iconst (v := nI 0) hx hcd dX7_lose_35 (by decide) ?_
  refine kr_Si (As := [.int (nI (g_msg M i)), .int (nI 0)]) (rest := []) (ws2 := wMA cI z (xu (xu x 7 0) 4 (nI (g_kn n))) hh M Sp Ot (g_keep Sv M n) Tx) ⟨hx, hcd, hml, hown, hts⟩ (c_X7_part l D cI cB cW cL  _ M (g_msg M i) 0 (by omega) (i_msglt hI i)) (va_cwS 2 hts gX7_lose_X7_part rfl rfl rfl (by decide +kernel) ⟨Nat.le_of_ble_eq_true rfl, Nat.le_of_ble_eq_true rfl⟩) hK hP hD hS hA [] rfl (by decide) rfl rfl rfl hl.1 rfl (Nat.le_of_ble_eq_true rfl) dX7_lose_36 ⟨Nat.zero_le _, Nat.zero_le _⟩ (fun H locs hP hD hS => ?_)
  refine kr_top (w := nI (g_msg M i % 8)) rfl ?_
  refine lv_istore_n (lv' := [(2, .int (nI (g_msg M i % 8))), (0, .ref (z 0)), (1, .int (nI i))]) hx hcd dX7_lose_39 rfl hl (by decide) rfl (fun ls hl => ?_)
  refine lv_aload_n hx hcd dX7_lose_40 rfl (lv_at hl 1 rfl) ?_
  refine lv_iload_n hx hcd dX7_lose_41 rfl (lv_at hl 2 rfl) ?_
  refine kr_Vv (As := [.int (nI i)]) (rest := []) (ws2 := wMA cI z (xu (xu x 7 0) 4 (nI (g_kn n))) hh (g_drop M i) Sp Ot (g_keep Sv M n) Tx) (q := (RX7, TX7, 10)) ⟨hx, hcd, hml, hown, hts⟩ (c_X7_drops l D cI cB cW cL z (xu (xu x 7 0) 4 (nI (g_kn n))) hh _ M i hI (by omega)) (cwV 1 hts gX7_lose_X7_drops rfl rfl rfl (by decide +kernel) ⟨Nat.le_of_ble_eq_true rfl, Nat.le_of_ble_eq_true rfl⟩) hK hP hD hS hA [0, 1] wMA_MoC (by decide) wMo_adr2 wMA_Mo 0 rfl rfl rfl hl.1 rfl (Nat.le_of_ble_eq_true rfl) dX7_lose_42 ⟨Nat.zero_le _, Nat.zero_le _⟩ (fun H locs hP hD hS => ?_)
  have hI_1 : kInv (g_drop M i) := i_drop hI (by omega)
  refine lv_iload_n hx hcd dX7_lose_45 rfl (lv_at hl 0 rfl) ?_
  exact kr_iret hx hcd hr hlocks hK hP hD hS rfl rfl dX7_lose_46

set_option maxHeartbeats 4000000 in
set_option maxRecDepth 100000 in
theorem c_X7_lose__b1 (l : Launch) (D : va_G) (cI cB cW cL : ClassId) (z : Nat → Nat) (x : Nat → Int32) (hh : Int64) (Sp Ot Sv Tx : Nat → Int32) (sz : Nat) (M : kM) (u : Int32) (g0 : g_in u 0 (M 577 - 1) = false) (hI : kInv M) : kMi l yX7_lose wsX7_lose ({ frames := 2, cells := 0, slots := 0, locals := 43 }) D vwCl (kT cI cB cW cL) sz [.ref (z 0), .int u] (wMA cI z x hh M Sp Ot Sv Tx) (wMA cI z (xu x 7 1) hh M Sp Ot Sv Tx) 0 := by
  refine kr_ofi (cc := cX7_lose) (maxL := 3) (ret := (some .int)) (by decide) rfl (Nat.le_of_ble_eq_true rfl) ?_
  intro pp ee ss mm args below meth cc AA ls hx hcd hr hts hown hlocks hml hK hP hD hA hl
  have hS : va_S AA ss.heap ss.heap [] := va_S.rf
  have hown : ss.vm.findClass RX7 = some mm.cls := hown
  have hl : lv_has ls 3 [(0, .ref (z 0)), (1, .int u)] := hl
  have uX7 : ∀ w ∈ u_ws RX7 TX7 10, w ∈ wsX7_lose := by decide +kernel
  refine lv_aload_n hx hcd dX7_lose_0 rfl (lv_at hl 0 rfl) ?_
  refine lv_aload_n hx hcd dX7_lose_1 rfl (lv_at hl 0 rfl) ?_
  refine lv_iload_n hx hcd dX7_lose_2 rfl (lv_at hl 1 rfl) ?_
  refine kr_Vi (As := [.int u]) (rest := [.ref (z 0)]) (ws2 := wMA cI z x hh M Sp Ot Sv Tx) (q := (RX7, TX7, 10)) ⟨hx, hcd, hml, hown, hts⟩ (c_X7_isMessage l D cI cB cW cL z x hh _ M u hI) (cwV 1 hts gX7_lose_X7_isMessage rfl rfl rfl (by decide +kernel) ⟨Nat.le_of_ble_eq_true rfl, Nat.le_of_ble_eq_true rfl⟩) hK hP hD hS hA [0, 1] wMA_MoC (by decide) wMo_adr2 wMA_Mo 0 rfl rfl rfl hl.1 rfl (Nat.le_of_ble_eq_true rfl) dX7_lose_3 ⟨Nat.zero_le _, Nat.zero_le _⟩ (fun H locs hP hD hS => ?_)
  refine kr_top (w := nI 0) (kI_no g0 rfl) ?_
  refine kr_zeq (tgt := 13) hx hcd (by omega) dX7_lose_6 (by decide) (fun (c_6 : 0 = 0) => ?_) (fun (c_6 : 0 < 0) => absurd c_6 (by omega))
  refine lv_iconst (v := nI 1) hx hcd dX7_lose_13 (by decide) ?_
  refine kr_put hx hcd hts uX7 tyX7 tyX7_ok nmX7 hown hK hP hD hS 0 rfl rfl 7 (by decide) (by decide +kernel) rfl rfl rfl (ws2 := wMA cI z (xu x 7 1) hh M Sp Ot Sv Tx) rfl dX7_lose_14 (fun H locs hP hD hS => ?_)
  refine lv_aload_n hx hcd dX7_lose_17 rfl (lv_at hl 0 rfl) ?_
  refine kr_get hx hcd hts uX7 hown hK hP 0 rfl rfl 7 (by decide) (by decide +kernel) (v := .int 1) rfl dX7_lose_18 ?_
  refine kr_top (w := nI 1) rfl ?_
  refine kr_zeq (tgt := 26) hx hcd (by omega) dX7_lose_21 (by decide) (fun (c_21 : 1 = 0) => absurd c_21 (by omega)) (fun (c_21 : 0 < 1) => ?_)
  refine lv_iconst (v := nI 0) hx hcd dX7_lose_24 (by decide) ?_
  exact kr_iret hx hcd hr hlocks hK hP hD hS rfl rfl dX7_lose_25
