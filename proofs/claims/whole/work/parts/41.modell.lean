set_option maxHeartbeats 4000000 in
set_option maxRecDepth 100000 in
theorem c_X7_readOrder__c97 (l : Launch) (D : va_G) (cI cB cW cL : ClassId) (z : Nat → Nat) (x : Nat → Int32) (hh : Int64) (Sp Ot Sv Tx : Nat → Int32) (sz : Nat) (M : kM) (i L : Nat) (hT : kTx Tx) (h8 : x 8 = nI i) (h6 : x 6 = nI L) (hL : L ≤ 100) (hi : i < L) (hlc : ch Tx i = 97) : kMi l yX7_readOrder wsX7_readOrder ({ frames := 2, cells := 0, slots := 0, locals := 43 }) D vwCl (kT cI cB cW cL) sz [.ref (z 0)] (wMA cI z x hh M Sp Ot Sv Tx) (wMA cI z (xu x 8 (nI (r_pos Tx L i))) hh M Sp Ot Sv Tx) (kI (decide (r_pos Tx L i = i + 4))) := by
  refine kr_ofi (cc := cX7_readOrder) (maxL := 5) (ret := (some .boolean)) (by decide) rfl (Nat.le_of_ble_eq_true rfl) ?_
  intro pp ee ss mm args below meth cc AA ls hx hcd hr hts hown hlocks hml hK hP hD hA hl
  have hS : va_S AA ss.heap ss.heap [] := va_S.rf
  have hown : ss.vm.findClass RX7 = some mm.cls := hown
  have hl : lv_has ls 5 [(0, .ref (z 0))] := hl
  have uX7 : ∀ w ∈ u_ws RX7 TX7 10, w ∈ wsX7_readOrder := by decide +kernel
  refine lv_aload_n hx hcd dX7_readOrder_0 rfl (lv_at hl 0 rfl) ?_
  refine kr_get hx hcd hts uX7 hown hK hP 0 rfl rfl 5 (by decide) (by decide +kernel) (v := .ref (z 5)) rfl dX7_readOrder_1 ?_
  refine lv_aload_n hx hcd dX7_readOrder_4 rfl (lv_at hl 0 rfl) ?_
  refine kr_get hx hcd hts uX7 hown hK hP 0 rfl rfl 8 (by decide) (by decide +kernel) (v := .int (x 8)) rfl dX7_readOrder_5 ?_
  refine kr_top (w := nI i) h8 ?_
  refine kr_iald hx hcd hK hP 5 0 rfl rfl (v := Tx i) (by omega) (by decide) (congrArg Tx (by omega)) dX7_readOrder_8 ?_
  refine kr_top (w := nI 97) ((t_ch hT (by omega)).trans (congrArg nI hlc)) ?_
  refine lv_istore_n (lv' := [(1, .int (nI 97)), (0, .ref (z 0))]) hx hcd dX7_readOrder_9 rfl hl (by decide) rfl (fun ls hl => ?_)
  refine lv_iload_n hx hcd dX7_readOrder_10 rfl (lv_at hl 0 rfl) ?_
  refine kr_Si (As := [.int (nI 97)]) (rest := []) (ws2 := wMA cI z x hh M Sp Ot Sv Tx) ⟨hx, hcd, hml, hown, hts⟩ (c_X7_areUsers l D cI cB cW cL  _ M 97 (by omega)) (va_cwS 1 hts gX7_readOrder_X7_areUsers rfl rfl rfl (by decide +kernel) ⟨Nat.le_of_ble_eq_true rfl, Nat.le_of_ble_eq_true rfl⟩) hK hP hD hS hA [] rfl (by decide) rfl rfl rfl hl.1 rfl (Nat.le_of_ble_eq_true rfl) dX7_readOrder_11 ⟨Nat.zero_le _, Nat.zero_le _⟩ (fun H locs hP hD hS => ?_)
  refine kr_top (w := nI 1) rfl ?_
  refine lv_istore_n (lv' := [(2, .int (nI 1)), (1, .int (nI 97)), (0, .ref (z 0))]) hx hcd dX7_readOrder_14 rfl hl (by decide) rfl (fun ls hl => ?_)
  refine lv_iload_n hx hcd dX7_readOrder_15 rfl (lv_at hl 1 rfl) ?_
  refine lv_bipush (v := nI 105) hx hcd dX7_readOrder_16 (by decide) ?_
  refine kr_ceq (tgt := 27) hx hcd (by omega) (by omega) dX7_readOrder_18 (by decide) (fun (c_18 : 97 = 105) => absurd c_18 (by omega)) (fun (c_18 : ¬ 97 = 105) => ?_)
  refine lv_iload_n hx hcd dX7_readOrder_21 rfl (lv_at hl 1 rfl) ?_
  refine lv_bipush (v := nI 111) hx hcd dX7_readOrder_22 (by decide) ?_
  refine kr_cne (tgt := 31) hx hcd (by omega) (by omega) dX7_readOrder_24 (by decide) (fun (c_24 : ¬ 97 = 111) => ?_) (fun (c_24 : 97 = 111) => absurd c_24 (by omega))
  refine lv_iconst (v := nI 0) hx hcd dX7_readOrder_31 (by decide) ?_
  refine lv_istore_n (lv' := [(3, .int (nI 0)), (2, .int (nI 1)), (1, .int (nI 97)), (0, .ref (z 0))]) hx hcd dX7_readOrder_32 rfl hl (by decide) rfl (fun ls hl => ?_)
  refine lv_iload_n hx hcd dX7_readOrder_33 rfl (lv_at hl 1 rfl) ?_
  refine kr_zne (tgt := 49) hx hcd (by omega) dX7_readOrder_34 (by decide) (fun (c_34 : 0 < 1) => ?_) (fun (c_34 : 1 = 0) => absurd c_34 (by omega))
  refine lv_aload_n hx hcd dX7_readOrder_49 rfl (lv_at hl 3 rfl) ?_
  refine lv_dup hx hcd dX7_readOrder_50 rfl ?_
  refine kr_get hx hcd hts uX7 hown hK hP 0 rfl rfl 8 (by decide) (by decide +kernel) (v := .int (x 8)) rfl dX7_readOrder_51 ?_
  refine kr_top (w := nI i) h8 ?_
  refine lv_iconst (v := nI 1) hx hcd dX7_readOrder_54 (by decide) ?_
  refine kr_add hx hcd dX7_readOrder_55 ?_
  refine kr_put hx hcd hts uX7 tyX7 tyX7_ok nmX7 hown hK hP hD hS 0 rfl rfl 8 (by decide) (by decide +kernel) rfl rfl rfl (ws2 := wMA cI z (xu x 8 (nI (i + 1))) hh M Sp Ot Sv Tx) rfl dX7_readOrder_56 (fun H locs hP hD hS => ?_)
  refine lv_aload_n hx hcd dX7_readOrder_59 rfl (lv_at hl 3 rfl) ?_
  refine lv_iload_n hx hcd dX7_readOrder_60 rfl (lv_at hl 2 rfl) ?_
  refine lv_bipush (v := nI 100) hx hcd dX7_readOrder_61 (by decide) ?_
  refine kr_cne (tgt := 71) hx hcd (by omega) (by omega) dX7_readOrder_63 (by decide) (fun (c_63 : ¬ 97 = 100) => ?_) (fun (c_63 : 97 = 100) => absurd c_63 (by omega))
  refine lv_iconst (v := nI 5) hx hcd dX7_readOrder_71 (by decide) ?_
  refine kr_Vi (As := [.int (nI 5)]) (rest := []) (ws2 := wMA cI z (xu x 8 (nI (i + 1))) hh M Sp Ot Sv Tx) (q := (RX7, TX7, 10)) ⟨hx, hcd, hml, hown, hts⟩ (c_X7_isDigit l D cI cB cW cL z (xu x 8 (nI (i + 1))) hh Sp Ot Sv Tx _ M 5 (i + 1) L hT (show xu x 8 (nI (i + 1)) 8 = nI (i + 1) from rfl) h6 (by omega) (by omega) (by omega)) (cwV 1 hts gX7_readOrder_X7_isDigit rfl rfl rfl (by decide +kernel) ⟨Nat.le_of_ble_eq_true rfl, Nat.le_of_ble_eq_true rfl⟩) hK hP hD hS hA [0, 1, 2, 3, 4, 5] wMA_allC (by decide) wMA_adr wMA_all 0 rfl rfl rfl hl.1 rfl (Nat.le_of_ble_eq_true rfl) dX7_readOrder_72 ⟨Nat.zero_le _, Nat.zero_le _⟩ (fun H locs hP hD hS => ?_)
  refine kr_bne (tgt := 80) hx hcd dX7_readOrder_75 (by decide) (fun (c_75 : (decide ((i + 1) < L) && c_dig (ch Tx (i + 1)) (5 + 1)) = true) => ?_) (fun (c_75 : (decide ((i + 1) < L) && c_dig (ch Tx (i + 1)) (5 + 1)) = false) => ?_)
  · have z75 : i + 1 < L := by simp only [Bool.and_eq_true, decide_eq_true_eq] at c_75; exact c_75.1
    refine lv_aload_n hx hcd dX7_readOrder_80 rfl (lv_at hl 3 rfl) ?_
    refine kr_get hx hcd hts uX7 hown hK hP 0 rfl rfl 5 (by decide) (by decide +kernel) (v := .ref (z 5)) rfl dX7_readOrder_81 ?_
    refine lv_aload_n hx hcd dX7_readOrder_84 rfl (lv_at hl 3 rfl) ?_
    refine kr_get hx hcd hts uX7 hown hK hP 0 rfl rfl 8 (by decide) (by decide +kernel) (v := .int (nI (i + 1))) rfl dX7_readOrder_85 ?_
    refine kr_iald hx hcd hK hP 5 0 rfl rfl (v := Tx (1 + i)) (by omega) (by decide) (congrArg Tx (by omega)) dX7_readOrder_88 ?_
    refine kr_top (w := nI (ch Tx (i + 1))) (by rw [Nat.add_comm]; exact t_ch hT (by omega)) ?_
    refine lv_istore (lv' := [(4, .int (nI (ch Tx (i + 1)))), (3, .int (nI 0)), (2, .int (nI 1)), (1, .int (nI 97)), (0, .ref (z 0))]) hx hcd dX7_readOrder_89 hl (by decide) rfl (fun ls hl => ?_)
    refine lv_aload_n hx hcd dX7_readOrder_91 rfl (lv_at hl 4 rfl) ?_
    refine lv_dup hx hcd dX7_readOrder_92 rfl ?_
    refine kr_get hx hcd hts uX7 hown hK hP 0 rfl rfl 8 (by decide) (by decide +kernel) (v := .int (nI (i + 1))) rfl dX7_readOrder_93 ?_
    refine lv_iconst (v := nI 1) hx hcd dX7_readOrder_96 (by decide) ?_
    refine kr_add hx hcd dX7_readOrder_97 ?_
    refine kr_put hx hcd hts uX7 tyX7 tyX7_ok nmX7 hown hK hP hD hS 0 rfl rfl 8 (by decide) (by decide +kernel) rfl rfl rfl (ws2 := wMA cI z (xu x 8 (nI ((i + 1) + 1))) hh M Sp Ot Sv Tx) rfl dX7_readOrder_98 (fun H locs hP hD hS => ?_)
    refine lv_aload_n hx hcd dX7_readOrder_101 rfl (lv_at hl 4 rfl) ?_
    refine lv_iload_n hx hcd dX7_readOrder_102 rfl (lv_at hl 3 rfl) ?_
    refine lv_bipush (v := nI 100) hx hcd dX7_readOrder_103 (by decide) ?_
    refine kr_cne (tgt := 113) hx hcd (by omega) (by omega) dX7_readOrder_105 (by decide) (fun (c_105 : ¬ 97 = 100) => ?_) (fun (c_105 : 97 = 100) => absurd c_105 (by omega))
    refine lv_iload_n hx hcd dX7_readOrder_113 rfl (lv_at hl 2 rfl) ?_
    refine kr_zeq (tgt := 121) hx hcd (by omega) dX7_readOrder_114 (by decide) (fun (c_114 : 1 = 0) => absurd c_114 (by omega)) (fun (c_114 : 0 < 1) => ?_)
    refine lv_iconst (v := nI 5) hx hcd dX7_readOrder_117 (by decide) ?_
    refine lv_goto (tgt := 122) hx hcd dX7_readOrder_118 (by decide) ?_
    refine kr_Vi (As := [.int (nI 5)]) (rest := []) (ws2 := wMA cI z (xu x 8 (nI ((i + 1) + 1))) hh M Sp Ot Sv Tx) (q := (RX7, TX7, 10)) ⟨hx, hcd, hml, hown, hts⟩ (c_X7_isDigit l D cI cB cW cL z (xu x 8 (nI ((i + 1) + 1))) hh Sp Ot Sv Tx _ M 5 (i + 2) L hT (show xu x 8 (nI (i + 2)) 8 = nI (i + 2) from rfl) h6 (by omega) (by omega) (by omega)) (cwV 1 hts gX7_readOrder_X7_isDigit rfl rfl rfl (by decide +kernel) ⟨Nat.le_of_ble_eq_true rfl, Nat.le_of_ble_eq_true rfl⟩) hK hP hD hS hA [0, 1, 2, 3, 4, 5] wMA_allC (by decide) wMA_adr wMA_all 0 rfl rfl rfl hl.1 rfl (Nat.le_of_ble_eq_true rfl) dX7_readOrder_122 ⟨Nat.zero_le _, Nat.zero_le _⟩ (fun H locs hP hD hS => ?_)
    refine kr_beq (tgt := 146) hx hcd dX7_readOrder_125 (by decide) (fun (c_125 : (decide ((i + 2) < L) && c_dig (ch Tx (i + 2)) (5 + 1)) = false) => ?_) (fun (c_125 : (decide ((i + 2) < L) && c_dig (ch Tx (i + 2)) (5 + 1)) = true) => ?_)
    · refine lv_iconst (v := nI 0) hx hcd dX7_readOrder_146 (by decide) ?_
      exact kr_zret hx hcd hr hlocks hK hP hD hS rfl (by rw [show r_pos Tx L i = i + 2 by first | exact rpx2 hlc rfl rfl c_75 (su_f c_125) | exact rpx2 hlc rfl rfl c_75 (su_e (decide_eq_false (not_not_intro c_143)))]; rw [decide_eq_false (by omega)]; rfl) (by rw [show r_pos Tx L i = i + 2 by first | exact rpx2 hlc rfl rfl c_75 (su_f c_125) | exact rpx2 hlc rfl rfl c_75 (su_e (decide_eq_false (not_not_intro c_143)))]) dX7_readOrder_147
    · have z125 : i + 2 < L := by simp only [Bool.and_eq_true, decide_eq_true_eq] at c_125; exact c_125.1
      have y1 := t_lt hT (show i + 1 < 100 by omega)
      have y2 := t_lt hT (show i + 2 < 100 by omega)
      refine lv_iload_n hx hcd dX7_readOrder_128 rfl (lv_at hl 2 rfl) ?_
      refine kr_zeq (tgt := 148) hx hcd (by omega) dX7_readOrder_129 (by decide) (fun (c_129 : 1 = 0) => absurd c_129 (by omega)) (fun (c_129 : 0 < 1) => ?_)
      refine lv_aload_n hx hcd dX7_readOrder_132 rfl (lv_at hl 4 rfl) ?_
      refine kr_get hx hcd hts uX7 hown hK hP 0 rfl rfl 5 (by decide) (by decide +kernel) (v := .ref (z 5)) rfl dX7_readOrder_133 ?_
      refine lv_aload_n hx hcd dX7_readOrder_136 rfl (lv_at hl 4 rfl) ?_
      refine kr_get hx hcd hts uX7 hown hK hP 0 rfl rfl 8 (by decide) (by decide +kernel) (v := .int (nI ((i + 1) + 1))) rfl dX7_readOrder_137 ?_
      refine kr_iald hx hcd hK hP 5 0 rfl rfl (v := Tx (2 + i)) (by omega) (by decide) (congrArg Tx (by omega)) dX7_readOrder_140 ?_
      refine kr_top (w := nI (ch Tx (i + 2))) (by rw [Nat.add_comm]; exact t_ch hT (by omega)) ?_
      refine lv_iload hx hcd dX7_readOrder_141 (lv_at hl 0 rfl) ?_
      refine kr_cne (tgt := 148) hx hcd (by omega) (by omega) dX7_readOrder_143 (by decide) (fun (c_143 : ¬ ch Tx (i + 2) = ch Tx (i + 1)) => ?_) (fun (c_143 : ch Tx (i + 2) = ch Tx (i + 1)) => ?_)
      · have z125 : i + 2 < L := by simp only [Bool.and_eq_true, decide_eq_true_eq] at c_125; exact c_125.1
        refine lv_aload_n hx hcd dX7_readOrder_148 rfl (lv_at hl 4 rfl) ?_
        refine lv_dup hx hcd dX7_readOrder_149 rfl ?_
        refine kr_get hx hcd hts uX7 hown hK hP 0 rfl rfl 8 (by decide) (by decide +kernel) (v := .int (nI ((i + 1) + 1))) rfl dX7_readOrder_150 ?_
        refine lv_iconst (v := nI 1) hx hcd dX7_readOrder_153 (by decide) ?_
        refine kr_add hx hcd dX7_readOrder_154 ?_
        refine kr_put hx hcd hts uX7 tyX7 tyX7_ok nmX7 hown hK hP hD hS 0 rfl rfl 8 (by decide) (by decide +kernel) rfl rfl rfl (ws2 := wMA cI z (xu x 8 (nI (((i + 1) + 1) + 1))) hh M Sp Ot Sv Tx) rfl dX7_readOrder_155 (fun H locs hP hD hS => ?_)
        refine lv_aload_n hx hcd dX7_readOrder_158 rfl (lv_at hl 4 rfl) ?_
        refine kr_get hx hcd hts uX7 hown hK hP 0 rfl rfl 8 (by decide) (by decide +kernel) (v := .int (nI (((i + 1) + 1) + 1))) rfl dX7_readOrder_159 ?_
        refine lv_aload_n hx hcd dX7_readOrder_162 rfl (lv_at hl 4 rfl) ?_
        refine kr_get hx hcd hts uX7 hown hK hP 0 rfl rfl 6 (by decide) (by decide +kernel) (v := .int (x 6)) rfl dX7_readOrder_163 ?_
        refine kr_top (w := nI L) h6 ?_
        refine kr_cge (tgt := 183) hx hcd (by omega) (by omega) dX7_readOrder_166 (by decide) (fun (c_166 : L ≤ ((i + 1) + 1) + 1) => ?_) (fun (c_166 : ((i + 1) + 1) + 1 < L) => ?_)
        · refine lv_iconst (v := nI 0) hx hcd dX7_readOrder_183 (by decide) ?_
          exact kr_zret hx hcd hr hlocks hK hP hD hS rfl (by rw [show r_pos Tx L i = i + 3 by first | exact rpx3 hlc rfl rfl c_75 (su_t c_125 (decide_eq_true c_143)) (Or.inl (Nat.not_lt.mpr c_166)) | exact rpx3 hlc rfl rfl c_75 (su_t c_125 (decide_eq_true c_143)) (Or.inr c_180)]; rw [decide_eq_false (by omega)]; rfl) (by rw [show r_pos Tx L i = i + 3 by first | exact rpx3 hlc rfl rfl c_75 (su_t c_125 (decide_eq_true c_143)) (Or.inl (Nat.not_lt.mpr c_166)) | exact rpx3 hlc rfl rfl c_75 (su_t c_125 (decide_eq_true c_143)) (Or.inr c_180)]) dX7_readOrder_184
        · have y3 := t_lt hT (show i + 3 < 100 by omega)
          refine lv_aload_n hx hcd dX7_readOrder_169 rfl (lv_at hl 4 rfl) ?_
          refine kr_get hx hcd hts uX7 hown hK hP 0 rfl rfl 5 (by decide) (by decide +kernel) (v := .ref (z 5)) rfl dX7_readOrder_170 ?_
          refine lv_aload_n hx hcd dX7_readOrder_173 rfl (lv_at hl 4 rfl) ?_
          refine kr_get hx hcd hts uX7 hown hK hP 0 rfl rfl 8 (by decide) (by decide +kernel) (v := .int (nI (((i + 1) + 1) + 1))) rfl dX7_readOrder_174 ?_
          refine kr_iald hx hcd hK hP 5 0 rfl rfl (v := Tx (3 + i)) (by omega) (by decide) (congrArg Tx (by omega)) dX7_readOrder_177 ?_
          refine kr_top (w := nI (ch Tx (i + 3))) (by rw [Nat.add_comm]; exact t_ch hT (by omega)) ?_
          refine lv_bipush (v := nI 59) hx hcd dX7_readOrder_178 (by decide) ?_
          refine kr_ceq (tgt := 185) hx hcd (by omega) (by omega) dX7_readOrder_180 (by decide) (fun (c_180 : ch Tx (i + 3) = 59) => ?_) (fun (c_180 : ¬ ch Tx (i + 3) = 59) => ?_)
          · refine lv_aload_n hx hcd dX7_readOrder_185 rfl (lv_at hl 4 rfl) ?_
            refine lv_dup hx hcd dX7_readOrder_186 rfl ?_
            refine kr_get hx hcd hts uX7 hown hK hP 0 rfl rfl 8 (by decide) (by decide +kernel) (v := .int (nI (((i + 1) + 1) + 1))) rfl dX7_readOrder_187 ?_
            refine lv_iconst (v := nI 1) hx hcd dX7_readOrder_190 (by decide) ?_
            refine kr_add hx hcd dX7_readOrder_191 ?_
            refine kr_put hx hcd hts uX7 tyX7 tyX7_ok nmX7 hown hK hP hD hS 0 rfl rfl 8 (by decide) (by decide +kernel) rfl rfl rfl (ws2 := wMA cI z (xu x 8 (nI ((((i + 1) + 1) + 1) + 1))) hh M Sp Ot Sv Tx) rfl dX7_readOrder_192 (fun H locs hP hD hS => ?_)
            refine lv_iconst (v := nI 1) hx hcd dX7_readOrder_195 (by decide) ?_
            exact kr_zret hx hcd hr hlocks hK hP hD hS rfl (by rw [show r_pos Tx L i = i + 4 by exact rpx4 hlc rfl rfl c_75 (su_t c_125 (decide_eq_true c_143)) c_166 c_180]; rw [decide_eq_true rfl]; rfl) (by rw [show r_pos Tx L i = i + 4 by exact rpx4 hlc rfl rfl c_75 (su_t c_125 (decide_eq_true c_143)) c_166 c_180]) dX7_readOrder_196
          · refine lv_iconst (v := nI 0) hx hcd dX7_readOrder_183 (by decide) ?_
            exact kr_zret hx hcd hr hlocks hK hP hD hS rfl (by rw [show r_pos Tx L i = i + 3 by first | exact rpx3 hlc rfl rfl c_75 (su_t c_125 (decide_eq_true c_143)) (Or.inl (Nat.not_lt.mpr c_166)) | exact rpx3 hlc rfl rfl c_75 (su_t c_125 (decide_eq_true c_143)) (Or.inr c_180)]; rw [decide_eq_false (by omega)]; rfl) (by rw [show r_pos Tx L i = i + 3 by first | exact rpx3 hlc rfl rfl c_75 (su_t c_125 (decide_eq_true c_143)) (Or.inl (Nat.not_lt.mpr c_166)) | exact rpx3 hlc rfl rfl c_75 (su_t c_125 (decide_eq_true c_143)) (Or.inr c_180)]) dX7_readOrder_184
      · refine lv_iconst (v := nI 0) hx hcd dX7_readOrder_146 (by decide) ?_
        exact kr_zret hx hcd hr hlocks hK hP hD hS rfl (by rw [show r_pos Tx L i = i + 2 by first | exact rpx2 hlc rfl rfl c_75 (su_f c_125) | exact rpx2 hlc rfl rfl c_75 (su_e (decide_eq_false (not_not_intro c_143)))]; rw [decide_eq_false (by omega)]; rfl) (by rw [show r_pos Tx L i = i + 2 by first | exact rpx2 hlc rfl rfl c_75 (su_f c_125) | exact rpx2 hlc rfl rfl c_75 (su_e (decide_eq_false (not_not_intro c_143)))]) dX7_readOrder_147
  · refine lv_iconst (v := nI 0) hx hcd dX7_readOrder_78 (by decide) ?_
    exact kr_zret hx hcd hr hlocks hK hP hD hS rfl (by rw [show r_pos Tx L i = i + 1 by exact rpx1 hlc rfl rfl c_75]; rw [decide_eq_false (by omega)]; rfl) (by rw [show r_pos Tx L i = i + 1 by exact rpx1 hlc rfl rfl c_75]) dX7_readOrder_79

set_option maxHeartbeats 4000000 in
set_option maxRecDepth 100000 in
theorem c_X7_readOrder__c103 (l : Launch) (D : va_G) (cI cB cW cL : ClassId) (z : Nat → Nat) (x : Nat → Int32) (hh : Int64) (Sp Ot Sv Tx : Nat → Int32) (sz : Nat) (M : kM) (i L : Nat) (hT : kTx Tx) (h8 : x 8 = nI i) (h6 : x 6 = nI L) (hL : L ≤ 100) (hi : i < L) (hlc : ch Tx i = 103) : kMi l yX7_readOrder wsX7_readOrder ({ frames := 2, cells := 0, slots := 0, locals := 43 }) D vwCl (kT cI cB cW cL) sz [.ref (z 0)] (wMA cI z x hh M Sp Ot Sv Tx) (wMA cI z (xu x 8 (nI (r_pos Tx L i))) hh M Sp Ot Sv Tx) (kI (decide (r_pos Tx L i = i + 4))) := by
  refine kr_ofi (cc := cX7_readOrder) (maxL := 5) (ret := (some .boolean)) (by decide) rfl (Nat.le_of_ble_eq_true rfl) ?_
  intro pp ee ss mm args below meth cc AA ls hx hcd hr hts hown hlocks hml hK hP hD hA hl
  have hS : va_S AA ss.heap ss.heap [] := va_S.rf
  have hown : ss.vm.findClass RX7 = some mm.cls := hown
  have hl : lv_has ls 5 [(0, .ref (z 0))] := hl
  have uX7 : ∀ w ∈ u_ws RX7 TX7 10, w ∈ wsX7_readOrder := by decide +kernel
  refine lv_aload_n hx hcd dX7_readOrder_0 rfl (lv_at hl 0 rfl) ?_
  refine kr_get hx hcd hts uX7 hown hK hP 0 rfl rfl 5 (by decide) (by decide +kernel) (v := .ref (z 5)) rfl dX7_readOrder_1 ?_
  refine lv_aload_n hx hcd dX7_readOrder_4 rfl (lv_at hl 0 rfl) ?_
  refine kr_get hx hcd hts uX7 hown hK hP 0 rfl rfl 8 (by decide) (by decide +kernel) (v := .int (x 8)) rfl dX7_readOrder_5 ?_
  refine kr_top (w := nI i) h8 ?_
  refine kr_iald hx hcd hK hP 5 0 rfl rfl (v := Tx i) (by omega) (by decide) (congrArg Tx (by omega)) dX7_readOrder_8 ?_
  refine kr_top (w := nI 103) ((t_ch hT (by omega)).trans (congrArg nI hlc)) ?_
  refine lv_istore_n (lv' := [(1, .int (nI 103)), (0, .ref (z 0))]) hx hcd dX7_readOrder_9 rfl hl (by decide) rfl (fun ls hl => ?_)
  refine lv_iload_n hx hcd dX7_readOrder_10 rfl (lv_at hl 0 rfl) ?_
  refine kr_Si (As := [.int (nI 103)]) (rest := []) (ws2 := wMA cI z x hh M Sp Ot Sv Tx) ⟨hx, hcd, hml, hown, hts⟩ (c_X7_areUsers l D cI cB cW cL  _ M 103 (by omega)) (va_cwS 1 hts gX7_readOrder_X7_areUsers rfl rfl rfl (by decide +kernel) ⟨Nat.le_of_ble_eq_true rfl, Nat.le_of_ble_eq_true rfl⟩) hK hP hD hS hA [] rfl (by decide) rfl rfl rfl hl.1 rfl (Nat.le_of_ble_eq_true rfl) dX7_readOrder_11 ⟨Nat.zero_le _, Nat.zero_le _⟩ (fun H locs hP hD hS => ?_)
  refine kr_top (w := nI 1) rfl ?_
  refine lv_istore_n (lv' := [(2, .int (nI 1)), (1, .int (nI 103)), (0, .ref (z 0))]) hx hcd dX7_readOrder_14 rfl hl (by decide) rfl (fun ls hl => ?_)
  refine lv_iload_n hx hcd dX7_readOrder_15 rfl (lv_at hl 1 rfl) ?_
  refine lv_bipush (v := nI 105) hx hcd dX7_readOrder_16 (by decide) ?_
  refine kr_ceq (tgt := 27) hx hcd (by omega) (by omega) dX7_readOrder_18 (by decide) (fun (c_18 : 103 = 105) => absurd c_18 (by omega)) (fun (c_18 : ¬ 103 = 105) => ?_)
  refine lv_iload_n hx hcd dX7_readOrder_21 rfl (lv_at hl 1 rfl) ?_
  refine lv_bipush (v := nI 111) hx hcd dX7_readOrder_22 (by decide) ?_
  refine kr_cne (tgt := 31) hx hcd (by omega) (by omega) dX7_readOrder_24 (by decide) (fun (c_24 : ¬ 103 = 111) => ?_) (fun (c_24 : 103 = 111) => absurd c_24 (by omega))
  refine lv_iconst (v := nI 0) hx hcd dX7_readOrder_31 (by decide) ?_
  refine lv_istore_n (lv' := [(3, .int (nI 0)), (2, .int (nI 1)), (1, .int (nI 103)), (0, .ref (z 0))]) hx hcd dX7_readOrder_32 rfl hl (by decide) rfl (fun ls hl => ?_)
  refine lv_iload_n hx hcd dX7_readOrder_33 rfl (lv_at hl 1 rfl) ?_
  refine kr_zne (tgt := 49) hx hcd (by omega) dX7_readOrder_34 (by decide) (fun (c_34 : 0 < 1) => ?_) (fun (c_34 : 1 = 0) => absurd c_34 (by omega))
  refine lv_aload_n hx hcd dX7_readOrder_49 rfl (lv_at hl 3 rfl) ?_
  refine lv_dup hx hcd dX7_readOrder_50 rfl ?_
  refine kr_get hx hcd hts uX7 hown hK hP 0 rfl rfl 8 (by decide) (by decide +kernel) (v := .int (x 8)) rfl dX7_readOrder_51 ?_
  refine kr_top (w := nI i) h8 ?_
  refine lv_iconst (v := nI 1) hx hcd dX7_readOrder_54 (by decide) ?_
  refine kr_add hx hcd dX7_readOrder_55 ?_
  refine kr_put hx hcd hts uX7 tyX7 tyX7_ok nmX7 hown hK hP hD hS 0 rfl rfl 8 (by decide) (by decide +kernel) rfl rfl rfl (ws2 := wMA cI z (xu x 8 (nI (i + 1))) hh M Sp Ot Sv Tx) rfl dX7_readOrder_56 (fun H locs hP hD hS => ?_)
  refine lv_aload_n hx hcd dX7_readOrder_59 rfl (lv_at hl 3 rfl) ?_
  refine lv_iload_n hx hcd dX7_readOrder_60 rfl (lv_at hl 2 rfl) ?_
  refine lv_bipush (v := nI 100) hx hcd dX7_readOrder_61 (by decide) ?_
  refine kr_cne (tgt := 71) hx hcd (by omega) (by omega) dX7_readOrder_63 (by decide) (fun (c_63 : ¬ 103 = 100) => ?_) (fun (c_63 : 103 = 100) => absurd c_63 (by omega))
  refine lv_iconst (v := nI 5) hx hcd dX7_readOrder_71 (by decide) ?_
  refine kr_Vi (As := [.int (nI 5)]) (rest := []) (ws2 := wMA cI z (xu x 8 (nI (i + 1))) hh M Sp Ot Sv Tx) (q := (RX7, TX7, 10)) ⟨hx, hcd, hml, hown, hts⟩ (c_X7_isDigit l D cI cB cW cL z (xu x 8 (nI (i + 1))) hh Sp Ot Sv Tx _ M 5 (i + 1) L hT (show xu x 8 (nI (i + 1)) 8 = nI (i + 1) from rfl) h6 (by omega) (by omega) (by omega)) (cwV 1 hts gX7_readOrder_X7_isDigit rfl rfl rfl (by decide +kernel) ⟨Nat.le_of_ble_eq_true rfl, Nat.le_of_ble_eq_true rfl⟩) hK hP hD hS hA [0, 1, 2, 3, 4, 5] wMA_allC (by decide) wMA_adr wMA_all 0 rfl rfl rfl hl.1 rfl (Nat.le_of_ble_eq_true rfl) dX7_readOrder_72 ⟨Nat.zero_le _, Nat.zero_le _⟩ (fun H locs hP hD hS => ?_)
  refine kr_bne (tgt := 80) hx hcd dX7_readOrder_75 (by decide) (fun (c_75 : (decide ((i + 1) < L) && c_dig (ch Tx (i + 1)) (5 + 1)) = true) => ?_) (fun (c_75 : (decide ((i + 1) < L) && c_dig (ch Tx (i + 1)) (5 + 1)) = false) => ?_)
  · have z75 : i + 1 < L := by simp only [Bool.and_eq_true, decide_eq_true_eq] at c_75; exact c_75.1
    refine lv_aload_n hx hcd dX7_readOrder_80 rfl (lv_at hl 3 rfl) ?_
    refine kr_get hx hcd hts uX7 hown hK hP 0 rfl rfl 5 (by decide) (by decide +kernel) (v := .ref (z 5)) rfl dX7_readOrder_81 ?_
    refine lv_aload_n hx hcd dX7_readOrder_84 rfl (lv_at hl 3 rfl) ?_
    refine kr_get hx hcd hts uX7 hown hK hP 0 rfl rfl 8 (by decide) (by decide +kernel) (v := .int (nI (i + 1))) rfl dX7_readOrder_85 ?_
    refine kr_iald hx hcd hK hP 5 0 rfl rfl (v := Tx (1 + i)) (by omega) (by decide) (congrArg Tx (by omega)) dX7_readOrder_88 ?_
    refine kr_top (w := nI (ch Tx (i + 1))) (by rw [Nat.add_comm]; exact t_ch hT (by omega)) ?_
    refine lv_istore (lv' := [(4, .int (nI (ch Tx (i + 1)))), (3, .int (nI 0)), (2, .int (nI 1)), (1, .int (nI 103)), (0, .ref (z 0))]) hx hcd dX7_readOrder_89 hl (by decide) rfl (fun ls hl => ?_)
    refine lv_aload_n hx hcd dX7_readOrder_91 rfl (lv_at hl 4 rfl) ?_
    refine lv_dup hx hcd dX7_readOrder_92 rfl ?_
    refine kr_get hx hcd hts uX7 hown hK hP 0 rfl rfl 8 (by decide) (by decide +kernel) (v := .int (nI (i + 1))) rfl dX7_readOrder_93 ?_
    refine lv_iconst (v := nI 1) hx hcd dX7_readOrder_96 (by decide) ?_
    refine kr_add hx hcd dX7_readOrder_97 ?_
    refine kr_put hx hcd hts uX7 tyX7 tyX7_ok nmX7 hown hK hP hD hS 0 rfl rfl 8 (by decide) (by decide +kernel) rfl rfl rfl (ws2 := wMA cI z (xu x 8 (nI ((i + 1) + 1))) hh M Sp Ot Sv Tx) rfl dX7_readOrder_98 (fun H locs hP hD hS => ?_)
    refine lv_aload_n hx hcd dX7_readOrder_101 rfl (lv_at hl 4 rfl) ?_
    refine lv_iload_n hx hcd dX7_readOrder_102 rfl (lv_at hl 3 rfl) ?_
    refine lv_bipush (v := nI 100) hx hcd dX7_readOrder_103 (by decide) ?_
    refine kr_cne (tgt := 113) hx hcd (by omega) (by omega) dX7_readOrder_105 (by decide) (fun (c_105 : ¬ 103 = 100) => ?_) (fun (c_105 : 103 = 100) => absurd c_105 (by omega))
    refine lv_iload_n hx hcd dX7_readOrder_113 rfl (lv_at hl 2 rfl) ?_
    refine kr_zeq (tgt := 121) hx hcd (by omega) dX7_readOrder_114 (by decide) (fun (c_114 : 1 = 0) => absurd c_114 (by omega)) (fun (c_114 : 0 < 1) => ?_)
    refine lv_iconst (v := nI 5) hx hcd dX7_readOrder_117 (by decide) ?_
    refine lv_goto (tgt := 122) hx hcd dX7_readOrder_118 (by decide) ?_
    refine kr_Vi (As := [.int (nI 5)]) (rest := []) (ws2 := wMA cI z (xu x 8 (nI ((i + 1) + 1))) hh M Sp Ot Sv Tx) (q := (RX7, TX7, 10)) ⟨hx, hcd, hml, hown, hts⟩ (c_X7_isDigit l D cI cB cW cL z (xu x 8 (nI ((i + 1) + 1))) hh Sp Ot Sv Tx _ M 5 (i + 2) L hT (show xu x 8 (nI (i + 2)) 8 = nI (i + 2) from rfl) h6 (by omega) (by omega) (by omega)) (cwV 1 hts gX7_readOrder_X7_isDigit rfl rfl rfl (by decide +kernel) ⟨Nat.le_of_ble_eq_true rfl, Nat.le_of_ble_eq_true rfl⟩) hK hP hD hS hA [0, 1, 2, 3, 4, 5] wMA_allC (by decide) wMA_adr wMA_all 0 rfl rfl rfl hl.1 rfl (Nat.le_of_ble_eq_true rfl) dX7_readOrder_122 ⟨Nat.zero_le _, Nat.zero_le _⟩ (fun H locs hP hD hS => ?_)
    refine kr_beq (tgt := 146) hx hcd dX7_readOrder_125 (by decide) (fun (c_125 : (decide ((i + 2) < L) && c_dig (ch Tx (i + 2)) (5 + 1)) = false) => ?_) (fun (c_125 : (decide ((i + 2) < L) && c_dig (ch Tx (i + 2)) (5 + 1)) = true) => ?_)
    · refine lv_iconst (v := nI 0) hx hcd dX7_readOrder_146 (by decide) ?_
      exact kr_zret hx hcd hr hlocks hK hP hD hS rfl (by rw [show r_pos Tx L i = i + 2 by first | exact rpx2 hlc rfl rfl c_75 (su_f c_125) | exact rpx2 hlc rfl rfl c_75 (su_e (decide_eq_false (not_not_intro c_143)))]; rw [decide_eq_false (by omega)]; rfl) (by rw [show r_pos Tx L i = i + 2 by first | exact rpx2 hlc rfl rfl c_75 (su_f c_125) | exact rpx2 hlc rfl rfl c_75 (su_e (decide_eq_false (not_not_intro c_143)))]) dX7_readOrder_147
    · have z125 : i + 2 < L := by simp only [Bool.and_eq_true, decide_eq_true_eq] at c_125; exact c_125.1
      have y1 := t_lt hT (show i + 1 < 100 by omega)
      have y2 := t_lt hT (show i + 2 < 100 by omega)
      refine lv_iload_n hx hcd dX7_readOrder_128 rfl (lv_at hl 2 rfl) ?_
      refine kr_zeq (tgt := 148) hx hcd (by omega) dX7_readOrder_129 (by decide) (fun (c_129 : 1 = 0) => absurd c_129 (by omega)) (fun (c_129 : 0 < 1) => ?_)
      refine lv_aload_n hx hcd dX7_readOrder_132 rfl (lv_at hl 4 rfl) ?_
      refine kr_get hx hcd hts uX7 hown hK hP 0 rfl rfl 5 (by decide) (by decide +kernel) (v := .ref (z 5)) rfl dX7_readOrder_133 ?_
      refine lv_aload_n hx hcd dX7_readOrder_136 rfl (lv_at hl 4 rfl) ?_
      refine kr_get hx hcd hts uX7 hown hK hP 0 rfl rfl 8 (by decide) (by decide +kernel) (v := .int (nI ((i + 1) + 1))) rfl dX7_readOrder_137 ?_
      refine kr_iald hx hcd hK hP 5 0 rfl rfl (v := Tx (2 + i)) (by omega) (by decide) (congrArg Tx (by omega)) dX7_readOrder_140 ?_
      refine kr_top (w := nI (ch Tx (i + 2))) (by rw [Nat.add_comm]; exact t_ch hT (by omega)) ?_
      refine lv_iload hx hcd dX7_readOrder_141 (lv_at hl 0 rfl) ?_
      refine kr_cne (tgt := 148) hx hcd (by omega) (by omega) dX7_readOrder_143 (by decide) (fun (c_143 : ¬ ch Tx (i + 2) = ch Tx (i + 1)) => ?_) (fun (c_143 : ch Tx (i + 2) = ch Tx (i + 1)) => ?_)
      · have z125 : i + 2 < L := by simp only [Bool.and_eq_true, decide_eq_true_eq] at c_125; exact c_125.1
        refine lv_aload_n hx hcd dX7_readOrder_148 rfl (lv_at hl 4 rfl) ?_
        refine lv_dup hx hcd dX7_readOrder_149 rfl ?_
        refine kr_get hx hcd hts uX7 hown hK hP 0 rfl rfl 8 (by decide) (by decide +kernel) (v := .int (nI ((i + 1) + 1))) rfl dX7_readOrder_150 ?_
        refine lv_iconst (v := nI 1) hx hcd dX7_readOrder_153 (by decide) ?_
        refine kr_add hx hcd dX7_readOrder_154 ?_
        refine kr_put hx hcd hts uX7 tyX7 tyX7_ok nmX7 hown hK hP hD hS 0 rfl rfl 8 (by decide) (by decide +kernel) rfl rfl rfl (ws2 := wMA cI z (xu x 8 (nI (((i + 1) + 1) + 1))) hh M Sp Ot Sv Tx) rfl dX7_readOrder_155 (fun H locs hP hD hS => ?_)
        refine lv_aload_n hx hcd dX7_readOrder_158 rfl (lv_at hl 4 rfl) ?_
        refine kr_get hx hcd hts uX7 hown hK hP 0 rfl rfl 8 (by decide) (by decide +kernel) (v := .int (nI (((i + 1) + 1) + 1))) rfl dX7_readOrder_159 ?_
        refine lv_aload_n hx hcd dX7_readOrder_162 rfl (lv_at hl 4 rfl) ?_
        refine kr_get hx hcd hts uX7 hown hK hP 0 rfl rfl 6 (by decide) (by decide +kernel) (v := .int (x 6)) rfl dX7_readOrder_163 ?_
        refine kr_top (w := nI L) h6 ?_
        refine kr_cge (tgt := 183) hx hcd (by omega) (by omega) dX7_readOrder_166 (by decide) (fun (c_166 : L ≤ ((i + 1) + 1) + 1) => ?_) (fun (c_166 : ((i + 1) + 1) + 1 < L) => ?_)
        · refine lv_iconst (v := nI 0) hx hcd dX7_readOrder_183 (by decide) ?_
          exact kr_zret hx hcd hr hlocks hK hP hD hS rfl (by rw [show r_pos Tx L i = i + 3 by first | exact rpx3 hlc rfl rfl c_75 (su_t c_125 (decide_eq_true c_143)) (Or.inl (Nat.not_lt.mpr c_166)) | exact rpx3 hlc rfl rfl c_75 (su_t c_125 (decide_eq_true c_143)) (Or.inr c_180)]; rw [decide_eq_false (by omega)]; rfl) (by rw [show r_pos Tx L i = i + 3 by first | exact rpx3 hlc rfl rfl c_75 (su_t c_125 (decide_eq_true c_143)) (Or.inl (Nat.not_lt.mpr c_166)) | exact rpx3 hlc rfl rfl c_75 (su_t c_125 (decide_eq_true c_143)) (Or.inr c_180)]) dX7_readOrder_184
        · have y3 := t_lt hT (show i + 3 < 100 by omega)
          refine lv_aload_n hx hcd dX7_readOrder_169 rfl (lv_at hl 4 rfl) ?_
          refine kr_get hx hcd hts uX7 hown hK hP 0 rfl rfl 5 (by decide) (by decide +kernel) (v := .ref (z 5)) rfl dX7_readOrder_170 ?_
          refine lv_aload_n hx hcd dX7_readOrder_173 rfl (lv_at hl 4 rfl) ?_
          refine kr_get hx hcd hts uX7 hown hK hP 0 rfl rfl 8 (by decide) (by decide +kernel) (v := .int (nI (((i + 1) + 1) + 1))) rfl dX7_readOrder_174 ?_
          refine kr_iald hx hcd hK hP 5 0 rfl rfl (v := Tx (3 + i)) (by omega) (by decide) (congrArg Tx (by omega)) dX7_readOrder_177 ?_
          refine kr_top (w := nI (ch Tx (i + 3))) (by rw [Nat.add_comm]; exact t_ch hT (by omega)) ?_
          refine lv_bipush (v := nI 59) hx hcd dX7_readOrder_178 (by decide) ?_
          refine kr_ceq (tgt := 185) hx hcd (by omega) (by omega) dX7_readOrder_180 (by decide) (fun (c_180 : ch Tx (i + 3) = 59) => ?_) (fun (c_180 : ¬ ch Tx (i + 3) = 59) => ?_)
          · refine lv_aload_n hx hcd dX7_readOrder_185 rfl (lv_at hl 4 rfl) ?_
            refine lv_dup hx hcd dX7_readOrder_186 rfl ?_
            refine kr_get hx hcd hts uX7 hown hK hP 0 rfl rfl 8 (by decide) (by decide +kernel) (v := .int (nI (((i + 1) + 1) + 1))) rfl dX7_readOrder_187 ?_
            refine lv_iconst (v := nI 1) hx hcd dX7_readOrder_190 (by decide) ?_
            refine kr_add hx hcd dX7_readOrder_191 ?_
            refine kr_put hx hcd hts uX7 tyX7 tyX7_ok nmX7 hown hK hP hD hS 0 rfl rfl 8 (by decide) (by decide +kernel) rfl rfl rfl (ws2 := wMA cI z (xu x 8 (nI ((((i + 1) + 1) + 1) + 1))) hh M Sp Ot Sv Tx) rfl dX7_readOrder_192 (fun H locs hP hD hS => ?_)
            refine lv_iconst (v := nI 1) hx hcd dX7_readOrder_195 (by decide) ?_
            exact kr_zret hx hcd hr hlocks hK hP hD hS rfl (by rw [show r_pos Tx L i = i + 4 by exact rpx4 hlc rfl rfl c_75 (su_t c_125 (decide_eq_true c_143)) c_166 c_180]; rw [decide_eq_true rfl]; rfl) (by rw [show r_pos Tx L i = i + 4 by exact rpx4 hlc rfl rfl c_75 (su_t c_125 (decide_eq_true c_143)) c_166 c_180]) dX7_readOrder_196
          · refine lv_iconst (v := nI 0) hx hcd dX7_readOrder_183 (by decide) ?_
            exact kr_zret hx hcd hr hlocks hK hP hD hS rfl (by rw [show r_pos Tx L i = i + 3 by first | exact rpx3 hlc rfl rfl c_75 (su_t c_125 (decide_eq_true c_143)) (Or.inl (Nat.not_lt.mpr c_166)) | exact rpx3 hlc rfl rfl c_75 (su_t c_125 (decide_eq_true c_143)) (Or.inr c_180)]; rw [decide_eq_false (by omega)]; rfl) (by rw [show r_pos Tx L i = i + 3 by first | exact rpx3 hlc rfl rfl c_75 (su_t c_125 (decide_eq_true c_143)) (Or.inl (Nat.not_lt.mpr c_166)) | exact rpx3 hlc rfl rfl c_75 (su_t c_125 (decide_eq_true c_143)) (Or.inr c_180)]) dX7_readOrder_184
      · refine lv_iconst (v := nI 0) hx hcd dX7_readOrder_146 (by decide) ?_
        exact kr_zret hx hcd hr hlocks hK hP hD hS rfl (by rw [show r_pos Tx L i = i + 2 by first | exact rpx2 hlc rfl rfl c_75 (su_f c_125) | exact rpx2 hlc rfl rfl c_75 (su_e (decide_eq_false (not_not_intro c_143)))]; rw [decide_eq_false (by omega)]; rfl) (by rw [show r_pos Tx L i = i + 2 by first | exact rpx2 hlc rfl rfl c_75 (su_f c_125) | exact rpx2 hlc rfl rfl c_75 (su_e (decide_eq_false (not_not_intro c_143)))]) dX7_readOrder_147
  · refine lv_iconst (v := nI 0) hx hcd dX7_readOrder_78 (by decide) ?_
    exact kr_zret hx hcd hr hlocks hK hP hD hS rfl (by rw [show r_pos Tx L i = i + 1 by exact rpx1 hlc rfl rfl c_75]; rw [decide_eq_false (by omega)]; rfl) (by rw [show r_pos Tx L i = i + 1 by exact rpx1 hlc rfl rfl c_75]) dX7_readOrder_79

set_option maxHeartbeats 4000000 in
set_option maxRecDepth 100000 in
theorem c_X7_readOrder__c114 (l : Launch) (D : va_G) (cI cB cW cL : ClassId) (z : Nat → Nat) (x : Nat → Int32) (hh : Int64) (Sp Ot Sv Tx : Nat → Int32) (sz : Nat) (M : kM) (i L : Nat) (hT : kTx Tx) (h8 : x 8 = nI i) (h6 : x 6 = nI L) (hL : L ≤ 100) (hi : i < L) (hlc : ch Tx i = 114) : kMi l yX7_readOrder wsX7_readOrder ({ frames := 2, cells := 0, slots := 0, locals := 43 }) D vwCl (kT cI cB cW cL) sz [.ref (z 0)] (wMA cI z x hh M Sp Ot Sv Tx) (wMA cI z (xu x 8 (nI (r_pos Tx L i))) hh M Sp Ot Sv Tx) (kI (decide (r_pos Tx L i = i + 4))) := by
  refine kr_ofi (cc := cX7_readOrder) (maxL := 5) (ret := (some .boolean)) (by decide) rfl (Nat.le_of_ble_eq_true rfl) ?_
  intro pp ee ss mm args below meth cc AA ls hx hcd hr hts hown hlocks hml hK hP hD hA hl
  have hS : va_S AA ss.heap ss.heap [] := va_S.rf
  have hown : ss.vm.findClass RX7 = some mm.cls := hown
  have hl : lv_has ls 5 [(0, .ref (z 0))] := hl
  have uX7 : ∀ w ∈ u_ws RX7 TX7 10, w ∈ wsX7_readOrder := by decide +kernel
  refine lv_aload_n hx hcd dX7_readOrder_0 rfl (lv_at hl 0 rfl) ?_
  refine kr_get hx hcd hts uX7 hown hK hP 0 rfl rfl 5 (by decide) (by decide +kernel) (v := .ref (z 5)) rfl dX7_readOrder_1 ?_
  refine lv_aload_n hx hcd dX7_readOrder_4 rfl (lv_at hl 0 rfl) ?_
  refine kr_get hx hcd hts uX7 hown hK hP 0 rfl rfl 8 (by decide) (by decide +kernel) (v := .int (x 8)) rfl dX7_readOrder_5 ?_
  refine kr_top (w := nI i) h8 ?_
  refine kr_iald hx hcd hK hP 5 0 rfl rfl (v := Tx i) (by omega) (by decide) (congrArg Tx (by omega)) dX7_readOrder_8 ?_
  refine kr_top (w := nI 114) ((t_ch hT (by omega)).trans (congrArg nI hlc)) ?_
  refine lv_istore_n (lv' := [(1, .int (nI 114)), (0, .ref (z 0))]) hx hcd dX7_readOrder_9 rfl hl (by decide) rfl (fun ls hl => ?_)
  refine lv_iload_n hx hcd dX7_readOrder_10 rfl (lv_at hl 0 rfl) ?_
  refine kr_Si (As := [.int (nI 114)]) (rest := []) (ws2 := wMA cI z x hh M Sp Ot Sv Tx) ⟨hx, hcd, hml, hown, hts⟩ (c_X7_areUsers l D cI cB cW cL  _ M 114 (by omega)) (va_cwS 1 hts gX7_readOrder_X7_areUsers rfl rfl rfl (by decide +kernel) ⟨Nat.le_of_ble_eq_true rfl, Nat.le_of_ble_eq_true rfl⟩) hK hP hD hS hA [] rfl (by decide) rfl rfl rfl hl.1 rfl (Nat.le_of_ble_eq_true rfl) dX7_readOrder_11 ⟨Nat.zero_le _, Nat.zero_le _⟩ (fun H locs hP hD hS => ?_)
  refine kr_top (w := nI 1) rfl ?_
  refine lv_istore_n (lv' := [(2, .int (nI 1)), (1, .int (nI 114)), (0, .ref (z 0))]) hx hcd dX7_readOrder_14 rfl hl (by decide) rfl (fun ls hl => ?_)
  refine lv_iload_n hx hcd dX7_readOrder_15 rfl (lv_at hl 1 rfl) ?_
  refine lv_bipush (v := nI 105) hx hcd dX7_readOrder_16 (by decide) ?_
  refine kr_ceq (tgt := 27) hx hcd (by omega) (by omega) dX7_readOrder_18 (by decide) (fun (c_18 : 114 = 105) => absurd c_18 (by omega)) (fun (c_18 : ¬ 114 = 105) => ?_)
  refine lv_iload_n hx hcd dX7_readOrder_21 rfl (lv_at hl 1 rfl) ?_
  refine lv_bipush (v := nI 111) hx hcd dX7_readOrder_22 (by decide) ?_
  refine kr_cne (tgt := 31) hx hcd (by omega) (by omega) dX7_readOrder_24 (by decide) (fun (c_24 : ¬ 114 = 111) => ?_) (fun (c_24 : 114 = 111) => absurd c_24 (by omega))
  refine lv_iconst (v := nI 0) hx hcd dX7_readOrder_31 (by decide) ?_
  refine lv_istore_n (lv' := [(3, .int (nI 0)), (2, .int (nI 1)), (1, .int (nI 114)), (0, .ref (z 0))]) hx hcd dX7_readOrder_32 rfl hl (by decide) rfl (fun ls hl => ?_)
  refine lv_iload_n hx hcd dX7_readOrder_33 rfl (lv_at hl 1 rfl) ?_
  refine kr_zne (tgt := 49) hx hcd (by omega) dX7_readOrder_34 (by decide) (fun (c_34 : 0 < 1) => ?_) (fun (c_34 : 1 = 0) => absurd c_34 (by omega))
  refine lv_aload_n hx hcd dX7_readOrder_49 rfl (lv_at hl 3 rfl) ?_
  refine lv_dup hx hcd dX7_readOrder_50 rfl ?_
  refine kr_get hx hcd hts uX7 hown hK hP 0 rfl rfl 8 (by decide) (by decide +kernel) (v := .int (x 8)) rfl dX7_readOrder_51 ?_
  refine kr_top (w := nI i) h8 ?_
  refine lv_iconst (v := nI 1) hx hcd dX7_readOrder_54 (by decide) ?_
  refine kr_add hx hcd dX7_readOrder_55 ?_
  refine kr_put hx hcd hts uX7 tyX7 tyX7_ok nmX7 hown hK hP hD hS 0 rfl rfl 8 (by decide) (by decide +kernel) rfl rfl rfl (ws2 := wMA cI z (xu x 8 (nI (i + 1))) hh M Sp Ot Sv Tx) rfl dX7_readOrder_56 (fun H locs hP hD hS => ?_)
  refine lv_aload_n hx hcd dX7_readOrder_59 rfl (lv_at hl 3 rfl) ?_
  refine lv_iload_n hx hcd dX7_readOrder_60 rfl (lv_at hl 2 rfl) ?_
  refine lv_bipush (v := nI 100) hx hcd dX7_readOrder_61 (by decide) ?_
  refine kr_cne (tgt := 71) hx hcd (by omega) (by omega) dX7_readOrder_63 (by decide) (fun (c_63 : ¬ 114 = 100) => ?_) (fun (c_63 : 114 = 100) => absurd c_63 (by omega))
  refine lv_iconst (v := nI 5) hx hcd dX7_readOrder_71 (by decide) ?_
  refine kr_Vi (As := [.int (nI 5)]) (rest := []) (ws2 := wMA cI z (xu x 8 (nI (i + 1))) hh M Sp Ot Sv Tx) (q := (RX7, TX7, 10)) ⟨hx, hcd, hml, hown, hts⟩ (c_X7_isDigit l D cI cB cW cL z (xu x 8 (nI (i + 1))) hh Sp Ot Sv Tx _ M 5 (i + 1) L hT (show xu x 8 (nI (i + 1)) 8 = nI (i + 1) from rfl) h6 (by omega) (by omega) (by omega)) (cwV 1 hts gX7_readOrder_X7_isDigit rfl rfl rfl (by decide +kernel) ⟨Nat.le_of_ble_eq_true rfl, Nat.le_of_ble_eq_true rfl⟩) hK hP hD hS hA [0, 1, 2, 3, 4, 5] wMA_allC (by decide) wMA_adr wMA_all 0 rfl rfl rfl hl.1 rfl (Nat.le_of_ble_eq_true rfl) dX7_readOrder_72 ⟨Nat.zero_le _, Nat.zero_le _⟩ (fun H locs hP hD hS => ?_)
  refine kr_bne (tgt := 80) hx hcd dX7_readOrder_75 (by decide) (fun (c_75 : (decide ((i + 1) < L) && c_dig (ch Tx (i + 1)) (5 + 1)) = true) => ?_) (fun (c_75 : (decide ((i + 1) < L) && c_dig (ch Tx (i + 1)) (5 + 1)) = false) => ?_)
  · have z75 : i + 1 < L := by simp only [Bool.and_eq_true, decide_eq_true_eq] at c_75; exact c_75.1
    refine lv_aload_n hx hcd dX7_readOrder_80 rfl (lv_at hl 3 rfl) ?_
    refine kr_get hx hcd hts uX7 hown hK hP 0 rfl rfl 5 (by decide) (by decide +kernel) (v := .ref (z 5)) rfl dX7_readOrder_81 ?_
    refine lv_aload_n hx hcd dX7_readOrder_84 rfl (lv_at hl 3 rfl) ?_
    refine kr_get hx hcd hts uX7 hown hK hP 0 rfl rfl 8 (by decide) (by decide +kernel) (v := .int (nI (i + 1))) rfl dX7_readOrder_85 ?_
    refine kr_iald hx hcd hK hP 5 0 rfl rfl (v := Tx (1 + i)) (by omega) (by decide) (congrArg Tx (by omega)) dX7_readOrder_88 ?_
    refine kr_top (w := nI (ch Tx (i + 1))) (by rw [Nat.add_comm]; exact t_ch hT (by omega)) ?_
    refine lv_istore (lv' := [(4, .int (nI (ch Tx (i + 1)))), (3, .int (nI 0)), (2, .int (nI 1)), (1, .int (nI 114)), (0, .ref (z 0))]) hx hcd dX7_readOrder_89 hl (by decide) rfl (fun ls hl => ?_)
    refine lv_aload_n hx hcd dX7_readOrder_91 rfl (lv_at hl 4 rfl) ?_
    refine lv_dup hx hcd dX7_readOrder_92 rfl ?_
    refine kr_get hx hcd hts uX7 hown hK hP 0 rfl rfl 8 (by decide) (by decide +kernel) (v := .int (nI (i + 1))) rfl dX7_readOrder_93 ?_
    refine lv_iconst (v := nI 1) hx hcd dX7_readOrder_96 (by decide) ?_
    refine kr_add hx hcd dX7_readOrder_97 ?_
    refine kr_put hx hcd hts uX7 tyX7 tyX7_ok nmX7 hown hK hP hD hS 0 rfl rfl 8 (by decide) (by decide +kernel) rfl rfl rfl (ws2 := wMA cI z (xu x 8 (nI ((i + 1) + 1))) hh M Sp Ot Sv Tx) rfl dX7_readOrder_98 (fun H locs hP hD hS => ?_)
    refine lv_aload_n hx hcd dX7_readOrder_101 rfl (lv_at hl 4 rfl) ?_
    refine lv_iload_n hx hcd dX7_readOrder_102 rfl (lv_at hl 3 rfl) ?_
    refine lv_bipush (v := nI 100) hx hcd dX7_readOrder_103 (by decide) ?_
    refine kr_cne (tgt := 113) hx hcd (by omega) (by omega) dX7_readOrder_105 (by decide) (fun (c_105 : ¬ 114 = 100) => ?_) (fun (c_105 : 114 = 100) => absurd c_105 (by omega))
    refine lv_iload_n hx hcd dX7_readOrder_113 rfl (lv_at hl 2 rfl) ?_
    refine kr_zeq (tgt := 121) hx hcd (by omega) dX7_readOrder_114 (by decide) (fun (c_114 : 1 = 0) => absurd c_114 (by omega)) (fun (c_114 : 0 < 1) => ?_)
    refine lv_iconst (v := nI 5) hx hcd dX7_readOrder_117 (by decide) ?_
    refine lv_goto (tgt := 122) hx hcd dX7_readOrder_118 (by decide) ?_
    refine kr_Vi (As := [.int (nI 5)]) (rest := []) (ws2 := wMA cI z (xu x 8 (nI ((i + 1) + 1))) hh M Sp Ot Sv Tx) (q := (RX7, TX7, 10)) ⟨hx, hcd, hml, hown, hts⟩ (c_X7_isDigit l D cI cB cW cL z (xu x 8 (nI ((i + 1) + 1))) hh Sp Ot Sv Tx _ M 5 (i + 2) L hT (show xu x 8 (nI (i + 2)) 8 = nI (i + 2) from rfl) h6 (by omega) (by omega) (by omega)) (cwV 1 hts gX7_readOrder_X7_isDigit rfl rfl rfl (by decide +kernel) ⟨Nat.le_of_ble_eq_true rfl, Nat.le_of_ble_eq_true rfl⟩) hK hP hD hS hA [0, 1, 2, 3, 4, 5] wMA_allC (by decide) wMA_adr wMA_all 0 rfl rfl rfl hl.1 rfl (Nat.le_of_ble_eq_true rfl) dX7_readOrder_122 ⟨Nat.zero_le _, Nat.zero_le _⟩ (fun H locs hP hD hS => ?_)
    refine kr_beq (tgt := 146) hx hcd dX7_readOrder_125 (by decide) (fun (c_125 : (decide ((i + 2) < L) && c_dig (ch Tx (i + 2)) (5 + 1)) = false) => ?_) (fun (c_125 : (decide ((i + 2) < L) && c_dig (ch Tx (i + 2)) (5 + 1)) = true) => ?_)
    · refine lv_iconst (v := nI 0) hx hcd dX7_readOrder_146 (by decide) ?_
      exact kr_zret hx hcd hr hlocks hK hP hD hS rfl (by rw [show r_pos Tx L i = i + 2 by first | exact rpx2 hlc rfl rfl c_75 (su_f c_125) | exact rpx2 hlc rfl rfl c_75 (su_e (decide_eq_false (not_not_intro c_143)))]; rw [decide_eq_false (by omega)]; rfl) (by rw [show r_pos Tx L i = i + 2 by first | exact rpx2 hlc rfl rfl c_75 (su_f c_125) | exact rpx2 hlc rfl rfl c_75 (su_e (decide_eq_false (not_not_intro c_143)))]) dX7_readOrder_147
    · have z125 : i + 2 < L := by simp only [Bool.and_eq_true, decide_eq_true_eq] at c_125; exact c_125.1
      have y1 := t_lt hT (show i + 1 < 100 by omega)
      have y2 := t_lt hT (show i + 2 < 100 by omega)
      refine lv_iload_n hx hcd dX7_readOrder_128 rfl (lv_at hl 2 rfl) ?_
      refine kr_zeq (tgt := 148) hx hcd (by omega) dX7_readOrder_129 (by decide) (fun (c_129 : 1 = 0) => absurd c_129 (by omega)) (fun (c_129 : 0 < 1) => ?_)
      refine lv_aload_n hx hcd dX7_readOrder_132 rfl (lv_at hl 4 rfl) ?_
      refine kr_get hx hcd hts uX7 hown hK hP 0 rfl rfl 5 (by decide) (by decide +kernel) (v := .ref (z 5)) rfl dX7_readOrder_133 ?_
      refine lv_aload_n hx hcd dX7_readOrder_136 rfl (lv_at hl 4 rfl) ?_
      refine kr_get hx hcd hts uX7 hown hK hP 0 rfl rfl 8 (by decide) (by decide +kernel) (v := .int (nI ((i + 1) + 1))) rfl dX7_readOrder_137 ?_
      refine kr_iald hx hcd hK hP 5 0 rfl rfl (v := Tx (2 + i)) (by omega) (by decide) (congrArg Tx (by omega)) dX7_readOrder_140 ?_
      refine kr_top (w := nI (ch Tx (i + 2))) (by rw [Nat.add_comm]; exact t_ch hT (by omega)) ?_
      refine lv_iload hx hcd dX7_readOrder_141 (lv_at hl 0 rfl) ?_
      refine kr_cne (tgt := 148) hx hcd (by omega) (by omega) dX7_readOrder_143 (by decide) (fun (c_143 : ¬ ch Tx (i + 2) = ch Tx (i + 1)) => ?_) (fun (c_143 : ch Tx (i + 2) = ch Tx (i + 1)) => ?_)
      · have z125 : i + 2 < L := by simp only [Bool.and_eq_true, decide_eq_true_eq] at c_125; exact c_125.1
        refine lv_aload_n hx hcd dX7_readOrder_148 rfl (lv_at hl 4 rfl) ?_
        refine lv_dup hx hcd dX7_readOrder_149 rfl ?_
        refine kr_get hx hcd hts uX7 hown hK hP 0 rfl rfl 8 (by decide) (by decide +kernel) (v := .int (nI ((i + 1) + 1))) rfl dX7_readOrder_150 ?_
        refine lv_iconst (v := nI 1) hx hcd dX7_readOrder_153 (by decide) ?_
        refine kr_add hx hcd dX7_readOrder_154 ?_
        refine kr_put hx hcd hts uX7 tyX7 tyX7_ok nmX7 hown hK hP hD hS 0 rfl rfl 8 (by decide) (by decide +kernel) rfl rfl rfl (ws2 := wMA cI z (xu x 8 (nI (((i + 1) + 1) + 1))) hh M Sp Ot Sv Tx) rfl dX7_readOrder_155 (fun H locs hP hD hS => ?_)
        refine lv_aload_n hx hcd dX7_readOrder_158 rfl (lv_at hl 4 rfl) ?_
        refine kr_get hx hcd hts uX7 hown hK hP 0 rfl rfl 8 (by decide) (by decide +kernel) (v := .int (nI (((i + 1) + 1) + 1))) rfl dX7_readOrder_159 ?_
        refine lv_aload_n hx hcd dX7_readOrder_162 rfl (lv_at hl 4 rfl) ?_
        refine kr_get hx hcd hts uX7 hown hK hP 0 rfl rfl 6 (by decide) (by decide +kernel) (v := .int (x 6)) rfl dX7_readOrder_163 ?_
        refine kr_top (w := nI L) h6 ?_
        refine kr_cge (tgt := 183) hx hcd (by omega) (by omega) dX7_readOrder_166 (by decide) (fun (c_166 : L ≤ ((i + 1) + 1) + 1) => ?_) (fun (c_166 : ((i + 1) + 1) + 1 < L) => ?_)
        · refine lv_iconst (v := nI 0) hx hcd dX7_readOrder_183 (by decide) ?_
          exact kr_zret hx hcd hr hlocks hK hP hD hS rfl (by rw [show r_pos Tx L i = i + 3 by first | exact rpx3 hlc rfl rfl c_75 (su_t c_125 (decide_eq_true c_143)) (Or.inl (Nat.not_lt.mpr c_166)) | exact rpx3 hlc rfl rfl c_75 (su_t c_125 (decide_eq_true c_143)) (Or.inr c_180)]; rw [decide_eq_false (by omega)]; rfl) (by rw [show r_pos Tx L i = i + 3 by first | exact rpx3 hlc rfl rfl c_75 (su_t c_125 (decide_eq_true c_143)) (Or.inl (Nat.not_lt.mpr c_166)) | exact rpx3 hlc rfl rfl c_75 (su_t c_125 (decide_eq_true c_143)) (Or.inr c_180)]) dX7_readOrder_184
        · have y3 := t_lt hT (show i + 3 < 100 by omega)
          refine lv_aload_n hx hcd dX7_readOrder_169 rfl (lv_at hl 4 rfl) ?_
          refine kr_get hx hcd hts uX7 hown hK hP 0 rfl rfl 5 (by decide) (by decide +kernel) (v := .ref (z 5)) rfl dX7_readOrder_170 ?_
          refine lv_aload_n hx hcd dX7_readOrder_173 rfl (lv_at hl 4 rfl) ?_
          refine kr_get hx hcd hts uX7 hown hK hP 0 rfl rfl 8 (by decide) (by decide +kernel) (v := .int (nI (((i + 1) + 1) + 1))) rfl dX7_readOrder_174 ?_
          refine kr_iald hx hcd hK hP 5 0 rfl rfl (v := Tx (3 + i)) (by omega) (by decide) (congrArg Tx (by omega)) dX7_readOrder_177 ?_
          refine kr_top (w := nI (ch Tx (i + 3))) (by rw [Nat.add_comm]; exact t_ch hT (by omega)) ?_
          refine lv_bipush (v := nI 59) hx hcd dX7_readOrder_178 (by decide) ?_
          refine kr_ceq (tgt := 185) hx hcd (by omega) (by omega) dX7_readOrder_180 (by decide) (fun (c_180 : ch Tx (i + 3) = 59) => ?_) (fun (c_180 : ¬ ch Tx (i + 3) = 59) => ?_)
          · refine lv_aload_n hx hcd dX7_readOrder_185 rfl (lv_at hl 4 rfl) ?_
            refine lv_dup hx hcd dX7_readOrder_186 rfl ?_
            refine kr_get hx hcd hts uX7 hown hK hP 0 rfl rfl 8 (by decide) (by decide +kernel) (v := .int (nI (((i + 1) + 1) + 1))) rfl dX7_readOrder_187 ?_
            refine lv_iconst (v := nI 1) hx hcd dX7_readOrder_190 (by decide) ?_
            refine kr_add hx hcd dX7_readOrder_191 ?_
            refine kr_put hx hcd hts uX7 tyX7 tyX7_ok nmX7 hown hK hP hD hS 0 rfl rfl 8 (by decide) (by decide +kernel) rfl rfl rfl (ws2 := wMA cI z (xu x 8 (nI ((((i + 1) + 1) + 1) + 1))) hh M Sp Ot Sv Tx) rfl dX7_readOrder_192 (fun H locs hP hD hS => ?_)
            refine lv_iconst (v := nI 1) hx hcd dX7_readOrder_195 (by decide) ?_
            exact kr_zret hx hcd hr hlocks hK hP hD hS rfl (by rw [show r_pos Tx L i = i + 4 by exact rpx4 hlc rfl rfl c_75 (su_t c_125 (decide_eq_true c_143)) c_166 c_180]; rw [decide_eq_true rfl]; rfl) (by rw [show r_pos Tx L i = i + 4 by exact rpx4 hlc rfl rfl c_75 (su_t c_125 (decide_eq_true c_143)) c_166 c_180]) dX7_readOrder_196
          · refine lv_iconst (v := nI 0) hx hcd dX7_readOrder_183 (by decide) ?_
            exact kr_zret hx hcd hr hlocks hK hP hD hS rfl (by rw [show r_pos Tx L i = i + 3 by first | exact rpx3 hlc rfl rfl c_75 (su_t c_125 (decide_eq_true c_143)) (Or.inl (Nat.not_lt.mpr c_166)) | exact rpx3 hlc rfl rfl c_75 (su_t c_125 (decide_eq_true c_143)) (Or.inr c_180)]; rw [decide_eq_false (by omega)]; rfl) (by rw [show r_pos Tx L i = i + 3 by first | exact rpx3 hlc rfl rfl c_75 (su_t c_125 (decide_eq_true c_143)) (Or.inl (Nat.not_lt.mpr c_166)) | exact rpx3 hlc rfl rfl c_75 (su_t c_125 (decide_eq_true c_143)) (Or.inr c_180)]) dX7_readOrder_184
      · refine lv_iconst (v := nI 0) hx hcd dX7_readOrder_146 (by decide) ?_
        exact kr_zret hx hcd hr hlocks hK hP hD hS rfl (by rw [show r_pos Tx L i = i + 2 by first | exact rpx2 hlc rfl rfl c_75 (su_f c_125) | exact rpx2 hlc rfl rfl c_75 (su_e (decide_eq_false (not_not_intro c_143)))]; rw [decide_eq_false (by omega)]; rfl) (by rw [show r_pos Tx L i = i + 2 by first | exact rpx2 hlc rfl rfl c_75 (su_f c_125) | exact rpx2 hlc rfl rfl c_75 (su_e (decide_eq_false (not_not_intro c_143)))]) dX7_readOrder_147
  · refine lv_iconst (v := nI 0) hx hcd dX7_readOrder_78 (by decide) ?_
    exact kr_zret hx hcd hr hlocks hK hP hD hS rfl (by rw [show r_pos Tx L i = i + 1 by exact rpx1 hlc rfl rfl c_75]; rw [decide_eq_false (by omega)]; rfl) (by rw [show r_pos Tx L i = i + 1 by exact rpx1 hlc rfl rfl c_75]) dX7_readOrder_79

set_option maxHeartbeats 4000000 in
set_option maxRecDepth 100000 in
theorem c_X7_readOrder__c115 (l : Launch) (D : va_G) (cI cB cW cL : ClassId) (z : Nat → Nat) (x : Nat → Int32) (hh : Int64) (Sp Ot Sv Tx : Nat → Int32) (sz : Nat) (M : kM) (i L : Nat) (hT : kTx Tx) (h8 : x 8 = nI i) (h6 : x 6 = nI L) (hL : L ≤ 100) (hi : i < L) (hlc : ch Tx i = 115) : kMi l yX7_readOrder wsX7_readOrder ({ frames := 2, cells := 0, slots := 0, locals := 43 }) D vwCl (kT cI cB cW cL) sz [.ref (z 0)] (wMA cI z x hh M Sp Ot Sv Tx) (wMA cI z (xu x 8 (nI (r_pos Tx L i))) hh M Sp Ot Sv Tx) (kI (decide (r_pos Tx L i = i + 4))) := by
  refine kr_ofi (cc := cX7_readOrder) (maxL := 5) (ret := (some .boolean)) (by decide) rfl (Nat.le_of_ble_eq_true rfl) ?_
  intro pp ee ss mm args below meth cc AA ls hx hcd hr hts hown hlocks hml hK hP hD hA hl
  have hS : va_S AA ss.heap ss.heap [] := va_S.rf
  have hown : ss.vm.findClass RX7 = some mm.cls := hown
  have hl : lv_has ls 5 [(0, .ref (z 0))] := hl
  have uX7 : ∀ w ∈ u_ws RX7 TX7 10, w ∈ wsX7_readOrder := by decide +kernel
  refine lv_aload_n hx hcd dX7_readOrder_0 rfl (lv_at hl 0 rfl) ?_
  refine kr_get hx hcd hts uX7 hown hK hP 0 rfl rfl 5 (by decide) (by decide +kernel) (v := .ref (z 5)) rfl dX7_readOrder_1 ?_
  refine lv_aload_n hx hcd dX7_readOrder_4 rfl (lv_at hl 0 rfl) ?_
  refine kr_get hx hcd hts uX7 hown hK hP 0 rfl rfl 8 (by decide) (by decide +kernel) (v := .int (x 8)) rfl dX7_readOrder_5 ?_
  refine kr_top (w := nI i) h8 ?_
  refine kr_iald hx hcd hK hP 5 0 rfl rfl (v := Tx i) (by omega) (by decide) (congrArg Tx (by omega)) dX7_readOrder_8 ?_
  refine kr_top (w := nI 115) ((t_ch hT (by omega)).trans (congrArg nI hlc)) ?_
  refine lv_istore_n (lv' := [(1, .int (nI 115)), (0, .ref (z 0))]) hx hcd dX7_readOrder_9 rfl hl (by decide) rfl (fun ls hl => ?_)
  refine lv_iload_n hx hcd dX7_readOrder_10 rfl (lv_at hl 0 rfl) ?_
  refine kr_Si (As := [.int (nI 115)]) (rest := []) (ws2 := wMA cI z x hh M Sp Ot Sv Tx) ⟨hx, hcd, hml, hown, hts⟩ (c_X7_areUsers l D cI cB cW cL  _ M 115 (by omega)) (va_cwS 1 hts gX7_readOrder_X7_areUsers rfl rfl rfl (by decide +kernel) ⟨Nat.le_of_ble_eq_true rfl, Nat.le_of_ble_eq_true rfl⟩) hK hP hD hS hA [] rfl (by decide) rfl rfl rfl hl.1 rfl (Nat.le_of_ble_eq_true rfl) dX7_readOrder_11 ⟨Nat.zero_le _, Nat.zero_le _⟩ (fun H locs hP hD hS => ?_)
  refine kr_top (w := nI 1) rfl ?_
  refine lv_istore_n (lv' := [(2, .int (nI 1)), (1, .int (nI 115)), (0, .ref (z 0))]) hx hcd dX7_readOrder_14 rfl hl (by decide) rfl (fun ls hl => ?_)
  refine lv_iload_n hx hcd dX7_readOrder_15 rfl (lv_at hl 1 rfl) ?_
  refine lv_bipush (v := nI 105) hx hcd dX7_readOrder_16 (by decide) ?_
  refine kr_ceq (tgt := 27) hx hcd (by omega) (by omega) dX7_readOrder_18 (by decide) (fun (c_18 : 115 = 105) => absurd c_18 (by omega)) (fun (c_18 : ¬ 115 = 105) => ?_)
  refine lv_iload_n hx hcd dX7_readOrder_21 rfl (lv_at hl 1 rfl) ?_
  refine lv_bipush (v := nI 111) hx hcd dX7_readOrder_22 (by decide) ?_
  refine kr_cne (tgt := 31) hx hcd (by omega) (by omega) dX7_readOrder_24 (by decide) (fun (c_24 : ¬ 115 = 111) => ?_) (fun (c_24 : 115 = 111) => absurd c_24 (by omega))
  refine lv_iconst (v := nI 0) hx hcd dX7_readOrder_31 (by decide) ?_
  refine lv_istore_n (lv' := [(3, .int (nI 0)), (2, .int (nI 1)), (1, .int (nI 115)), (0, .ref (z 0))]) hx hcd dX7_readOrder_32 rfl hl (by decide) rfl (fun ls hl => ?_)
  refine lv_iload_n hx hcd dX7_readOrder_33 rfl (lv_at hl 1 rfl) ?_
  refine kr_zne (tgt := 49) hx hcd (by omega) dX7_readOrder_34 (by decide) (fun (c_34 : 0 < 1) => ?_) (fun (c_34 : 1 = 0) => absurd c_34 (by omega))
  refine lv_aload_n hx hcd dX7_readOrder_49 rfl (lv_at hl 3 rfl) ?_
  refine lv_dup hx hcd dX7_readOrder_50 rfl ?_
  refine kr_get hx hcd hts uX7 hown hK hP 0 rfl rfl 8 (by decide) (by decide +kernel) (v := .int (x 8)) rfl dX7_readOrder_51 ?_
  refine kr_top (w := nI i) h8 ?_
  refine lv_iconst (v := nI 1) hx hcd dX7_readOrder_54 (by decide) ?_
  refine kr_add hx hcd dX7_readOrder_55 ?_
  refine kr_put hx hcd hts uX7 tyX7 tyX7_ok nmX7 hown hK hP hD hS 0 rfl rfl 8 (by decide) (by decide +kernel) rfl rfl rfl (ws2 := wMA cI z (xu x 8 (nI (i + 1))) hh M Sp Ot Sv Tx) rfl dX7_readOrder_56 (fun H locs hP hD hS => ?_)
  refine lv_aload_n hx hcd dX7_readOrder_59 rfl (lv_at hl 3 rfl) ?_
  refine lv_iload_n hx hcd dX7_readOrder_60 rfl (lv_at hl 2 rfl) ?_
  refine lv_bipush (v := nI 100) hx hcd dX7_readOrder_61 (by decide) ?_
  refine kr_cne (tgt := 71) hx hcd (by omega) (by omega) dX7_readOrder_63 (by decide) (fun (c_63 : ¬ 115 = 100) => ?_) (fun (c_63 : 115 = 100) => absurd c_63 (by omega))
  refine lv_iconst (v := nI 5) hx hcd dX7_readOrder_71 (by decide) ?_
  refine kr_Vi (As := [.int (nI 5)]) (rest := []) (ws2 := wMA cI z (xu x 8 (nI (i + 1))) hh M Sp Ot Sv Tx) (q := (RX7, TX7, 10)) ⟨hx, hcd, hml, hown, hts⟩ (c_X7_isDigit l D cI cB cW cL z (xu x 8 (nI (i + 1))) hh Sp Ot Sv Tx _ M 5 (i + 1) L hT (show xu x 8 (nI (i + 1)) 8 = nI (i + 1) from rfl) h6 (by omega) (by omega) (by omega)) (cwV 1 hts gX7_readOrder_X7_isDigit rfl rfl rfl (by decide +kernel) ⟨Nat.le_of_ble_eq_true rfl, Nat.le_of_ble_eq_true rfl⟩) hK hP hD hS hA [0, 1, 2, 3, 4, 5] wMA_allC (by decide) wMA_adr wMA_all 0 rfl rfl rfl hl.1 rfl (Nat.le_of_ble_eq_true rfl) dX7_readOrder_72 ⟨Nat.zero_le _, Nat.zero_le _⟩ (fun H locs hP hD hS => ?_)
  refine kr_bne (tgt := 80) hx hcd dX7_readOrder_75 (by decide) (fun (c_75 : (decide ((i + 1) < L) && c_dig (ch Tx (i + 1)) (5 + 1)) = true) => ?_) (fun (c_75 : (decide ((i + 1) < L) && c_dig (ch Tx (i + 1)) (5 + 1)) = false) => ?_)
  · have z75 : i + 1 < L := by simp only [Bool.and_eq_true, decide_eq_true_eq] at c_75; exact c_75.1
    refine lv_aload_n hx hcd dX7_readOrder_80 rfl (lv_at hl 3 rfl) ?_
    refine kr_get hx hcd hts uX7 hown hK hP 0 rfl rfl 5 (by decide) (by decide +kernel) (v := .ref (z 5)) rfl dX7_readOrder_81 ?_
    refine lv_aload_n hx hcd dX7_readOrder_84 rfl (lv_at hl 3 rfl) ?_
    refine kr_get hx hcd hts uX7 hown hK hP 0 rfl rfl 8 (by decide) (by decide +kernel) (v := .int (nI (i + 1))) rfl dX7_readOrder_85 ?_
    refine kr_iald hx hcd hK hP 5 0 rfl rfl (v := Tx (1 + i)) (by omega) (by decide) (congrArg Tx (by omega)) dX7_readOrder_88 ?_
    refine kr_top (w := nI (ch Tx (i + 1))) (by rw [Nat.add_comm]; exact t_ch hT (by omega)) ?_
    refine lv_istore (lv' := [(4, .int (nI (ch Tx (i + 1)))), (3, .int (nI 0)), (2, .int (nI 1)), (1, .int (nI 115)), (0, .ref (z 0))]) hx hcd dX7_readOrder_89 hl (by decide) rfl (fun ls hl => ?_)
    refine lv_aload_n hx hcd dX7_readOrder_91 rfl (lv_at hl 4 rfl) ?_
    refine lv_dup hx hcd dX7_readOrder_92 rfl ?_
    refine kr_get hx hcd hts uX7 hown hK hP 0 rfl rfl 8 (by decide) (by decide +kernel) (v := .int (nI (i + 1))) rfl dX7_readOrder_93 ?_
    refine lv_iconst (v := nI 1) hx hcd dX7_readOrder_96 (by decide) ?_
    refine kr_add hx hcd dX7_readOrder_97 ?_
    refine kr_put hx hcd hts uX7 tyX7 tyX7_ok nmX7 hown hK hP hD hS 0 rfl rfl 8 (by decide) (by decide +kernel) rfl rfl rfl (ws2 := wMA cI z (xu x 8 (nI ((i + 1) + 1))) hh M Sp Ot Sv Tx) rfl dX7_readOrder_98 (fun H locs hP hD hS => ?_)
    refine lv_aload_n hx hcd dX7_readOrder_101 rfl (lv_at hl 4 rfl) ?_
    refine lv_iload_n hx hcd dX7_readOrder_102 rfl (lv_at hl 3 rfl) ?_
    refine lv_bipush (v := nI 100) hx hcd dX7_readOrder_103 (by decide) ?_
    refine kr_cne (tgt := 113) hx hcd (by omega) (by omega) dX7_readOrder_105 (by decide) (fun (c_105 : ¬ 115 = 100) => ?_) (fun (c_105 : 115 = 100) => absurd c_105 (by omega))
    refine lv_iload_n hx hcd dX7_readOrder_113 rfl (lv_at hl 2 rfl) ?_
    refine kr_zeq (tgt := 121) hx hcd (by omega) dX7_readOrder_114 (by decide) (fun (c_114 : 1 = 0) => absurd c_114 (by omega)) (fun (c_114 : 0 < 1) => ?_)
    refine lv_iconst (v := nI 5) hx hcd dX7_readOrder_117 (by decide) ?_
    refine lv_goto (tgt := 122) hx hcd dX7_readOrder_118 (by decide) ?_
    refine kr_Vi (As := [.int (nI 5)]) (rest := []) (ws2 := wMA cI z (xu x 8 (nI ((i + 1) + 1))) hh M Sp Ot Sv Tx) (q := (RX7, TX7, 10)) ⟨hx, hcd, hml, hown, hts⟩ (c_X7_isDigit l D cI cB cW cL z (xu x 8 (nI ((i + 1) + 1))) hh Sp Ot Sv Tx _ M 5 (i + 2) L hT (show xu x 8 (nI (i + 2)) 8 = nI (i + 2) from rfl) h6 (by omega) (by omega) (by omega)) (cwV 1 hts gX7_readOrder_X7_isDigit rfl rfl rfl (by decide +kernel) ⟨Nat.le_of_ble_eq_true rfl, Nat.le_of_ble_eq_true rfl⟩) hK hP hD hS hA [0, 1, 2, 3, 4, 5] wMA_allC (by decide) wMA_adr wMA_all 0 rfl rfl rfl hl.1 rfl (Nat.le_of_ble_eq_true rfl) dX7_readOrder_122 ⟨Nat.zero_le _, Nat.zero_le _⟩ (fun H locs hP hD hS => ?_)
    refine kr_beq (tgt := 146) hx hcd dX7_readOrder_125 (by decide) (fun (c_125 : (decide ((i + 2) < L) && c_dig (ch Tx (i + 2)) (5 + 1)) = false) => ?_) (fun (c_125 : (decide ((i + 2) < L) && c_dig (ch Tx (i + 2)) (5 + 1)) = true) => ?_)
    · refine lv_iconst (v := nI 0) hx hcd dX7_readOrder_146 (by decide) ?_
      exact kr_zret hx hcd hr hlocks hK hP hD hS rfl (by rw [show r_pos Tx L i = i + 2 by first | exact rpx2 hlc rfl rfl c_75 (su_f c_125) | exact rpx2 hlc rfl rfl c_75 (su_e (decide_eq_false (not_not_intro c_143)))]; rw [decide_eq_false (by omega)]; rfl) (by rw [show r_pos Tx L i = i + 2 by first | exact rpx2 hlc rfl rfl c_75 (su_f c_125) | exact rpx2 hlc rfl rfl c_75 (su_e (decide_eq_false (not_not_intro c_143)))]) dX7_readOrder_147
    · have z125 : i + 2 < L := by simp only [Bool.and_eq_true, decide_eq_true_eq] at c_125; exact c_125.1
      have y1 := t_lt hT (show i + 1 < 100 by omega)
      have y2 := t_lt hT (show i + 2 < 100 by omega)
      refine lv_iload_n hx hcd dX7_readOrder_128 rfl (lv_at hl 2 rfl) ?_
      refine kr_zeq (tgt := 148) hx hcd (by omega) dX7_readOrder_129 (by decide) (fun (c_129 : 1 = 0) => absurd c_129 (by omega)) (fun (c_129 : 0 < 1) => ?_)
      refine lv_aload_n hx hcd dX7_readOrder_132 rfl (lv_at hl 4 rfl) ?_
      refine kr_get hx hcd hts uX7 hown hK hP 0 rfl rfl 5 (by decide) (by decide +kernel) (v := .ref (z 5)) rfl dX7_readOrder_133 ?_
      refine lv_aload_n hx hcd dX7_readOrder_136 rfl (lv_at hl 4 rfl) ?_
      refine kr_get hx hcd hts uX7 hown hK hP 0 rfl rfl 8 (by decide) (by decide +kernel) (v := .int (nI ((i + 1) + 1))) rfl dX7_readOrder_137 ?_
      refine kr_iald hx hcd hK hP 5 0 rfl rfl (v := Tx (2 + i)) (by omega) (by decide) (congrArg Tx (by omega)) dX7_readOrder_140 ?_
      refine kr_top (w := nI (ch Tx (i + 2))) (by rw [Nat.add_comm]; exact t_ch hT (by omega)) ?_
      refine lv_iload hx hcd dX7_readOrder_141 (lv_at hl 0 rfl) ?_
      refine kr_cne (tgt := 148) hx hcd (by omega) (by omega) dX7_readOrder_143 (by decide) (fun (c_143 : ¬ ch Tx (i + 2) = ch Tx (i + 1)) => ?_) (fun (c_143 : ch Tx (i + 2) = ch Tx (i + 1)) => ?_)
      · have z125 : i + 2 < L := by simp only [Bool.and_eq_true, decide_eq_true_eq] at c_125; exact c_125.1
        refine lv_aload_n hx hcd dX7_readOrder_148 rfl (lv_at hl 4 rfl) ?_
        refine lv_dup hx hcd dX7_readOrder_149 rfl ?_
        refine kr_get hx hcd hts uX7 hown hK hP 0 rfl rfl 8 (by decide) (by decide +kernel) (v := .int (nI ((i + 1) + 1))) rfl dX7_readOrder_150 ?_
        refine lv_iconst (v := nI 1) hx hcd dX7_readOrder_153 (by decide) ?_
        refine kr_add hx hcd dX7_readOrder_154 ?_
        refine kr_put hx hcd hts uX7 tyX7 tyX7_ok nmX7 hown hK hP hD hS 0 rfl rfl 8 (by decide) (by decide +kernel) rfl rfl rfl (ws2 := wMA cI z (xu x 8 (nI (((i + 1) + 1) + 1))) hh M Sp Ot Sv Tx) rfl dX7_readOrder_155 (fun H locs hP hD hS => ?_)
        refine lv_aload_n hx hcd dX7_readOrder_158 rfl (lv_at hl 4 rfl) ?_
        refine kr_get hx hcd hts uX7 hown hK hP 0 rfl rfl 8 (by decide) (by decide +kernel) (v := .int (nI (((i + 1) + 1) + 1))) rfl dX7_readOrder_159 ?_
        refine lv_aload_n hx hcd dX7_readOrder_162 rfl (lv_at hl 4 rfl) ?_
        refine kr_get hx hcd hts uX7 hown hK hP 0 rfl rfl 6 (by decide) (by decide +kernel) (v := .int (x 6)) rfl dX7_readOrder_163 ?_
        refine kr_top (w := nI L) h6 ?_
        refine kr_cge (tgt := 183) hx hcd (by omega) (by omega) dX7_readOrder_166 (by decide) (fun (c_166 : L ≤ ((i + 1) + 1) + 1) => ?_) (fun (c_166 : ((i + 1) + 1) + 1 < L) => ?_)
        · refine lv_iconst (v := nI 0) hx hcd dX7_readOrder_183 (by decide) ?_
          exact kr_zret hx hcd hr hlocks hK hP hD hS rfl (by rw [show r_pos Tx L i = i + 3 by first | exact rpx3 hlc rfl rfl c_75 (su_t c_125 (decide_eq_true c_143)) (Or.inl (Nat.not_lt.mpr c_166)) | exact rpx3 hlc rfl rfl c_75 (su_t c_125 (decide_eq_true c_143)) (Or.inr c_180)]; rw [decide_eq_false (by omega)]; rfl) (by rw [show r_pos Tx L i = i + 3 by first | exact rpx3 hlc rfl rfl c_75 (su_t c_125 (decide_eq_true c_143)) (Or.inl (Nat.not_lt.mpr c_166)) | exact rpx3 hlc rfl rfl c_75 (su_t c_125 (decide_eq_true c_143)) (Or.inr c_180)]) dX7_readOrder_184
        · have y3 := t_lt hT (show i + 3 < 100 by omega)
          refine lv_aload_n hx hcd dX7_readOrder_169 rfl (lv_at hl 4 rfl) ?_
          refine kr_get hx hcd hts uX7 hown hK hP 0 rfl rfl 5 (by decide) (by decide +kernel) (v := .ref (z 5)) rfl dX7_readOrder_170 ?_
          refine lv_aload_n hx hcd dX7_readOrder_173 rfl (lv_at hl 4 rfl) ?_
          refine kr_get hx hcd hts uX7 hown hK hP 0 rfl rfl 8 (by decide) (by decide +kernel) (v := .int (nI (((i + 1) + 1) + 1))) rfl dX7_readOrder_174 ?_
          refine kr_iald hx hcd hK hP 5 0 rfl rfl (v := Tx (3 + i)) (by omega) (by decide) (congrArg Tx (by omega)) dX7_readOrder_177 ?_
          refine kr_top (w := nI (ch Tx (i + 3))) (by rw [Nat.add_comm]; exact t_ch hT (by omega)) ?_
          refine lv_bipush (v := nI 59) hx hcd dX7_readOrder_178 (by decide) ?_
          refine kr_ceq (tgt := 185) hx hcd (by omega) (by omega) dX7_readOrder_180 (by decide) (fun (c_180 : ch Tx (i + 3) = 59) => ?_) (fun (c_180 : ¬ ch Tx (i + 3) = 59) => ?_)
          · refine lv_aload_n hx hcd dX7_readOrder_185 rfl (lv_at hl 4 rfl) ?_
            refine lv_dup hx hcd dX7_readOrder_186 rfl ?_
            refine kr_get hx hcd hts uX7 hown hK hP 0 rfl rfl 8 (by decide) (by decide +kernel) (v := .int (nI (((i + 1) + 1) + 1))) rfl dX7_readOrder_187 ?_
            refine lv_iconst (v := nI 1) hx hcd dX7_readOrder_190 (by decide) ?_
            refine kr_add hx hcd dX7_readOrder_191 ?_
            refine kr_put hx hcd hts uX7 tyX7 tyX7_ok nmX7 hown hK hP hD hS 0 rfl rfl 8 (by decide) (by decide +kernel) rfl rfl rfl (ws2 := wMA cI z (xu x 8 (nI ((((i + 1) + 1) + 1) + 1))) hh M Sp Ot Sv Tx) rfl dX7_readOrder_192 (fun H locs hP hD hS => ?_)
            refine lv_iconst (v := nI 1) hx hcd dX7_readOrder_195 (by decide) ?_
            exact kr_zret hx hcd hr hlocks hK hP hD hS rfl (by rw [show r_pos Tx L i = i + 4 by exact rpx4 hlc rfl rfl c_75 (su_t c_125 (decide_eq_true c_143)) c_166 c_180]; rw [decide_eq_true rfl]; rfl) (by rw [show r_pos Tx L i = i + 4 by exact rpx4 hlc rfl rfl c_75 (su_t c_125 (decide_eq_true c_143)) c_166 c_180]) dX7_readOrder_196
          · refine lv_iconst (v := nI 0) hx hcd dX7_readOrder_183 (by decide) ?_
            exact kr_zret hx hcd hr hlocks hK hP hD hS rfl (by rw [show r_pos Tx L i = i + 3 by first | exact rpx3 hlc rfl rfl c_75 (su_t c_125 (decide_eq_true c_143)) (Or.inl (Nat.not_lt.mpr c_166)) | exact rpx3 hlc rfl rfl c_75 (su_t c_125 (decide_eq_true c_143)) (Or.inr c_180)]; rw [decide_eq_false (by omega)]; rfl) (by rw [show r_pos Tx L i = i + 3 by first | exact rpx3 hlc rfl rfl c_75 (su_t c_125 (decide_eq_true c_143)) (Or.inl (Nat.not_lt.mpr c_166)) | exact rpx3 hlc rfl rfl c_75 (su_t c_125 (decide_eq_true c_143)) (Or.inr c_180)]) dX7_readOrder_184
      · refine lv_iconst (v := nI 0) hx hcd dX7_readOrder_146 (by decide) ?_
        exact kr_zret hx hcd hr hlocks hK hP hD hS rfl (by rw [show r_pos Tx L i = i + 2 by first | exact rpx2 hlc rfl rfl c_75 (su_f c_125) | exact rpx2 hlc rfl rfl c_75 (su_e (decide_eq_false (not_not_intro c_143)))]; rw [decide_eq_false (by omega)]; rfl) (by rw [show r_pos Tx L i = i + 2 by first | exact rpx2 hlc rfl rfl c_75 (su_f c_125) | exact rpx2 hlc rfl rfl c_75 (su_e (decide_eq_false (not_not_intro c_143)))]) dX7_readOrder_147
  · refine lv_iconst (v := nI 0) hx hcd dX7_readOrder_78 (by decide) ?_
    exact kr_zret hx hcd hr hlocks hK hP hD hS rfl (by rw [show r_pos Tx L i = i + 1 by exact rpx1 hlc rfl rfl c_75]; rw [decide_eq_false (by omega)]; rfl) (by rw [show r_pos Tx L i = i + 1 by exact rpx1 hlc rfl rfl c_75]) dX7_readOrder_79

set_option maxHeartbeats 4000000 in
set_option maxRecDepth 100000 in
theorem c_X7_readOrder__c105 (l : Launch) (D : va_G) (cI cB cW cL : ClassId) (z : Nat → Nat) (x : Nat → Int32) (hh : Int64) (Sp Ot Sv Tx : Nat → Int32) (sz : Nat) (M : kM) (i L : Nat) (hT : kTx Tx) (h8 : x 8 = nI i) (h6 : x 6 = nI L) (hL : L ≤ 100) (hi : i < L) (hlc : ch Tx i = 105) : kMi l yX7_readOrder wsX7_readOrder ({ frames := 2, cells := 0, slots := 0, locals := 43 }) D vwCl (kT cI cB cW cL) sz [.ref (z 0)] (wMA cI z x hh M Sp Ot Sv Tx) (wMA cI z (xu x 8 (nI (r_pos Tx L i))) hh M Sp Ot Sv Tx) (kI (decide (r_pos Tx L i = i + 4))) := by
  refine kr_ofi (cc := cX7_readOrder) (maxL := 5) (ret := (some .boolean)) (by decide) rfl (Nat.le_of_ble_eq_true rfl) ?_
  intro pp ee ss mm args below meth cc AA ls hx hcd hr hts hown hlocks hml hK hP hD hA hl
  have hS : va_S AA ss.heap ss.heap [] := va_S.rf
  have hown : ss.vm.findClass RX7 = some mm.cls := hown
  have hl : lv_has ls 5 [(0, .ref (z 0))] := hl
  have uX7 : ∀ w ∈ u_ws RX7 TX7 10, w ∈ wsX7_readOrder := by decide +kernel
  refine lv_aload_n hx hcd dX7_readOrder_0 rfl (lv_at hl 0 rfl) ?_
  refine kr_get hx hcd hts uX7 hown hK hP 0 rfl rfl 5 (by decide) (by decide +kernel) (v := .ref (z 5)) rfl dX7_readOrder_1 ?_
  refine lv_aload_n hx hcd dX7_readOrder_4 rfl (lv_at hl 0 rfl) ?_
  refine kr_get hx hcd hts uX7 hown hK hP 0 rfl rfl 8 (by decide) (by decide +kernel) (v := .int (x 8)) rfl dX7_readOrder_5 ?_
  refine kr_top (w := nI i) h8 ?_
  refine kr_iald hx hcd hK hP 5 0 rfl rfl (v := Tx i) (by omega) (by decide) (congrArg Tx (by omega)) dX7_readOrder_8 ?_
  refine kr_top (w := nI 105) ((t_ch hT (by omega)).trans (congrArg nI hlc)) ?_
  refine lv_istore_n (lv' := [(1, .int (nI 105)), (0, .ref (z 0))]) hx hcd dX7_readOrder_9 rfl hl (by decide) rfl (fun ls hl => ?_)
  refine lv_iload_n hx hcd dX7_readOrder_10 rfl (lv_at hl 0 rfl) ?_
  refine kr_Si (As := [.int (nI 105)]) (rest := []) (ws2 := wMA cI z x hh M Sp Ot Sv Tx) ⟨hx, hcd, hml, hown, hts⟩ (c_X7_areUsers l D cI cB cW cL  _ M 105 (by omega)) (va_cwS 1 hts gX7_readOrder_X7_areUsers rfl rfl rfl (by decide +kernel) ⟨Nat.le_of_ble_eq_true rfl, Nat.le_of_ble_eq_true rfl⟩) hK hP hD hS hA [] rfl (by decide) rfl rfl rfl hl.1 rfl (Nat.le_of_ble_eq_true rfl) dX7_readOrder_11 ⟨Nat.zero_le _, Nat.zero_le _⟩ (fun H locs hP hD hS => ?_)
  refine kr_top (w := nI 0) rfl ?_
  refine lv_istore_n (lv' := [(2, .int (nI 0)), (1, .int (nI 105)), (0, .ref (z 0))]) hx hcd dX7_readOrder_14 rfl hl (by decide) rfl (fun ls hl => ?_)
  refine lv_iload_n hx hcd dX7_readOrder_15 rfl (lv_at hl 1 rfl) ?_
  refine lv_bipush (v := nI 105) hx hcd dX7_readOrder_16 (by decide) ?_
  refine kr_ceq (tgt := 27) hx hcd (by omega) (by omega) dX7_readOrder_18 (by decide) (fun (c_18 : 105 = 105) => ?_) (fun (c_18 : ¬ 105 = 105) => absurd c_18 (by omega))
  refine lv_iconst (v := nI 1) hx hcd dX7_readOrder_27 (by decide) ?_
  refine lv_goto (tgt := 32) hx hcd dX7_readOrder_28 (by decide) ?_
  refine lv_istore_n (lv' := [(3, .int (nI 1)), (2, .int (nI 0)), (1, .int (nI 105)), (0, .ref (z 0))]) hx hcd dX7_readOrder_32 rfl hl (by decide) rfl (fun ls hl => ?_)
  refine lv_iload_n hx hcd dX7_readOrder_33 rfl (lv_at hl 1 rfl) ?_
  refine kr_zne (tgt := 49) hx hcd (by omega) dX7_readOrder_34 (by decide) (fun (c_34 : 0 < 0) => absurd c_34 (by omega)) (fun (c_34 : 0 = 0) => ?_)
  refine lv_iload_n hx hcd dX7_readOrder_37 rfl (lv_at hl 0 rfl) ?_
  refine kr_zne (tgt := 49) hx hcd (by omega) dX7_readOrder_38 (by decide) (fun (c_38 : 0 < 1) => ?_) (fun (c_38 : 1 = 0) => absurd c_38 (by omega))
  refine lv_aload_n hx hcd dX7_readOrder_49 rfl (lv_at hl 3 rfl) ?_
  refine lv_dup hx hcd dX7_readOrder_50 rfl ?_
  refine kr_get hx hcd hts uX7 hown hK hP 0 rfl rfl 8 (by decide) (by decide +kernel) (v := .int (x 8)) rfl dX7_readOrder_51 ?_
  refine kr_top (w := nI i) h8 ?_
  refine lv_iconst (v := nI 1) hx hcd dX7_readOrder_54 (by decide) ?_
  refine kr_add hx hcd dX7_readOrder_55 ?_
  refine kr_put hx hcd hts uX7 tyX7 tyX7_ok nmX7 hown hK hP hD hS 0 rfl rfl 8 (by decide) (by decide +kernel) rfl rfl rfl (ws2 := wMA cI z (xu x 8 (nI (i + 1))) hh M Sp Ot Sv Tx) rfl dX7_readOrder_56 (fun H locs hP hD hS => ?_)
  refine lv_aload_n hx hcd dX7_readOrder_59 rfl (lv_at hl 3 rfl) ?_
  refine lv_iload_n hx hcd dX7_readOrder_60 rfl (lv_at hl 2 rfl) ?_
  refine lv_bipush (v := nI 100) hx hcd dX7_readOrder_61 (by decide) ?_
  refine kr_cne (tgt := 71) hx hcd (by omega) (by omega) dX7_readOrder_63 (by decide) (fun (c_63 : ¬ 105 = 100) => ?_) (fun (c_63 : 105 = 100) => absurd c_63 (by omega))
  refine lv_iconst (v := nI 5) hx hcd dX7_readOrder_71 (by decide) ?_
  refine kr_Vi (As := [.int (nI 5)]) (rest := []) (ws2 := wMA cI z (xu x 8 (nI (i + 1))) hh M Sp Ot Sv Tx) (q := (RX7, TX7, 10)) ⟨hx, hcd, hml, hown, hts⟩ (c_X7_isDigit l D cI cB cW cL z (xu x 8 (nI (i + 1))) hh Sp Ot Sv Tx _ M 5 (i + 1) L hT (show xu x 8 (nI (i + 1)) 8 = nI (i + 1) from rfl) h6 (by omega) (by omega) (by omega)) (cwV 1 hts gX7_readOrder_X7_isDigit rfl rfl rfl (by decide +kernel) ⟨Nat.le_of_ble_eq_true rfl, Nat.le_of_ble_eq_true rfl⟩) hK hP hD hS hA [0, 1, 2, 3, 4, 5] wMA_allC (by decide) wMA_adr wMA_all 0 rfl rfl rfl hl.1 rfl (Nat.le_of_ble_eq_true rfl) dX7_readOrder_72 ⟨Nat.zero_le _, Nat.zero_le _⟩ (fun H locs hP hD hS => ?_)
  refine kr_bne (tgt := 80) hx hcd dX7_readOrder_75 (by decide) (fun (c_75 : (decide ((i + 1) < L) && c_dig (ch Tx (i + 1)) (5 + 1)) = true) => ?_) (fun (c_75 : (decide ((i + 1) < L) && c_dig (ch Tx (i + 1)) (5 + 1)) = false) => ?_)
  · have z75 : i + 1 < L := by simp only [Bool.and_eq_true, decide_eq_true_eq] at c_75; exact c_75.1
    refine lv_aload_n hx hcd dX7_readOrder_80 rfl (lv_at hl 3 rfl) ?_
    refine kr_get hx hcd hts uX7 hown hK hP 0 rfl rfl 5 (by decide) (by decide +kernel) (v := .ref (z 5)) rfl dX7_readOrder_81 ?_
    refine lv_aload_n hx hcd dX7_readOrder_84 rfl (lv_at hl 3 rfl) ?_
    refine kr_get hx hcd hts uX7 hown hK hP 0 rfl rfl 8 (by decide) (by decide +kernel) (v := .int (nI (i + 1))) rfl dX7_readOrder_85 ?_
    refine kr_iald hx hcd hK hP 5 0 rfl rfl (v := Tx (1 + i)) (by omega) (by decide) (congrArg Tx (by omega)) dX7_readOrder_88 ?_
    refine kr_top (w := nI (ch Tx (i + 1))) (by rw [Nat.add_comm]; exact t_ch hT (by omega)) ?_
    refine lv_istore (lv' := [(4, .int (nI (ch Tx (i + 1)))), (3, .int (nI 1)), (2, .int (nI 0)), (1, .int (nI 105)), (0, .ref (z 0))]) hx hcd dX7_readOrder_89 hl (by decide) rfl (fun ls hl => ?_)
    refine lv_aload_n hx hcd dX7_readOrder_91 rfl (lv_at hl 4 rfl) ?_
    refine lv_dup hx hcd dX7_readOrder_92 rfl ?_
    refine kr_get hx hcd hts uX7 hown hK hP 0 rfl rfl 8 (by decide) (by decide +kernel) (v := .int (nI (i + 1))) rfl dX7_readOrder_93 ?_
    refine lv_iconst (v := nI 1) hx hcd dX7_readOrder_96 (by decide) ?_
    refine kr_add hx hcd dX7_readOrder_97 ?_
    refine kr_put hx hcd hts uX7 tyX7 tyX7_ok nmX7 hown hK hP hD hS 0 rfl rfl 8 (by decide) (by decide +kernel) rfl rfl rfl (ws2 := wMA cI z (xu x 8 (nI ((i + 1) + 1))) hh M Sp Ot Sv Tx) rfl dX7_readOrder_98 (fun H locs hP hD hS => ?_)
    refine lv_aload_n hx hcd dX7_readOrder_101 rfl (lv_at hl 4 rfl) ?_
    refine lv_iload_n hx hcd dX7_readOrder_102 rfl (lv_at hl 3 rfl) ?_
    refine lv_bipush (v := nI 100) hx hcd dX7_readOrder_103 (by decide) ?_
    refine kr_cne (tgt := 113) hx hcd (by omega) (by omega) dX7_readOrder_105 (by decide) (fun (c_105 : ¬ 105 = 100) => ?_) (fun (c_105 : 105 = 100) => absurd c_105 (by omega))
    refine lv_iload_n hx hcd dX7_readOrder_113 rfl (lv_at hl 2 rfl) ?_
    refine kr_zeq (tgt := 121) hx hcd (by omega) dX7_readOrder_114 (by decide) (fun (c_114 : 0 = 0) => ?_) (fun (c_114 : 0 < 0) => absurd c_114 (by omega))
    refine lv_iconst (v := nI 2) hx hcd dX7_readOrder_121 (by decide) ?_
    refine kr_Vi (As := [.int (nI 2)]) (rest := []) (ws2 := wMA cI z (xu x 8 (nI ((i + 1) + 1))) hh M Sp Ot Sv Tx) (q := (RX7, TX7, 10)) ⟨hx, hcd, hml, hown, hts⟩ (c_X7_isDigit l D cI cB cW cL z (xu x 8 (nI ((i + 1) + 1))) hh Sp Ot Sv Tx _ M 2 (i + 2) L hT (show xu x 8 (nI (i + 2)) 8 = nI (i + 2) from rfl) h6 (by omega) (by omega) (by omega)) (cwV 1 hts gX7_readOrder_X7_isDigit rfl rfl rfl (by decide +kernel) ⟨Nat.le_of_ble_eq_true rfl, Nat.le_of_ble_eq_true rfl⟩) hK hP hD hS hA [0, 1, 2, 3, 4, 5] wMA_allC (by decide) wMA_adr wMA_all 0 rfl rfl rfl hl.1 rfl (Nat.le_of_ble_eq_true rfl) dX7_readOrder_122 ⟨Nat.zero_le _, Nat.zero_le _⟩ (fun H locs hP hD hS => ?_)
    refine kr_beq (tgt := 146) hx hcd dX7_readOrder_125 (by decide) (fun (c_125 : (decide ((i + 2) < L) && c_dig (ch Tx (i + 2)) (2 + 1)) = false) => ?_) (fun (c_125 : (decide ((i + 2) < L) && c_dig (ch Tx (i + 2)) (2 + 1)) = true) => ?_)
    · refine lv_iconst (v := nI 0) hx hcd dX7_readOrder_146 (by decide) ?_
      exact kr_zret hx hcd hr hlocks hK hP hD hS rfl (by rw [show r_pos Tx L i = i + 2 by exact rpx2 hlc rfl rfl c_75 c_125]; rw [decide_eq_false (by omega)]; rfl) (by rw [show r_pos Tx L i = i + 2 by exact rpx2 hlc rfl rfl c_75 c_125]) dX7_readOrder_147
    · have z125 : i + 2 < L := by simp only [Bool.and_eq_true, decide_eq_true_eq] at c_125; exact c_125.1
      have y1 := t_lt hT (show i + 1 < 100 by omega)
      have y2 := t_lt hT (show i + 2 < 100 by omega)
      refine lv_iload_n hx hcd dX7_readOrder_128 rfl (lv_at hl 2 rfl) ?_
      refine kr_zeq (tgt := 148) hx hcd (by omega) dX7_readOrder_129 (by decide) (fun (c_129 : 0 = 0) => ?_) (fun (c_129 : 0 < 0) => absurd c_129 (by omega))
      have z125 : i + 2 < L := by simp only [Bool.and_eq_true, decide_eq_true_eq] at c_125; exact c_125.1
      refine lv_aload_n hx hcd dX7_readOrder_148 rfl (lv_at hl 4 rfl) ?_
      refine lv_dup hx hcd dX7_readOrder_149 rfl ?_
      refine kr_get hx hcd hts uX7 hown hK hP 0 rfl rfl 8 (by decide) (by decide +kernel) (v := .int (nI ((i + 1) + 1))) rfl dX7_readOrder_150 ?_
      refine lv_iconst (v := nI 1) hx hcd dX7_readOrder_153 (by decide) ?_
      refine kr_add hx hcd dX7_readOrder_154 ?_
      refine kr_put hx hcd hts uX7 tyX7 tyX7_ok nmX7 hown hK hP hD hS 0 rfl rfl 8 (by decide) (by decide +kernel) rfl rfl rfl (ws2 := wMA cI z (xu x 8 (nI (((i + 1) + 1) + 1))) hh M Sp Ot Sv Tx) rfl dX7_readOrder_155 (fun H locs hP hD hS => ?_)
      refine lv_aload_n hx hcd dX7_readOrder_158 rfl (lv_at hl 4 rfl) ?_
      refine kr_get hx hcd hts uX7 hown hK hP 0 rfl rfl 8 (by decide) (by decide +kernel) (v := .int (nI (((i + 1) + 1) + 1))) rfl dX7_readOrder_159 ?_
      refine lv_aload_n hx hcd dX7_readOrder_162 rfl (lv_at hl 4 rfl) ?_
      refine kr_get hx hcd hts uX7 hown hK hP 0 rfl rfl 6 (by decide) (by decide +kernel) (v := .int (x 6)) rfl dX7_readOrder_163 ?_
      refine kr_top (w := nI L) h6 ?_
      refine kr_cge (tgt := 183) hx hcd (by omega) (by omega) dX7_readOrder_166 (by decide) (fun (c_166 : L ≤ ((i + 1) + 1) + 1) => ?_) (fun (c_166 : ((i + 1) + 1) + 1 < L) => ?_)
      · refine lv_iconst (v := nI 0) hx hcd dX7_readOrder_183 (by decide) ?_
        exact kr_zret hx hcd hr hlocks hK hP hD hS rfl (by rw [show r_pos Tx L i = i + 3 by first | exact rpx3 hlc rfl rfl c_75 c_125 (Or.inl (Nat.not_lt.mpr c_166)) | exact rpx3 hlc rfl rfl c_75 c_125 (Or.inr c_180)]; rw [decide_eq_false (by omega)]; rfl) (by rw [show r_pos Tx L i = i + 3 by first | exact rpx3 hlc rfl rfl c_75 c_125 (Or.inl (Nat.not_lt.mpr c_166)) | exact rpx3 hlc rfl rfl c_75 c_125 (Or.inr c_180)]) dX7_readOrder_184
      · have y3 := t_lt hT (show i + 3 < 100 by omega)
        refine lv_aload_n hx hcd dX7_readOrder_169 rfl (lv_at hl 4 rfl) ?_
        refine kr_get hx hcd hts uX7 hown hK hP 0 rfl rfl 5 (by decide) (by decide +kernel) (v := .ref (z 5)) rfl dX7_readOrder_170 ?_
        refine lv_aload_n hx hcd dX7_readOrder_173 rfl (lv_at hl 4 rfl) ?_
        refine kr_get hx hcd hts uX7 hown hK hP 0 rfl rfl 8 (by decide) (by decide +kernel) (v := .int (nI (((i + 1) + 1) + 1))) rfl dX7_readOrder_174 ?_
        refine kr_iald hx hcd hK hP 5 0 rfl rfl (v := Tx (3 + i)) (by omega) (by decide) (congrArg Tx (by omega)) dX7_readOrder_177 ?_
        refine kr_top (w := nI (ch Tx (i + 3))) (by rw [Nat.add_comm]; exact t_ch hT (by omega)) ?_
        refine lv_bipush (v := nI 59) hx hcd dX7_readOrder_178 (by decide) ?_
        refine kr_ceq (tgt := 185) hx hcd (by omega) (by omega) dX7_readOrder_180 (by decide) (fun (c_180 : ch Tx (i + 3) = 59) => ?_) (fun (c_180 : ¬ ch Tx (i + 3) = 59) => ?_)
        · refine lv_aload_n hx hcd dX7_readOrder_185 rfl (lv_at hl 4 rfl) ?_
          refine lv_dup hx hcd dX7_readOrder_186 rfl ?_
          refine kr_get hx hcd hts uX7 hown hK hP 0 rfl rfl 8 (by decide) (by decide +kernel) (v := .int (nI (((i + 1) + 1) + 1))) rfl dX7_readOrder_187 ?_
          refine lv_iconst (v := nI 1) hx hcd dX7_readOrder_190 (by decide) ?_
          refine kr_add hx hcd dX7_readOrder_191 ?_
          refine kr_put hx hcd hts uX7 tyX7 tyX7_ok nmX7 hown hK hP hD hS 0 rfl rfl 8 (by decide) (by decide +kernel) rfl rfl rfl (ws2 := wMA cI z (xu x 8 (nI ((((i + 1) + 1) + 1) + 1))) hh M Sp Ot Sv Tx) rfl dX7_readOrder_192 (fun H locs hP hD hS => ?_)
          refine lv_iconst (v := nI 1) hx hcd dX7_readOrder_195 (by decide) ?_
          exact kr_zret hx hcd hr hlocks hK hP hD hS rfl (by rw [show r_pos Tx L i = i + 4 by exact rpx4 hlc rfl rfl c_75 c_125 c_166 c_180]; rw [decide_eq_true rfl]; rfl) (by rw [show r_pos Tx L i = i + 4 by exact rpx4 hlc rfl rfl c_75 c_125 c_166 c_180]) dX7_readOrder_196
        · refine lv_iconst (v := nI 0) hx hcd dX7_readOrder_183 (by decide) ?_
          exact kr_zret hx hcd hr hlocks hK hP hD hS rfl (by rw [show r_pos Tx L i = i + 3 by first | exact rpx3 hlc rfl rfl c_75 c_125 (Or.inl (Nat.not_lt.mpr c_166)) | exact rpx3 hlc rfl rfl c_75 c_125 (Or.inr c_180)]; rw [decide_eq_false (by omega)]; rfl) (by rw [show r_pos Tx L i = i + 3 by first | exact rpx3 hlc rfl rfl c_75 c_125 (Or.inl (Nat.not_lt.mpr c_166)) | exact rpx3 hlc rfl rfl c_75 c_125 (Or.inr c_180)]) dX7_readOrder_184
  · refine lv_iconst (v := nI 0) hx hcd dX7_readOrder_78 (by decide) ?_
    exact kr_zret hx hcd hr hlocks hK hP hD hS rfl (by rw [show r_pos Tx L i = i + 1 by exact rpx1 hlc rfl rfl c_75]; rw [decide_eq_false (by omega)]; rfl) (by rw [show r_pos Tx L i = i + 1 by exact rpx1 hlc rfl rfl c_75]) dX7_readOrder_79

set_option maxHeartbeats 4000000 in
set_option maxRecDepth 100000 in
theorem c_X7_readOrder__c111 (l : Launch) (D : va_G) (cI cB cW cL : ClassId) (z : Nat → Nat) (x : Nat → Int32) (hh : Int64) (Sp Ot Sv Tx : Nat → Int32) (sz : Nat) (M : kM) (i L : Nat) (hT : kTx Tx) (h8 : x 8 = nI i) (h6 : x 6 = nI L) (hL : L ≤ 100) (hi : i < L) (hlc : ch Tx i = 111) : kMi l yX7_readOrder wsX7_readOrder ({ frames := 2, cells := 0, slots := 0, locals := 43 }) D vwCl (kT cI cB cW cL) sz [.ref (z 0)] (wMA cI z x hh M Sp Ot Sv Tx) (wMA cI z (xu x 8 (nI (r_pos Tx L i))) hh M Sp Ot Sv Tx) (kI (decide (r_pos Tx L i = i + 4))) := by
  refine kr_ofi (cc := cX7_readOrder) (maxL := 5) (ret := (some .boolean)) (by decide) rfl (Nat.le_of_ble_eq_true rfl) ?_
  intro pp ee ss mm args below meth cc AA ls hx hcd hr hts hown hlocks hml hK hP hD hA hl
  have hS : va_S AA ss.heap ss.heap [] := va_S.rf
  have hown : ss.vm.findClass RX7 = some mm.cls := hown
  have hl : lv_has ls 5 [(0, .ref (z 0))] := hl
  have uX7 : ∀ w ∈ u_ws RX7 TX7 10, w ∈ wsX7_readOrder := by decide +kernel
  refine lv_aload_n hx hcd dX7_readOrder_0 rfl (lv_at hl 0 rfl) ?_
  refine kr_get hx hcd hts uX7 hown hK hP 0 rfl rfl 5 (by decide) (by decide +kernel) (v := .ref (z 5)) rfl dX7_readOrder_1 ?_
  refine lv_aload_n hx hcd dX7_readOrder_4 rfl (lv_at hl 0 rfl) ?_
  refine kr_get hx hcd hts uX7 hown hK hP 0 rfl rfl 8 (by decide) (by decide +kernel) (v := .int (x 8)) rfl dX7_readOrder_5 ?_
  refine kr_top (w := nI i) h8 ?_
  refine kr_iald hx hcd hK hP 5 0 rfl rfl (v := Tx i) (by omega) (by decide) (congrArg Tx (by omega)) dX7_readOrder_8 ?_
  refine kr_top (w := nI 111) ((t_ch hT (by omega)).trans (congrArg nI hlc)) ?_
  refine lv_istore_n (lv' := [(1, .int (nI 111)), (0, .ref (z 0))]) hx hcd dX7_readOrder_9 rfl hl (by decide) rfl (fun ls hl => ?_)
  refine lv_iload_n hx hcd dX7_readOrder_10 rfl (lv_at hl 0 rfl) ?_
  refine kr_Si (As := [.int (nI 111)]) (rest := []) (ws2 := wMA cI z x hh M Sp Ot Sv Tx) ⟨hx, hcd, hml, hown, hts⟩ (c_X7_areUsers l D cI cB cW cL  _ M 111 (by omega)) (va_cwS 1 hts gX7_readOrder_X7_areUsers rfl rfl rfl (by decide +kernel) ⟨Nat.le_of_ble_eq_true rfl, Nat.le_of_ble_eq_true rfl⟩) hK hP hD hS hA [] rfl (by decide) rfl rfl rfl hl.1 rfl (Nat.le_of_ble_eq_true rfl) dX7_readOrder_11 ⟨Nat.zero_le _, Nat.zero_le _⟩ (fun H locs hP hD hS => ?_)
  refine kr_top (w := nI 0) rfl ?_
  refine lv_istore_n (lv' := [(2, .int (nI 0)), (1, .int (nI 111)), (0, .ref (z 0))]) hx hcd dX7_readOrder_14 rfl hl (by decide) rfl (fun ls hl => ?_)
  refine lv_iload_n hx hcd dX7_readOrder_15 rfl (lv_at hl 1 rfl) ?_
  refine lv_bipush (v := nI 105) hx hcd dX7_readOrder_16 (by decide) ?_
  refine kr_ceq (tgt := 27) hx hcd (by omega) (by omega) dX7_readOrder_18 (by decide) (fun (c_18 : 111 = 105) => absurd c_18 (by omega)) (fun (c_18 : ¬ 111 = 105) => ?_)
  refine lv_iload_n hx hcd dX7_readOrder_21 rfl (lv_at hl 1 rfl) ?_
  refine lv_bipush (v := nI 111) hx hcd dX7_readOrder_22 (by decide) ?_
  refine kr_cne (tgt := 31) hx hcd (by omega) (by omega) dX7_readOrder_24 (by decide) (fun (c_24 : ¬ 111 = 111) => absurd c_24 (by omega)) (fun (c_24 : 111 = 111) => ?_)
  refine lv_iconst (v := nI 1) hx hcd dX7_readOrder_27 (by decide) ?_
  refine lv_goto (tgt := 32) hx hcd dX7_readOrder_28 (by decide) ?_
  refine lv_istore_n (lv' := [(3, .int (nI 1)), (2, .int (nI 0)), (1, .int (nI 111)), (0, .ref (z 0))]) hx hcd dX7_readOrder_32 rfl hl (by decide) rfl (fun ls hl => ?_)
  refine lv_iload_n hx hcd dX7_readOrder_33 rfl (lv_at hl 1 rfl) ?_
  refine kr_zne (tgt := 49) hx hcd (by omega) dX7_readOrder_34 (by decide) (fun (c_34 : 0 < 0) => absurd c_34 (by omega)) (fun (c_34 : 0 = 0) => ?_)
  refine lv_iload_n hx hcd dX7_readOrder_37 rfl (lv_at hl 0 rfl) ?_
  refine kr_zne (tgt := 49) hx hcd (by omega) dX7_readOrder_38 (by decide) (fun (c_38 : 0 < 1) => ?_) (fun (c_38 : 1 = 0) => absurd c_38 (by omega))
  refine lv_aload_n hx hcd dX7_readOrder_49 rfl (lv_at hl 3 rfl) ?_
  refine lv_dup hx hcd dX7_readOrder_50 rfl ?_
  refine kr_get hx hcd hts uX7 hown hK hP 0 rfl rfl 8 (by decide) (by decide +kernel) (v := .int (x 8)) rfl dX7_readOrder_51 ?_
  refine kr_top (w := nI i) h8 ?_
  refine lv_iconst (v := nI 1) hx hcd dX7_readOrder_54 (by decide) ?_
  refine kr_add hx hcd dX7_readOrder_55 ?_
  refine kr_put hx hcd hts uX7 tyX7 tyX7_ok nmX7 hown hK hP hD hS 0 rfl rfl 8 (by decide) (by decide +kernel) rfl rfl rfl (ws2 := wMA cI z (xu x 8 (nI (i + 1))) hh M Sp Ot Sv Tx) rfl dX7_readOrder_56 (fun H locs hP hD hS => ?_)
  refine lv_aload_n hx hcd dX7_readOrder_59 rfl (lv_at hl 3 rfl) ?_
  refine lv_iload_n hx hcd dX7_readOrder_60 rfl (lv_at hl 2 rfl) ?_
  refine lv_bipush (v := nI 100) hx hcd dX7_readOrder_61 (by decide) ?_
  refine kr_cne (tgt := 71) hx hcd (by omega) (by omega) dX7_readOrder_63 (by decide) (fun (c_63 : ¬ 111 = 100) => ?_) (fun (c_63 : 111 = 100) => absurd c_63 (by omega))
  refine lv_iconst (v := nI 5) hx hcd dX7_readOrder_71 (by decide) ?_
  refine kr_Vi (As := [.int (nI 5)]) (rest := []) (ws2 := wMA cI z (xu x 8 (nI (i + 1))) hh M Sp Ot Sv Tx) (q := (RX7, TX7, 10)) ⟨hx, hcd, hml, hown, hts⟩ (c_X7_isDigit l D cI cB cW cL z (xu x 8 (nI (i + 1))) hh Sp Ot Sv Tx _ M 5 (i + 1) L hT (show xu x 8 (nI (i + 1)) 8 = nI (i + 1) from rfl) h6 (by omega) (by omega) (by omega)) (cwV 1 hts gX7_readOrder_X7_isDigit rfl rfl rfl (by decide +kernel) ⟨Nat.le_of_ble_eq_true rfl, Nat.le_of_ble_eq_true rfl⟩) hK hP hD hS hA [0, 1, 2, 3, 4, 5] wMA_allC (by decide) wMA_adr wMA_all 0 rfl rfl rfl hl.1 rfl (Nat.le_of_ble_eq_true rfl) dX7_readOrder_72 ⟨Nat.zero_le _, Nat.zero_le _⟩ (fun H locs hP hD hS => ?_)
  refine kr_bne (tgt := 80) hx hcd dX7_readOrder_75 (by decide) (fun (c_75 : (decide ((i + 1) < L) && c_dig (ch Tx (i + 1)) (5 + 1)) = true) => ?_) (fun (c_75 : (decide ((i + 1) < L) && c_dig (ch Tx (i + 1)) (5 + 1)) = false) => ?_)
  · have z75 : i + 1 < L := by simp only [Bool.and_eq_true, decide_eq_true_eq] at c_75; exact c_75.1
    refine lv_aload_n hx hcd dX7_readOrder_80 rfl (lv_at hl 3 rfl) ?_
    refine kr_get hx hcd hts uX7 hown hK hP 0 rfl rfl 5 (by decide) (by decide +kernel) (v := .ref (z 5)) rfl dX7_readOrder_81 ?_
    refine lv_aload_n hx hcd dX7_readOrder_84 rfl (lv_at hl 3 rfl) ?_
    refine kr_get hx hcd hts uX7 hown hK hP 0 rfl rfl 8 (by decide) (by decide +kernel) (v := .int (nI (i + 1))) rfl dX7_readOrder_85 ?_
    refine kr_iald hx hcd hK hP 5 0 rfl rfl (v := Tx (1 + i)) (by omega) (by decide) (congrArg Tx (by omega)) dX7_readOrder_88 ?_
    refine kr_top (w := nI (ch Tx (i + 1))) (by rw [Nat.add_comm]; exact t_ch hT (by omega)) ?_
    refine lv_istore (lv' := [(4, .int (nI (ch Tx (i + 1)))), (3, .int (nI 1)), (2, .int (nI 0)), (1, .int (nI 111)), (0, .ref (z 0))]) hx hcd dX7_readOrder_89 hl (by decide) rfl (fun ls hl => ?_)
    refine lv_aload_n hx hcd dX7_readOrder_91 rfl (lv_at hl 4 rfl) ?_
    refine lv_dup hx hcd dX7_readOrder_92 rfl ?_
    refine kr_get hx hcd hts uX7 hown hK hP 0 rfl rfl 8 (by decide) (by decide +kernel) (v := .int (nI (i + 1))) rfl dX7_readOrder_93 ?_
    refine lv_iconst (v := nI 1) hx hcd dX7_readOrder_96 (by decide) ?_
    refine kr_add hx hcd dX7_readOrder_97 ?_
    refine kr_put hx hcd hts uX7 tyX7 tyX7_ok nmX7 hown hK hP hD hS 0 rfl rfl 8 (by decide) (by decide +kernel) rfl rfl rfl (ws2 := wMA cI z (xu x 8 (nI ((i + 1) + 1))) hh M Sp Ot Sv Tx) rfl dX7_readOrder_98 (fun H locs hP hD hS => ?_)
    refine lv_aload_n hx hcd dX7_readOrder_101 rfl (lv_at hl 4 rfl) ?_
    refine lv_iload_n hx hcd dX7_readOrder_102 rfl (lv_at hl 3 rfl) ?_
    refine lv_bipush (v := nI 100) hx hcd dX7_readOrder_103 (by decide) ?_
    refine kr_cne (tgt := 113) hx hcd (by omega) (by omega) dX7_readOrder_105 (by decide) (fun (c_105 : ¬ 111 = 100) => ?_) (fun (c_105 : 111 = 100) => absurd c_105 (by omega))
    refine lv_iload_n hx hcd dX7_readOrder_113 rfl (lv_at hl 2 rfl) ?_
    refine kr_zeq (tgt := 121) hx hcd (by omega) dX7_readOrder_114 (by decide) (fun (c_114 : 0 = 0) => ?_) (fun (c_114 : 0 < 0) => absurd c_114 (by omega))
    refine lv_iconst (v := nI 2) hx hcd dX7_readOrder_121 (by decide) ?_
    refine kr_Vi (As := [.int (nI 2)]) (rest := []) (ws2 := wMA cI z (xu x 8 (nI ((i + 1) + 1))) hh M Sp Ot Sv Tx) (q := (RX7, TX7, 10)) ⟨hx, hcd, hml, hown, hts⟩ (c_X7_isDigit l D cI cB cW cL z (xu x 8 (nI ((i + 1) + 1))) hh Sp Ot Sv Tx _ M 2 (i + 2) L hT (show xu x 8 (nI (i + 2)) 8 = nI (i + 2) from rfl) h6 (by omega) (by omega) (by omega)) (cwV 1 hts gX7_readOrder_X7_isDigit rfl rfl rfl (by decide +kernel) ⟨Nat.le_of_ble_eq_true rfl, Nat.le_of_ble_eq_true rfl⟩) hK hP hD hS hA [0, 1, 2, 3, 4, 5] wMA_allC (by decide) wMA_adr wMA_all 0 rfl rfl rfl hl.1 rfl (Nat.le_of_ble_eq_true rfl) dX7_readOrder_122 ⟨Nat.zero_le _, Nat.zero_le _⟩ (fun H locs hP hD hS => ?_)
    refine kr_beq (tgt := 146) hx hcd dX7_readOrder_125 (by decide) (fun (c_125 : (decide ((i + 2) < L) && c_dig (ch Tx (i + 2)) (2 + 1)) = false) => ?_) (fun (c_125 : (decide ((i + 2) < L) && c_dig (ch Tx (i + 2)) (2 + 1)) = true) => ?_)
    · refine lv_iconst (v := nI 0) hx hcd dX7_readOrder_146 (by decide) ?_
      exact kr_zret hx hcd hr hlocks hK hP hD hS rfl (by rw [show r_pos Tx L i = i + 2 by exact rpx2 hlc rfl rfl c_75 c_125]; rw [decide_eq_false (by omega)]; rfl) (by rw [show r_pos Tx L i = i + 2 by exact rpx2 hlc rfl rfl c_75 c_125]) dX7_readOrder_147
    · have z125 : i + 2 < L := by simp only [Bool.and_eq_true, decide_eq_true_eq] at c_125; exact c_125.1
      have y1 := t_lt hT (show i + 1 < 100 by omega)
      have y2 := t_lt hT (show i + 2 < 100 by omega)
      refine lv_iload_n hx hcd dX7_readOrder_128 rfl (lv_at hl 2 rfl) ?_
      refine kr_zeq (tgt := 148) hx hcd (by omega) dX7_readOrder_129 (by decide) (fun (c_129 : 0 = 0) => ?_) (fun (c_129 : 0 < 0) => absurd c_129 (by omega))
      have z125 : i + 2 < L := by simp only [Bool.and_eq_true, decide_eq_true_eq] at c_125; exact c_125.1
      refine lv_aload_n hx hcd dX7_readOrder_148 rfl (lv_at hl 4 rfl) ?_
      refine lv_dup hx hcd dX7_readOrder_149 rfl ?_
      refine kr_get hx hcd hts uX7 hown hK hP 0 rfl rfl 8 (by decide) (by decide +kernel) (v := .int (nI ((i + 1) + 1))) rfl dX7_readOrder_150 ?_
      refine lv_iconst (v := nI 1) hx hcd dX7_readOrder_153 (by decide) ?_
      refine kr_add hx hcd dX7_readOrder_154 ?_
      refine kr_put hx hcd hts uX7 tyX7 tyX7_ok nmX7 hown hK hP hD hS 0 rfl rfl 8 (by decide) (by decide +kernel) rfl rfl rfl (ws2 := wMA cI z (xu x 8 (nI (((i + 1) + 1) + 1))) hh M Sp Ot Sv Tx) rfl dX7_readOrder_155 (fun H locs hP hD hS => ?_)
      refine lv_aload_n hx hcd dX7_readOrder_158 rfl (lv_at hl 4 rfl) ?_
      refine kr_get hx hcd hts uX7 hown hK hP 0 rfl rfl 8 (by decide) (by decide +kernel) (v := .int (nI (((i + 1) + 1) + 1))) rfl dX7_readOrder_159 ?_
      refine lv_aload_n hx hcd dX7_readOrder_162 rfl (lv_at hl 4 rfl) ?_
      refine kr_get hx hcd hts uX7 hown hK hP 0 rfl rfl 6 (by decide) (by decide +kernel) (v := .int (x 6)) rfl dX7_readOrder_163 ?_
      refine kr_top (w := nI L) h6 ?_
      refine kr_cge (tgt := 183) hx hcd (by omega) (by omega) dX7_readOrder_166 (by decide) (fun (c_166 : L ≤ ((i + 1) + 1) + 1) => ?_) (fun (c_166 : ((i + 1) + 1) + 1 < L) => ?_)
      · refine lv_iconst (v := nI 0) hx hcd dX7_readOrder_183 (by decide) ?_
        exact kr_zret hx hcd hr hlocks hK hP hD hS rfl (by rw [show r_pos Tx L i = i + 3 by first | exact rpx3 hlc rfl rfl c_75 c_125 (Or.inl (Nat.not_lt.mpr c_166)) | exact rpx3 hlc rfl rfl c_75 c_125 (Or.inr c_180)]; rw [decide_eq_false (by omega)]; rfl) (by rw [show r_pos Tx L i = i + 3 by first | exact rpx3 hlc rfl rfl c_75 c_125 (Or.inl (Nat.not_lt.mpr c_166)) | exact rpx3 hlc rfl rfl c_75 c_125 (Or.inr c_180)]) dX7_readOrder_184
      · have y3 := t_lt hT (show i + 3 < 100 by omega)
        refine lv_aload_n hx hcd dX7_readOrder_169 rfl (lv_at hl 4 rfl) ?_
        refine kr_get hx hcd hts uX7 hown hK hP 0 rfl rfl 5 (by decide) (by decide +kernel) (v := .ref (z 5)) rfl dX7_readOrder_170 ?_
        refine lv_aload_n hx hcd dX7_readOrder_173 rfl (lv_at hl 4 rfl) ?_
        refine kr_get hx hcd hts uX7 hown hK hP 0 rfl rfl 8 (by decide) (by decide +kernel) (v := .int (nI (((i + 1) + 1) + 1))) rfl dX7_readOrder_174 ?_
        refine kr_iald hx hcd hK hP 5 0 rfl rfl (v := Tx (3 + i)) (by omega) (by decide) (congrArg Tx (by omega)) dX7_readOrder_177 ?_
        refine kr_top (w := nI (ch Tx (i + 3))) (by rw [Nat.add_comm]; exact t_ch hT (by omega)) ?_
        refine lv_bipush (v := nI 59) hx hcd dX7_readOrder_178 (by decide) ?_
        refine kr_ceq (tgt := 185) hx hcd (by omega) (by omega) dX7_readOrder_180 (by decide) (fun (c_180 : ch Tx (i + 3) = 59) => ?_) (fun (c_180 : ¬ ch Tx (i + 3) = 59) => ?_)
        · refine lv_aload_n hx hcd dX7_readOrder_185 rfl (lv_at hl 4 rfl) ?_
          refine lv_dup hx hcd dX7_readOrder_186 rfl ?_
          refine kr_get hx hcd hts uX7 hown hK hP 0 rfl rfl 8 (by decide) (by decide +kernel) (v := .int (nI (((i + 1) + 1) + 1))) rfl dX7_readOrder_187 ?_
          refine lv_iconst (v := nI 1) hx hcd dX7_readOrder_190 (by decide) ?_
          refine kr_add hx hcd dX7_readOrder_191 ?_
          refine kr_put hx hcd hts uX7 tyX7 tyX7_ok nmX7 hown hK hP hD hS 0 rfl rfl 8 (by decide) (by decide +kernel) rfl rfl rfl (ws2 := wMA cI z (xu x 8 (nI ((((i + 1) + 1) + 1) + 1))) hh M Sp Ot Sv Tx) rfl dX7_readOrder_192 (fun H locs hP hD hS => ?_)
          refine lv_iconst (v := nI 1) hx hcd dX7_readOrder_195 (by decide) ?_
          exact kr_zret hx hcd hr hlocks hK hP hD hS rfl (by rw [show r_pos Tx L i = i + 4 by exact rpx4 hlc rfl rfl c_75 c_125 c_166 c_180]; rw [decide_eq_true rfl]; rfl) (by rw [show r_pos Tx L i = i + 4 by exact rpx4 hlc rfl rfl c_75 c_125 c_166 c_180]) dX7_readOrder_196
        · refine lv_iconst (v := nI 0) hx hcd dX7_readOrder_183 (by decide) ?_
          exact kr_zret hx hcd hr hlocks hK hP hD hS rfl (by rw [show r_pos Tx L i = i + 3 by first | exact rpx3 hlc rfl rfl c_75 c_125 (Or.inl (Nat.not_lt.mpr c_166)) | exact rpx3 hlc rfl rfl c_75 c_125 (Or.inr c_180)]; rw [decide_eq_false (by omega)]; rfl) (by rw [show r_pos Tx L i = i + 3 by first | exact rpx3 hlc rfl rfl c_75 c_125 (Or.inl (Nat.not_lt.mpr c_166)) | exact rpx3 hlc rfl rfl c_75 c_125 (Or.inr c_180)]) dX7_readOrder_184
  · refine lv_iconst (v := nI 0) hx hcd dX7_readOrder_78 (by decide) ?_
    exact kr_zret hx hcd hr hlocks hK hP hD hS rfl (by rw [show r_pos Tx L i = i + 1 by exact rpx1 hlc rfl rfl c_75]; rw [decide_eq_false (by omega)]; rfl) (by rw [show r_pos Tx L i = i + 1 by exact rpx1 hlc rfl rfl c_75]) dX7_readOrder_79

set_option maxHeartbeats 4000000 in
set_option maxRecDepth 100000 in
theorem c_X7_readOrder__c100 (l : Launch) (D : va_G) (cI cB cW cL : ClassId) (z : Nat → Nat) (x : Nat → Int32) (hh : Int64) (Sp Ot Sv Tx : Nat → Int32) (sz : Nat) (M : kM) (i L : Nat) (hT : kTx Tx) (h8 : x 8 = nI i) (h6 : x 6 = nI L) (hL : L ≤ 100) (hi : i < L) (hlc : ch Tx i = 100) : kMi l yX7_readOrder wsX7_readOrder ({ frames := 2, cells := 0, slots := 0, locals := 43 }) D vwCl (kT cI cB cW cL) sz [.ref (z 0)] (wMA cI z x hh M Sp Ot Sv Tx) (wMA cI z (xu x 8 (nI (r_pos Tx L i))) hh M Sp Ot Sv Tx) (kI (decide (r_pos Tx L i = i + 4))) := by
  refine kr_ofi (cc := cX7_readOrder) (maxL := 5) (ret := (some .boolean)) (by decide) rfl (Nat.le_of_ble_eq_true rfl) ?_
  intro pp ee ss mm args below meth cc AA ls hx hcd hr hts hown hlocks hml hK hP hD hA hl
  have hS : va_S AA ss.heap ss.heap [] := va_S.rf
  have hown : ss.vm.findClass RX7 = some mm.cls := hown
  have hl : lv_has ls 5 [(0, .ref (z 0))] := hl
  have uX7 : ∀ w ∈ u_ws RX7 TX7 10, w ∈ wsX7_readOrder := by decide +kernel
  refine lv_aload_n hx hcd dX7_readOrder_0 rfl (lv_at hl 0 rfl) ?_
  refine kr_get hx hcd hts uX7 hown hK hP 0 rfl rfl 5 (by decide) (by decide +kernel) (v := .ref (z 5)) rfl dX7_readOrder_1 ?_
  refine lv_aload_n hx hcd dX7_readOrder_4 rfl (lv_at hl 0 rfl) ?_
  refine kr_get hx hcd hts uX7 hown hK hP 0 rfl rfl 8 (by decide) (by decide +kernel) (v := .int (x 8)) rfl dX7_readOrder_5 ?_
  refine kr_top (w := nI i) h8 ?_
  refine kr_iald hx hcd hK hP 5 0 rfl rfl (v := Tx i) (by omega) (by decide) (congrArg Tx (by omega)) dX7_readOrder_8 ?_
  refine kr_top (w := nI 100) ((t_ch hT (by omega)).trans (congrArg nI hlc)) ?_
  refine lv_istore_n (lv' := [(1, .int (nI 100)), (0, .ref (z 0))]) hx hcd dX7_readOrder_9 rfl hl (by decide) rfl (fun ls hl => ?_)
  refine lv_iload_n hx hcd dX7_readOrder_10 rfl (lv_at hl 0 rfl) ?_
  refine kr_Si (As := [.int (nI 100)]) (rest := []) (ws2 := wMA cI z x hh M Sp Ot Sv Tx) ⟨hx, hcd, hml, hown, hts⟩ (c_X7_areUsers l D cI cB cW cL  _ M 100 (by omega)) (va_cwS 1 hts gX7_readOrder_X7_areUsers rfl rfl rfl (by decide +kernel) ⟨Nat.le_of_ble_eq_true rfl, Nat.le_of_ble_eq_true rfl⟩) hK hP hD hS hA [] rfl (by decide) rfl rfl rfl hl.1 rfl (Nat.le_of_ble_eq_true rfl) dX7_readOrder_11 ⟨Nat.zero_le _, Nat.zero_le _⟩ (fun H locs hP hD hS => ?_)
  refine kr_top (w := nI 0) rfl ?_
  refine lv_istore_n (lv' := [(2, .int (nI 0)), (1, .int (nI 100)), (0, .ref (z 0))]) hx hcd dX7_readOrder_14 rfl hl (by decide) rfl (fun ls hl => ?_)
  refine lv_iload_n hx hcd dX7_readOrder_15 rfl (lv_at hl 1 rfl) ?_
  refine lv_bipush (v := nI 105) hx hcd dX7_readOrder_16 (by decide) ?_
  refine kr_ceq (tgt := 27) hx hcd (by omega) (by omega) dX7_readOrder_18 (by decide) (fun (c_18 : 100 = 105) => absurd c_18 (by omega)) (fun (c_18 : ¬ 100 = 105) => ?_)
  refine lv_iload_n hx hcd dX7_readOrder_21 rfl (lv_at hl 1 rfl) ?_
  refine lv_bipush (v := nI 111) hx hcd dX7_readOrder_22 (by decide) ?_
  refine kr_cne (tgt := 31) hx hcd (by omega) (by omega) dX7_readOrder_24 (by decide) (fun (c_24 : ¬ 100 = 111) => ?_) (fun (c_24 : 100 = 111) => absurd c_24 (by omega))
  refine lv_iconst (v := nI 0) hx hcd dX7_readOrder_31 (by decide) ?_
  refine lv_istore_n (lv' := [(3, .int (nI 0)), (2, .int (nI 0)), (1, .int (nI 100)), (0, .ref (z 0))]) hx hcd dX7_readOrder_32 rfl hl (by decide) rfl (fun ls hl => ?_)
  refine lv_iload_n hx hcd dX7_readOrder_33 rfl (lv_at hl 1 rfl) ?_
  refine kr_zne (tgt := 49) hx hcd (by omega) dX7_readOrder_34 (by decide) (fun (c_34 : 0 < 0) => absurd c_34 (by omega)) (fun (c_34 : 0 = 0) => ?_)
  refine lv_iload_n hx hcd dX7_readOrder_37 rfl (lv_at hl 0 rfl) ?_
  refine kr_zne (tgt := 49) hx hcd (by omega) dX7_readOrder_38 (by decide) (fun (c_38 : 0 < 0) => absurd c_38 (by omega)) (fun (c_38 : 0 = 0) => ?_)
  refine lv_iload_n hx hcd dX7_readOrder_41 rfl (lv_at hl 2 rfl) ?_
  refine lv_bipush (v := nI 100) hx hcd dX7_readOrder_42 (by decide) ?_
  refine kr_ceq (tgt := 49) hx hcd (by omega) (by omega) dX7_readOrder_44 (by decide) (fun (c_44 : 100 = 100) => ?_) (fun (c_44 : ¬ 100 = 100) => absurd c_44 (by omega))
  refine lv_aload_n hx hcd dX7_readOrder_49 rfl (lv_at hl 3 rfl) ?_
  refine lv_dup hx hcd dX7_readOrder_50 rfl ?_
  refine kr_get hx hcd hts uX7 hown hK hP 0 rfl rfl 8 (by decide) (by decide +kernel) (v := .int (x 8)) rfl dX7_readOrder_51 ?_
  refine kr_top (w := nI i) h8 ?_
  refine lv_iconst (v := nI 1) hx hcd dX7_readOrder_54 (by decide) ?_
  refine kr_add hx hcd dX7_readOrder_55 ?_
  refine kr_put hx hcd hts uX7 tyX7 tyX7_ok nmX7 hown hK hP hD hS 0 rfl rfl 8 (by decide) (by decide +kernel) rfl rfl rfl (ws2 := wMA cI z (xu x 8 (nI (i + 1))) hh M Sp Ot Sv Tx) rfl dX7_readOrder_56 (fun H locs hP hD hS => ?_)
  refine lv_aload_n hx hcd dX7_readOrder_59 rfl (lv_at hl 3 rfl) ?_
  refine lv_iload_n hx hcd dX7_readOrder_60 rfl (lv_at hl 2 rfl) ?_
  refine lv_bipush (v := nI 100) hx hcd dX7_readOrder_61 (by decide) ?_
  refine kr_cne (tgt := 71) hx hcd (by omega) (by omega) dX7_readOrder_63 (by decide) (fun (c_63 : ¬ 100 = 100) => absurd c_63 (by omega)) (fun (c_63 : 100 = 100) => ?_)
  refine lv_bipush (v := nI 9) hx hcd dX7_readOrder_66 (by decide) ?_
  refine lv_goto (tgt := 72) hx hcd dX7_readOrder_68 (by decide) ?_
  refine kr_Vi (As := [.int (nI 9)]) (rest := []) (ws2 := wMA cI z (xu x 8 (nI (i + 1))) hh M Sp Ot Sv Tx) (q := (RX7, TX7, 10)) ⟨hx, hcd, hml, hown, hts⟩ (c_X7_isDigit l D cI cB cW cL z (xu x 8 (nI (i + 1))) hh Sp Ot Sv Tx _ M 9 (i + 1) L hT (show xu x 8 (nI (i + 1)) 8 = nI (i + 1) from rfl) h6 (by omega) (by omega) (by omega)) (cwV 1 hts gX7_readOrder_X7_isDigit rfl rfl rfl (by decide +kernel) ⟨Nat.le_of_ble_eq_true rfl, Nat.le_of_ble_eq_true rfl⟩) hK hP hD hS hA [0, 1, 2, 3, 4, 5] wMA_allC (by decide) wMA_adr wMA_all 0 rfl rfl rfl hl.1 rfl (Nat.le_of_ble_eq_true rfl) dX7_readOrder_72 ⟨Nat.zero_le _, Nat.zero_le _⟩ (fun H locs hP hD hS => ?_)
  refine kr_bne (tgt := 80) hx hcd dX7_readOrder_75 (by decide) (fun (c_75 : (decide ((i + 1) < L) && c_dig (ch Tx (i + 1)) (9 + 1)) = true) => ?_) (fun (c_75 : (decide ((i + 1) < L) && c_dig (ch Tx (i + 1)) (9 + 1)) = false) => ?_)
  · have z75 : i + 1 < L := by simp only [Bool.and_eq_true, decide_eq_true_eq] at c_75; exact c_75.1
    refine lv_aload_n hx hcd dX7_readOrder_80 rfl (lv_at hl 3 rfl) ?_
    refine kr_get hx hcd hts uX7 hown hK hP 0 rfl rfl 5 (by decide) (by decide +kernel) (v := .ref (z 5)) rfl dX7_readOrder_81 ?_
    refine lv_aload_n hx hcd dX7_readOrder_84 rfl (lv_at hl 3 rfl) ?_
    refine kr_get hx hcd hts uX7 hown hK hP 0 rfl rfl 8 (by decide) (by decide +kernel) (v := .int (nI (i + 1))) rfl dX7_readOrder_85 ?_
    refine kr_iald hx hcd hK hP 5 0 rfl rfl (v := Tx (1 + i)) (by omega) (by decide) (congrArg Tx (by omega)) dX7_readOrder_88 ?_
    refine kr_top (w := nI (ch Tx (i + 1))) (by rw [Nat.add_comm]; exact t_ch hT (by omega)) ?_
    refine lv_istore (lv' := [(4, .int (nI (ch Tx (i + 1)))), (3, .int (nI 0)), (2, .int (nI 0)), (1, .int (nI 100)), (0, .ref (z 0))]) hx hcd dX7_readOrder_89 hl (by decide) rfl (fun ls hl => ?_)
    refine lv_aload_n hx hcd dX7_readOrder_91 rfl (lv_at hl 4 rfl) ?_
    refine lv_dup hx hcd dX7_readOrder_92 rfl ?_
    refine kr_get hx hcd hts uX7 hown hK hP 0 rfl rfl 8 (by decide) (by decide +kernel) (v := .int (nI (i + 1))) rfl dX7_readOrder_93 ?_
    refine lv_iconst (v := nI 1) hx hcd dX7_readOrder_96 (by decide) ?_
    refine kr_add hx hcd dX7_readOrder_97 ?_
    refine kr_put hx hcd hts uX7 tyX7 tyX7_ok nmX7 hown hK hP hD hS 0 rfl rfl 8 (by decide) (by decide +kernel) rfl rfl rfl (ws2 := wMA cI z (xu x 8 (nI ((i + 1) + 1))) hh M Sp Ot Sv Tx) rfl dX7_readOrder_98 (fun H locs hP hD hS => ?_)
    refine lv_aload_n hx hcd dX7_readOrder_101 rfl (lv_at hl 4 rfl) ?_
    refine lv_iload_n hx hcd dX7_readOrder_102 rfl (lv_at hl 3 rfl) ?_
    refine lv_bipush (v := nI 100) hx hcd dX7_readOrder_103 (by decide) ?_
    refine kr_cne (tgt := 113) hx hcd (by omega) (by omega) dX7_readOrder_105 (by decide) (fun (c_105 : ¬ 100 = 100) => absurd c_105 (by omega)) (fun (c_105 : 100 = 100) => ?_)
    refine lv_bipush (v := nI 9) hx hcd dX7_readOrder_108 (by decide) ?_
    refine lv_goto (tgt := 122) hx hcd dX7_readOrder_110 (by decide) ?_
    refine kr_Vi (As := [.int (nI 9)]) (rest := []) (ws2 := wMA cI z (xu x 8 (nI ((i + 1) + 1))) hh M Sp Ot Sv Tx) (q := (RX7, TX7, 10)) ⟨hx, hcd, hml, hown, hts⟩ (c_X7_isDigit l D cI cB cW cL z (xu x 8 (nI ((i + 1) + 1))) hh Sp Ot Sv Tx _ M 9 (i + 2) L hT (show xu x 8 (nI (i + 2)) 8 = nI (i + 2) from rfl) h6 (by omega) (by omega) (by omega)) (cwV 1 hts gX7_readOrder_X7_isDigit rfl rfl rfl (by decide +kernel) ⟨Nat.le_of_ble_eq_true rfl, Nat.le_of_ble_eq_true rfl⟩) hK hP hD hS hA [0, 1, 2, 3, 4, 5] wMA_allC (by decide) wMA_adr wMA_all 0 rfl rfl rfl hl.1 rfl (Nat.le_of_ble_eq_true rfl) dX7_readOrder_122 ⟨Nat.zero_le _, Nat.zero_le _⟩ (fun H locs hP hD hS => ?_)
    refine kr_beq (tgt := 146) hx hcd dX7_readOrder_125 (by decide) (fun (c_125 : (decide ((i + 2) < L) && c_dig (ch Tx (i + 2)) (9 + 1)) = false) => ?_) (fun (c_125 : (decide ((i + 2) < L) && c_dig (ch Tx (i + 2)) (9 + 1)) = true) => ?_)
    · refine lv_iconst (v := nI 0) hx hcd dX7_readOrder_146 (by decide) ?_
      exact kr_zret hx hcd hr hlocks hK hP hD hS rfl (by rw [show r_pos Tx L i = i + 2 by exact rpx2 hlc rfl rfl c_75 c_125]; rw [decide_eq_false (by omega)]; rfl) (by rw [show r_pos Tx L i = i + 2 by exact rpx2 hlc rfl rfl c_75 c_125]) dX7_readOrder_147
    · have z125 : i + 2 < L := by simp only [Bool.and_eq_true, decide_eq_true_eq] at c_125; exact c_125.1
      have y1 := t_lt hT (show i + 1 < 100 by omega)
      have y2 := t_lt hT (show i + 2 < 100 by omega)
      refine lv_iload_n hx hcd dX7_readOrder_128 rfl (lv_at hl 2 rfl) ?_
      refine kr_zeq (tgt := 148) hx hcd (by omega) dX7_readOrder_129 (by decide) (fun (c_129 : 0 = 0) => ?_) (fun (c_129 : 0 < 0) => absurd c_129 (by omega))
      have z125 : i + 2 < L := by simp only [Bool.and_eq_true, decide_eq_true_eq] at c_125; exact c_125.1
      refine lv_aload_n hx hcd dX7_readOrder_148 rfl (lv_at hl 4 rfl) ?_
      refine lv_dup hx hcd dX7_readOrder_149 rfl ?_
      refine kr_get hx hcd hts uX7 hown hK hP 0 rfl rfl 8 (by decide) (by decide +kernel) (v := .int (nI ((i + 1) + 1))) rfl dX7_readOrder_150 ?_
      refine lv_iconst (v := nI 1) hx hcd dX7_readOrder_153 (by decide) ?_
      refine kr_add hx hcd dX7_readOrder_154 ?_
      refine kr_put hx hcd hts uX7 tyX7 tyX7_ok nmX7 hown hK hP hD hS 0 rfl rfl 8 (by decide) (by decide +kernel) rfl rfl rfl (ws2 := wMA cI z (xu x 8 (nI (((i + 1) + 1) + 1))) hh M Sp Ot Sv Tx) rfl dX7_readOrder_155 (fun H locs hP hD hS => ?_)
      refine lv_aload_n hx hcd dX7_readOrder_158 rfl (lv_at hl 4 rfl) ?_
      refine kr_get hx hcd hts uX7 hown hK hP 0 rfl rfl 8 (by decide) (by decide +kernel) (v := .int (nI (((i + 1) + 1) + 1))) rfl dX7_readOrder_159 ?_
      refine lv_aload_n hx hcd dX7_readOrder_162 rfl (lv_at hl 4 rfl) ?_
      refine kr_get hx hcd hts uX7 hown hK hP 0 rfl rfl 6 (by decide) (by decide +kernel) (v := .int (x 6)) rfl dX7_readOrder_163 ?_
      refine kr_top (w := nI L) h6 ?_
      refine kr_cge (tgt := 183) hx hcd (by omega) (by omega) dX7_readOrder_166 (by decide) (fun (c_166 : L ≤ ((i + 1) + 1) + 1) => ?_) (fun (c_166 : ((i + 1) + 1) + 1 < L) => ?_)
      · refine lv_iconst (v := nI 0) hx hcd dX7_readOrder_183 (by decide) ?_
        exact kr_zret hx hcd hr hlocks hK hP hD hS rfl (by rw [show r_pos Tx L i = i + 3 by first | exact rpx3 hlc rfl rfl c_75 c_125 (Or.inl (Nat.not_lt.mpr c_166)) | exact rpx3 hlc rfl rfl c_75 c_125 (Or.inr c_180)]; rw [decide_eq_false (by omega)]; rfl) (by rw [show r_pos Tx L i = i + 3 by first | exact rpx3 hlc rfl rfl c_75 c_125 (Or.inl (Nat.not_lt.mpr c_166)) | exact rpx3 hlc rfl rfl c_75 c_125 (Or.inr c_180)]) dX7_readOrder_184
      · have y3 := t_lt hT (show i + 3 < 100 by omega)
        refine lv_aload_n hx hcd dX7_readOrder_169 rfl (lv_at hl 4 rfl) ?_
        refine kr_get hx hcd hts uX7 hown hK hP 0 rfl rfl 5 (by decide) (by decide +kernel) (v := .ref (z 5)) rfl dX7_readOrder_170 ?_
        refine lv_aload_n hx hcd dX7_readOrder_173 rfl (lv_at hl 4 rfl) ?_
        refine kr_get hx hcd hts uX7 hown hK hP 0 rfl rfl 8 (by decide) (by decide +kernel) (v := .int (nI (((i + 1) + 1) + 1))) rfl dX7_readOrder_174 ?_
        refine kr_iald hx hcd hK hP 5 0 rfl rfl (v := Tx (3 + i)) (by omega) (by decide) (congrArg Tx (by omega)) dX7_readOrder_177 ?_
        refine kr_top (w := nI (ch Tx (i + 3))) (by rw [Nat.add_comm]; exact t_ch hT (by omega)) ?_
        refine lv_bipush (v := nI 59) hx hcd dX7_readOrder_178 (by decide) ?_
        refine kr_ceq (tgt := 185) hx hcd (by omega) (by omega) dX7_readOrder_180 (by decide) (fun (c_180 : ch Tx (i + 3) = 59) => ?_) (fun (c_180 : ¬ ch Tx (i + 3) = 59) => ?_)
        · refine lv_aload_n hx hcd dX7_readOrder_185 rfl (lv_at hl 4 rfl) ?_
          refine lv_dup hx hcd dX7_readOrder_186 rfl ?_
          refine kr_get hx hcd hts uX7 hown hK hP 0 rfl rfl 8 (by decide) (by decide +kernel) (v := .int (nI (((i + 1) + 1) + 1))) rfl dX7_readOrder_187 ?_
          refine lv_iconst (v := nI 1) hx hcd dX7_readOrder_190 (by decide) ?_
          refine kr_add hx hcd dX7_readOrder_191 ?_
          refine kr_put hx hcd hts uX7 tyX7 tyX7_ok nmX7 hown hK hP hD hS 0 rfl rfl 8 (by decide) (by decide +kernel) rfl rfl rfl (ws2 := wMA cI z (xu x 8 (nI ((((i + 1) + 1) + 1) + 1))) hh M Sp Ot Sv Tx) rfl dX7_readOrder_192 (fun H locs hP hD hS => ?_)
          refine lv_iconst (v := nI 1) hx hcd dX7_readOrder_195 (by decide) ?_
          exact kr_zret hx hcd hr hlocks hK hP hD hS rfl (by rw [show r_pos Tx L i = i + 4 by exact rpx4 hlc rfl rfl c_75 c_125 c_166 c_180]; rw [decide_eq_true rfl]; rfl) (by rw [show r_pos Tx L i = i + 4 by exact rpx4 hlc rfl rfl c_75 c_125 c_166 c_180]) dX7_readOrder_196
        · refine lv_iconst (v := nI 0) hx hcd dX7_readOrder_183 (by decide) ?_
          exact kr_zret hx hcd hr hlocks hK hP hD hS rfl (by rw [show r_pos Tx L i = i + 3 by first | exact rpx3 hlc rfl rfl c_75 c_125 (Or.inl (Nat.not_lt.mpr c_166)) | exact rpx3 hlc rfl rfl c_75 c_125 (Or.inr c_180)]; rw [decide_eq_false (by omega)]; rfl) (by rw [show r_pos Tx L i = i + 3 by first | exact rpx3 hlc rfl rfl c_75 c_125 (Or.inl (Nat.not_lt.mpr c_166)) | exact rpx3 hlc rfl rfl c_75 c_125 (Or.inr c_180)]) dX7_readOrder_184
  · refine lv_iconst (v := nI 0) hx hcd dX7_readOrder_78 (by decide) ?_
    exact kr_zret hx hcd hr hlocks hK hP hD hS rfl (by rw [show r_pos Tx L i = i + 1 by exact rpx1 hlc rfl rfl c_75]; rw [decide_eq_false (by omega)]; rfl) (by rw [show r_pos Tx L i = i + 1 by exact rpx1 hlc rfl rfl c_75]) dX7_readOrder_79

set_option maxHeartbeats 4000000 in
set_option maxRecDepth 100000 in
theorem c_X7_readOrder__no (l : Launch) (D : va_G) (cI cB cW cL : ClassId) (z : Nat → Nat) (x : Nat → Int32) (hh : Int64) (Sp Ot Sv Tx : Nat → Int32) (sz : Nat) (M : kM) (i L : Nat) (hT : kTx Tx) (h8 : x 8 = nI i) (h6 : x 6 = nI L) (hL : L ≤ 100) (hi : i < L) (hno : c_isl (ch Tx i) = false) : kMi l yX7_readOrder wsX7_readOrder ({ frames := 2, cells := 0, slots := 0, locals := 43 }) D vwCl (kT cI cB cW cL) sz [.ref (z 0)] (wMA cI z x hh M Sp Ot Sv Tx) (wMA cI z (xu x 8 (nI (r_pos Tx L i))) hh M Sp Ot Sv Tx) (kI (decide (r_pos Tx L i = i + 4))) := by
  refine kr_ofi (cc := cX7_readOrder) (maxL := 5) (ret := (some .boolean)) (by decide) rfl (Nat.le_of_ble_eq_true rfl) ?_
  intro pp ee ss mm args below meth cc AA ls hx hcd hr hts hown hlocks hml hK hP hD hA hl
  have hS : va_S AA ss.heap ss.heap [] := va_S.rf
  have hown : ss.vm.findClass RX7 = some mm.cls := hown
  have hl : lv_has ls 5 [(0, .ref (z 0))] := hl
  have uX7 : ∀ w ∈ u_ws RX7 TX7 10, w ∈ wsX7_readOrder := by decide +kernel
  have hq := isl_p hno
  have hq2 := t_lt hT (show i < 100 by omega)
  refine lv_aload_n hx hcd dX7_readOrder_0 rfl (lv_at hl 0 rfl) ?_
  refine kr_get hx hcd hts uX7 hown hK hP 0 rfl rfl 5 (by decide) (by decide +kernel) (v := .ref (z 5)) rfl dX7_readOrder_1 ?_
  refine lv_aload_n hx hcd dX7_readOrder_4 rfl (lv_at hl 0 rfl) ?_
  refine kr_get hx hcd hts uX7 hown hK hP 0 rfl rfl 8 (by decide) (by decide +kernel) (v := .int (x 8)) rfl dX7_readOrder_5 ?_
  refine kr_top (w := nI i) h8 ?_
  refine kr_iald hx hcd hK hP 5 0 rfl rfl (v := Tx i) (by omega) (by decide) (congrArg Tx (by omega)) dX7_readOrder_8 ?_
  refine kr_top (w := nI (ch Tx i)) (t_ch hT (by omega)) ?_
  refine lv_istore_n (lv' := [(1, .int (nI (ch Tx i))), (0, .ref (z 0))]) hx hcd dX7_readOrder_9 rfl hl (by decide) rfl (fun ls hl => ?_)
  refine lv_iload_n hx hcd dX7_readOrder_10 rfl (lv_at hl 0 rfl) ?_
  refine kr_Si (As := [.int (nI (ch Tx i))]) (rest := []) (ws2 := wMA cI z x hh M Sp Ot Sv Tx) ⟨hx, hcd, hml, hown, hts⟩ (c_X7_areUsers l D cI cB cW cL  _ M (ch Tx i) hq2) (va_cwS 1 hts gX7_readOrder_X7_areUsers rfl rfl rfl (by decide +kernel) ⟨Nat.le_of_ble_eq_true rfl, Nat.le_of_ble_eq_true rfl⟩) hK hP hD hS hA [] rfl (by decide) rfl rfl rfl hl.1 rfl (Nat.le_of_ble_eq_true rfl) dX7_readOrder_11 ⟨Nat.zero_le _, Nat.zero_le _⟩ (fun H locs hP hD hS => ?_)
  refine kr_top (w := nI 0) (kI_no (usr_no hno) rfl) ?_
  refine lv_istore_n (lv' := [(2, .int (nI 0)), (1, .int (nI (ch Tx i))), (0, .ref (z 0))]) hx hcd dX7_readOrder_14 rfl hl (by decide) rfl (fun ls hl => ?_)
  refine lv_iload_n hx hcd dX7_readOrder_15 rfl (lv_at hl 1 rfl) ?_
  refine lv_bipush (v := nI 105) hx hcd dX7_readOrder_16 (by decide) ?_
  refine kr_ceq (tgt := 27) hx hcd (by omega) (by omega) dX7_readOrder_18 (by decide) (fun (c_18 : ch Tx i = 105) => absurd c_18 (by omega)) (fun (c_18 : ¬ ch Tx i = 105) => ?_)
  refine lv_iload_n hx hcd dX7_readOrder_21 rfl (lv_at hl 1 rfl) ?_
  refine lv_bipush (v := nI 111) hx hcd dX7_readOrder_22 (by decide) ?_
  refine kr_cne (tgt := 31) hx hcd (by omega) (by omega) dX7_readOrder_24 (by decide) (fun (c_24 : ¬ ch Tx i = 111) => ?_) (fun (c_24 : ch Tx i = 111) => absurd c_24 (by omega))
  refine lv_iconst (v := nI 0) hx hcd dX7_readOrder_31 (by decide) ?_
  refine lv_istore_n (lv' := [(3, .int (nI 0)), (2, .int (nI 0)), (1, .int (nI (ch Tx i))), (0, .ref (z 0))]) hx hcd dX7_readOrder_32 rfl hl (by decide) rfl (fun ls hl => ?_)
  refine lv_iload_n hx hcd dX7_readOrder_33 rfl (lv_at hl 1 rfl) ?_
  refine kr_zne (tgt := 49) hx hcd (by omega) dX7_readOrder_34 (by decide) (fun (c_34 : 0 < 0) => absurd c_34 (by omega)) (fun (c_34 : 0 = 0) => ?_)
  refine lv_iload_n hx hcd dX7_readOrder_37 rfl (lv_at hl 0 rfl) ?_
  refine kr_zne (tgt := 49) hx hcd (by omega) dX7_readOrder_38 (by decide) (fun (c_38 : 0 < 0) => absurd c_38 (by omega)) (fun (c_38 : 0 = 0) => ?_)
  refine lv_iload_n hx hcd dX7_readOrder_41 rfl (lv_at hl 2 rfl) ?_
  refine lv_bipush (v := nI 100) hx hcd dX7_readOrder_42 (by decide) ?_
  refine kr_ceq (tgt := 49) hx hcd (by omega) (by omega) dX7_readOrder_44 (by decide) (fun (c_44 : ch Tx i = 100) => absurd c_44 (by omega)) (fun (c_44 : ¬ ch Tx i = 100) => ?_)
  refine lv_iconst (v := nI 0) hx hcd dX7_readOrder_47 (by decide) ?_
  exact kr_zret hx hcd hr hlocks hK hP hD hS rfl (by rw [rp_0 hno, decide_eq_false (by omega)]; rfl) (by rw [rp_0 hno, xu_id h8]) dX7_readOrder_48
theorem c_X7_readOrder (l : Launch) (D : va_G) (cI cB cW cL : ClassId) (z : Nat → Nat) (x : Nat → Int32) (hh : Int64) (Sp Ot Sv Tx : Nat → Int32) (sz : Nat) (M : kM) (i L : Nat) (hT : kTx Tx) (h8 : x 8 = nI i) (h6 : x 6 = nI L) (hL : L ≤ 100) (hi : i < L) : kMi l yX7_readOrder wsX7_readOrder ({ frames := 2, cells := 0, slots := 0, locals := 43 }) D vwCl (kT cI cB cW cL) sz [.ref (z 0)] (wMA cI z x hh M Sp Ot Sv Tx) (wMA cI z (xu x 8 (nI (r_pos Tx L i))) hh M Sp Ot Sv Tx) (kI (decide (r_pos Tx L i = i + 4))) := by
  by_cases q97 : ch Tx i = 97
  · exact c_X7_readOrder__c97 l D cI cB cW cL z x hh Sp Ot Sv Tx sz M i L hT h8 h6 hL hi q97
  by_cases q103 : ch Tx i = 103
  · exact c_X7_readOrder__c103 l D cI cB cW cL z x hh Sp Ot Sv Tx sz M i L hT h8 h6 hL hi q103
  by_cases q114 : ch Tx i = 114
  · exact c_X7_readOrder__c114 l D cI cB cW cL z x hh Sp Ot Sv Tx sz M i L hT h8 h6 hL hi q114
  by_cases q115 : ch Tx i = 115
  · exact c_X7_readOrder__c115 l D cI cB cW cL z x hh Sp Ot Sv Tx sz M i L hT h8 h6 hL hi q115
  by_cases q105 : ch Tx i = 105
  · exact c_X7_readOrder__c105 l D cI cB cW cL z x hh Sp Ot Sv Tx sz M i L hT h8 h6 hL hi q105
  by_cases q111 : ch Tx i = 111
  · exact c_X7_readOrder__c111 l D cI cB cW cL z x hh Sp Ot Sv Tx sz M i L hT h8 h6 hL hi q111
  by_cases q100 : ch Tx i = 100
  · exact c_X7_readOrder__c100 l D cI cB cW cL z x hh Sp Ot Sv Tx sz M i L hT h8 h6 hL hi q100
  exact c_X7_readOrder__no l D cI cB cW cL z x hh Sp Ot Sv Tx sz M i L hT h8 h6 hL hi (decide_eq_false (by omega))
