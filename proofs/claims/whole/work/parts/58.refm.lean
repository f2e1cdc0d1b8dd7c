set_option maxHeartbeats 4000000 in
set_option maxRecDepth 100000 in
theorem c_X7_does__c97 (l : Launch) (D : va_G) (cI cB cW cL : ClassId) (z : Nat → Nat) (x : Nat → Int32) (hh : Int64) (Sp Ot Sv Tx : Nat → Int32) (sz : Nat) (M : kM) (o : Nat) (a b : Nat) (hI : kInv M) (hT : kTx Tx) (ho : o < 25) (hlc : ch Tx (4 * o) = 97) (e1 : nI (ch Tx (4 * o + 1)) - 48 = nI a) (e2 : nI (ch Tx (4 * o + 2)) - 48 = nI b) (ha : a < 6) (hb : b < 6) (hne : a ≠ b) : kMi l yX7_does wsX7_does ({ frames := 5, cells := 0, slots := 0, locals := 118 }) D vwCl (kT cI cB cW cL) sz [.ref (z 0), .int (nI o)] (wMA cI z x hh M Sp Ot Sv Tx) (wMA cI z x hh (g_ask M a b) Sp Ot Sv Tx) 1 := by
  refine kr_ofi (cc := cX7_does) (maxL := 5) (ret := (some .boolean)) (by decide) rfl (Nat.le_of_ble_eq_true rfl) ?_
  intro pp ee ss mm args below meth cc AA ls hx hcd hr hts hown hlocks hml hK hP hD hA hl
  have hS : va_S AA ss.heap ss.heap [] := va_S.rf
  have hown : ss.vm.findClass RX7 = some mm.cls := hown
  have hl : lv_has ls 5 [(0, .ref (z 0)), (1, .int (nI o))] := hl
  have uX7 : ∀ w ∈ u_ws RX7 TX7 10, w ∈ wsX7_does := by decide +kernel
  refine lv_aload_n hx hcd dX7_does_0 rfl (lv_at hl 0 rfl) ?_
  refine kr_get hx hcd hts uX7 hown hK hP 0 rfl rfl 5 (by decide) (by decide +kernel) (v := .ref (z 5)) rfl dX7_does_1 ?_
  refine lv_iconst (v := nI 4) hx hcd dX7_does_4 (by decide) ?_
  refine lv_iload_n hx hcd dX7_does_5 rfl (lv_at hl 1 rfl) ?_
  refine kr_mul hx hcd dX7_does_6 ?_
  refine lv_iconst (v := nI 1) hx hcd dX7_does_7 (by decide) ?_
  refine kr_add hx hcd dX7_does_8 ?_
  refine kr_iald hx hcd hK hP 5 0 rfl rfl (v := Tx (1 + 4 * o)) (by omega) (by decide) (congrArg Tx (by omega)) dX7_does_9 ?_
  refine kr_top (w := nI (ch Tx (4 * o + 1))) (by rw [Nat.add_comm]; exact t_ch hT (by omega)) ?_
  refine lv_bipush (v := nI 48) hx hcd dX7_does_10 (by decide) ?_
  refine lv_isub hx hcd dX7_does_12 ?_
  refine kr_top (w := nI a) e1 ?_
  refine lv_istore_n (lv' := [(2, .int (nI a)), (0, .ref (z 0)), (1, .int (nI o))]) hx hcd dX7_does_13 rfl hl (by decide) rfl (fun ls hl => ?_)
  refine lv_aload_n hx hcd dX7_does_14 rfl (lv_at hl 1 rfl) ?_
  refine kr_get hx hcd hts uX7 hown hK hP 0 rfl rfl 5 (by decide) (by decide +kernel) (v := .ref (z 5)) rfl dX7_does_15 ?_
  refine lv_iconst (v := nI 4) hx hcd dX7_does_18 (by decide) ?_
  refine lv_iload_n hx hcd dX7_does_19 rfl (lv_at hl 2 rfl) ?_
  refine kr_mul hx hcd dX7_does_20 ?_
  refine lv_iconst (v := nI 2) hx hcd dX7_does_21 (by decide) ?_
  refine kr_add hx hcd dX7_does_22 ?_
  refine kr_iald hx hcd hK hP 5 0 rfl rfl (v := Tx (2 + 4 * o)) (by omega) (by decide) (congrArg Tx (by omega)) dX7_does_23 ?_
  refine kr_top (w := nI (ch Tx (4 * o + 2))) (by rw [Nat.add_comm]; exact t_ch hT (by omega)) ?_
  refine lv_bipush (v := nI 48) hx hcd dX7_does_24 (by decide) ?_
  refine lv_isub hx hcd dX7_does_26 ?_
  refine kr_top (w := nI b) e2 ?_
  refine lv_istore_n (lv' := [(3, .int (nI b)), (2, .int (nI a)), (0, .ref (z 0)), (1, .int (nI o))]) hx hcd dX7_does_27 rfl hl (by decide) rfl (fun ls hl => ?_)
  refine lv_iconst (v := nI 0) hx hcd dX7_does_28 (by decide) ?_
  refine lv_istore (lv' := [(4, .int (nI 0)), (3, .int (nI b)), (2, .int (nI a)), (0, .ref (z 0)), (1, .int (nI o))]) hx hcd dX7_does_29 hl (by decide) rfl (fun ls hl => ?_)
  refine lv_aload_n hx hcd dX7_does_31 rfl (lv_at hl 3 rfl) ?_
  refine kr_get hx hcd hts uX7 hown hK hP 0 rfl rfl 5 (by decide) (by decide +kernel) (v := .ref (z 5)) rfl dX7_does_32 ?_
  refine lv_iconst (v := nI 4) hx hcd dX7_does_35 (by decide) ?_
  refine lv_iload_n hx hcd dX7_does_36 rfl (lv_at hl 4 rfl) ?_
  refine kr_mul hx hcd dX7_does_37 ?_
  refine kr_iald hx hcd hK hP 5 0 rfl rfl (v := Tx (4 * o)) (by omega) (by decide) (congrArg Tx (by omega)) dX7_does_38 ?_
  refine kr_top (w := nI 97) ((t_ch hT (by omega)).trans (congrArg nI hlc)) ?_
  skip
  · refine lv_tableIn (x := nI 97) (off := 89) (tgt := 128) hx hcd dX7_does_39 (by decide) (by decide) (by decide) (by decide) ?_
    refine lv_aload_n hx hcd dX7_does_128 rfl (lv_at hl 3 rfl) ?_
    refine lv_iload_n hx hcd dX7_does_129 rfl (lv_at hl 2 rfl) ?_
    refine lv_iload_n hx hcd dX7_does_130 rfl (lv_at hl 1 rfl) ?_
    refine kr_Vi (As := [.int (nI a), .int (nI b)]) (rest := []) (ws2 := wMA cI z x hh (g_ask M a b) Sp Ot Sv Tx) (q := (RX7, TX7, 10)) ⟨hx, hcd, hml, hown, hts⟩ (c_X7_asks l D cI cB cW cL z x hh _ M a b hI (by omega) (by omega)) (cwV 2 hts gX7_does_X7_asks rfl rfl rfl (by decide +kernel) ⟨Nat.le_of_ble_eq_true rfl, Nat.le_of_ble_eq_true rfl⟩) hK hP hD hS hA [0, 1] wMA_MoC (by decide) wMo_adr2 wMA_Mo 0 rfl rfl rfl hl.1 rfl (Nat.le_of_ble_eq_true rfl) dX7_does_131 ⟨Nat.zero_le _, Nat.zero_le _⟩ (fun H locs hP hD hS => ?_)
    have hI_1 : kInv (g_ask M a b) := i_ask hI (by omega) (by omega)
    refine lv_istore (lv' := [(4, .int (if g_has M a b 5 = true then 0 else 1)), (3, .int (nI b)), (2, .int (nI a)), (0, .ref (z 0)), (1, .int (nI o))]) hx hcd dX7_does_134 hl (by decide) rfl (fun ls hl => ?_)
    refine lv_goto (tgt := 219) hx hcd dX7_does_136 (by decide) ?_
    refine lv_iload hx hcd dX7_does_219 (lv_at hl 0 rfl) ?_
    refine lv_if_lt (tgt := 228) hx hcd dX7_does_221 (by decide) (fun (c_221 : (if g_has M a b 5 = true then 0 else 1) < 0) => absurd c_221 (by split <;> decide)) (fun (c_221 : ¬ (if g_has M a b 5 = true then 0 else 1) < 0) => ?_)
    refine lv_iconst (v := nI 1) hx hcd dX7_does_224 (by decide) ?_
    refine lv_goto (tgt := 229) hx hcd dX7_does_225 (by decide) ?_
    exact kr_zret hx hcd hr hlocks hK hP hD hS rfl rfl rfl dX7_does_229

set_option maxHeartbeats 4000000 in
set_option maxRecDepth 100000 in
theorem c_X7_does__c103 (l : Launch) (D : va_G) (cI cB cW cL : ClassId) (z : Nat → Nat) (x : Nat → Int32) (hh : Int64) (Sp Ot Sv Tx : Nat → Int32) (sz : Nat) (M : kM) (o : Nat) (a b : Nat) (hI : kInv M) (hT : kTx Tx) (ho : o < 25) (hlc : ch Tx (4 * o) = 103) (e1 : nI (ch Tx (4 * o + 1)) - 48 = nI a) (e2 : nI (ch Tx (4 * o + 2)) - 48 = nI b) (ha : a < 6) (hb : b < 6) (hne : a ≠ b) : kMi l yX7_does wsX7_does ({ frames := 5, cells := 0, slots := 0, locals := 118 }) D vwCl (kT cI cB cW cL) sz [.ref (z 0), .int (nI o)] (wMA cI z x hh M Sp Ot Sv Tx) (wMA cI z x hh (g_grant M a b) Sp Ot Sv Tx) 1 := by
  refine kr_ofi (cc := cX7_does) (maxL := 5) (ret := (some .boolean)) (by decide) rfl (Nat.le_of_ble_eq_true rfl) ?_
  intro pp ee ss mm args below meth cc AA ls hx hcd hr hts hown hlocks hml hK hP hD hA hl
  have hS : va_S AA ss.heap ss.heap [] := va_S.rf
  have hown : ss.vm.findClass RX7 = some mm.cls := hown
  have hl : lv_has ls 5 [(0, .ref (z 0)), (1, .int (nI o))] := hl
  have uX7 : ∀ w ∈ u_ws RX7 TX7 10, w ∈ wsX7_does := by decide +kernel
  refine lv_aload_n hx hcd dX7_does_0 rfl (lv_at hl 0 rfl) ?_
  refine kr_get hx hcd hts uX7 hown hK hP 0 rfl rfl 5 (by decide) (by decide +kernel) (v := .ref (z 5)) rfl dX7_does_1 ?_
  refine lv_iconst (v := nI 4) hx hcd dX7_does_4 (by decide) ?_
  refine lv_iload_n hx hcd dX7_does_5 rfl (lv_at hl 1 rfl) ?_
  refine kr_mul hx hcd dX7_does_6 ?_
  refine lv_iconst (v := nI 1) hx hcd dX7_does_7 (by decide) ?_
  refine kr_add hx hcd dX7_does_8 ?_
  refine kr_iald hx hcd hK hP 5 0 rfl rfl (v := Tx (1 + 4 * o)) (by omega) (by decide) (congrArg Tx (by omega)) dX7_does_9 ?_
  refine kr_top (w := nI (ch Tx (4 * o + 1))) (by rw [Nat.add_comm]; exact t_ch hT (by omega)) ?_
  refine lv_bipush (v := nI 48) hx hcd dX7_does_10 (by decide) ?_
  refine lv_isub hx hcd dX7_does_12 ?_
  refine kr_top (w := nI a) e1 ?_
  refine lv_istore_n (lv' := [(2, .int (nI a)), (0, .ref (z 0)), (1, .int (nI o))]) hx hcd dX7_does_13 rfl hl (by decide) rfl (fun ls hl => ?_)
  refine lv_aload_n hx hcd dX7_does_14 rfl (lv_at hl 1 rfl) ?_
  refine kr_get hx hcd hts uX7 hown hK hP 0 rfl rfl 5 (by decide) (by decide +kernel) (v := .ref (z 5)) rfl dX7_does_15 ?_
  refine lv_iconst (v := nI 4) hx hcd dX7_does_18 (by decide) ?_
  refine lv_iload_n hx hcd dX7_does_19 rfl (lv_at hl 2 rfl) ?_
  refine kr_mul hx hcd dX7_does_20 ?_
  refine lv_iconst (v := nI 2) hx hcd dX7_does_21 (by decide) ?_
  refine kr_add hx hcd dX7_does_22 ?_
  refine kr_iald hx hcd hK hP 5 0 rfl rfl (v := Tx (2 + 4 * o)) (by omega) (by decide) (congrArg Tx (by omega)) dX7_does_23 ?_
  refine kr_top (w := nI (ch Tx (4 * o + 2))) (by rw [Nat.add_comm]; exact t_ch hT (by omega)) ?_
  refine lv_bipush (v := nI 48) hx hcd dX7_does_24 (by decide) ?_
  refine lv_isub hx hcd dX7_does_26 ?_
  refine kr_top (w := nI b) e2 ?_
  refine lv_istore_n (lv' := [(3, .int (nI b)), (2, .int (nI a)), (0, .ref (z 0)), (1, .int (nI o))]) hx hcd dX7_does_27 rfl hl (by decide) rfl (fun ls hl => ?_)
  refine lv_iconst (v := nI 0) hx hcd dX7_does_28 (by decide) ?_
  refine lv_istore (lv' := [(4, .int (nI 0)), (3, .int (nI b)), (2, .int (nI a)), (0, .ref (z 0)), (1, .int (nI o))]) hx hcd dX7_does_29 hl (by decide) rfl (fun ls hl => ?_)
  refine lv_aload_n hx hcd dX7_does_31 rfl (lv_at hl 3 rfl) ?_
  refine kr_get hx hcd hts uX7 hown hK hP 0 rfl rfl 5 (by decide) (by decide +kernel) (v := .ref (z 5)) rfl dX7_does_32 ?_
  refine lv_iconst (v := nI 4) hx hcd dX7_does_35 (by decide) ?_
  refine lv_iload_n hx hcd dX7_does_36 rfl (lv_at hl 4 rfl) ?_
  refine kr_mul hx hcd dX7_does_37 ?_
  refine kr_iald hx hcd hK hP 5 0 rfl rfl (v := Tx (4 * o)) (by omega) (by decide) (congrArg Tx (by omega)) dX7_does_38 ?_
  refine kr_top (w := nI 103) ((t_ch hT (by omega)).trans (congrArg nI hlc)) ?_
  skip
  · refine lv_tableIn (x := nI 103) (off := 100) (tgt := 139) hx hcd dX7_does_39 (by decide) (by decide) (by decide) (by decide) ?_
    refine lv_aload_n hx hcd dX7_does_139 rfl (lv_at hl 3 rfl) ?_
    refine lv_iload_n hx hcd dX7_does_140 rfl (lv_at hl 2 rfl) ?_
    refine lv_iload_n hx hcd dX7_does_141 rfl (lv_at hl 1 rfl) ?_
    refine kr_Vi (As := [.int (nI a), .int (nI b)]) (rest := []) (ws2 := wMA cI z x hh (g_grant M a b) Sp Ot Sv Tx) (q := (RX7, TX7, 10)) ⟨hx, hcd, hml, hown, hts⟩ (c_X7_grants l D cI cB cW cL z x hh _ M a b hI (by omega) (by omega)) (cwV 2 hts gX7_does_X7_grants rfl rfl rfl (by decide +kernel) ⟨Nat.le_of_ble_eq_true rfl, Nat.le_of_ble_eq_true rfl⟩) hK hP hD hS hA [0, 1] wMA_MoC (by decide) wMo_adr2 wMA_Mo 0 rfl rfl rfl hl.1 rfl (Nat.le_of_ble_eq_true rfl) dX7_does_142 ⟨Nat.zero_le _, Nat.zero_le _⟩ (fun H locs hP hD hS => ?_)
    have hI_1 : kInv (g_grant M a b) := i_grant hI (by omega) (by omega)
    refine lv_istore (lv' := [(4, .int (if g_has M a b 8 = true then 1 else 0)), (3, .int (nI b)), (2, .int (nI a)), (0, .ref (z 0)), (1, .int (nI o))]) hx hcd dX7_does_145 hl (by decide) rfl (fun ls hl => ?_)
    refine lv_goto (tgt := 219) hx hcd dX7_does_147 (by decide) ?_
    refine lv_iload hx hcd dX7_does_219 (lv_at hl 0 rfl) ?_
    refine lv_if_lt (tgt := 228) hx hcd dX7_does_221 (by decide) (fun (c_221 : (if g_has M a b 8 = true then 1 else 0) < 0) => absurd c_221 (by split <;> decide)) (fun (c_221 : ¬ (if g_has M a b 8 = true then 1 else 0) < 0) => ?_)
    refine lv_iconst (v := nI 1) hx hcd dX7_does_224 (by decide) ?_
    refine lv_goto (tgt := 229) hx hcd dX7_does_225 (by decide) ?_
    exact kr_zret hx hcd hr hlocks hK hP hD hS rfl rfl rfl dX7_does_229

set_option maxHeartbeats 4000000 in
set_option maxRecDepth 100000 in
theorem c_X7_does__c114 (l : Launch) (D : va_G) (cI cB cW cL : ClassId) (z : Nat → Nat) (x : Nat → Int32) (hh : Int64) (Sp Ot Sv Tx : Nat → Int32) (sz : Nat) (M : kM) (o : Nat) (a b : Nat) (hI : kInv M) (hT : kTx Tx) (ho : o < 25) (hlc : ch Tx (4 * o) = 114) (e1 : nI (ch Tx (4 * o + 1)) - 48 = nI a) (e2 : nI (ch Tx (4 * o + 2)) - 48 = nI b) (ha : a < 6) (hb : b < 6) (hne : a ≠ b) : kMi l yX7_does wsX7_does ({ frames := 5, cells := 0, slots := 0, locals := 118 }) D vwCl (kT cI cB cW cL) sz [.ref (z 0), .int (nI o)] (wMA cI z x hh M Sp Ot Sv Tx) (wMA cI z x hh (g_refuse M a b) Sp Ot Sv Tx) 1 := by
  refine kr_ofi (cc := cX7_does) (maxL := 5) (ret := (some .boolean)) (by decide) rfl (Nat.le_of_ble_eq_true rfl) ?_
  intro pp ee ss mm args below meth cc AA ls hx hcd hr hts hown hlocks hml hK hP hD hA hl
  have hS : va_S AA ss.heap ss.heap [] := va_S.rf
  have hown : ss.vm.findClass RX7 = some mm.cls := hown
  have hl : lv_has ls 5 [(0, .ref (z 0)), (1, .int (nI o))] := hl
  have uX7 : ∀ w ∈ u_ws RX7 TX7 10, w ∈ wsX7_does := by decide +kernel
  refine lv_aload_n hx hcd dX7_does_0 rfl (lv_at hl 0 rfl) ?_
  refine kr_get hx hcd hts uX7 hown hK hP 0 rfl rfl 5 (by decide) (by decide +kernel) (v := .ref (z 5)) rfl dX7_does_1 ?_
  refine lv_iconst (v := nI 4) hx hcd dX7_does_4 (by decide) ?_
  refine lv_iload_n hx hcd dX7_does_5 rfl (lv_at hl 1 rfl) ?_
  refine kr_mul hx hcd dX7_does_6 ?_
  refine lv_iconst (v := nI 1) hx hcd dX7_does_7 (by decide) ?_
  refine kr_add hx hcd dX7_does_8 ?_
  refine kr_iald hx hcd hK hP 5 0 rfl rfl (v := Tx (1 + 4 * o)) (by omega) (by decide) (congrArg Tx (by omega)) dX7_does_9 ?_
  refine kr_top (w := nI (ch Tx (4 * o + 1))) (by rw [Nat.add_comm]; exact t_ch hT (by omega)) ?_
  refine lv_bipush (v := nI 48) hx hcd dX7_does_10 (by decide) ?_
  refine lv_isub hx hcd dX7_does_12 ?_
  refine kr_top (w := nI a) e1 ?_
  refine lv_istore_n (lv' := [(2, .int (nI a)), (0, .ref (z 0)), (1, .int (nI o))]) hx hcd dX7_does_13 rfl hl (by decide) rfl (fun ls hl => ?_)
  refine lv_aload_n hx hcd dX7_does_14 rfl (lv_at hl 1 rfl) ?_
  refine kr_get hx hcd hts uX7 hown hK hP 0 rfl rfl 5 (by decide) (by decide +kernel) (v := .ref (z 5)) rfl dX7_does_15 ?_
  refine lv_iconst (v := nI 4) hx hcd dX7_does_18 (by decide) ?_
  refine lv_iload_n hx hcd dX7_does_19 rfl (lv_at hl 2 rfl) ?_
  refine kr_mul hx hcd dX7_does_20 ?_
  refine lv_iconst (v := nI 2) hx hcd dX7_does_21 (by decide) ?_
  refine kr_add hx hcd dX7_does_22 ?_
  refine kr_iald hx hcd hK hP 5 0 rfl rfl (v := Tx (2 + 4 * o)) (by omega) (by decide) (congrArg Tx (by omega)) dX7_does_23 ?_
  refine kr_top (w := nI (ch Tx (4 * o + 2))) (by rw [Nat.add_comm]; exact t_ch hT (by omega)) ?_
  refine lv_bipush (v := nI 48) hx hcd dX7_does_24 (by decide) ?_
  refine lv_isub hx hcd dX7_does_26 ?_
  refine kr_top (w := nI b) e2 ?_
  refine lv_istore_n (lv' := [(3, .int (nI b)), (2, .int (nI a)), (0, .ref (z 0)), (1, .int (nI o))]) hx hcd dX7_does_27 rfl hl (by decide) rfl (fun ls hl => ?_)
  refine lv_iconst (v := nI 0) hx hcd dX7_does_28 (by decide) ?_
  refine lv_istore (lv' := [(4, .int (nI 0)), (3, .int (nI b)), (2, .int (nI a)), (0, .ref (z 0)), (1, .int (nI o))]) hx hcd dX7_does_29 hl (by decide) rfl (fun ls hl => ?_)
  refine lv_aload_n hx hcd dX7_does_31 rfl (lv_at hl 3 rfl) ?_
  refine kr_get hx hcd hts uX7 hown hK hP 0 rfl rfl 5 (by decide) (by decide +kernel) (v := .ref (z 5)) rfl dX7_does_32 ?_
  refine lv_iconst (v := nI 4) hx hcd dX7_does_35 (by decide) ?_
  refine lv_iload_n hx hcd dX7_does_36 rfl (lv_at hl 4 rfl) ?_
  refine kr_mul hx hcd dX7_does_37 ?_
  refine kr_iald hx hcd hK hP 5 0 rfl rfl (v := Tx (4 * o)) (by omega) (by decide) (congrArg Tx (by omega)) dX7_does_38 ?_
  refine kr_top (w := nI 114) ((t_ch hT (by omega)).trans (congrArg nI hlc)) ?_
  skip
  · refine lv_tableIn (x := nI 114) (off := 111) (tgt := 150) hx hcd dX7_does_39 (by decide) (by decide) (by decide) (by decide) ?_
    refine lv_aload_n hx hcd dX7_does_150 rfl (lv_at hl 3 rfl) ?_
    refine lv_iload_n hx hcd dX7_does_151 rfl (lv_at hl 2 rfl) ?_
    refine lv_iload_n hx hcd dX7_does_152 rfl (lv_at hl 1 rfl) ?_
    refine kr_Vi (As := [.int (nI a), .int (nI b)]) (rest := []) (ws2 := wMA cI z x hh (g_refuse M a b) Sp Ot Sv Tx) (q := (RX7, TX7, 10)) ⟨hx, hcd, hml, hown, hts⟩ (c_X7_refuses l D cI cB cW cL z x hh _ M a b hI (by omega) (by omega)) (cwV 2 hts gX7_does_X7_refuses rfl rfl rfl (by decide +kernel) ⟨Nat.le_of_ble_eq_true rfl, Nat.le_of_ble_eq_true rfl⟩) hK hP hD hS hA [0, 1] wMA_MoC (by decide) wMo_adr2 wMA_Mo 0 rfl rfl rfl hl.1 rfl (Nat.le_of_ble_eq_true rfl) dX7_does_153 ⟨Nat.zero_le _, Nat.zero_le _⟩ (fun H locs hP hD hS => ?_)
    have hI_1 : kInv (g_refuse M a b) := i_refuse hI (by omega) (by omega)
    refine lv_istore (lv' := [(4, .int (if g_has M a b 10 = true then 1 else 0)), (3, .int (nI b)), (2, .int (nI a)), (0, .ref (z 0)), (1, .int (nI o))]) hx hcd dX7_does_156 hl (by decide) rfl (fun ls hl => ?_)
    refine lv_goto (tgt := 219) hx hcd dX7_does_158 (by decide) ?_
    refine lv_iload hx hcd dX7_does_219 (lv_at hl 0 rfl) ?_
    refine lv_if_lt (tgt := 228) hx hcd dX7_does_221 (by decide) (fun (c_221 : (if g_has M a b 10 = true then 1 else 0) < 0) => absurd c_221 (by split <;> decide)) (fun (c_221 : ¬ (if g_has M a b 10 = true then 1 else 0) < 0) => ?_)
    refine lv_iconst (v := nI 1) hx hcd dX7_does_224 (by decide) ?_
    refine lv_goto (tgt := 229) hx hcd dX7_does_225 (by decide) ?_
    exact kr_zret hx hcd hr hlocks hK hP hD hS rfl rfl rfl dX7_does_229

set_option maxHeartbeats 4000000 in
set_option maxRecDepth 100000 in
theorem c_X7_does__c115 (l : Launch) (D : va_G) (cI cB cW cL : ClassId) (z : Nat → Nat) (x : Nat → Int32) (hh : Int64) (Sp Ot Sv Tx : Nat → Int32) (sz : Nat) (M : kM) (o : Nat) (a b : Nat) (hI : kInv M) (hT : kTx Tx) (ho : o < 25) (hlc : ch Tx (4 * o) = 115) (e1 : nI (ch Tx (4 * o + 1)) - 48 = nI a) (e2 : nI (ch Tx (4 * o + 2)) - 48 = nI b) (ha : a < 6) (hb : b < 6) (hne : a ≠ b) : kMi l yX7_does wsX7_does ({ frames := 5, cells := 0, slots := 0, locals := 118 }) D vwCl (kT cI cB cW cL) sz [.ref (z 0), .int (nI o)] (wMA cI z x hh M Sp Ot Sv Tx) (wMA cI z x hh (g_stop M a b) Sp Ot Sv Tx) 1 := by
  refine kr_ofi (cc := cX7_does) (maxL := 5) (ret := (some .boolean)) (by decide) rfl (Nat.le_of_ble_eq_true rfl) ?_
  intro pp ee ss mm args below meth cc AA ls hx hcd hr hts hown hlocks hml hK hP hD hA hl
  have hS : va_S AA ss.heap ss.heap [] := va_S.rf
  have hown : ss.vm.findClass RX7 = some mm.cls := hown
  have hl : lv_has ls 5 [(0, .ref (z 0)), (1, .int (nI o))] := hl
  have uX7 : ∀ w ∈ u_ws RX7 TX7 10, w ∈ wsX7_does := by decide +kernel
  refine lv_aload_n hx hcd dX7_does_0 rfl (lv_at hl 0 rfl) ?_
  refine kr_get hx hcd hts uX7 hown hK hP 0 rfl rfl 5 (by decide) (by decide +kernel) (v := .ref (z 5)) rfl dX7_does_1 ?_
  refine lv_iconst (v := nI 4) hx hcd dX7_does_4 (by decide) ?_
  refine lv_iload_n hx hcd dX7_does_5 rfl (lv_at hl 1 rfl) ?_
  refine kr_mul hx hcd dX7_does_6 ?_
  refine lv_iconst (v := nI 1) hx hcd dX7_does_7 (by decide) ?_
  refine kr_add hx hcd dX7_does_8 ?_
  refine kr_iald hx hcd hK hP 5 0 rfl rfl (v := Tx (1 + 4 * o)) (by omega) (by decide) (congrArg Tx (by omega)) dX7_does_9 ?_
  refine kr_top (w := nI (ch Tx (4 * o + 1))) (by rw [Nat.add_comm]; exact t_ch hT (by omega)) ?_
  refine lv_bipush (v := nI 48) hx hcd dX7_does_10 (by decide) ?_
  refine lv_isub hx hcd dX7_does_12 ?_
  refine kr_top (w := nI a) e1 ?_
  refine lv_istore_n (lv' := [(2, .int (nI a)), (0, .ref (z 0)), (1, .int (nI o))]) hx hcd dX7_does_13 rfl hl (by decide) rfl (fun ls hl => ?_)
  refine lv_aload_n hx hcd dX7_does_14 rfl (lv_at hl 1 rfl) ?_
  refine kr_get hx hcd hts uX7 hown hK hP 0 rfl rfl 5 (by decide) (by decide +kernel) (v := .ref (z 5)) rfl dX7_does_15 ?_
  refine lv_iconst (v := nI 4) hx hcd dX7_does_18 (by decide) ?_
  refine lv_iload_n hx hcd dX7_does_19 rfl (lv_at hl 2 rfl) ?_
  refine kr_mul hx hcd dX7_does_20 ?_
  refine lv_iconst (v := nI 2) hx hcd dX7_does_21 (by decide) ?_
  refine kr_add hx hcd dX7_does_22 ?_
  refine kr_iald hx hcd hK hP 5 0 rfl rfl (v := Tx (2 + 4 * o)) (by omega) (by decide) (congrArg Tx (by omega)) dX7_does_23 ?_
  refine kr_top (w := nI (ch Tx (4 * o + 2))) (by rw [Nat.add_comm]; exact t_ch hT (by omega)) ?_
  refine lv_bipush (v := nI 48) hx hcd dX7_does_24 (by decide) ?_
  refine lv_isub hx hcd dX7_does_26 ?_
  refine kr_top (w := nI b) e2 ?_
  refine lv_istore_n (lv' := [(3, .int (nI b)), (2, .int (nI a)), (0, .ref (z 0)), (1, .int (nI o))]) hx hcd dX7_does_27 rfl hl (by decide) rfl (fun ls hl => ?_)
  refine lv_iconst (v := nI 0) hx hcd dX7_does_28 (by decide) ?_
  refine lv_istore (lv' := [(4, .int (nI 0)), (3, .int (nI b)), (2, .int (nI a)), (0, .ref (z 0)), (1, .int (nI o))]) hx hcd dX7_does_29 hl (by decide) rfl (fun ls hl => ?_)
  refine lv_aload_n hx hcd dX7_does_31 rfl (lv_at hl 3 rfl) ?_
  refine kr_get hx hcd hts uX7 hown hK hP 0 rfl rfl 5 (by decide) (by decide +kernel) (v := .ref (z 5)) rfl dX7_does_32 ?_
  refine lv_iconst (v := nI 4) hx hcd dX7_does_35 (by decide) ?_
  refine lv_iload_n hx hcd dX7_does_36 rfl (lv_at hl 4 rfl) ?_
  refine kr_mul hx hcd dX7_does_37 ?_
  refine kr_iald hx hcd hK hP 5 0 rfl rfl (v := Tx (4 * o)) (by omega) (by decide) (congrArg Tx (by omega)) dX7_does_38 ?_
  refine kr_top (w := nI 115) ((t_ch hT (by omega)).trans (congrArg nI hlc)) ?_
  skip
  · refine lv_tableIn (x := nI 115) (off := 122) (tgt := 161) hx hcd dX7_does_39 (by decide) (by decide) (by decide) (by decide) ?_
    refine lv_aload_n hx hcd dX7_does_161 rfl (lv_at hl 3 rfl) ?_
    refine lv_iload_n hx hcd dX7_does_162 rfl (lv_at hl 2 rfl) ?_
    refine lv_iload_n hx hcd dX7_does_163 rfl (lv_at hl 1 rfl) ?_
    refine kr_Vi (As := [.int (nI a), .int (nI b)]) (rest := []) (ws2 := wMA cI z x hh (g_stop M a b) Sp Ot Sv Tx) (q := (RX7, TX7, 10)) ⟨hx, hcd, hml, hown, hts⟩ (c_X7_stops l D cI cB cW cL z x hh _ M a b hI (by omega) (by omega)) (cwV 2 hts gX7_does_X7_stops rfl rfl rfl (by decide +kernel) ⟨Nat.le_of_ble_eq_true rfl, Nat.le_of_ble_eq_true rfl⟩) hK hP hD hS hA [0, 1] wMA_MoC (by decide) wMo_adr2 wMA_Mo 0 rfl rfl rfl hl.1 rfl (Nat.le_of_ble_eq_true rfl) dX7_does_164 ⟨Nat.zero_le _, Nat.zero_le _⟩ (fun H locs hP hD hS => ?_)
    have hI_1 : kInv (g_stop M a b) := i_stop hI (by omega) (by omega)
    refine lv_istore (lv' := [(4, .int (if g_has M a b 5 = true then 1 else 0)), (3, .int (nI b)), (2, .int (nI a)), (0, .ref (z 0)), (1, .int (nI o))]) hx hcd dX7_does_167 hl (by decide) rfl (fun ls hl => ?_)
    refine lv_goto (tgt := 219) hx hcd dX7_does_169 (by decide) ?_
    refine lv_iload hx hcd dX7_does_219 (lv_at hl 0 rfl) ?_
    refine lv_if_lt (tgt := 228) hx hcd dX7_does_221 (by decide) (fun (c_221 : (if g_has M a b 5 = true then 1 else 0) < 0) => absurd c_221 (by split <;> decide)) (fun (c_221 : ¬ (if g_has M a b 5 = true then 1 else 0) < 0) => ?_)
    refine lv_iconst (v := nI 1) hx hcd dX7_does_224 (by decide) ?_
    refine lv_goto (tgt := 229) hx hcd dX7_does_225 (by decide) ?_
    exact kr_zret hx hcd hr hlocks hK hP hD hS rfl rfl rfl dX7_does_229

set_option maxHeartbeats 4000000 in
set_option maxRecDepth 100000 in
theorem c_X7_does__c105 (l : Launch) (D : va_G) (cI cB cW cL : ClassId) (z : Nat → Nat) (x : Nat → Int32) (hh : Int64) (Sp Ot Sv Tx : Nat → Int32) (sz : Nat) (M : kM) (o : Nat) (a b : Nat) (hI : kInv M) (hT : kTx Tx) (ho : o < 25) (hlc : ch Tx (4 * o) = 105) (e1 : nI (ch Tx (4 * o + 1)) - 48 = nI a) (e2 : nI (ch Tx (4 * o + 2)) - 48 = nI b) (ha : a < 6) (hb : b < 3) : kMi l yX7_does wsX7_does ({ frames := 5, cells := 0, slots := 0, locals := 118 }) D vwCl (kT cI cB cW cL) sz [.ref (z 0), .int (nI o)] (wMA cI z x hh M Sp Ot Sv Tx) (wMA cI z x hh (g_turnOn M a b (nI 0) 0) Sp Ot Sv Tx) 1 := by
  refine kr_ofi (cc := cX7_does) (maxL := 5) (ret := (some .boolean)) (by decide) rfl (Nat.le_of_ble_eq_true rfl) ?_
  intro pp ee ss mm args below meth cc AA ls hx hcd hr hts hown hlocks hml hK hP hD hA hl
  have hS : va_S AA ss.heap ss.heap [] := va_S.rf
  have hown : ss.vm.findClass RX7 = some mm.cls := hown
  have hl : lv_has ls 5 [(0, .ref (z 0)), (1, .int (nI o))] := hl
  have uX7 : ∀ w ∈ u_ws RX7 TX7 10, w ∈ wsX7_does := by decide +kernel
  refine lv_aload_n hx hcd dX7_does_0 rfl (lv_at hl 0 rfl) ?_
  refine kr_get hx hcd hts uX7 hown hK hP 0 rfl rfl 5 (by decide) (by decide +kernel) (v := .ref (z 5)) rfl dX7_does_1 ?_
  refine lv_iconst (v := nI 4) hx hcd dX7_does_4 (by decide) ?_
  refine lv_iload_n hx hcd dX7_does_5 rfl (lv_at hl 1 rfl) ?_
  refine kr_mul hx hcd dX7_does_6 ?_
  refine lv_iconst (v := nI 1) hx hcd dX7_does_7 (by decide) ?_
  refine kr_add hx hcd dX7_does_8 ?_
  refine kr_iald hx hcd hK hP 5 0 rfl rfl (v := Tx (1 + 4 * o)) (by omega) (by decide) (congrArg Tx (by omega)) dX7_does_9 ?_
  refine kr_top (w := nI (ch Tx (4 * o + 1))) (by rw [Nat.add_comm]; exact t_ch hT (by omega)) ?_
  refine lv_bipush (v := nI 48) hx hcd dX7_does_10 (by decide) ?_
  refine lv_isub hx hcd dX7_does_12 ?_
  refine kr_top (w := nI a) e1 ?_
  refine lv_istore_n (lv' := [(2, .int (nI a)), (0, .ref (z 0)), (1, .int (nI o))]) hx hcd dX7_does_13 rfl hl (by decide) rfl (fun ls hl => ?_)
  refine lv_aload_n hx hcd dX7_does_14 rfl (lv_at hl 1 rfl) ?_
  refine kr_get hx hcd hts uX7 hown hK hP 0 rfl rfl 5 (by decide) (by decide +kernel) (v := .ref (z 5)) rfl dX7_does_15 ?_
  refine lv_iconst (v := nI 4) hx hcd dX7_does_18 (by decide) ?_
  refine lv_iload_n hx hcd dX7_does_19 rfl (lv_at hl 2 rfl) ?_
  refine kr_mul hx hcd dX7_does_20 ?_
  refine lv_iconst (v := nI 2) hx hcd dX7_does_21 (by decide) ?_
  refine kr_add hx hcd dX7_does_22 ?_
  refine kr_iald hx hcd hK hP 5 0 rfl rfl (v := Tx (2 + 4 * o)) (by omega) (by decide) (congrArg Tx (by omega)) dX7_does_23 ?_
  refine kr_top (w := nI (ch Tx (4 * o + 2))) (by rw [Nat.add_comm]; exact t_ch hT (by omega)) ?_
  refine lv_bipush (v := nI 48) hx hcd dX7_does_24 (by decide) ?_
  refine lv_isub hx hcd dX7_does_26 ?_
  refine kr_top (w := nI b) e2 ?_
  refine lv_istore_n (lv' := [(3, .int (nI b)), (2, .int (nI a)), (0, .ref (z 0)), (1, .int (nI o))]) hx hcd dX7_does_27 rfl hl (by decide) rfl (fun ls hl => ?_)
  refine lv_iconst (v := nI 0) hx hcd dX7_does_28 (by decide) ?_
  refine lv_istore (lv' := [(4, .int (nI 0)), (3, .int (nI b)), (2, .int (nI a)), (0, .ref (z 0)), (1, .int (nI o))]) hx hcd dX7_does_29 hl (by decide) rfl (fun ls hl => ?_)
  refine lv_aload_n hx hcd dX7_does_31 rfl (lv_at hl 3 rfl) ?_
  refine kr_get hx hcd hts uX7 hown hK hP 0 rfl rfl 5 (by decide) (by decide +kernel) (v := .ref (z 5)) rfl dX7_does_32 ?_
  refine lv_iconst (v := nI 4) hx hcd dX7_does_35 (by decide) ?_
  refine lv_iload_n hx hcd dX7_does_36 rfl (lv_at hl 4 rfl) ?_
  refine kr_mul hx hcd dX7_does_37 ?_
  refine kr_iald hx hcd hK hP 5 0 rfl rfl (v := Tx (4 * o)) (by omega) (by decide) (congrArg Tx (by omega)) dX7_does_38 ?_
  refine kr_top (w := nI 105) ((t_ch hT (by omega)).trans (congrArg nI hlc)) ?_
  skip
  · refine lv_tableIn (x := nI 105) (off := 133) (tgt := 172) hx hcd dX7_does_39 (by decide) (by decide) (by decide) (by decide) ?_
    refine lv_aload_n hx hcd dX7_does_172 rfl (lv_at hl 3 rfl) ?_
    refine lv_iload_n hx hcd dX7_does_173 rfl (lv_at hl 2 rfl) ?_
    refine lv_iload_n hx hcd dX7_does_174 rfl (lv_at hl 1 rfl) ?_
    refine lv_iconst (v := nI 0) hx hcd dX7_does_175 (by decide) ?_
    refine lv_iconst (v := nI 0) hx hcd dX7_does_176 (by decide) ?_
    refine kr_Vi (As := [.int (nI a), .int (nI b), .int (nI 0), .int (nI 0)]) (rest := []) (ws2 := wMA cI z x hh (g_turnOn M a b (nI 0) 0) Sp Ot Sv Tx) (q := (RX7, TX7, 10)) ⟨hx, hcd, hml, hown, hts⟩ (c_X7_turnsOn l D cI cB cW cL z x hh _ M a b (nI 0) 0 hI (by omega) (by omega) (by omega)) (cwV 4 hts gX7_does_X7_turnsOn rfl rfl rfl (by decide +kernel) ⟨Nat.le_of_ble_eq_true rfl, Nat.le_of_ble_eq_true rfl⟩) hK hP hD hS hA [0, 1] wMA_MoC (by decide) wMo_adr2 wMA_Mo 0 rfl rfl rfl hl.1 rfl (Nat.le_of_ble_eq_true rfl) dX7_does_177 ⟨Nat.zero_le _, Nat.zero_le _⟩ (fun H locs hP hD hS => ?_)
    have hI_1 : kInv (g_turnOn M a b (nI 0) 0) := i_turnOn hI (by omega) (by omega) (by omega)
    refine lv_istore (lv' := [(4, .int (g_cnt (g_turnOn M a b (nI 0) 0) a)), (3, .int (nI b)), (2, .int (nI a)), (0, .ref (z 0)), (1, .int (nI o))]) hx hcd dX7_does_180 hl (by decide) rfl (fun ls hl => ?_)
    refine lv_goto (tgt := 219) hx hcd dX7_does_182 (by decide) ?_
    refine lv_iload hx hcd dX7_does_219 (lv_at hl 0 rfl) ?_
    refine lv_if_lt (tgt := 228) hx hcd dX7_does_221 (by decide) (fun (c_221 : (g_cnt (g_turnOn M a b (nI 0) 0) a) < 0) => absurd c_221 (cnt_nn (i_turnOn hI ha (by omega) (by omega)) ha)) (fun (c_221 : ¬ (g_cnt (g_turnOn M a b (nI 0) 0) a) < 0) => ?_)
    refine lv_iconst (v := nI 1) hx hcd dX7_does_224 (by decide) ?_
    refine lv_goto (tgt := 229) hx hcd dX7_does_225 (by decide) ?_
    exact kr_zret hx hcd hr hlocks hK hP hD hS rfl rfl rfl dX7_does_229

set_option maxHeartbeats 4000000 in
set_option maxRecDepth 100000 in
theorem c_X7_does__c111 (l : Launch) (D : va_G) (cI cB cW cL : ClassId) (z : Nat → Nat) (x : Nat → Int32) (hh : Int64) (Sp Ot Sv Tx : Nat → Int32) (sz : Nat) (M : kM) (o : Nat) (a b : Nat) (hI : kInv M) (hT : kTx Tx) (ho : o < 25) (hlc : ch Tx (4 * o) = 111) (e1 : nI (ch Tx (4 * o + 1)) - 48 = nI a) (e2 : nI (ch Tx (4 * o + 2)) - 48 = nI b) (ha : a < 6) (hb : b < 3) (hon : g_on M a b = true) : kMi l yX7_does wsX7_does ({ frames := 5, cells := 0, slots := 0, locals := 118 }) D vwCl (kT cI cB cW cL) sz [.ref (z 0), .int (nI o)] (wMA cI z x hh M Sp Ot Sv Tx) (wMA cI z x hh (g_turnOff M a b) Sp Ot Sv Tx) 1 := by
  refine kr_ofi (cc := cX7_does) (maxL := 5) (ret := (some .boolean)) (by decide) rfl (Nat.le_of_ble_eq_true rfl) ?_
  intro pp ee ss mm args below meth cc AA ls hx hcd hr hts hown hlocks hml hK hP hD hA hl
  have hS : va_S AA ss.heap ss.heap [] := va_S.rf
  have hown : ss.vm.findClass RX7 = some mm.cls := hown
  have hl : lv_has ls 5 [(0, .ref (z 0)), (1, .int (nI o))] := hl
  have uX7 : ∀ w ∈ u_ws RX7 TX7 10, w ∈ wsX7_does := by decide +kernel
  refine lv_aload_n hx hcd dX7_does_0 rfl (lv_at hl 0 rfl) ?_
  refine kr_get hx hcd hts uX7 hown hK hP 0 rfl rfl 5 (by decide) (by decide +kernel) (v := .ref (z 5)) rfl dX7_does_1 ?_
  refine lv_iconst (v := nI 4) hx hcd dX7_does_4 (by decide) ?_
  refine lv_iload_n hx hcd dX7_does_5 rfl (lv_at hl 1 rfl) ?_
  refine kr_mul hx hcd dX7_does_6 ?_
  refine lv_iconst (v := nI 1) hx hcd dX7_does_7 (by decide) ?_
  refine kr_add hx hcd dX7_does_8 ?_
  refine kr_iald hx hcd hK hP 5 0 rfl rfl (v := Tx (1 + 4 * o)) (by omega) (by decide) (congrArg Tx (by omega)) dX7_does_9 ?_
  refine kr_top (w := nI (ch Tx (4 * o + 1))) (by rw [Nat.add_comm]; exact t_ch hT (by omega)) ?_
  refine lv_bipush (v := nI 48) hx hcd dX7_does_10 (by decide) ?_
  refine lv_isub hx hcd dX7_does_12 ?_
  refine kr_top (w := nI a) e1 ?_
  refine lv_istore_n (lv' := [(2, .int (nI a)), (0, .ref (z 0)), (1, .int (nI o))]) hx hcd dX7_does_13 rfl hl (by decide) rfl (fun ls hl => ?_)
  refine lv_aload_n hx hcd dX7_does_14 rfl (lv_at hl 1 rfl) ?_
  refine kr_get hx hcd hts uX7 hown hK hP 0 rfl rfl 5 (by decide) (by decide +kernel) (v := .ref (z 5)) rfl dX7_does_15 ?_
  refine lv_iconst (v := nI 4) hx hcd dX7_does_18 (by decide) ?_
  refine lv_iload_n hx hcd dX7_does_19 rfl (lv_at hl 2 rfl) ?_
  refine kr_mul hx hcd dX7_does_20 ?_
  refine lv_iconst (v := nI 2) hx hcd dX7_does_21 (by decide) ?_
  refine kr_add hx hcd dX7_does_22 ?_
  refine kr_iald hx hcd hK hP 5 0 rfl rfl (v := Tx (2 + 4 * o)) (by omega) (by decide) (congrArg Tx (by omega)) dX7_does_23 ?_
  refine kr_top (w := nI (ch Tx (4 * o + 2))) (by rw [Nat.add_comm]; exact t_ch hT (by omega)) ?_
  refine lv_bipush (v := nI 48) hx hcd dX7_does_24 (by decide) ?_
  refine lv_isub hx hcd dX7_does_26 ?_
  refine kr_top (w := nI b) e2 ?_
  refine lv_istore_n (lv' := [(3, .int (nI b)), (2, .int (nI a)), (0, .ref (z 0)), (1, .int (nI o))]) hx hcd dX7_does_27 rfl hl (by decide) rfl (fun ls hl => ?_)
  refine lv_iconst (v := nI 0) hx hcd dX7_does_28 (by decide) ?_
  refine lv_istore (lv' := [(4, .int (nI 0)), (3, .int (nI b)), (2, .int (nI a)), (0, .ref (z 0)), (1, .int (nI o))]) hx hcd dX7_does_29 hl (by decide) rfl (fun ls hl => ?_)
  refine lv_aload_n hx hcd dX7_does_31 rfl (lv_at hl 3 rfl) ?_
  refine kr_get hx hcd hts uX7 hown hK hP 0 rfl rfl 5 (by decide) (by decide +kernel) (v := .ref (z 5)) rfl dX7_does_32 ?_
  refine lv_iconst (v := nI 4) hx hcd dX7_does_35 (by decide) ?_
  refine lv_iload_n hx hcd dX7_does_36 rfl (lv_at hl 4 rfl) ?_
  refine kr_mul hx hcd dX7_does_37 ?_
  refine kr_iald hx hcd hK hP 5 0 rfl rfl (v := Tx (4 * o)) (by omega) (by decide) (congrArg Tx (by omega)) dX7_does_38 ?_
  refine kr_top (w := nI 111) ((t_ch hT (by omega)).trans (congrArg nI hlc)) ?_
  skip
  · refine lv_tableIn (x := nI 111) (off := 146) (tgt := 185) hx hcd dX7_does_39 (by decide) (by decide) (by decide) (by decide) ?_
    refine lv_aload_n hx hcd dX7_does_185 rfl (lv_at hl 3 rfl) ?_
    refine lv_iload_n hx hcd dX7_does_186 rfl (lv_at hl 2 rfl) ?_
    refine lv_iload_n hx hcd dX7_does_187 rfl (lv_at hl 1 rfl) ?_
    refine kr_Vi (As := [.int (nI a), .int (nI b)]) (rest := []) (ws2 := wMA cI z x hh M Sp Ot Sv Tx) (q := (RX7, TX7, 10)) ⟨hx, hcd, hml, hown, hts⟩ (c_X7_isOn l D cI cB cW cL z x hh _ M a b (by omega) (by omega)) (cwV 2 hts gX7_does_X7_isOn rfl rfl rfl (by decide +kernel) ⟨Nat.le_of_ble_eq_true rfl, Nat.le_of_ble_eq_true rfl⟩) hK hP hD hS hA [0, 1] wMA_MoC (by decide) wMo_adr2 wMA_Mo 0 rfl rfl rfl hl.1 rfl (Nat.le_of_ble_eq_true rfl) dX7_does_188 ⟨Nat.zero_le _, Nat.zero_le _⟩ (fun H locs hP hD hS => ?_)
    refine kr_bne (tgt := 196) hx hcd dX7_does_191 (by decide) (fun (c_191 : g_on M a b = true) => ?_) (fun (c_191 : g_on M a b = false) => absurd c_191 (by rw [hon]; decide))
    refine lv_aload_n hx hcd dX7_does_196 rfl (lv_at hl 3 rfl) ?_
    refine lv_iload_n hx hcd dX7_does_197 rfl (lv_at hl 2 rfl) ?_
    refine lv_iload_n hx hcd dX7_does_198 rfl (lv_at hl 1 rfl) ?_
    refine kr_Vi (As := [.int (nI a), .int (nI b)]) (rest := []) (ws2 := wMA cI z x hh (g_turnOff M a b) Sp Ot Sv Tx) (q := (RX7, TX7, 10)) ⟨hx, hcd, hml, hown, hts⟩ (c_X7_turnsOff l D cI cB cW cL z x hh _ M a b hI (by omega) (by omega)) (cwV 2 hts gX7_does_X7_turnsOff rfl rfl rfl (by decide +kernel) ⟨Nat.le_of_ble_eq_true rfl, Nat.le_of_ble_eq_true rfl⟩) hK hP hD hS hA [0, 1] wMA_MoC (by decide) wMo_adr2 wMA_Mo 0 rfl rfl rfl hl.1 rfl (Nat.le_of_ble_eq_true rfl) dX7_does_199 ⟨Nat.zero_le _, Nat.zero_le _⟩ (fun H locs hP hD hS => ?_)
    have hI_1 : kInv (g_turnOff M a b) := i_turnOff hI (by omega) (by omega)
    refine lv_istore (lv' := [(4, .int (g_cnt (g_turnOff M a b) a)), (3, .int (nI b)), (2, .int (nI a)), (0, .ref (z 0)), (1, .int (nI o))]) hx hcd dX7_does_202 hl (by decide) rfl (fun ls hl => ?_)
    refine lv_goto (tgt := 219) hx hcd dX7_does_204 (by decide) ?_
    refine lv_iload hx hcd dX7_does_219 (lv_at hl 0 rfl) ?_
    refine lv_if_lt (tgt := 228) hx hcd dX7_does_221 (by decide) (fun (c_221 : (g_cnt (g_turnOff M a b) a) < 0) => absurd c_221 (cnt_nn (i_turnOff hI ha (by omega)) ha)) (fun (c_221 : ¬ (g_cnt (g_turnOff M a b) a) < 0) => ?_)
    refine lv_iconst (v := nI 1) hx hcd dX7_does_224 (by decide) ?_
    refine lv_goto (tgt := 229) hx hcd dX7_does_225 (by decide) ?_
    exact kr_zret hx hcd hr hlocks hK hP hD hS rfl rfl rfl dX7_does_229

set_option maxHeartbeats 4000000 in
set_option maxRecDepth 100000 in
theorem c_X7_does__c100 (l : Launch) (D : va_G) (cI cB cW cL : ClassId) (z : Nat → Nat) (x : Nat → Int32) (hh : Int64) (Sp Ot Sv Tx : Nat → Int32) (sz : Nat) (M : kM) (o : Nat) (a b : Nat) (hI : kInv M) (hT : kTx Tx) (ho : o < 25) (hlc : ch Tx (4 * o) = 100) (e1 : nI (ch Tx (4 * o + 1)) - 48 = nI a) (e2 : nI (ch Tx (4 * o + 2)) - 48 = nI b) (ha : a < 10) (hb : b < 10) : kMi l yX7_does wsX7_does ({ frames := 5, cells := 0, slots := 0, locals := 118 }) D vwCl (kT cI cB cW cL) sz [.ref (z 0), .int (nI o)] (wMA cI z x hh M Sp Ot Sv Tx) (wMA cI z x hh (g_del (10 * a + b) M) Sp Ot Sv Tx) 1 := by
  refine kr_ofi (cc := cX7_does) (maxL := 5) (ret := (some .boolean)) (by decide) rfl (Nat.le_of_ble_eq_true rfl) ?_
  intro pp ee ss mm args below meth cc AA ls hx hcd hr hts hown hlocks hml hK hP hD hA hl
  have hS : va_S AA ss.heap ss.heap [] := va_S.rf
  have hown : ss.vm.findClass RX7 = some mm.cls := hown
  have hl : lv_has ls 5 [(0, .ref (z 0)), (1, .int (nI o))] := hl
  have uX7 : ∀ w ∈ u_ws RX7 TX7 10, w ∈ wsX7_does := by decide +kernel
  have bd := delC_le (10 * a + b) M
  refine lv_aload_n hx hcd dX7_does_0 rfl (lv_at hl 0 rfl) ?_
  refine kr_get hx hcd hts uX7 hown hK hP 0 rfl rfl 5 (by decide) (by decide +kernel) (v := .ref (z 5)) rfl dX7_does_1 ?_
  refine lv_iconst (v := nI 4) hx hcd dX7_does_4 (by decide) ?_
  refine lv_iload_n hx hcd dX7_does_5 rfl (lv_at hl 1 rfl) ?_
  refine kr_mul hx hcd dX7_does_6 ?_
  refine lv_iconst (v := nI 1) hx hcd dX7_does_7 (by decide) ?_
  refine kr_add hx hcd dX7_does_8 ?_
  refine kr_iald hx hcd hK hP 5 0 rfl rfl (v := Tx (1 + 4 * o)) (by omega) (by decide) (congrArg Tx (by omega)) dX7_does_9 ?_
  refine kr_top (w := nI (ch Tx (4 * o + 1))) (by rw [Nat.add_comm]; exact t_ch hT (by omega)) ?_
  refine lv_bipush (v := nI 48) hx hcd dX7_does_10 (by decide) ?_
  refine lv_isub hx hcd dX7_does_12 ?_
  refine kr_top (w := nI a) e1 ?_
  refine lv_istore_n (lv' := [(2, .int (nI a)), (0, .ref (z 0)), (1, .int (nI o))]) hx hcd dX7_does_13 rfl hl (by decide) rfl (fun ls hl => ?_)
  refine lv_aload_n hx hcd dX7_does_14 rfl (lv_at hl 1 rfl) ?_
  refine kr_get hx hcd hts uX7 hown hK hP 0 rfl rfl 5 (by decide) (by decide +kernel) (v := .ref (z 5)) rfl dX7_does_15 ?_
  refine lv_iconst (v := nI 4) hx hcd dX7_does_18 (by decide) ?_
  refine lv_iload_n hx hcd dX7_does_19 rfl (lv_at hl 2 rfl) ?_
  refine kr_mul hx hcd dX7_does_20 ?_
  refine lv_iconst (v := nI 2) hx hcd dX7_does_21 (by decide) ?_
  refine kr_add hx hcd dX7_does_22 ?_
  refine kr_iald hx hcd hK hP 5 0 rfl rfl (v := Tx (2 + 4 * o)) (by omega) (by decide) (congrArg Tx (by omega)) dX7_does_23 ?_
  refine kr_top (w := nI (ch Tx (4 * o + 2))) (by rw [Nat.add_comm]; exact t_ch hT (by omega)) ?_
  refine lv_bipush (v := nI 48) hx hcd dX7_does_24 (by decide) ?_
  refine lv_isub hx hcd dX7_does_26 ?_
  refine kr_top (w := nI b) e2 ?_
  refine lv_istore_n (lv' := [(3, .int (nI b)), (2, .int (nI a)), (0, .ref (z 0)), (1, .int (nI o))]) hx hcd dX7_does_27 rfl hl (by decide) rfl (fun ls hl => ?_)
  refine lv_iconst (v := nI 0) hx hcd dX7_does_28 (by decide) ?_
  refine lv_istore (lv' := [(4, .int (nI 0)), (3, .int (nI b)), (2, .int (nI a)), (0, .ref (z 0)), (1, .int (nI o))]) hx hcd dX7_does_29 hl (by decide) rfl (fun ls hl => ?_)
  refine lv_aload_n hx hcd dX7_does_31 rfl (lv_at hl 3 rfl) ?_
  refine kr_get hx hcd hts uX7 hown hK hP 0 rfl rfl 5 (by decide) (by decide +kernel) (v := .ref (z 5)) rfl dX7_does_32 ?_
  refine lv_iconst (v := nI 4) hx hcd dX7_does_35 (by decide) ?_
  refine lv_iload_n hx hcd dX7_does_36 rfl (lv_at hl 4 rfl) ?_
  refine kr_mul hx hcd dX7_does_37 ?_
  refine kr_iald hx hcd hK hP 5 0 rfl rfl (v := Tx (4 * o)) (by omega) (by decide) (congrArg Tx (by omega)) dX7_does_38 ?_
  refine kr_top (w := nI 100) ((t_ch hT (by omega)).trans (congrArg nI hlc)) ?_
  skip
  · refine lv_tableIn (x := nI 100) (off := 168) (tgt := 207) hx hcd dX7_does_39 (by decide) (by decide) (by decide) (by decide) ?_
    refine lv_aload_n hx hcd dX7_does_207 rfl (lv_at hl 3 rfl) ?_
    refine lv_bipush (v := nI 10) hx hcd dX7_does_208 (by decide) ?_
    refine lv_iload_n hx hcd dX7_does_210 rfl (lv_at hl 2 rfl) ?_
    refine kr_mul hx hcd dX7_does_211 ?_
    refine lv_iload_n hx hcd dX7_does_212 rfl (lv_at hl 1 rfl) ?_
    refine kr_add hx hcd dX7_does_213 ?_
    refine kr_Vi (As := [.int (nI ((10 * a) + b))]) (rest := []) (ws2 := wMA cI z x hh (g_del ((10 * a) + b) M) Sp Ot Sv Tx) (q := (RX7, TX7, 10)) ⟨hx, hcd, hml, hown, hts⟩ (c_X7_delivers l D cI cB cW cL z x hh _ M ((10 * a) + b) hI (by omega)) (cwV 1 hts gX7_does_X7_delivers rfl rfl rfl (by decide +kernel) ⟨Nat.le_of_ble_eq_true rfl, Nat.le_of_ble_eq_true rfl⟩) hK hP hD hS hA [0, 1] wMA_MoC (by decide) wMo_adr2 wMA_Mo 0 rfl rfl rfl hl.1 rfl (Nat.le_of_ble_eq_true rfl) dX7_does_214 ⟨Nat.zero_le _, Nat.zero_le _⟩ (fun H locs hP hD hS => ?_)
    have hI_1 : kInv (g_del ((10 * a) + b) M) := i_del _ hI
    refine lv_istore (lv' := [(4, .int (nI (g_delC ((10 * a) + b) M))), (3, .int (nI b)), (2, .int (nI a)), (0, .ref (z 0)), (1, .int (nI o))]) hx hcd dX7_does_217 hl (by decide) rfl (fun ls hl => ?_)
    refine lv_iload hx hcd dX7_does_219 (lv_at hl 0 rfl) ?_
    refine kr_zlt (tgt := 228) hx hcd (by omega) dX7_does_221 (by decide) ?_
    refine lv_iconst (v := nI 1) hx hcd dX7_does_224 (by decide) ?_
    refine lv_goto (tgt := 229) hx hcd dX7_does_225 (by decide) ?_
    exact kr_zret hx hcd hr hlocks hK hP hD hS rfl rfl (congrArg (fun M9 => wMA cI z x hh M9 Sp Ot Sv Tx) (show g_del ((10 * a) + b) M = g_del (10 * a + b) M from rfl)) dX7_does_229

set_option maxHeartbeats 4000000 in
set_option maxRecDepth 100000 in
theorem c_X7_does__c111n (l : Launch) (D : va_G) (cI cB cW cL : ClassId) (z : Nat → Nat) (x : Nat → Int32) (hh : Int64) (Sp Ot Sv Tx : Nat → Int32) (sz : Nat) (M : kM) (o : Nat) (a b : Nat) (hI : kInv M) (hT : kTx Tx) (ho : o < 25) (hlc : ch Tx (4 * o) = 111) (e1 : nI (ch Tx (4 * o + 1)) - 48 = nI a) (e2 : nI (ch Tx (4 * o + 2)) - 48 = nI b) (ha : a < 6) (hb : b < 3) (hon : g_on M a b = false) : kMi l yX7_does wsX7_does ({ frames := 5, cells := 0, slots := 0, locals := 118 }) D vwCl (kT cI cB cW cL) sz [.ref (z 0), .int (nI o)] (wMA cI z x hh M Sp Ot Sv Tx) (wMA cI z x hh M Sp Ot Sv Tx) 0 := by
  refine kr_ofi (cc := cX7_does) (maxL := 5) (ret := (some .boolean)) (by decide) rfl (Nat.le_of_ble_eq_true rfl) ?_
  intro pp ee ss mm args below meth cc AA ls hx hcd hr hts hown hlocks hml hK hP hD hA hl
  have hS : va_S AA ss.heap ss.heap [] := va_S.rf
  have hown : ss.vm.findClass RX7 = some mm.cls := hown
  have hl : lv_has ls 5 [(0, .ref (z 0)), (1, .int (nI o))] := hl
  have uX7 : ∀ w ∈ u_ws RX7 TX7 10, w ∈ wsX7_does := by decide +kernel
  refine lv_aload_n hx hcd dX7_does_0 rfl (lv_at hl 0 rfl) ?_
  refine kr_get hx hcd hts uX7 hown hK hP 0 rfl rfl 5 (by decide) (by decide +kernel) (v := .ref (z 5)) rfl dX7_does_1 ?_
  refine lv_iconst (v := nI 4) hx hcd dX7_does_4 (by decide) ?_
  refine lv_iload_n hx hcd dX7_does_5 rfl (lv_at hl 1 rfl) ?_
  refine kr_mul hx hcd dX7_does_6 ?_
  refine lv_iconst (v := nI 1) hx hcd dX7_does_7 (by decide) ?_
  refine kr_add hx hcd dX7_does_8 ?_
  refine kr_iald hx hcd hK hP 5 0 rfl rfl (v := Tx (1 + 4 * o)) (by omega) (by decide) (congrArg Tx (by omega)) dX7_does_9 ?_
  refine kr_top (w := nI (ch Tx (4 * o + 1))) (by rw [Nat.add_comm]; exact t_ch hT (by omega)) ?_
  refine lv_bipush (v := nI 48) hx hcd dX7_does_10 (by decide) ?_
  refine lv_isub hx hcd dX7_does_12 ?_
  refine kr_top (w := nI a) e1 ?_
  refine lv_istore_n (lv' := [(2, .int (nI a)), (0, .ref (z 0)), (1, .int (nI o))]) hx hcd dX7_does_13 rfl hl (by decide) rfl (fun ls hl => ?_)
  refine lv_aload_n hx hcd dX7_does_14 rfl (lv_at hl 1 rfl) ?_
  refine kr_get hx hcd hts uX7 hown hK hP 0 rfl rfl 5 (by decide) (by decide +kernel) (v := .ref (z 5)) rfl dX7_does_15 ?_
  refine lv_iconst (v := nI 4) hx hcd dX7_does_18 (by decide) ?_
  refine lv_iload_n hx hcd dX7_does_19 rfl (lv_at hl 2 rfl) ?_
  refine kr_mul hx hcd dX7_does_20 ?_
  refine lv_iconst (v := nI 2) hx hcd dX7_does_21 (by decide) ?_
  refine kr_add hx hcd dX7_does_22 ?_
  refine kr_iald hx hcd hK hP 5 0 rfl rfl (v := Tx (2 + 4 * o)) (by omega) (by decide) (congrArg Tx (by omega)) dX7_does_23 ?_
  refine kr_top (w := nI (ch Tx (4 * o + 2))) (by rw [Nat.add_comm]; exact t_ch hT (by omega)) ?_
  refine lv_bipush (v := nI 48) hx hcd dX7_does_24 (by decide) ?_
  refine lv_isub hx hcd dX7_does_26 ?_
  refine kr_top (w := nI b) e2 ?_
  refine lv_istore_n (lv' := [(3, .int (nI b)), (2, .int (nI a)), (0, .ref (z 0)), (1, .int (nI o))]) hx hcd dX7_does_27 rfl hl (by decide) rfl (fun ls hl => ?_)
  refine lv_iconst (v := nI 0) hx hcd dX7_does_28 (by decide) ?_
  refine lv_istore (lv' := [(4, .int (nI 0)), (3, .int (nI b)), (2, .int (nI a)), (0, .ref (z 0)), (1, .int (nI o))]) hx hcd dX7_does_29 hl (by decide) rfl (fun ls hl => ?_)
  refine lv_aload_n hx hcd dX7_does_31 rfl (lv_at hl 3 rfl) ?_
  refine kr_get hx hcd hts uX7 hown hK hP 0 rfl rfl 5 (by decide) (by decide +kernel) (v := .ref (z 5)) rfl dX7_does_32 ?_
  refine lv_iconst (v := nI 4) hx hcd dX7_does_35 (by decide) ?_
  refine lv_iload_n hx hcd dX7_does_36 rfl (lv_at hl 4 rfl) ?_
  refine kr_mul hx hcd dX7_does_37 ?_
  refine kr_iald hx hcd hK hP 5 0 rfl rfl (v := Tx (4 * o)) (by omega) (by decide) (congrArg Tx (by omega)) dX7_does_38 ?_
  refine kr_top (w := nI 111) ((t_ch hT (by omega)).trans (congrArg nI hlc)) ?_
  skip
  · refine lv_tableIn (x := nI 111) (off := 146) (tgt := 185) hx hcd dX7_does_39 (by decide) (by decide) (by decide) (by decide) ?_
    refine lv_aload_n hx hcd dX7_does_185 rfl (lv_at hl 3 rfl) ?_
    refine lv_iload_n hx hcd dX7_does_186 rfl (lv_at hl 2 rfl) ?_
    refine lv_iload_n hx hcd dX7_does_187 rfl (lv_at hl 1 rfl) ?_
    refine kr_Vi (As := [.int (nI a), .int (nI b)]) (rest := []) (ws2 := wMA cI z x hh M Sp Ot Sv Tx) (q := (RX7, TX7, 10)) ⟨hx, hcd, hml, hown, hts⟩ (c_X7_isOn l D cI cB cW cL z x hh _ M a b (by omega) (by omega)) (cwV 2 hts gX7_does_X7_isOn rfl rfl rfl (by decide +kernel) ⟨Nat.le_of_ble_eq_true rfl, Nat.le_of_ble_eq_true rfl⟩) hK hP hD hS hA [0, 1] wMA_MoC (by decide) wMo_adr2 wMA_Mo 0 rfl rfl rfl hl.1 rfl (Nat.le_of_ble_eq_true rfl) dX7_does_188 ⟨Nat.zero_le _, Nat.zero_le _⟩ (fun H locs hP hD hS => ?_)
    refine kr_bne (tgt := 196) hx hcd dX7_does_191 (by decide) (fun (c_191 : g_on M a b = true) => absurd c_191 (by rw [hon]; decide)) (fun (c_191 : g_on M a b = false) => ?_)
    refine lv_iconst (v := nI 0) hx hcd dX7_does_194 (by decide) ?_
    exact kr_zret hx hcd hr hlocks hK hP hD hS rfl rfl rfl dX7_does_195
theorem c_X7_does__t (l : Launch) (D : va_G) (cI cB cW cL : ClassId) (z : Nat → Nat) (x : Nat → Int32) (hh : Int64) (Sp Ot Sv Tx : Nat → Int32) (sz : Nat) (M : kM) (o : Nat) (a b : Nat) (hI : kInv M) (hT : kTx Tx) (ho : o < 25) (hO : kOrd (ch Tx (4 * o)) a b) (e1 : nI (ch Tx (4 * o + 1)) - 48 = nI a) (e2 : nI (ch Tx (4 * o + 2)) - 48 = nI b) (hk : g_ok (ch Tx (4 * o)) a b M = true) : kMi l yX7_does wsX7_does ({ frames := 5, cells := 0, slots := 0, locals := 118 }) D vwCl (kT cI cB cW cL) sz [.ref (z 0), .int (nI o)] (wMA cI z x hh M Sp Ot Sv Tx) (wMA cI z x hh (g_do (ch Tx (4 * o)) a b M) Sp Ot Sv Tx) (nI 1) := by
  rcases hO with ⟨q, ha, hb, hne⟩ | ⟨q, ha, hb⟩ | ⟨q, ha, hb⟩
  · rcases q with q | q | q | q
    · rw [show g_do (ch Tx (4 * o)) a b M = g_ask M a b by rw [q]; rfl]
      exact c_X7_does__c97 l D cI cB cW cL z x hh Sp Ot Sv Tx sz M o a b hI hT ho q e1 e2 ha hb hne
    · rw [show g_do (ch Tx (4 * o)) a b M = g_grant M a b by rw [q]; rfl]
      exact c_X7_does__c103 l D cI cB cW cL z x hh Sp Ot Sv Tx sz M o a b hI hT ho q e1 e2 ha hb hne
    · rw [show g_do (ch Tx (4 * o)) a b M = g_refuse M a b by rw [q]; rfl]
      exact c_X7_does__c114 l D cI cB cW cL z x hh Sp Ot Sv Tx sz M o a b hI hT ho q e1 e2 ha hb hne
    · rw [show g_do (ch Tx (4 * o)) a b M = g_stop M a b by rw [q]; rfl]
      exact c_X7_does__c115 l D cI cB cW cL z x hh Sp Ot Sv Tx sz M o a b hI hT ho q e1 e2 ha hb hne
  · rcases q with q | q
    · rw [show g_do (ch Tx (4 * o)) a b M = g_turnOn M a b (nI 0) 0 by rw [q]; rfl]
      exact c_X7_does__c105 l D cI cB cW cL z x hh Sp Ot Sv Tx sz M o a b hI hT ho q e1 e2 ha hb
    · rw [show g_do (ch Tx (4 * o)) a b M = g_turnOff M a b by rw [q]; rfl]
      rw [q] at hk
      exact c_X7_does__c111 l D cI cB cW cL z x hh Sp Ot Sv Tx sz M o a b hI hT ho q e1 e2 ha hb hk
  · rw [show g_do (ch Tx (4 * o)) a b M = g_del (10 * a + b) M by rw [q]; rfl]
    exact c_X7_does__c100 l D cI cB cW cL z x hh Sp Ot Sv Tx sz M o a b hI hT ho q e1 e2 ha hb
theorem c_X7_does__f (l : Launch) (D : va_G) (cI cB cW cL : ClassId) (z : Nat → Nat) (x : Nat → Int32) (hh : Int64) (Sp Ot Sv Tx : Nat → Int32) (sz : Nat) (M : kM) (o : Nat) (a b : Nat) (hI : kInv M) (hT : kTx Tx) (ho : o < 25) (hO : kOrd (ch Tx (4 * o)) a b) (e1 : nI (ch Tx (4 * o + 1)) - 48 = nI a) (e2 : nI (ch Tx (4 * o + 2)) - 48 = nI b) (hk : g_ok (ch Tx (4 * o)) a b M = false) : kMi l yX7_does wsX7_does ({ frames := 5, cells := 0, slots := 0, locals := 118 }) D vwCl (kT cI cB cW cL) sz [.ref (z 0), .int (nI o)] (wMA cI z x hh M Sp Ot Sv Tx) (wMA cI z x hh M Sp Ot Sv Tx) (nI 0) := by
  have q : ch Tx (4 * o) = 111 := by
    unfold g_ok at hk
    by_cases e : ch Tx (4 * o) = 111
    · exact e
    · rw [if_neg e] at hk
      cases hk
  rw [q] at hO hk
  have hab : a < 6 ∧ b < 3 := by
    rcases hO with ⟨q9, -⟩ | ⟨-, ha, hb⟩ | ⟨q9, -⟩
    · omega
    · exact ⟨ha, hb⟩
    · omega
  exact c_X7_does__c111n l D cI cB cW cL z x hh Sp Ot Sv Tx sz M o a b hI hT ho q e1 e2 hab.1 hab.2 hk
