set_option maxHeartbeats 4000000 in
set_option maxRecDepth 100000 in
theorem c_X7_areUsers (l : Launch) (D : va_G) (cI cB cW cL : ClassId)  (sz : Nat) (M : kM) (c : Nat) (hc : c < 128) : kMi l yX7_areUsers wsX7_areUsers ({ frames := 0, cells := 0, slots := 0, locals := 0 }) D vwCl (kT cI cB cW cL) sz [.int (nI c)] ([]) ([]) (kI (c_usr c)) := by
  refine kr_ofi (cc := cX7_areUsers) (maxL := 1) (ret := (some .boolean)) (by decide) rfl (Nat.le_of_ble_eq_true rfl) ?_
  intro pp ee ss mm args below meth cc AA ls hx hcd hr hts hown hlocks hml hK hP hD hA hl
  have hS : va_S AA ss.heap ss.heap [] := va_S.rf
  have hown : ss.vm.findClass RX7 = some mm.cls := hown
  have hl : lv_has ls 1 [(0, .int (nI c))] := hl
  refine lv_iload_n hx hcd dX7_areUsers_0 rfl (lv_at hl 0 rfl) ?_
  refine lv_bipush (v := nI 97) hx hcd dX7_areUsers_1 (by decide) ?_
  refine kr_ceq (tgt := 24) hx hcd (by omega) (by omega) dX7_areUsers_3 (by decide) (fun (c_3 : c = 97) => ?_) (fun (c_3 : ¬ c = 97) => ?_)
  · refine lv_iconst (v := nI 1) hx hcd dX7_areUsers_24 (by decide) ?_
    refine lv_goto (tgt := 29) hx hcd dX7_areUsers_25 (by decide) ?_
    exact kr_zret hx hcd hr hlocks hK hP hD hS rfl (by simp [c_usr, kI, c_3]; rfl) rfl dX7_areUsers_29
  · refine lv_iload_n hx hcd dX7_areUsers_6 rfl (lv_at hl 0 rfl) ?_
    refine lv_bipush (v := nI 103) hx hcd dX7_areUsers_7 (by decide) ?_
    refine kr_ceq (tgt := 24) hx hcd (by omega) (by omega) dX7_areUsers_9 (by decide) (fun (c_9 : c = 103) => ?_) (fun (c_9 : ¬ c = 103) => ?_)
    · refine lv_iconst (v := nI 1) hx hcd dX7_areUsers_24 (by decide) ?_
      refine lv_goto (tgt := 29) hx hcd dX7_areUsers_25 (by decide) ?_
      exact kr_zret hx hcd hr hlocks hK hP hD hS rfl (by simp [c_usr, kI, c_3, c_9]; rfl) rfl dX7_areUsers_29
    · refine lv_iload_n hx hcd dX7_areUsers_12 rfl (lv_at hl 0 rfl) ?_
      refine lv_bipush (v := nI 114) hx hcd dX7_areUsers_13 (by decide) ?_
      refine kr_ceq (tgt := 24) hx hcd (by omega) (by omega) dX7_areUsers_15 (by decide) (fun (c_15 : c = 114) => ?_) (fun (c_15 : ¬ c = 114) => ?_)
      · refine lv_iconst (v := nI 1) hx hcd dX7_areUsers_24 (by decide) ?_
        refine lv_goto (tgt := 29) hx hcd dX7_areUsers_25 (by decide) ?_
        exact kr_zret hx hcd hr hlocks hK hP hD hS rfl (by simp [c_usr, kI, c_3, c_9, c_15]; rfl) rfl dX7_areUsers_29
      · refine lv_iload_n hx hcd dX7_areUsers_18 rfl (lv_at hl 0 rfl) ?_
        refine lv_bipush (v := nI 115) hx hcd dX7_areUsers_19 (by decide) ?_
        refine kr_cne (tgt := 28) hx hcd (by omega) (by omega) dX7_areUsers_21 (by decide) (fun (c_21 : ¬ c = 115) => ?_) (fun (c_21 : c = 115) => ?_)
        · refine lv_iconst (v := nI 0) hx hcd dX7_areUsers_28 (by decide) ?_
          exact kr_zret hx hcd hr hlocks hK hP hD hS rfl (by simp [c_usr, kI, c_3, c_9, c_15, c_21]; rfl) rfl dX7_areUsers_29
        · refine lv_iconst (v := nI 1) hx hcd dX7_areUsers_24 (by decide) ?_
          refine lv_goto (tgt := 29) hx hcd dX7_areUsers_25 (by decide) ?_
          exact kr_zret hx hcd hr hlocks hK hP hD hS rfl (by simp [c_usr, kI, c_3, c_9, c_15, c_21]; rfl) rfl dX7_areUsers_29

set_option maxHeartbeats 4000000 in
set_option maxRecDepth 100000 in
theorem c_X7_isDigit (l : Launch) (D : va_G) (cI cB cW cL : ClassId) (z : Nat → Nat) (x : Nat → Int32) (hh : Int64) (Sp Ot Sv Tx : Nat → Int32) (sz : Nat) (M : kM) (mo : Nat) (i L : Nat) (hT : kTx Tx) (h8 : x 8 = nI i) (h6 : x 6 = nI L) (hL : L ≤ 100) (hi : i ≤ 100) (hmo : mo < 10) : kMi l yX7_isDigit wsX7_isDigit ({ frames := 1, cells := 0, slots := 0, locals := 22 }) D vwCl (kT cI cB cW cL) sz [.ref (z 0), .int (nI mo)] (wMA cI z x hh M Sp Ot Sv Tx) (wMA cI z x hh M Sp Ot Sv Tx) (kI (decide (i < L) && c_dig (ch Tx i) (mo + 1))) := by
  refine kr_ofi (cc := cX7_isDigit) (maxL := 2) (ret := (some .boolean)) (by decide) rfl (Nat.le_of_ble_eq_true rfl) ?_
  intro pp ee ss mm args below meth cc AA ls hx hcd hr hts hown hlocks hml hK hP hD hA hl
  have hS : va_S AA ss.heap ss.heap [] := va_S.rf
  have hown : ss.vm.findClass RX7 = some mm.cls := hown
  have hl : lv_has ls 2 [(0, .ref (z 0)), (1, .int (nI mo))] := hl
  have uX7 : ∀ w ∈ u_ws RX7 TX7 10, w ∈ wsX7_isDigit := by decide +kernel
  refine lv_aload_n hx hcd dX7_isDigit_0 rfl (lv_at hl 0 rfl) ?_
  refine kr_get hx hcd hts uX7 hown hK hP 0 rfl rfl 8 (by decide) (by decide +kernel) (v := .int (x 8)) rfl dX7_isDigit_1 ?_
  refine kr_top (w := nI i) h8 ?_
  refine lv_aload_n hx hcd dX7_isDigit_4 rfl (lv_at hl 0 rfl) ?_
  refine kr_get hx hcd hts uX7 hown hK hP 0 rfl rfl 6 (by decide) (by decide +kernel) (v := .int (x 6)) rfl dX7_isDigit_5 ?_
  refine kr_top (w := nI L) h6 ?_
  refine kr_cge (tgt := 36) hx hcd (by omega) (by omega) dX7_isDigit_8 (by decide) (fun (c_8 : L ≤ i) => ?_) (fun (c_8 : i < L) => ?_)
  · refine lv_iconst (v := nI 0) hx hcd dX7_isDigit_36 (by decide) ?_
    exact kr_zret hx hcd hr hlocks hK hP hD hS rfl (by first | (rw [show decide (i < L) = false from decide_eq_false (by omega)]; rfl) | (rw [show decide (i < L) = true from decide_eq_true (by omega)]; simp [kI, c_8]; rfl)) rfl dX7_isDigit_37
  · refine lv_aload_n hx hcd dX7_isDigit_11 rfl (lv_at hl 0 rfl) ?_
    refine kr_get hx hcd hts uX7 hown hK hP 0 rfl rfl 5 (by decide) (by decide +kernel) (v := .ref (z 5)) rfl dX7_isDigit_12 ?_
    refine lv_aload_n hx hcd dX7_isDigit_15 rfl (lv_at hl 0 rfl) ?_
    refine kr_get hx hcd hts uX7 hown hK hP 0 rfl rfl 8 (by decide) (by decide +kernel) (v := .int (x 8)) rfl dX7_isDigit_16 ?_
    refine kr_top (w := nI i) h8 ?_
    refine kr_iald hx hcd hK hP 5 0 rfl rfl (v := Tx i) (by omega) (by decide) (congrArg Tx (by omega)) dX7_isDigit_19 ?_
    refine kr_top (w := nI (ch Tx i)) (t_ch hT (by omega)) ?_
    refine lv_bipush (v := nI 48) hx hcd dX7_isDigit_20 (by decide) ?_
    refine lv_bipush (v := nI 48) hx hcd dX7_isDigit_22 (by decide) ?_
    refine lv_iload_n hx hcd dX7_isDigit_24 rfl (lv_at hl 1 rfl) ?_
    refine kr_add hx hcd dX7_isDigit_25 ?_
    refine kr_Si (As := [.int (nI (ch Tx i)), .int (nI 48), .int (nI (48 + mo))]) (rest := []) (ws2 := wMA cI z x hh M Sp Ot Sv Tx) ⟨hx, hcd, hml, hown, hts⟩ (c_X7_in l D cI cB cW cL  _ M (nI (ch Tx i)) 48 (nI (48 + mo))) (va_cwS 3 hts gX7_isDigit_X7_in rfl rfl rfl (by decide +kernel) ⟨Nat.le_of_ble_eq_true rfl, Nat.le_of_ble_eq_true rfl⟩) hK hP hD hS hA [] rfl (by decide) rfl rfl rfl hl.1 rfl (Nat.le_of_ble_eq_true rfl) dX7_isDigit_26 ⟨Nat.zero_le _, Nat.zero_le _⟩ (fun H locs hP hD hS => ?_)
    refine kr_top (w := kI (c_dig (ch Tx i) (mo + 1))) (congrArg kI (gin_dig (t_lt hT (by omega)) (by omega))) ?_
    refine kr_beq (tgt := 36) hx hcd dX7_isDigit_29 (by decide) (fun (c_29 : c_dig (ch Tx i) (mo + 1) = false) => ?_) (fun (c_29 : c_dig (ch Tx i) (mo + 1) = true) => ?_)
    · refine lv_iconst (v := nI 0) hx hcd dX7_isDigit_36 (by decide) ?_
      exact kr_zret hx hcd hr hlocks hK hP hD hS rfl (by first | (rw [show decide (i < L) = false from decide_eq_false (by omega)]; rfl) | (rw [show decide (i < L) = true from decide_eq_true (by omega)]; simp [kI, c_8, c_29]; rfl)) rfl dX7_isDigit_37
    · refine lv_iconst (v := nI 1) hx hcd dX7_isDigit_32 (by decide) ?_
      refine lv_goto (tgt := 37) hx hcd dX7_isDigit_33 (by decide) ?_
      exact kr_zret hx hcd hr hlocks hK hP hD hS rfl (by first | (rw [show decide (i < L) = false from decide_eq_false (by omega)]; rfl) | (rw [show decide (i < L) = true from decide_eq_true (by omega)]; simp [kI, c_8, c_29]; rfl)) rfl dX7_isDigit_37
