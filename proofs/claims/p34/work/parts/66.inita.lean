/-- a row filled from below -/
def g_fl (v : Int32) (F : Nat → Int32) (n : Nat) : Nat → Int32 := fun i => if i < n then v else F i
theorem fl_0 {v : Int32} {F : Nat → Int32} : g_fl v F 0 = F := by
  funext i
  exact if_neg (by omega)
theorem fl_up {v : Int32} {F : Nat → Int32} {n : Nat} : upd (g_fl v F n) n v = g_fl v F (n + 1) := by
  funext i
  unfold upd g_fl
  by_cases h : i = n
  · rw [if_pos h, if_pos (by omega)]
  · rw [if_neg h]
    by_cases h2 : i < n
    · rw [if_pos h2, if_pos (by omega)]
    · rw [if_neg h2, if_neg (by omega)]

set_option maxHeartbeats 4000000 in
set_option maxRecDepth 100000 in
theorem c_J7_fill_53178 (l : Launch) (D : va_G) (cI cB cW cL : ClassId) (ad na : Nat) (F : Nat → Int32) (sz : Nat) (M : kM) (v : Int32) (hna : na < 100000) : kMv l yJ7_fill_53178 wsJ7_fill_53178 ({ frames := 0, cells := 0, slots := 0, locals := 0 }) D vwCl (kT cI cB cW cL) sz [.ref ad, .int v] (wAr cI ad na F) (wAr cI ad na (g_fl v F na)) := by
  refine kr_ofv (cc := cJ7_fill_53178) (maxL := 4) (ret := none) (by decide) rfl (Nat.le_of_ble_eq_true rfl) ?_
  intro pp ee ss mm args below meth cc AA ls hx hcd hr hts hown hlocks hml hK hP hD hA hl
  have hS : va_S AA ss.heap ss.heap [] := va_S.rf
  have hown : ss.vm.findClass RJ7 = some mm.cls := hown
  have hl : lv_has ls 4 [(0, .ref ad), (1, .int v)] := hl
  refine lv_iconst (v := nI 0) hx hcd dJ7_fill_53178_0 (by decide) ?_
  refine lv_istore_n (lv' := [(2, .int (nI 0)), (0, .ref ad), (1, .int v)]) hx hcd dJ7_fill_53178_1 rfl hl (by decide) rfl (fun ls hl => ?_)
  refine lv_aload_n hx hcd dJ7_fill_53178_2 rfl (lv_at hl 1 rfl) ?_
  refine va_alen (v := nI na) hx hcd hK hP 0 0 rfl rfl rfl dJ7_fill_53178_3 ?_
  refine lv_istore_n (lv' := [(3, .int (nI na)), (2, .int (nI 0)), (0, .ref ad), (1, .int v)]) hx hcd dJ7_fill_53178_4 rfl hl (by decide) rfl (fun ls hl => ?_)
  obtain ⟨hP, hD⟩ := kr_re (ws2 := wAr cI ad na (g_fl v F 0)) hP hD (congrArg (fun c9 => wAr cI ad na c9) fl_0.symm)
  refine kr_up (fun i => wAr cI ad na (g_fl v F i)) (fun i => [(0, .ref ad), (1, .int v), (3, .int (nI na)), (2, .int (nI i))]) na (nL := 4) (fun i hi ih_5 H locs ls hP hD hS hl => ?_) (fun H locs ls hP hD hS hl => ?_) 0 (by omega) hP hD hS (lv_sub hl [2, 3, 0, 1] rfl)
  · have hl : lv_has ls 4 [(0, .ref ad), (1, .int v), (3, .int (nI na)), (2, .int (nI i))] := hl
    refine lv_iload_n hx hcd dJ7_fill_53178_5 rfl (lv_at hl 3 rfl) ?_
    refine lv_iload_n hx hcd dJ7_fill_53178_6 rfl (lv_at hl 2 rfl) ?_
    refine kr_cge (tgt := 20) hx hcd (by omega) (by omega) dJ7_fill_53178_7 (by decide) (fun (c_7 : na ≤ i) => absurd c_7 (by omega)) (fun (c_7 : i < na) => ?_)
    refine lv_aload_n hx hcd dJ7_fill_53178_10 rfl (lv_at hl 0 rfl) ?_
    refine lv_iload_n hx hcd dJ7_fill_53178_11 rfl (lv_at hl 3 rfl) ?_
    refine lv_iload_n hx hcd dJ7_fill_53178_12 rfl (lv_at hl 1 rfl) ?_
    refine kr_iast hx hcd hK hP hD hS 0 0 rfl rfl (by omega) (by omega) (congrArg (fun k9 => upd (g_fl v F i) k9 v) (by omega)) (ws2 := wAr cI ad na (upd (g_fl v F i) (i) v)) rfl dJ7_fill_53178_13 (fun H locs hP hD hS => ?_)
    refine kr_iinc (lv' := [(2, .int (nI (i + 1))), (0, .ref ad), (1, .int v), (3, .int (nI na))]) hx hcd dJ7_fill_53178_14 hl (k := 3) rfl (by decide) rfl (fun ls hl => ?_)
    refine lv_goto (tgt := 5) hx hcd dJ7_fill_53178_17 (by decide) ?_
    obtain ⟨hP, hD⟩ := kr_re (ws2 := wAr cI ad na (g_fl v F (i + 1))) hP hD (congrArg (fun c9 => wAr cI ad na c9) fl_up)
    exact ih_5 H locs ls hP hD hS (lv_sub hl [1, 2, 3, 0] rfl)
  · have hl : lv_has ls 4 [(0, .ref ad), (1, .int v), (3, .int (nI na)), (2, .int (nI na))] := hl
    refine lv_iload_n hx hcd dJ7_fill_53178_5 rfl (lv_at hl 3 rfl) ?_
    refine lv_iload_n hx hcd dJ7_fill_53178_6 rfl (lv_at hl 2 rfl) ?_
    refine kr_cge (tgt := 20) hx hcd (by omega) (by omega) dJ7_fill_53178_7 (by decide) (fun (c_7 : na ≤ na) => ?_) (fun (c_7 : na < na) => absurd c_7 (by omega))
    exact kr_vret hx hcd hr hlocks hK hP hD hS rfl dJ7_fill_53178_20

set_option maxHeartbeats 4000000 in
set_option maxRecDepth 100000 in
theorem c_X3_init (l : Launch) (D : va_G) (cI cB cW cL : ClassId) (sz h : Nat) : kMc l yX3_init wsX3_init ({ frames := 1, cells := 3, slots := 54, locals := 12 }) D vwCl (kT cI cB cW cL) sz h [(h, .inr (3, [.null, .null, .null]))] (fun _ => True) (fun q => q 1 = h) (fun q => wSe cI q g_M0) 3 54 := by
  refine kr_ofc (cc := cX3_init) (maxL := 1) (by decide) rfl rfl (Nat.le_of_ble_eq_true rfl) ?_
  intro pp ee ss mm args below meth cc AA ls hx hcd hr hin hts hown hlocks hml hZ hK hP hD hA hl
  have hS : va_S AA ss.heap ss.heap [] := va_S.rf
  have hown : ss.vm.findClass RX3 = some mm.cls := hown
  have uX3 : ∀ w ∈ u_ws RX3 TX3 3, w ∈ wsX3_init := by decide +kernel
  refine lv_aload_n hx hcd dX3_init_0 rfl (lv_at hl 0 rfl) ?_
  refine W.objInit hx hcd hown (hts (.methodLink RX3 3 objectInit) (by decide +kernel)) (hts (.instanceMethod objectInit) (by decide +kernel)) (hts (.code objectInit ⟨#[0xb1]⟩ 1 none) (by decide +kernel)) rfl (by rw [hml]; exact hl.1) rfl dX3_init_1 (Nat.le_of_ble_eq_true rfl) (Nat.le_of_ble_eq_true rfl) ?_
  refine W.eq (g2 := F0 mm 4 ls []) rfl ?_
  refine lv_aload_n hx hcd dX3_init_4 rfl (lv_at hl 0 rfl) ?_
  refine lv_bipush (v := nI 18) hx hcd dX3_init_5 (by decide) ?_
  refine kr_newa (atype := .int) (ty := .int) (cA := cI) hx hcd (hts (.arrayClass .int) (by decide +kernel)) 0 rfl rfl (fun _ h9 => h9) hK hP hD hS hA (k := 18) (a0 := (18, .inl (fun _ => 0))) (fun _ => rfl) (by decide) (by decide) (Nat.le_of_ble_eq_true rfl) (Nat.le_of_ble_eq_true rfl) dX3_init_7 (fun a1 H hP hD hS => ?_)
  refine W.widen (k := 1) (n := 18) (Nat.le_of_ble_eq_true rfl) (Nat.le_of_ble_eq_true rfl) ?_
  have hP : va_P D vwCl (([(h, .inr (3, [.null, .null, .null]))]) ++ [(a1, .inl (cI, 18, .inl (fun _ => 0)))]) H := hP
  have hD : va_D AA (([(h, .inr (3, [.null, .null, .null]))]) ++ [(a1, .inl (cI, 18, .inl (fun _ => 0)))]) := hD
  refine va_putF (ci := 3) (v := .ref a1) (ty := .array .int) (C := RX3) (T := TX3) (N := 3) hx hcd hts uX3 tyX3 tyX3_ok nmX3 hown hK hP hD hS 0 rfl rfl 0 (by decide) (hts (.fieldLink RX3 9 "PresenceGrants$Seats" "on" "[I") (by decide +kernel)) (fun _ h9 => h9) rfl hin rfl (by decide +kernel) rfl rfl (Nat.le_of_ble_eq_true rfl) dX3_init_9 (fun H locs hP hD hS => ?_)
  have hP : va_P D vwCl (([(h, .inr (3, [.ref a1, .null, .null]))]) ++ [(a1, .inl (cI, 18, .inl (fun _ => 0)))]) H := hP
  have hD : va_D AA (([(h, .inr (3, [.ref a1, .null, .null]))]) ++ [(a1, .inl (cI, 18, .inl (fun _ => 0)))]) := hD
  refine lv_aload_n hx hcd dX3_init_12 rfl (lv_at hl 0 rfl) ?_
  refine lv_bipush (v := nI 18) hx hcd dX3_init_13 (by decide) ?_
  refine kr_newa (atype := .int) (ty := .int) (cA := cI) hx hcd (hts (.arrayClass .int) (by decide +kernel)) 0 rfl rfl (fun _ h9 => h9) hK hP hD hS hA (k := 18) (a0 := (18, .inl (fun _ => 0))) (fun _ => rfl) (by decide) (by decide) (Nat.le_of_ble_eq_true rfl) (Nat.le_of_ble_eq_true rfl) dX3_init_15 (fun a2 H hP hD hS => ?_)
  refine W.widen (k := 2) (n := 36) (Nat.le_of_ble_eq_true rfl) (Nat.le_of_ble_eq_true rfl) ?_
  have hP : va_P D vwCl ((([(h, .inr (3, [.ref a1, .null, .null]))]) ++ [(a1, .inl (cI, 18, .inl (fun _ => 0)))]) ++ [(a2, .inl (cI, 18, .inl (fun _ => 0)))]) H := hP
  have hD : va_D AA ((([(h, .inr (3, [.ref a1, .null, .null]))]) ++ [(a1, .inl (cI, 18, .inl (fun _ => 0)))]) ++ [(a2, .inl (cI, 18, .inl (fun _ => 0)))]) := hD
  refine va_putF (ci := 3) (v := .ref a2) (ty := .array .int) (C := RX3) (T := TX3) (N := 3) hx hcd hts uX3 tyX3 tyX3_ok nmX3 hown hK hP hD hS 0 rfl rfl 1 (by decide) (hts (.fieldLink RX3 15 "PresenceGrants$Seats" "ranks" "[I") (by decide +kernel)) (fun _ h9 => h9) rfl hin rfl (by decide +kernel) rfl rfl (Nat.le_of_ble_eq_true rfl) dX3_init_17 (fun H locs hP hD hS => ?_)
  have hP : va_P D vwCl ((([(h, .inr (3, [.ref a1, .ref a2, .null]))]) ++ [(a1, .inl (cI, 18, .inl (fun _ => 0)))]) ++ [(a2, .inl (cI, 18, .inl (fun _ => 0)))]) H := hP
  have hD : va_D AA ((([(h, .inr (3, [.ref a1, .ref a2, .null]))]) ++ [(a1, .inl (cI, 18, .inl (fun _ => 0)))]) ++ [(a2, .inl (cI, 18, .inl (fun _ => 0)))]) := hD
  refine lv_aload_n hx hcd dX3_init_20 rfl (lv_at hl 0 rfl) ?_
  refine lv_bipush (v := nI 18) hx hcd dX3_init_21 (by decide) ?_
  refine kr_newa (atype := .int) (ty := .int) (cA := cI) hx hcd (hts (.arrayClass .int) (by decide +kernel)) 0 rfl rfl (fun _ h9 => h9) hK hP hD hS hA (k := 18) (a0 := (18, .inl (fun _ => 0))) (fun _ => rfl) (by decide) (by decide) (Nat.le_of_ble_eq_true rfl) (Nat.le_of_ble_eq_true rfl) dX3_init_23 (fun a3 H hP hD hS => ?_)
  refine W.widen (k := 3) (n := 54) (Nat.le_of_ble_eq_true rfl) (Nat.le_of_ble_eq_true rfl) ?_
  have hP : va_P D vwCl (((([(h, .inr (3, [.ref a1, .ref a2, .null]))]) ++ [(a1, .inl (cI, 18, .inl (fun _ => 0)))]) ++ [(a2, .inl (cI, 18, .inl (fun _ => 0)))]) ++ [(a3, .inl (cI, 18, .inl (fun _ => 0)))]) H := hP
  have hD : va_D AA (((([(h, .inr (3, [.ref a1, .ref a2, .null]))]) ++ [(a1, .inl (cI, 18, .inl (fun _ => 0)))]) ++ [(a2, .inl (cI, 18, .inl (fun _ => 0)))]) ++ [(a3, .inl (cI, 18, .inl (fun _ => 0)))]) := hD
  refine va_putF (ci := 3) (v := .ref a3) (ty := .array .int) (C := RX3) (T := TX3) (N := 3) hx hcd hts uX3 tyX3 tyX3_ok nmX3 hown hK hP hD hS 0 rfl rfl 2 (by decide) (hts (.fieldLink RX3 18 "PresenceGrants$Seats" "moods" "[I") (by decide +kernel)) (fun _ h9 => h9) rfl hin rfl (by decide +kernel) rfl rfl (Nat.le_of_ble_eq_true rfl) dX3_init_25 (fun H locs hP hD hS => ?_)
  have hP : va_P D vwCl (((([(h, .inr (3, [.ref a1, .ref a2, .ref a3]))]) ++ [(a1, .inl (cI, 18, .inl (fun _ => 0)))]) ++ [(a2, .inl (cI, 18, .inl (fun _ => 0)))]) ++ [(a3, .inl (cI, 18, .inl (fun _ => 0)))]) H := hP
  have hD : va_D AA (((([(h, .inr (3, [.ref a1, .ref a2, .ref a3]))]) ++ [(a1, .inl (cI, 18, .inl (fun _ => 0)))]) ++ [(a2, .inl (cI, 18, .inl (fun _ => 0)))]) ++ [(a3, .inl (cI, 18, .inl (fun _ => 0)))]) := hD
  have hP : va_P D vwCl ([(h, .inr (3, [.ref a1, .ref a2, .ref a3])), (a1, .inl (cI, 18, .inl (vs 0 g_M0))), (a2, .inl (cI, 18, .inl (vs 1 g_M0))), (a3, .inl (cI, 18, .inl (vs 2 g_M0)))]) H := by
    rw [m0_vs (show 0 < 3 by omega), m0_vs (show 1 < 3 by omega), m0_vs (show 2 < 3 by omega)]
    exact hP
  have hD : va_D AA ([(h, .inr (3, [.ref a1, .ref a2, .ref a3])), (a1, .inl (cI, 18, .inl (vs 0 g_M0))), (a2, .inl (cI, 18, .inl (vs 1 g_M0))), (a3, .inl (cI, 18, .inl (vs 2 g_M0)))]) := by
    rw [m0_vs (show 0 < 3 by omega), m0_vs (show 1 < 3 by omega), m0_vs (show 2 < 3 by omega)]
    exact hD
  exact kr_cret (fun i => if i = 1 then h else if i = 2 then a1 else if i = 3 then a2 else a3) rfl hx hcd hr hlocks hK hP hD hS rfl (Nat.le_of_ble_eq_true rfl) (Nat.le_of_ble_eq_true rfl) dX3_init_28

set_option maxHeartbeats 4000000 in
set_option maxRecDepth 100000 in
theorem c_X1_init (l : Launch) (D : va_G) (cI cB cW cL : ClassId) (sz h : Nat) : kMc l yX1_init wsX1_init ({ frames := 1, cells := 3, slots := 78, locals := 12 }) D vwCl (kT cI cB cW cL) sz h [(h, .inr (1, [.null, .null, .null]))] (fun _ => True) (fun q => q 5 = h) (fun q => wRo cI q g_M0) 3 78 := by
  refine kr_ofc (cc := cX1_init) (maxL := 1) (by decide) rfl rfl (Nat.le_of_ble_eq_true rfl) ?_
  intro pp ee ss mm args below meth cc AA ls hx hcd hr hin hts hown hlocks hml hZ hK hP hD hA hl
  have hS : va_S AA ss.heap ss.heap [] := va_S.rf
  have hown : ss.vm.findClass RX1 = some mm.cls := hown
  have uX1 : ∀ w ∈ u_ws RX1 TX1 3, w ∈ wsX1_init := by decide +kernel
  refine lv_aload_n hx hcd dX1_init_0 rfl (lv_at hl 0 rfl) ?_
  refine W.objInit hx hcd hown (hts (.methodLink RX1 3 objectInit) (by decide +kernel)) (hts (.instanceMethod objectInit) (by decide +kernel)) (hts (.code objectInit ⟨#[0xb1]⟩ 1 none) (by decide +kernel)) rfl (by rw [hml]; exact hl.1) rfl dX1_init_1 (Nat.le_of_ble_eq_true rfl) (Nat.le_of_ble_eq_true rfl) ?_
  refine W.eq (g2 := F0 mm 4 ls []) rfl ?_
  refine lv_aload_n hx hcd dX1_init_4 rfl (lv_at hl 0 rfl) ?_
  refine lv_bipush (v := nI 36) hx hcd dX1_init_5 (by decide) ?_
  refine kr_newa (atype := .int) (ty := .int) (cA := cI) hx hcd (hts (.arrayClass .int) (by decide +kernel)) 0 rfl rfl (fun _ h9 => h9) hK hP hD hS hA (k := 36) (a0 := (36, .inl (fun _ => 0))) (fun _ => rfl) (by decide) (by decide) (Nat.le_of_ble_eq_true rfl) (Nat.le_of_ble_eq_true rfl) dX1_init_7 (fun a1 H hP hD hS => ?_)
  refine W.widen (k := 1) (n := 36) (Nat.le_of_ble_eq_true rfl) (Nat.le_of_ble_eq_true rfl) ?_
  have hP : va_P D vwCl (([(h, .inr (1, [.null, .null, .null]))]) ++ [(a1, .inl (cI, 36, .inl (fun _ => 0)))]) H := hP
  have hD : va_D AA (([(h, .inr (1, [.null, .null, .null]))]) ++ [(a1, .inl (cI, 36, .inl (fun _ => 0)))]) := hD
  refine va_putF (ci := 1) (v := .ref a1) (ty := .array .int) (C := RX1) (T := TX1) (N := 3) hx hcd hts uX1 tyX1 tyX1_ok nmX1 hown hK hP hD hS 0 rfl rfl 0 (by decide) (hts (.fieldLink RX1 9 "PresenceGrants$Rosters" "states" "[I") (by decide +kernel)) (fun _ h9 => h9) rfl hin rfl (by decide +kernel) rfl rfl (Nat.le_of_ble_eq_true rfl) dX1_init_9 (fun H locs hP hD hS => ?_)
  have hP : va_P D vwCl (([(h, .inr (1, [.ref a1, .null, .null]))]) ++ [(a1, .inl (cI, 36, .inl (fun _ => 0)))]) H := hP
  have hD : va_D AA (([(h, .inr (1, [.ref a1, .null, .null]))]) ++ [(a1, .inl (cI, 36, .inl (fun _ => 0)))]) := hD
  refine lv_aload_n hx hcd dX1_init_12 rfl (lv_at hl 0 rfl) ?_
  refine lv_bipush (v := nI 36) hx hcd dX1_init_13 (by decide) ?_
  refine kr_newa (atype := .int) (ty := .int) (cA := cI) hx hcd (hts (.arrayClass .int) (by decide +kernel)) 0 rfl rfl (fun _ h9 => h9) hK hP hD hS hA (k := 36) (a0 := (36, .inl (fun _ => 0))) (fun _ => rfl) (by decide) (by decide) (Nat.le_of_ble_eq_true rfl) (Nat.le_of_ble_eq_true rfl) dX1_init_15 (fun a2 H hP hD hS => ?_)
  refine W.widen (k := 2) (n := 72) (Nat.le_of_ble_eq_true rfl) (Nat.le_of_ble_eq_true rfl) ?_
  have hP : va_P D vwCl ((([(h, .inr (1, [.ref a1, .null, .null]))]) ++ [(a1, .inl (cI, 36, .inl (fun _ => 0)))]) ++ [(a2, .inl (cI, 36, .inl (fun _ => 0)))]) H := hP
  have hD : va_D AA ((([(h, .inr (1, [.ref a1, .null, .null]))]) ++ [(a1, .inl (cI, 36, .inl (fun _ => 0)))]) ++ [(a2, .inl (cI, 36, .inl (fun _ => 0)))]) := hD
  refine va_putF (ci := 1) (v := .ref a2) (ty := .array .int) (C := RX1) (T := TX1) (N := 3) hx hcd hts uX1 tyX1 tyX1_ok nmX1 hown hK hP hD hS 0 rfl rfl 1 (by decide) (hts (.fieldLink RX1 15 "PresenceGrants$Rosters" "entryVersions" "[I") (by decide +kernel)) (fun _ h9 => h9) rfl hin rfl (by decide +kernel) rfl rfl (Nat.le_of_ble_eq_true rfl) dX1_init_17 (fun H locs hP hD hS => ?_)
  have hP : va_P D vwCl ((([(h, .inr (1, [.ref a1, .ref a2, .null]))]) ++ [(a1, .inl (cI, 36, .inl (fun _ => 0)))]) ++ [(a2, .inl (cI, 36, .inl (fun _ => 0)))]) H := hP
  have hD : va_D AA ((([(h, .inr (1, [.ref a1, .ref a2, .null]))]) ++ [(a1, .inl (cI, 36, .inl (fun _ => 0)))]) ++ [(a2, .inl (cI, 36, .inl (fun _ => 0)))]) := hD
  refine lv_aload_n hx hcd dX1_init_20 rfl (lv_at hl 0 rfl) ?_
  refine lv_bipush (v := nI 6) hx hcd dX1_init_21 (by decide) ?_
  refine kr_newa (atype := .int) (ty := .int) (cA := cI) hx hcd (hts (.arrayClass .int) (by decide +kernel)) 0 rfl rfl (fun _ h9 => h9) hK hP hD hS hA (k := 6) (a0 := (6, .inl (fun _ => 0))) (fun _ => rfl) (by decide) (by decide) (Nat.le_of_ble_eq_true rfl) (Nat.le_of_ble_eq_true rfl) dX1_init_23 (fun a3 H hP hD hS => ?_)
  refine W.widen (k := 3) (n := 78) (Nat.le_of_ble_eq_true rfl) (Nat.le_of_ble_eq_true rfl) ?_
  have hP : va_P D vwCl (((([(h, .inr (1, [.ref a1, .ref a2, .null]))]) ++ [(a1, .inl (cI, 36, .inl (fun _ => 0)))]) ++ [(a2, .inl (cI, 36, .inl (fun _ => 0)))]) ++ [(a3, .inl (cI, 6, .inl (fun _ => 0)))]) H := hP
  have hD : va_D AA (((([(h, .inr (1, [.ref a1, .ref a2, .null]))]) ++ [(a1, .inl (cI, 36, .inl (fun _ => 0)))]) ++ [(a2, .inl (cI, 36, .inl (fun _ => 0)))]) ++ [(a3, .inl (cI, 6, .inl (fun _ => 0)))]) := hD
  refine va_putF (ci := 1) (v := .ref a3) (ty := .array .int) (C := RX1) (T := TX1) (N := 3) hx hcd hts uX1 tyX1 tyX1_ok nmX1 hown hK hP hD hS 0 rfl rfl 2 (by decide) (hts (.fieldLink RX1 18 "PresenceGrants$Rosters" "rosterVersions" "[I") (by decide +kernel)) (fun _ h9 => h9) rfl hin rfl (by decide +kernel) rfl rfl (Nat.le_of_ble_eq_true rfl) dX1_init_25 (fun H locs hP hD hS => ?_)
  have hP : va_P D vwCl (((([(h, .inr (1, [.ref a1, .ref a2, .ref a3]))]) ++ [(a1, .inl (cI, 36, .inl (fun _ => 0)))]) ++ [(a2, .inl (cI, 36, .inl (fun _ => 0)))]) ++ [(a3, .inl (cI, 6, .inl (fun _ => 0)))]) H := hP
  have hD : va_D AA (((([(h, .inr (1, [.ref a1, .ref a2, .ref a3]))]) ++ [(a1, .inl (cI, 36, .inl (fun _ => 0)))]) ++ [(a2, .inl (cI, 36, .inl (fun _ => 0)))]) ++ [(a3, .inl (cI, 6, .inl (fun _ => 0)))]) := hD
  have hP : va_P D vwCl ([(h, .inr (1, [.ref a1, .ref a2, .ref a3])), (a1, .inl (cI, 36, .inl (vw 54 36 g_M0))), (a2, .inl (cI, 36, .inl (vw 90 36 g_M0))), (a3, .inl (cI, 6, .inl (vw 126 6 g_M0)))]) H := by
    rw [m0_vw (show 54 + 36 ≤ 132 ∨ 240 ≤ 54 by omega), m0_vw (show 90 + 36 ≤ 132 ∨ 240 ≤ 90 by omega), m0_vw (show 126 + 6 ≤ 132 ∨ 240 ≤ 126 by omega)]
    exact hP
  have hD : va_D AA ([(h, .inr (1, [.ref a1, .ref a2, .ref a3])), (a1, .inl (cI, 36, .inl (vw 54 36 g_M0))), (a2, .inl (cI, 36, .inl (vw 90 36 g_M0))), (a3, .inl (cI, 6, .inl (vw 126 6 g_M0)))]) := by
    rw [m0_vw (show 54 + 36 ≤ 132 ∨ 240 ≤ 54 by omega), m0_vw (show 90 + 36 ≤ 132 ∨ 240 ≤ 90 by omega), m0_vw (show 126 + 6 ≤ 132 ∨ 240 ≤ 126 by omega)]
    exact hD
  exact kr_cret (fun i => if i = 5 then h else if i = 6 then a1 else if i = 7 then a2 else a3) rfl hx hcd hr hlocks hK hP hD hS rfl (Nat.le_of_ble_eq_true rfl) (Nat.le_of_ble_eq_true rfl) dX1_init_28

set_option maxHeartbeats 4000000 in
set_option maxRecDepth 100000 in
theorem c_X4_init (l : Launch) (D : va_G) (cI cB cW cL : ClassId) (sz h : Nat) : kMc l yX4_init wsX4_init ({ frames := 1, cells := 1, slots := 108, locals := 23 }) D vwCl (kT cI cB cW cL) sz h [(h, .inr (4, [.null]))] (fun _ => True) (fun q => q 9 = h) (fun q => wVi cI q g_M0) 1 108 := by
  refine kr_ofc (cc := cX4_init) (maxL := 1) (by decide) rfl rfl (Nat.le_of_ble_eq_true rfl) ?_
  intro pp ee ss mm args below meth cc AA ls hx hcd hr hin hts hown hlocks hml hZ hK hP hD hA hl
  have hS : va_S AA ss.heap ss.heap [] := va_S.rf
  have hown : ss.vm.findClass RX4 = some mm.cls := hown
  have uX4 : ∀ w ∈ u_ws RX4 TX4 1, w ∈ wsX4_init := by decide +kernel
  refine lv_aload_n hx hcd dX4_init_0 rfl (lv_at hl 0 rfl) ?_
  refine W.objInit hx hcd hown (hts (.methodLink RX4 3 objectInit) (by decide +kernel)) (hts (.instanceMethod objectInit) (by decide +kernel)) (hts (.code objectInit ⟨#[0xb1]⟩ 1 none) (by decide +kernel)) rfl (by rw [hml]; exact hl.1) rfl dX4_init_1 (Nat.le_of_ble_eq_true rfl) (Nat.le_of_ble_eq_true rfl) ?_
  refine W.eq (g2 := F0 mm 4 ls []) rfl ?_
  refine lv_aload_n hx hcd dX4_init_4 rfl (lv_at hl 0 rfl) ?_
  refine lv_bipush (v := nI 108) hx hcd dX4_init_5 (by decide) ?_
  refine kr_newa (atype := .int) (ty := .int) (cA := cI) hx hcd (hts (.arrayClass .int) (by decide +kernel)) 0 rfl rfl (fun _ h9 => h9) hK hP hD hS hA (k := 108) (a0 := (108, .inl (fun _ => 0))) (fun _ => rfl) (by decide) (by decide) (Nat.le_of_ble_eq_true rfl) (Nat.le_of_ble_eq_true rfl) dX4_init_7 (fun a1 H hP hD hS => ?_)
  refine W.widen (k := 1) (n := 108) (Nat.le_of_ble_eq_true rfl) (Nat.le_of_ble_eq_true rfl) ?_
  have hP : va_P D vwCl (([(h, .inr (4, [.null]))]) ++ [(a1, .inl (cI, 108, .inl (fun _ => 0)))]) H := hP
  have hD : va_D AA (([(h, .inr (4, [.null]))]) ++ [(a1, .inl (cI, 108, .inl (fun _ => 0)))]) := hD
  refine va_putF (ci := 4) (v := .ref a1) (ty := .array .int) (C := RX4) (T := TX4) (N := 1) hx hcd hts uX4 tyX4 tyX4_ok nmX4 hown hK hP hD hS 0 rfl rfl 0 (by decide) (hts (.fieldLink RX4 9 "PresenceGrants$Views" "moods" "[I") (by decide +kernel)) (fun _ h9 => h9) rfl hin rfl (by decide +kernel) rfl rfl (Nat.le_of_ble_eq_true rfl) dX4_init_9 (fun H locs hP hD hS => ?_)
  have hP : va_P D vwCl (([(h, .inr (4, [.ref a1]))]) ++ [(a1, .inl (cI, 108, .inl (fun _ => 0)))]) H := hP
  have hD : va_D AA (([(h, .inr (4, [.ref a1]))]) ++ [(a1, .inl (cI, 108, .inl (fun _ => 0)))]) := hD
  refine lv_aload_n hx hcd dX4_init_12 rfl (lv_at hl 0 rfl) ?_
  refine kr_get hx hcd hts uX4 hown hK hP 0 rfl rfl 0 (by decide) (by decide +kernel) (v := .ref a1) rfl dX4_init_13 ?_
  refine lv_iconst (v := (-1)) hx hcd dX4_init_16 (by decide) ?_
  refine kr_Sv (As := [.ref a1, .int (-1)]) (rest := []) (ws2 := ([(h, .inr (4, [.ref a1]))]) ++ [(a1, .inl (cI, 108, .inl (g_fl (-1) (fun _ => 0) 108)))]) ⟨hx, hcd, hml, hown, hts⟩ (c_J7_fill_53178 l D cI cB cW cL a1 108 (fun _ => 0) _ (fun _ => 0) (-1) (by omega)) (va_cwS 2 hts gX4_init_J7_fill_53178 rfl rfl rfl (by decide +kernel) ⟨Nat.le_of_ble_eq_true rfl, Nat.le_of_ble_eq_true rfl⟩) hK hP hD hS hA [1] rfl (by decide) rfl rfl rfl hl.1 rfl (Nat.le_of_ble_eq_true rfl) dX4_init_17 ⟨Nat.le_of_ble_eq_true rfl, Nat.le_of_ble_eq_true rfl⟩ (fun H locs hP hD hS => ?_)
  have hP : va_P D vwCl ([(h, .inr (4, [.ref a1])), (a1, .inl (cI, 108, .inl (vw 132 108 g_M0)))]) H := by
    rw [m0_vi]
    exact hP
  have hD : va_D AA ([(h, .inr (4, [.ref a1])), (a1, .inl (cI, 108, .inl (vw 132 108 g_M0)))]) := by
    rw [m0_vi]
    exact hD
  exact kr_cret (fun i => if i = 9 then h else a1) rfl hx hcd hr hlocks hK hP hD hS rfl (Nat.le_of_ble_eq_true rfl) (Nat.le_of_ble_eq_true rfl) dX4_init_20

set_option maxHeartbeats 4000000 in
set_option maxRecDepth 100000 in
theorem c_X0_init (l : Launch) (D : va_G) (cI cB cW cL : ClassId) (sz h : Nat) : kMc l yX0_init wsX0_init ({ frames := 1, cells := 2, slots := 303, locals := 12 }) D vwCl (kT cI cB cW cL) sz h [(h, .inr (0, [.null, .int 0, .int 0, .null]))] (fun _ => True) (fun q => q 11 = h) (fun q => wPo cI q g_M0) 2 303 := by
  refine kr_ofc (cc := cX0_init) (maxL := 1) (by decide) rfl rfl (Nat.le_of_ble_eq_true rfl) ?_
  intro pp ee ss mm args below meth cc AA ls hx hcd hr hin hts hown hlocks hml hZ hK hP hD hA hl
  have hS : va_S AA ss.heap ss.heap [] := va_S.rf
  have hown : ss.vm.findClass RX0 = some mm.cls := hown
  have uX0 : ∀ w ∈ u_ws RX0 TX0 4, w ∈ wsX0_init := by decide +kernel
  refine lv_aload_n hx hcd dX0_init_0 rfl (lv_at hl 0 rfl) ?_
  refine W.objInit hx hcd hown (hts (.methodLink RX0 3 objectInit) (by decide +kernel)) (hts (.instanceMethod objectInit) (by decide +kernel)) (hts (.code objectInit ⟨#[0xb1]⟩ 1 none) (by decide +kernel)) rfl (by rw [hml]; exact hl.1) rfl dX0_init_1 (Nat.le_of_ble_eq_true rfl) (Nat.le_of_ble_eq_true rfl) ?_
  refine W.eq (g2 := F0 mm 4 ls []) rfl ?_
  refine lv_aload_n hx hcd dX0_init_4 rfl (lv_at hl 0 rfl) ?_
  refine lv_sipush (v := nI 300) hx hcd dX0_init_5 (by decide) ?_
  refine kr_newa (atype := .int) (ty := .int) (cA := cI) hx hcd (hts (.arrayClass .int) (by decide +kernel)) 0 rfl rfl (fun _ h9 => h9) hK hP hD hS hA (k := 300) (a0 := (300, .inl (fun _ => 0))) (fun _ => rfl) (by decide) (by decide) (Nat.le_of_ble_eq_true rfl) (Nat.le_of_ble_eq_true rfl) dX0_init_8 (fun a1 H hP hD hS => ?_)
  refine W.widen (k := 1) (n := 300) (Nat.le_of_ble_eq_true rfl) (Nat.le_of_ble_eq_true rfl) ?_
  have hP : va_P D vwCl (([(h, .inr (0, [.null, .int 0, .int 0, .null]))]) ++ [(a1, .inl (cI, 300, .inl (fun _ => 0)))]) H := hP
  have hD : va_D AA (([(h, .inr (0, [.null, .int 0, .int 0, .null]))]) ++ [(a1, .inl (cI, 300, .inl (fun _ => 0)))]) := hD
  refine va_putF (ci := 0) (v := .ref a1) (ty := .array .int) (C := RX0) (T := TX0) (N := 4) hx hcd hts uX0 tyX0 tyX0_ok nmX0 hown hK hP hD hS 0 rfl rfl 0 (by decide) (hts (.fieldLink RX0 9 "PresenceGrants$Post" "ring" "[I") (by decide +kernel)) (fun _ h9 => h9) rfl hin rfl (by decide +kernel) rfl rfl (Nat.le_of_ble_eq_true rfl) dX0_init_10 (fun H locs hP hD hS => ?_)
  have hP : va_P D vwCl (([(h, .inr (0, [.ref a1, .int 0, .int 0, .null]))]) ++ [(a1, .inl (cI, 300, .inl (fun _ => 0)))]) H := hP
  have hD : va_D AA (([(h, .inr (0, [.ref a1, .int 0, .int 0, .null]))]) ++ [(a1, .inl (cI, 300, .inl (fun _ => 0)))]) := hD
  refine lv_aload_n hx hcd dX0_init_13 rfl (lv_at hl 0 rfl) ?_
  refine lv_iconst (v := nI 3) hx hcd dX0_init_14 (by decide) ?_
  refine kr_newa (atype := .int) (ty := .int) (cA := cI) hx hcd (hts (.arrayClass .int) (by decide +kernel)) 0 rfl rfl (fun _ h9 => h9) hK hP hD hS hA (k := 3) (a0 := (3, .inl (fun _ => 0))) (fun _ => rfl) (by decide) (by decide) (Nat.le_of_ble_eq_true rfl) (Nat.le_of_ble_eq_true rfl) dX0_init_15 (fun a2 H hP hD hS => ?_)
  refine W.widen (k := 2) (n := 303) (Nat.le_of_ble_eq_true rfl) (Nat.le_of_ble_eq_true rfl) ?_
  have hP : va_P D vwCl ((([(h, .inr (0, [.ref a1, .int 0, .int 0, .null]))]) ++ [(a1, .inl (cI, 300, .inl (fun _ => 0)))]) ++ [(a2, .inl (cI, 3, .inl (fun _ => 0)))]) H := hP
  have hD : va_D AA ((([(h, .inr (0, [.ref a1, .int 0, .int 0, .null]))]) ++ [(a1, .inl (cI, 300, .inl (fun _ => 0)))]) ++ [(a2, .inl (cI, 3, .inl (fun _ => 0)))]) := hD
  refine va_putF (ci := 0) (v := .ref a2) (ty := .array .int) (C := RX0) (T := TX0) (N := 4) hx hcd hts uX0 tyX0 tyX0_ok nmX0 hown hK hP hD hS 0 rfl rfl 3 (by decide) (hts (.fieldLink RX0 15 "PresenceGrants$Post" "counts" "[I") (by decide +kernel)) (fun _ h9 => h9) rfl hin rfl (by decide +kernel) rfl rfl (Nat.le_of_ble_eq_true rfl) dX0_init_17 (fun H locs hP hD hS => ?_)
  have hP : va_P D vwCl ((([(h, .inr (0, [.ref a1, .int 0, .int 0, .ref a2]))]) ++ [(a1, .inl (cI, 300, .inl (fun _ => 0)))]) ++ [(a2, .inl (cI, 3, .inl (fun _ => 0)))]) H := hP
  have hD : va_D AA ((([(h, .inr (0, [.ref a1, .int 0, .int 0, .ref a2]))]) ++ [(a1, .inl (cI, 300, .inl (fun _ => 0)))]) ++ [(a2, .inl (cI, 3, .inl (fun _ => 0)))]) := hD
  have hP : va_P D vwCl ([(h, .inr (0, [.ref a1, .int (g_M0 576), .int (g_M0 577), .ref a2])), (a1, .inl (cI, 300, .inl (vr g_M0))), (a2, .inl (cI, 3, .inl (vw 578 3 g_M0)))]) H := by
    rw [m0_out (show 576 < 132 ∨ 240 ≤ 576 by omega), m0_out (show 577 < 132 ∨ 240 ≤ 577 by omega), m0_vr, m0_vw (show 578 + 3 ≤ 132 ∨ 240 ≤ 578 by omega)]
    exact hP
  have hD : va_D AA ([(h, .inr (0, [.ref a1, .int (g_M0 576), .int (g_M0 577), .ref a2])), (a1, .inl (cI, 300, .inl (vr g_M0))), (a2, .inl (cI, 3, .inl (vw 578 3 g_M0)))]) := by
    rw [m0_out (show 576 < 132 ∨ 240 ≤ 576 by omega), m0_out (show 577 < 132 ∨ 240 ≤ 577 by omega), m0_vr, m0_vw (show 578 + 3 ≤ 132 ∨ 240 ≤ 578 by omega)]
    exact hD
  exact kr_cret (fun i => if i = 11 then h else if i = 12 then a1 else a2) rfl hx hcd hr hlocks hK hP hD hS rfl (Nat.le_of_ble_eq_true rfl) (Nat.le_of_ble_eq_true rfl) dX0_init_20

set_option maxHeartbeats 4000000 in
set_option maxRecDepth 100000 in
theorem c_X2_init (l : Launch) (D : va_G) (cI cB cW cL : ClassId) (sz h : Nat) : kMc l yX2_init wsX2_init ({ frames := 1, cells := 1, slots := 100, locals := 12 }) D vwCl (kT cI cB cW cL) sz h [(h, .inr (2, [.null, .int 0]))] (fun _ => True) (fun q => q 0 = h) (fun q => wSc cB q 0 (fun _ => 0)) 1 100 := by
  refine kr_ofc (cc := cX2_init) (maxL := 1) (by decide) rfl rfl (Nat.le_of_ble_eq_true rfl) ?_
  intro pp ee ss mm args below meth cc AA ls hx hcd hr hin hts hown hlocks hml hZ hK hP hD hA hl
  have hS : va_S AA ss.heap ss.heap [] := va_S.rf
  have hown : ss.vm.findClass RX2 = some mm.cls := hown
  have uX2 : ∀ w ∈ u_ws RX2 TX2 2, w ∈ wsX2_init := by decide +kernel
  refine lv_aload_n hx hcd dX2_init_0 rfl (lv_at hl 0 rfl) ?_
  refine W.objInit hx hcd hown (hts (.methodLink RX2 3 objectInit) (by decide +kernel)) (hts (.instanceMethod objectInit) (by decide +kernel)) (hts (.code objectInit ⟨#[0xb1]⟩ 1 none) (by decide +kernel)) rfl (by rw [hml]; exact hl.1) rfl dX2_init_1 (Nat.le_of_ble_eq_true rfl) (Nat.le_of_ble_eq_true rfl) ?_
  refine W.eq (g2 := F0 mm 4 ls []) rfl ?_
  refine lv_aload_n hx hcd dX2_init_4 rfl (lv_at hl 0 rfl) ?_
  refine lv_bipush (v := nI 100) hx hcd dX2_init_5 (by decide) ?_
  refine kr_newa (atype := .byte) (ty := .byte) (cA := cB) hx hcd (hts (.arrayClass .byte) (by decide +kernel)) 1 rfl rfl (fun _ h9 => h9) hK hP hD hS hA (k := 100) (a0 := (100, .inl (fun _ => 0))) (fun _ => rfl) (by decide) (by decide) (Nat.le_of_ble_eq_true rfl) (Nat.le_of_ble_eq_true rfl) dX2_init_7 (fun a1 H hP hD hS => ?_)
  refine W.widen (k := 1) (n := 100) (Nat.le_of_ble_eq_true rfl) (Nat.le_of_ble_eq_true rfl) ?_
  have hP : va_P D vwCl (([(h, .inr (2, [.null, .int 0]))]) ++ [(a1, .inl (cB, 100, .inl (fun _ => 0)))]) H := hP
  have hD : va_D AA (([(h, .inr (2, [.null, .int 0]))]) ++ [(a1, .inl (cB, 100, .inl (fun _ => 0)))]) := hD
  refine va_putF (ci := 2) (v := .ref a1) (ty := .array .byte) (C := RX2) (T := TX2) (N := 2) hx hcd hts uX2 tyX2 tyX2_ok nmX2 hown hK hP hD hS 0 rfl rfl 0 (by decide) (hts (.fieldLink RX2 9 "PresenceGrants$Script" "text" "[B") (by decide +kernel)) (fun _ h9 => h9) rfl hin rfl (by decide +kernel) rfl rfl (Nat.le_of_ble_eq_true rfl) dX2_init_9 (fun H locs hP hD hS => ?_)
  have hP : va_P D vwCl (([(h, .inr (2, [.ref a1, .int 0]))]) ++ [(a1, .inl (cB, 100, .inl (fun _ => 0)))]) H := hP
  have hD : va_D AA (([(h, .inr (2, [.ref a1, .int 0]))]) ++ [(a1, .inl (cB, 100, .inl (fun _ => 0)))]) := hD
  exact kr_cret (fun i => if i = 0 then h else a1) rfl hx hcd hr hlocks hK hP hD hS rfl (Nat.le_of_ble_eq_true rfl) (Nat.le_of_ble_eq_true rfl) dX2_init_12

set_option maxHeartbeats 4000000 in
set_option maxRecDepth 100000 in
theorem c_X5_init (l : Launch) (D : va_G) (cI cB cW cL : ClassId) (sz h : Nat) : kMc l yX5_init wsX5_init ({ frames := 3, cells := 14, slots := 590, locals := 62 }) D vwCl (kT cI cB cW cL) sz h [(h, .inr (5, [.null, .null, .null, .null, .null]))] (kZ5) (fun q => q 0 = h) (fun q => wW cI q g_M0) 14 590 := by
  refine kr_ofc (cc := cX5_init) (maxL := 1) (by decide) rfl rfl (Nat.le_of_ble_eq_true rfl) ?_
  intro pp ee ss mm args below meth cc AA ls hx hcd hr hin hts hown hlocks hml hZ hK hP hD hA hl
  have hS : va_S AA ss.heap ss.heap [] := va_S.rf
  have hown : ss.vm.findClass RX5 = some mm.cls := hown
  have uX0 : ∀ w ∈ u_ws RX0 TX0 4, w ∈ wsX5_init := by decide +kernel
  have uX1 : ∀ w ∈ u_ws RX1 TX1 3, w ∈ wsX5_init := by decide +kernel
  have uX3 : ∀ w ∈ u_ws RX3 TX3 3, w ∈ wsX5_init := by decide +kernel
  have uX4 : ∀ w ∈ u_ws RX4 TX4 1, w ∈ wsX5_init := by decide +kernel
  have uX5 : ∀ w ∈ u_ws RX5 TX5 5, w ∈ wsX5_init := by decide +kernel
  refine lv_aload_n hx hcd dX5_init_0 rfl (lv_at hl 0 rfl) ?_
  refine W.objInit hx hcd hown (hts (.methodLink RX5 3 objectInit) (by decide +kernel)) (hts (.instanceMethod objectInit) (by decide +kernel)) (hts (.code objectInit ⟨#[0xb1]⟩ 1 none) (by decide +kernel)) rfl (by rw [hml]; exact hl.1) rfl dX5_init_1 (Nat.le_of_ble_eq_true rfl) (Nat.le_of_ble_eq_true rfl) ?_
  refine W.eq (g2 := F0 mm 4 ls []) rfl ?_
  refine lv_aload_n hx hcd dX5_init_4 rfl (lv_at hl 0 rfl) ?_
  refine va_new (ci := 3) (fs := [.null, .null, .null]) (C := RX3) (T := TX3) (N := 3) hx hcd hts uX3 tyX3 tyX3_ok hown (hts (.classLink RX5 9 RX3) (by decide +kernel)) (hts (.instantiable RX3 3) (by decide +kernel)) (hts (.initialized RX3) (by decide +kernel)) hK hP hD hS hA rfl (fun j hj => by rcases (show j = 0 ∨ j = 1 ∨ j = 2 by omega) with rfl | rfl | rfl <;> rfl) (Nat.le_of_ble_eq_true rfl) (Nat.le_of_ble_eq_true rfl) dX5_init_5 (fun a1 H hP hD hS => ?_)
  refine W.widen (k := 1) (n := 3) (Nat.le_of_ble_eq_true rfl) (Nat.le_of_ble_eq_true rfl) ?_
  refine lv_dup hx hcd dX5_init_8 rfl ?_
  refine kr_IN (rest := [.ref a1, .ref h]) ⟨hx, hcd, hml, hown, hts⟩ (c_X3_init l D cI cB cW cL H.size a1) (fun _ _ _ _ => trivial) trivial ⟨va_cnB 0 hts ggX5_init_X3_init rfl rfl rfl hZ.1 (hts (.initialized RX3) (by decide +kernel)) (by decide +kernel) ⟨Nat.le_of_ble_eq_true rfl, Nat.le_of_ble_eq_true rfl⟩, rfl, hts (.instanceMethod yX3_init) (by decide +kernel)⟩ hK hP hD hS hA hl.1 rfl (Nat.le_of_ble_eq_true rfl) dX5_init_9 ⟨Nat.le_of_ble_eq_true rfl, Nat.le_of_ble_eq_true rfl⟩ (fun q2 e_q2 H9 locs9 hP9 hD9 hS9 => ?_)
  have e_q2 : q2 1 = a1 := e_q2
  subst e_q2
  obtain ⟨H, hH9⟩ : ∃ H, H = H9 := ⟨_, rfl⟩
  obtain ⟨locs, hL9⟩ : ∃ locs, locs = locs9 := ⟨_, rfl⟩
  rw [← hH9] at hP9 hS9
  rw [← hL9] at hS9
  rw [← hH9, ← hL9]
  have hS := hS9
  refine W.widen (k := 4) (n := 57) (Nat.le_of_ble_eq_true rfl) (Nat.le_of_ble_eq_true rfl) ?_
  have hP : va_P D vwCl (([(h, .inr (5, [.null, .null, .null, .null, .null]))]) ++ (wSe cI q2 g_M0)) H := hP9
  have hD : va_D AA (([(h, .inr (5, [.null, .null, .null, .null, .null]))]) ++ (wSe cI q2 g_M0)) := hD9
  refine va_putF (ci := 5) (v := .ref (q2 1)) (ty := .object "PresenceGrants$Seats") (C := RX5) (T := TX5) (N := 5) hx hcd hts uX5 tyX5 tyX5_ok nmX5 hown hK hP hD hS 0 rfl rfl 0 (by decide) (hts (.fieldLink RX5 12 "PresenceGrants$World" "seats" "LPresenceGrants$Seats;") (by decide +kernel)) (fun _ h9 => h9) rfl hin rfl (by decide +kernel) rfl rfl (Nat.le_of_ble_eq_true rfl) dX5_init_12 (fun H locs hP hD hS => ?_)
  have hP : va_P D vwCl (([(h, .inr (5, [.ref (q2 1), .null, .null, .null, .null]))]) ++ (wSe cI q2 g_M0)) H := hP
  have hD : va_D AA (([(h, .inr (5, [.ref (q2 1), .null, .null, .null, .null]))]) ++ (wSe cI q2 g_M0)) := hD
  refine lv_aload_n hx hcd dX5_init_15 rfl (lv_at hl 0 rfl) ?_
  refine va_new (ci := 1) (fs := [.null, .null, .null]) (C := RX1) (T := TX1) (N := 3) hx hcd hts uX1 tyX1 tyX1_ok hown (hts (.classLink RX5 18 RX1) (by decide +kernel)) (hts (.instantiable RX1 3) (by decide +kernel)) (hts (.initialized RX1) (by decide +kernel)) hK hP hD hS hA rfl (fun j hj => by rcases (show j = 0 ∨ j = 1 ∨ j = 2 by omega) with rfl | rfl | rfl <;> rfl) (Nat.le_of_ble_eq_true rfl) (Nat.le_of_ble_eq_true rfl) dX5_init_16 (fun a3 H hP hD hS => ?_)
  refine W.widen (k := 5) (n := 60) (Nat.le_of_ble_eq_true rfl) (Nat.le_of_ble_eq_true rfl) ?_
  refine lv_dup hx hcd dX5_init_19 rfl ?_
  refine kr_IN (rest := [.ref a3, .ref h]) ⟨hx, hcd, hml, hown, hts⟩ (c_X1_init l D cI cB cW cL H.size a3) (fun _ _ _ _ => trivial) trivial ⟨va_cnB 0 hts ggX5_init_X1_init rfl rfl rfl hZ.2.1 (hts (.initialized RX1) (by decide +kernel)) (by decide +kernel) ⟨Nat.le_of_ble_eq_true rfl, Nat.le_of_ble_eq_true rfl⟩, rfl, hts (.instanceMethod yX1_init) (by decide +kernel)⟩ hK hP hD hS hA hl.1 rfl (Nat.le_of_ble_eq_true rfl) dX5_init_20 ⟨Nat.le_of_ble_eq_true rfl, Nat.le_of_ble_eq_true rfl⟩ (fun q4 e_q4 H9 locs9 hP9 hD9 hS9 => ?_)
  have e_q4 : q4 5 = a3 := e_q4
  subst e_q4
  obtain ⟨H, hH9⟩ : ∃ H, H = H9 := ⟨_, rfl⟩
  obtain ⟨locs, hL9⟩ : ∃ locs, locs = locs9 := ⟨_, rfl⟩
  rw [← hH9] at hP9 hS9
  rw [← hL9] at hS9
  rw [← hH9, ← hL9]
  have hS := hS9
  refine W.widen (k := 8) (n := 138) (Nat.le_of_ble_eq_true rfl) (Nat.le_of_ble_eq_true rfl) ?_
  have hP : va_P D vwCl ((([(h, .inr (5, [.ref (q2 1), .null, .null, .null, .null]))]) ++ (wSe cI q2 g_M0)) ++ (wRo cI q4 g_M0)) H := hP9
  have hD : va_D AA ((([(h, .inr (5, [.ref (q2 1), .null, .null, .null, .null]))]) ++ (wSe cI q2 g_M0)) ++ (wRo cI q4 g_M0)) := hD9
  refine va_putF (ci := 5) (v := .ref (q4 5)) (ty := .object "PresenceGrants$Rosters") (C := RX5) (T := TX5) (N := 5) hx hcd hts uX5 tyX5 tyX5_ok nmX5 hown hK hP hD hS 0 rfl rfl 1 (by decide) (hts (.fieldLink RX5 21 "PresenceGrants$World" "rosters" "LPresenceGrants$Rosters;") (by decide +kernel)) (fun _ h9 => h9) rfl hin rfl (by decide +kernel) rfl rfl (Nat.le_of_ble_eq_true rfl) dX5_init_23 (fun H locs hP hD hS => ?_)
  have hP : va_P D vwCl ((([(h, .inr (5, [.ref (q2 1), .ref (q4 5), .null, .null, .null]))]) ++ (wSe cI q2 g_M0)) ++ (wRo cI q4 g_M0)) H := hP
  have hD : va_D AA ((([(h, .inr (5, [.ref (q2 1), .ref (q4 5), .null, .null, .null]))]) ++ (wSe cI q2 g_M0)) ++ (wRo cI q4 g_M0)) := hD
  refine lv_aload_n hx hcd dX5_init_26 rfl (lv_at hl 0 rfl) ?_
  refine va_new (ci := 4) (fs := [.null]) (C := RX4) (T := TX4) (N := 1) hx hcd hts uX4 tyX4 tyX4_ok hown (hts (.classLink RX5 25 RX4) (by decide +kernel)) (hts (.instantiable RX4 1) (by decide +kernel)) (hts (.initialized RX4) (by decide +kernel)) hK hP hD hS hA rfl (fun j hj => by rcases (show j = 0 by omega) with rfl <;> rfl) (Nat.le_of_ble_eq_true rfl) (Nat.le_of_ble_eq_true rfl) dX5_init_27 (fun a5 H hP hD hS => ?_)
  refine W.widen (k := 9) (n := 139) (Nat.le_of_ble_eq_true rfl) (Nat.le_of_ble_eq_true rfl) ?_
  refine lv_dup hx hcd dX5_init_30 rfl ?_
  refine kr_I (rest := [.ref a5, .ref h]) ⟨hx, hcd, hml, hown, hts⟩ (c_X4_init l D cI cB cW cL H.size a5) (fun _ _ _ _ => trivial) trivial (cwI 0 hts ggX5_init_X4_init rfl rfl rfl (hts (.initialized RX4) (by decide +kernel)) (hts (.methodLink RX5 27 yX4_init) (by decide +kernel)) (hts (.instanceMethod yX4_init) (by decide +kernel)) rfl (by decide +kernel) ⟨Nat.le_of_ble_eq_true rfl, Nat.le_of_ble_eq_true rfl⟩) hK hP hD hS hA hl.1 rfl (Nat.le_of_ble_eq_true rfl) dX5_init_31 ⟨Nat.le_of_ble_eq_true rfl, Nat.le_of_ble_eq_true rfl⟩ (fun q6 e_q6 H9 locs9 hP9 hD9 hS9 => ?_)
  have e_q6 : q6 9 = a5 := e_q6
  subst e_q6
  obtain ⟨H, hH9⟩ : ∃ H, H = H9 := ⟨_, rfl⟩
  obtain ⟨locs, hL9⟩ : ∃ locs, locs = locs9 := ⟨_, rfl⟩
  rw [← hH9] at hP9 hS9
  rw [← hL9] at hS9
  rw [← hH9, ← hL9]
  have hS := hS9
  refine W.widen (k := 10) (n := 247) (Nat.le_of_ble_eq_true rfl) (Nat.le_of_ble_eq_true rfl) ?_
  have hP : va_P D vwCl (((([(h, .inr (5, [.ref (q2 1), .ref (q4 5), .null, .null, .null]))]) ++ (wSe cI q2 g_M0)) ++ (wRo cI q4 g_M0)) ++ (wVi cI q6 g_M0)) H := hP9
  have hD : va_D AA (((([(h, .inr (5, [.ref (q2 1), .ref (q4 5), .null, .null, .null]))]) ++ (wSe cI q2 g_M0)) ++ (wRo cI q4 g_M0)) ++ (wVi cI q6 g_M0)) := hD9
  refine va_putF (ci := 5) (v := .ref (q6 9)) (ty := .object "PresenceGrants$Views") (C := RX5) (T := TX5) (N := 5) hx hcd hts uX5 tyX5 tyX5_ok nmX5 hown hK hP hD hS 0 rfl rfl 2 (by decide) (hts (.fieldLink RX5 28 "PresenceGrants$World" "views" "LPresenceGrants$Views;") (by decide +kernel)) (fun _ h9 => h9) rfl hin rfl (by decide +kernel) rfl rfl (Nat.le_of_ble_eq_true rfl) dX5_init_34 (fun H locs hP hD hS => ?_)
  have hP : va_P D vwCl (((([(h, .inr (5, [.ref (q2 1), .ref (q4 5), .ref (q6 9), .null, .null]))]) ++ (wSe cI q2 g_M0)) ++ (wRo cI q4 g_M0)) ++ (wVi cI q6 g_M0)) H := hP
  have hD : va_D AA (((([(h, .inr (5, [.ref (q2 1), .ref (q4 5), .ref (q6 9), .null, .null]))]) ++ (wSe cI q2 g_M0)) ++ (wRo cI q4 g_M0)) ++ (wVi cI q6 g_M0)) := hD
  refine lv_aload_n hx hcd dX5_init_37 rfl (lv_at hl 0 rfl) ?_
  refine va_new (ci := 0) (fs := [.null, .int 0, .int 0, .null]) (C := RX0) (T := TX0) (N := 4) hx hcd hts uX0 tyX0 tyX0_ok hown (hts (.classLink RX5 32 RX0) (by decide +kernel)) (hts (.instantiable RX0 4) (by decide +kernel)) (hts (.initialized RX0) (by decide +kernel)) hK hP hD hS hA rfl (fun j hj => by rcases (show j = 0 ∨ j = 1 ∨ j = 2 ∨ j = 3 by omega) with rfl | rfl | rfl | rfl <;> rfl) (Nat.le_of_ble_eq_true rfl) (Nat.le_of_ble_eq_true rfl) dX5_init_38 (fun a7 H hP hD hS => ?_)
  refine W.widen (k := 11) (n := 251) (Nat.le_of_ble_eq_true rfl) (Nat.le_of_ble_eq_true rfl) ?_
  refine lv_dup hx hcd dX5_init_41 rfl ?_
  refine kr_IN (rest := [.ref a7, .ref h]) ⟨hx, hcd, hml, hown, hts⟩ (c_X0_init l D cI cB cW cL H.size a7) (fun _ _ _ _ => trivial) trivial ⟨va_cnB 0 hts ggX5_init_X0_init rfl rfl rfl hZ.2.2 (hts (.initialized RX0) (by decide +kernel)) (by decide +kernel) ⟨Nat.le_of_ble_eq_true rfl, Nat.le_of_ble_eq_true rfl⟩, rfl, hts (.instanceMethod yX0_init) (by decide +kernel)⟩ hK hP hD hS hA hl.1 rfl (Nat.le_of_ble_eq_true rfl) dX5_init_42 ⟨Nat.le_of_ble_eq_true rfl, Nat.le_of_ble_eq_true rfl⟩ (fun q8 e_q8 H9 locs9 hP9 hD9 hS9 => ?_)
  have e_q8 : q8 11 = a7 := e_q8
  subst e_q8
  obtain ⟨H, hH9⟩ : ∃ H, H = H9 := ⟨_, rfl⟩
  obtain ⟨locs, hL9⟩ : ∃ locs, locs = locs9 := ⟨_, rfl⟩
  rw [← hH9] at hP9 hS9
  rw [← hL9] at hS9
  rw [← hH9, ← hL9]
  have hS := hS9
  refine W.widen (k := 13) (n := 554) (Nat.le_of_ble_eq_true rfl) (Nat.le_of_ble_eq_true rfl) ?_
  have hP : va_P D vwCl ((((([(h, .inr (5, [.ref (q2 1), .ref (q4 5), .ref (q6 9), .null, .null]))]) ++ (wSe cI q2 g_M0)) ++ (wRo cI q4 g_M0)) ++ (wVi cI q6 g_M0)) ++ (wPo cI q8 g_M0)) H := hP9
  have hD : va_D AA ((((([(h, .inr (5, [.ref (q2 1), .ref (q4 5), .ref (q6 9), .null, .null]))]) ++ (wSe cI q2 g_M0)) ++ (wRo cI q4 g_M0)) ++ (wVi cI q6 g_M0)) ++ (wPo cI q8 g_M0)) := hD9
  refine va_putF (ci := 5) (v := .ref (q8 11)) (ty := .object "PresenceGrants$Post") (C := RX5) (T := TX5) (N := 5) hx hcd hts uX5 tyX5 tyX5_ok nmX5 hown hK hP hD hS 0 rfl rfl 3 (by decide) (hts (.fieldLink RX5 35 "PresenceGrants$World" "post" "LPresenceGrants$Post;") (by decide +kernel)) (fun _ h9 => h9) rfl hin rfl (by decide +kernel) rfl rfl (Nat.le_of_ble_eq_true rfl) dX5_init_45 (fun H locs hP hD hS => ?_)
  have hP : va_P D vwCl ((((([(h, .inr (5, [.ref (q2 1), .ref (q4 5), .ref (q6 9), .ref (q8 11), .null]))]) ++ (wSe cI q2 g_M0)) ++ (wRo cI q4 g_M0)) ++ (wVi cI q6 g_M0)) ++ (wPo cI q8 g_M0)) H := hP
  have hD : va_D AA ((((([(h, .inr (5, [.ref (q2 1), .ref (q4 5), .ref (q6 9), .ref (q8 11), .null]))]) ++ (wSe cI q2 g_M0)) ++ (wRo cI q4 g_M0)) ++ (wVi cI q6 g_M0)) ++ (wPo cI q8 g_M0)) := hD
  refine lv_aload_n hx hcd dX5_init_48 rfl (lv_at hl 0 rfl) ?_
  refine lv_bipush (v := nI 36) hx hcd dX5_init_49 (by decide) ?_
  refine kr_newa (atype := .int) (ty := .int) (cA := cI) hx hcd (hts (.arrayClass .int) (by decide +kernel)) 0 rfl rfl (fun _ h9 => h9) hK hP hD hS hA (k := 36) (a0 := (36, .inl (fun _ => 0))) (fun _ => rfl) (by decide) (by decide) (Nat.le_of_ble_eq_true rfl) (Nat.le_of_ble_eq_true rfl) dX5_init_51 (fun a9 H hP hD hS => ?_)
  refine W.widen (k := 14) (n := 590) (Nat.le_of_ble_eq_true rfl) (Nat.le_of_ble_eq_true rfl) ?_
  have hP : va_P D vwCl (((((([(h, .inr (5, [.ref (q2 1), .ref (q4 5), .ref (q6 9), .ref (q8 11), .null]))]) ++ (wSe cI q2 g_M0)) ++ (wRo cI q4 g_M0)) ++ (wVi cI q6 g_M0)) ++ (wPo cI q8 g_M0)) ++ [(a9, .inl (cI, 36, .inl (fun _ => 0)))]) H := hP
  have hD : va_D AA (((((([(h, .inr (5, [.ref (q2 1), .ref (q4 5), .ref (q6 9), .ref (q8 11), .null]))]) ++ (wSe cI q2 g_M0)) ++ (wRo cI q4 g_M0)) ++ (wVi cI q6 g_M0)) ++ (wPo cI q8 g_M0)) ++ [(a9, .inl (cI, 36, .inl (fun _ => 0)))]) := hD
  refine va_putF (ci := 5) (v := .ref a9) (ty := .array .int) (C := RX5) (T := TX5) (N := 5) hx hcd hts uX5 tyX5 tyX5_ok nmX5 hown hK hP hD hS 0 rfl rfl 4 (by decide) (hts (.fieldLink RX5 39 "PresenceGrants$World" "blocks" "[I") (by decide +kernel)) (fun _ h9 => h9) rfl hin rfl (by decide +kernel) rfl rfl (Nat.le_of_ble_eq_true rfl) dX5_init_53 (fun H locs hP hD hS => ?_)
  have hP : va_P D vwCl (((((([(h, .inr (5, [.ref (q2 1), .ref (q4 5), .ref (q6 9), .ref (q8 11), .ref a9]))]) ++ (wSe cI q2 g_M0)) ++ (wRo cI q4 g_M0)) ++ (wVi cI q6 g_M0)) ++ (wPo cI q8 g_M0)) ++ [(a9, .inl (cI, 36, .inl (fun _ => 0)))]) H := hP
  have hD : va_D AA (((((([(h, .inr (5, [.ref (q2 1), .ref (q4 5), .ref (q6 9), .ref (q8 11), .ref a9]))]) ++ (wSe cI q2 g_M0)) ++ (wRo cI q4 g_M0)) ++ (wVi cI q6 g_M0)) ++ (wPo cI q8 g_M0)) ++ [(a9, .inl (cI, 36, .inl (fun _ => 0)))]) := hD
  have hP : va_P D vwCl (((((([(h, .inr (5, [.ref (q2 1), .ref (q4 5), .ref (q6 9), .ref (q8 11), .ref a9]))]) ++ (wSe cI q2 g_M0)) ++ (wRo cI q4 g_M0)) ++ (wVi cI q6 g_M0)) ++ (wPo cI q8 g_M0)) ++ [(a9, .inl (cI, 36, .inl (vw 240 36 g_M0)))]) H := by
    rw [m0_vw (o := 240) (n := 36) (show 240 + 36 ≤ 132 ∨ 240 ≤ 240 by omega)]
    exact hP
  have hD : va_D AA (((((([(h, .inr (5, [.ref (q2 1), .ref (q4 5), .ref (q6 9), .ref (q8 11), .ref a9]))]) ++ (wSe cI q2 g_M0)) ++ (wRo cI q4 g_M0)) ++ (wVi cI q6 g_M0)) ++ (wPo cI q8 g_M0)) ++ [(a9, .inl (cI, 36, .inl (vw 240 36 g_M0)))]) := by
    rw [m0_vw (o := 240) (n := 36) (show 240 + 36 ≤ 132 ∨ 240 ≤ 240 by omega)]
    exact hD
  exact kr_cret (fun i => if i = 0 then h else if i ≤ 4 then q2 i else if i ≤ 8 then q4 i else if i ≤ 10 then q6 i else if i ≤ 13 then q8 i else a9) rfl hx hcd hr hlocks hK hP hD hS rfl (Nat.le_of_ble_eq_true rfl) (Nat.le_of_ble_eq_true rfl) dX5_init_56
