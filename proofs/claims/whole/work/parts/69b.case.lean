set_option maxHeartbeats 4000000 in
set_option maxRecDepth 100000 in
theorem law_agree__e2 {pp : Program} {l : Launch} {ee : Env} {ss : State} {mm : MethodId} {below : List Frame} {meth : Method} {cc : Code} {bb Ls : Nat} {xs : Nat → Int32} {D : va_G} {cI cB cW cL : ClassId} (C : LFix pp l ss mm cc bb Ls xs D cI cB cW cL) {o : Nat} {F : Nat → Int64} {ob nw tr : Nat → Nat} {qs : Nat → Nat → Nat} {sc : Nat → Nat} {N : kM} {S : Nat → kM} {n r L : Nat} {T : Nat → Int32} {z : Nat → Nat} {x : Nat → Int32} {hh : Int64} {Sp Ot Sv : Nat → Int32} {M : kM} (hV : LInv M S n r L T Sv x) {i : Nat} (hi : i + 5 ≤ Ls)  (hg : g_why (xs (i + 1)) (xs (i + 2)) = nI 2) {H : Heap} {locs : List Loc} {ls : Array Slot} {cells slots : Nat} {Q : State → Prop} (hc : cells + 1 ≤ 601024) (hs : slots + 6 ≤ 7293034) (hP : va_P D vwCl (wLaw cI cB cW cL o F ob nw tr qs sc (g_rot qs r) M N S n L T z x hh M Sp Ot Sv T) H) (hD : va_D (fun q : Nat => ss.heap.size ≤ q) (wLaw cI cB cW cL o F ob nw tr qs sc (g_rot qs r) M N S n L T z x hh M Sp Ot Sv T)) (hS : va_S (fun q : Nat => ss.heap.size ≤ q) ss.heap H locs) (hl : lv_has ls 9 [(0, .ref bb), (1, .ref (ob 0)), (2, .ref (z 0)), (3, .ref o), (4, .int (nI i))]) (kk : LNext pp l ee ss mm below meth cc bb D cI cB cW cL o ob nw tr qs sc z i cells slots Q) : W pp l ee room_1 ss mm #[Value.ref bb] below meth cc H locs cells slots Q (F0 mm 1448 ls []) := by
  obtain ⟨hx, hcd, hml, hown, hts, hX, hbl, hst, hZ, hN, hK, hL9⟩ := C
  obtain ⟨hI, hn, hr, hL, hT, hx4, hx6, hsv⟩ := id hV
  have hA : ∀ q : Nat, ss.heap.size ≤ q → (fun q : Nat => ss.heap.size ≤ q) q := fun _ h => h
  have hbA : ¬ (fun q : Nat => ss.heap.size ≤ q) bb := Nat.not_le.mpr hbl
  refine lv_aload_n hx hcd dL_law_1448 rfl (lv_at hl 1 rfl) ?_
  refine lv_aload_n hx hcd dL_law_1449 rfl (lv_at hl 0 rfl) ?_
  refine lv_iload hx hcd dL_law_1450 (lv_at hl 4 rfl) ?_
  refine lv_iconst (v := nI 1) hx hcd dL_law_1452 (by decide) ?_
  refine kr_add hx hcd dL_law_1453 ?_
  refine kl_sld hx hcd hX hbl hbA hS (k := i + 1) (by omega) hL9 dL_law_1454 ?_
  refine lv_aload_n hx hcd dL_law_1455 rfl (lv_at hl 0 rfl) ?_
  refine lv_iload hx hcd dL_law_1456 (lv_at hl 4 rfl) ?_
  refine lv_iconst (v := nI 2) hx hcd dL_law_1458 (by decide) ?_
  refine kr_add hx hcd dL_law_1459 ?_
  refine kl_sld hx hcd hX hbl hbA hS (k := i + 2) (by omega) hL9 dL_law_1460 ?_
  refine lv_aload_n hx hcd dL_law_1461 rfl (lv_at hl 3 rfl) ?_
  refine kl_S (As := [.ref (ob 0), .int (xs (i + 1)), .int (xs (i + 2)), .ref o]) (rest := []) (ws2 := wLaw cI cB cW cL o F ob nw tr qs sc (g_rot qs r) M N S n L T z x hh M Sp Ot Sv T) ⟨hx, hcd, hml, hown, hts⟩ (c_L_agree__e2 l hst D cI cB cW cL o F ob nw tr qs sc (g_rot qs r) N S n L T _ M (xs (i + 1)) (xs (i + 2)) hg) (vx_cwSW 4 hts gL_law_L_agree rfl rfl rfl (by decide +kernel) ⟨Nat.le_of_ble_eq_true rfl, Nat.le_of_ble_eq_true rfl⟩) hZ hN hK hP hD hS hA [0, 1, 2, 3, 4, 5, 6, 7, 8, 9, 10, 11, 12, 13, 14, 15, 16, 17, 18, 19, 20, 21, 22, 23, 24, 25, 26, 27, 28, 29, 30, 31, 32, 33, 34, 35, 36, 37, 38, 39, 40, 41, 42, 43, 44, 45, 46, 47, 48, 49, 50, 51, 52, 53, 54, 55, 56, 57, 58, 59, 60, 61, 62, 63, 64, 65, 66, 67, 68, 69, 70, 71, 72, 73, 74, 75, 76, 77, 78, 79, 80, 81, 82, 83, 84, 85, 86, 87, 88, 89, 90, 91, 92, 93, 94] wLaw_LXC nd_LX wLX_adr wLaw_LX rfl hl.1 rfl (Nat.le_of_ble_eq_true rfl) dL_law_1462 ⟨hc, hs⟩ (fun H locs hP hD hS => ?_)
  refine lv_istore (lv' := [(5, .int (nI 2)), (0, .ref bb), (1, .ref (ob 0)), (2, .ref (z 0)), (3, .ref o), (4, .int (nI i))]) hx hcd dL_law_1465 hl (by decide) rfl (fun ls hl => ?_)
  refine lv_aload_n hx hcd dL_law_1467 rfl (lv_at hl 3 rfl) ?_
  refine lv_aload_n hx hcd dL_law_1468 rfl (lv_at hl 1 rfl) ?_
  refine lv_iload hx hcd dL_law_1469 (lv_at hl 5 rfl) ?_
  refine lv_iconst (v := nI 1) hx hcd dL_law_1471 (by decide) ?_
  refine kr_add hx hcd dL_law_1472 ?_
  refine kl_sld hx hcd hX hbl hbA hS (k := i + 1) (by omega) hL9 dL_law_1473 ?_
  refine lv_aload_n hx hcd dL_law_1474 rfl (lv_at hl 1 rfl) ?_
  refine lv_iload hx hcd dL_law_1475 (lv_at hl 5 rfl) ?_
  refine lv_iconst (v := nI 2) hx hcd dL_law_1477 (by decide) ?_
  refine kr_add hx hcd dL_law_1478 ?_
  refine kl_sld hx hcd hX hbl hbA hS (k := i + 2) (by omega) hL9 dL_law_1479 ?_
  refine kr_Vi (As := [.int (xs (i + 1)), .int (xs (i + 2))]) (rest := []) (ws2 := wLaw cI cB cW cL o F ob nw tr qs sc (g_rot qs r) M N S n L T z (xu x 7 (nI 2)) hh M Sp Ot Sv T) (q := (RX7, TX7, 10)) ⟨hx, hcd, hml, hown, hts⟩ (c_X7_agree__bad l D cI cB cW cL z x hh _ M (xs (i + 1)) (xs (i + 2)) 2 hg (by omega)) (cwV 2 hts gL_law_X7_agree rfl rfl rfl (by decide +kernel) ⟨Nat.le_of_ble_eq_true rfl, Nat.le_of_ble_eq_true rfl⟩) hK hP hD hS hA [95, 96] wLaw_MoC (by decide) wMo_adr2 wLaw_Mo 95 rfl rfl rfl hl.1 rfl (Nat.le_of_ble_eq_true rfl) dL_law_1480 ⟨hc, hs⟩ (fun H locs hP hD hS => ?_)
  refine lv_istore (lv' := [(6, .int (nI 0)), (5, .int (nI 2)), (0, .ref bb), (1, .ref (ob 0)), (2, .ref (z 0)), (3, .ref o), (4, .int (nI i))]) hx hcd dL_law_1483 hl (by decide) rfl (fun ls hl => ?_)
  refine lv_aload_n hx hcd dL_law_1485 rfl (lv_at hl 4 rfl) ?_
  refine kr_Vi (As := []) (rest := []) (ws2 := wLaw cI cB cW cL o F ob nw tr qs sc (g_rot qs r) M N S n L T z (xu x 7 (nI 2)) hh M Sp Ot Sv T) (q := (RX7, TX7, 10)) ⟨hx, hcd, hml, hown, hts⟩ (c_X7_thrown l D cI cB cW cL z (xu x 7 (nI 2)) hh _ M ) (cwV 0 hts gL_law_X7_thrown rfl rfl rfl (by decide +kernel) ⟨Nat.le_of_ble_eq_true rfl, Nat.le_of_ble_eq_true rfl⟩) hK hP hD hS hA [95, 96] wLaw_MoC (by decide) wMo_adr2 wLaw_Mo 95 rfl rfl rfl hl.1 rfl (Nat.le_of_ble_eq_true rfl) dL_law_1486 ⟨hc, hs⟩ (fun H locs hP hD hS => ?_)
  refine kr_top (w := nI 2) rfl ?_
  refine lv_iload hx hcd dL_law_1489 (lv_at hl 1 rfl) ?_
  refine kr_ceq (tgt := 1496) hx hcd (by omega) (by omega) dL_law_1491 (by decide) (fun (c_1491 : 2 = 2) => ?_) (fun (c_1491 : ¬ 2 = 2) => absurd c_1491 (by omega))
  refine lv_iload hx hcd dL_law_1496 (lv_at hl 1 rfl) ?_
  refine kr_zne (tgt := 1520) hx hcd (by omega) dL_law_1498 (by decide) (fun (c_1498 : 0 < 2) => ?_) (fun (c_1498 : 2 = 0) => absurd c_1498 (by omega))
  refine lv_goto (tgt := 1812) hx hcd dL_law_1520 (by decide) ?_
  exact kk F N M S n r L T (xu x 7 (nI 2)) hh Sp Ot Sv (linv_x hV rfl rfl) H locs ls hP hD hS (lv_sub hl [2, 3, 4, 5, 6] rfl)

set_option maxHeartbeats 4000000 in
set_option maxRecDepth 100000 in
theorem law_block__okt {pp : Program} {l : Launch} {ee : Env} {ss : State} {mm : MethodId} {below : List Frame} {meth : Method} {cc : Code} {bb Ls : Nat} {xs : Nat → Int32} {D : va_G} {cI cB cW cL : ClassId} (C : LFix pp l ss mm cc bb Ls xs D cI cB cW cL) {o : Nat} {F : Nat → Int64} {ob nw tr : Nat → Nat} {qs : Nat → Nat → Nat} {sc : Nat → Nat} {N : kM} {S : Nat → kM} {n r L : Nat} {T : Nat → Int32} {z : Nat → Nat} {x : Nat → Int32} {hh : Int64} {Sp Ot Sv : Nat → Int32} {M : kM} (hV : LInv M S n r L T Sv x) {i : Nat} (hi : i + 5 ≤ Ls) {a b : Nat} (h1 : xs (i + 1) = nI a) (h2 : xs (i + 2) = nI b) (ha : a < 6) (hb : b < 6) (hne : a ≠ b) (hv : ¬ xs (i + 3) = 0) {H : Heap} {locs : List Loc} {ls : Array Slot} {cells slots : Nat} {Q : State → Prop} (hc : cells + 1 ≤ 601024) (hs : slots + 6 ≤ 7293034) (hP : va_P D vwCl (wLaw cI cB cW cL o F ob nw tr qs sc (g_rot qs r) M N S n L T z x hh M Sp Ot Sv T) H) (hD : va_D (fun q : Nat => ss.heap.size ≤ q) (wLaw cI cB cW cL o F ob nw tr qs sc (g_rot qs r) M N S n L T z x hh M Sp Ot Sv T)) (hS : va_S (fun q : Nat => ss.heap.size ≤ q) ss.heap H locs) (hl : lv_has ls 9 [(0, .ref bb), (1, .ref (ob 0)), (2, .ref (z 0)), (3, .ref o), (4, .int (nI i))]) (kk : LNext pp l ee ss mm below meth cc bb D cI cB cW cL o ob nw tr qs sc z i cells slots Q) : W pp l ee room_1 ss mm #[Value.ref bb] below meth cc H locs cells slots Q (F0 mm 448 ls []) := by
  obtain ⟨hx, hcd, hml, hown, hts, hX, hbl, hst, hZ, hN, hK, hL9⟩ := C
  obtain ⟨hI, hn, hr, hL, hT, hx4, hx6, hsv⟩ := id hV
  have hA : ∀ q : Nat, ss.heap.size ≤ q → (fun q : Nat => ss.heap.size ≤ q) q := fun _ h => h
  have hbA : ¬ (fun q : Nat => ss.heap.size ≤ q) bb := Nat.not_le.mpr hbl
  refine lv_aload_n hx hcd dL_law_448 rfl (lv_at hl 1 rfl) ?_
  refine lv_aload_n hx hcd dL_law_449 rfl (lv_at hl 0 rfl) ?_
  refine lv_iload hx hcd dL_law_450 (lv_at hl 4 rfl) ?_
  refine lv_iconst (v := nI 1) hx hcd dL_law_452 (by decide) ?_
  refine kr_add hx hcd dL_law_453 ?_
  refine kl_sld hx hcd hX hbl hbA hS (k := i + 1) (by omega) hL9 dL_law_454 ?_
  refine kr_top (w := nI a) h1 ?_
  refine lv_aload_n hx hcd dL_law_455 rfl (lv_at hl 0 rfl) ?_
  refine lv_iload hx hcd dL_law_456 (lv_at hl 4 rfl) ?_
  refine lv_iconst (v := nI 2) hx hcd dL_law_458 (by decide) ?_
  refine kr_add hx hcd dL_law_459 ?_
  refine kl_sld hx hcd hX hbl hbA hS (k := i + 2) (by omega) hL9 dL_law_460 ?_
  refine kr_top (w := nI b) h2 ?_
  refine lv_aload_n hx hcd dL_law_461 rfl (lv_at hl 0 rfl) ?_
  refine lv_iload hx hcd dL_law_462 (lv_at hl 4 rfl) ?_
  refine lv_iconst (v := nI 3) hx hcd dL_law_464 (by decide) ?_
  refine kr_add hx hcd dL_law_465 ?_
  refine kl_sld hx hcd hX hbl hbA hS (k := i + 3) (by omega) hL9 dL_law_466 ?_
  refine lv_if_eq (tgt := 474) hx hcd dL_law_467 (by decide) (fun (c_467 : (xs (i + 3)) = 0) => absurd c_467 hv) (fun (c_467 : ¬ (xs (i + 3)) = 0) => ?_)
  refine lv_iconst (v := nI 1) hx hcd dL_law_470 (by decide) ?_
  refine kr_top (w := kI true) rfl ?_
  refine lv_goto (tgt := 475) hx hcd dL_law_471 (by decide) ?_
  refine lv_aload_n hx hcd dL_law_475 rfl (lv_at hl 3 rfl) ?_
  refine kl_S (As := [.ref (ob 0), .int (nI a), .int (nI b), .int (kI true), .ref o]) (rest := []) (ws2 := wLaw cI cB cW cL o (vp_updL F 0 (((if M (240 + 6 * a + b) = kI true then 0 else 1) : Int32).toInt64)) ob nw tr qs sc (g_rot qs (rj n r)) (g_block M a b true) N (sset S (pj n r) M) (g_kn n) L T z x hh M Sp Ot Sv T) ⟨hx, hcd, hml, hown, hts⟩ (c_L_block__ok l hst D cI cB cW cL o F ob nw tr qs sc (g_rot qs r) N S n L T _ M a b true r hI ha hb hne hn hr) (vx_cwSW 5 hts gL_law_L_block rfl rfl rfl (by decide +kernel) ⟨Nat.le_of_ble_eq_true rfl, Nat.le_of_ble_eq_true rfl⟩) hZ hN hK hP hD hS hA [0, 1, 2, 3, 4, 5, 6, 7, 8, 9, 10, 11, 12, 13, 14, 15, 16, 17, 18, 19, 20, 21, 22, 23, 24, 25, 26, 27, 28, 29, 30, 31, 32, 33, 34, 35, 36, 37, 38, 39, 40, 41, 42, 43, 44, 45, 46, 47, 48, 49, 50, 51, 52, 53, 54, 55, 56, 57, 58, 59, 60, 61, 62, 63, 64, 65, 66, 67, 68, 69, 70, 71, 72, 73, 74, 75, 76, 77, 78, 79, 80, 81, 82, 83, 84, 85, 86, 87, 88, 89, 90, 91, 92, 93, 94] wLaw_LXC nd_LX wLX_adr wLaw_LX rfl hl.1 rfl (Nat.le_of_ble_eq_true rfl) dL_law_476 ⟨hc, hs⟩ (fun H locs hP hD hS => ?_)
  refine lv_istore (lv' := [(5, .int (nI 0)), (0, .ref bb), (1, .ref (ob 0)), (2, .ref (z 0)), (3, .ref o), (4, .int (nI i))]) hx hcd dL_law_479 hl (by decide) rfl (fun ls hl => ?_)
  refine lv_aload_n hx hcd dL_law_481 rfl (lv_at hl 3 rfl) ?_
  refine lv_aload_n hx hcd dL_law_482 rfl (lv_at hl 1 rfl) ?_
  refine lv_iload hx hcd dL_law_483 (lv_at hl 5 rfl) ?_
  refine lv_iconst (v := nI 1) hx hcd dL_law_485 (by decide) ?_
  refine kr_add hx hcd dL_law_486 ?_
  refine kl_sld hx hcd hX hbl hbA hS (k := i + 1) (by omega) hL9 dL_law_487 ?_
  refine kr_top (w := nI a) h1 ?_
  refine lv_aload_n hx hcd dL_law_488 rfl (lv_at hl 1 rfl) ?_
  refine lv_iload hx hcd dL_law_489 (lv_at hl 5 rfl) ?_
  refine lv_iconst (v := nI 2) hx hcd dL_law_491 (by decide) ?_
  refine kr_add hx hcd dL_law_492 ?_
  refine kl_sld hx hcd hX hbl hbA hS (k := i + 2) (by omega) hL9 dL_law_493 ?_
  refine kr_top (w := nI b) h2 ?_
  refine lv_aload_n hx hcd dL_law_494 rfl (lv_at hl 1 rfl) ?_
  refine lv_iload hx hcd dL_law_495 (lv_at hl 5 rfl) ?_
  refine lv_iconst (v := nI 3) hx hcd dL_law_497 (by decide) ?_
  refine kr_add hx hcd dL_law_498 ?_
  refine kl_sld hx hcd hX hbl hbA hS (k := i + 3) (by omega) hL9 dL_law_499 ?_
  refine lv_if_eq (tgt := 507) hx hcd dL_law_500 (by decide) (fun (c_500 : (xs (i + 3)) = 0) => absurd c_500 hv) (fun (c_500 : ¬ (xs (i + 3)) = 0) => ?_)
  refine lv_iconst (v := nI 1) hx hcd dL_law_503 (by decide) ?_
  refine kr_top (w := kI true) rfl ?_
  refine lv_goto (tgt := 508) hx hcd dL_law_504 (by decide) ?_
  refine kr_Vi (As := [.int (nI a), .int (nI b), .int (kI true)]) (rest := []) (ws2 := wLaw cI cB cW cL o (vp_updL F 0 (((if M (240 + 6 * a + b) = kI true then 0 else 1) : Int32).toInt64)) ob nw tr qs sc (g_rot qs (rj n r)) (g_block M a b true) N (sset S (pj n r) M) (g_kn n) L T z (xu (xu x 7 0) 4 (nI (g_kn n))) hh (g_block M a b true) Sp Ot (g_keep Sv M n) T) (q := (RX7, TX7, 10)) ⟨hx, hcd, hml, hown, hts⟩ (c_X7_block__ok l D cI cB cW cL z x hh Sp Ot Sv T _ M a b true n hI ha hb hne hx4 hn) (cwV 3 hts gL_law_X7_block rfl rfl rfl (by decide +kernel) ⟨Nat.le_of_ble_eq_true rfl, Nat.le_of_ble_eq_true rfl⟩) hK hP hD hS hA [95, 96, 97, 98, 99, 100] wLaw_MAC (by decide) wMA_adr wLaw_MA 95 rfl rfl rfl hl.1 rfl (Nat.le_of_ble_eq_true rfl) dL_law_508 ⟨hc, hs⟩ (fun H locs hP hD hS => ?_)
  refine lv_istore (lv' := [(6, .int (if M (240 + 6 * a + b) = kI true then 0 else 1)), (5, .int (nI 0)), (0, .ref bb), (1, .ref (ob 0)), (2, .ref (z 0)), (3, .ref o), (4, .int (nI i))]) hx hcd dL_law_511 hl (by decide) rfl (fun ls hl => ?_)
  refine lv_aload_n hx hcd dL_law_513 rfl (lv_at hl 4 rfl) ?_
  refine kr_Vi (As := []) (rest := []) (ws2 := wLaw cI cB cW cL o (vp_updL F 0 (((if M (240 + 6 * a + b) = kI true then 0 else 1) : Int32).toInt64)) ob nw tr qs sc (g_rot qs (rj n r)) (g_block M a b true) N (sset S (pj n r) M) (g_kn n) L T z (xu (xu x 7 0) 4 (nI (g_kn n))) hh (g_block M a b true) Sp Ot (g_keep Sv M n) T) (q := (RX7, TX7, 10)) ⟨hx, hcd, hml, hown, hts⟩ (c_X7_thrown l D cI cB cW cL z (xu (xu x 7 0) 4 (nI (g_kn n))) hh _ (g_block M a b true) ) (cwV 0 hts gL_law_X7_thrown rfl rfl rfl (by decide +kernel) ⟨Nat.le_of_ble_eq_true rfl, Nat.le_of_ble_eq_true rfl⟩) hK hP hD hS hA [95, 96] wLaw_MoC (by decide) wMo_adr2 wLaw_Mo 95 rfl rfl rfl hl.1 rfl (Nat.le_of_ble_eq_true rfl) dL_law_514 ⟨hc, hs⟩ (fun H locs hP hD hS => ?_)
  refine kr_top (w := 0) rfl ?_
  refine kr_top (w := nI 0) rfl ?_
  refine lv_iload hx hcd dL_law_517 (lv_at hl 1 rfl) ?_
  refine kr_ceq (tgt := 524) hx hcd (by omega) (by omega) dL_law_519 (by decide) (fun (c_519 : 0 = 0) => ?_) (fun (c_519 : ¬ 0 = 0) => absurd c_519 (by omega))
  refine lv_iload hx hcd dL_law_524 (lv_at hl 1 rfl) ?_
  refine kr_zne (tgt := 541) hx hcd (by omega) dL_law_526 (by decide) (fun (c_526 : 0 < 0) => absurd c_526 (by omega)) (fun (c_526 : 0 = 0) => ?_)
  refine lv_aload_n hx hcd dL_law_529 rfl (lv_at hl 5 rfl) ?_
  refine lv_iconst (v := nI 0) hx hcd dL_law_530 (by decide) ?_
  refine kl_lald hx hcd hK hP 0 3 rfl rfl (v := ((if M (240 + 6 * a + b) = kI true then 0 else 1) : Int32).toInt64) (by omega) (by decide) updL_0 dL_law_531 ?_
  refine lv_iload hx hcd dL_law_532 (lv_at hl 0 rfl) ?_
  refine lv_i2l hx hcd dL_law_534 rfl ?_
  refine kl_lcmp hx hcd (rfl) dL_law_535 ?_
  refine kr_zeq (tgt := 541) hx hcd (by omega) dL_law_536 (by decide) (fun (c_536 : 0 = 0) => ?_) (fun (c_536 : 0 < 0) => absurd c_536 (by omega))
  refine lv_goto (tgt := 1812) hx hcd dL_law_541 (by decide) ?_
  exact kk (vp_updL F 0 (((if M (240 + 6 * a + b) = kI true then 0 else 1) : Int32).toInt64)) N (g_block M a b true) (sset S (pj n r) M) (g_kn n) (rj n r) L T (xu (xu x 7 0) 4 (nI (g_kn n))) hh Sp Ot (g_keep Sv M n) (linv_keep hV (i_block hI ha hb) rfl rfl) H locs ls hP hD hS (lv_sub hl [2, 3, 4, 5, 6] rfl)

set_option maxHeartbeats 4000000 in
set_option maxRecDepth 100000 in
theorem law_block__e1t {pp : Program} {l : Launch} {ee : Env} {ss : State} {mm : MethodId} {below : List Frame} {meth : Method} {cc : Code} {bb Ls : Nat} {xs : Nat → Int32} {D : va_G} {cI cB cW cL : ClassId} (C : LFix pp l ss mm cc bb Ls xs D cI cB cW cL) {o : Nat} {F : Nat → Int64} {ob nw tr : Nat → Nat} {qs : Nat → Nat → Nat} {sc : Nat → Nat} {N : kM} {S : Nat → kM} {n r L : Nat} {T : Nat → Int32} {z : Nat → Nat} {x : Nat → Int32} {hh : Int64} {Sp Ot Sv : Nat → Int32} {M : kM} (hV : LInv M S n r L T Sv x) {i : Nat} (hi : i + 5 ≤ Ls)  (hg : g_why (xs (i + 1)) (xs (i + 2)) = nI 1) (hv : ¬ xs (i + 3) = 0) {H : Heap} {locs : List Loc} {ls : Array Slot} {cells slots : Nat} {Q : State → Prop} (hc : cells + 1 ≤ 601024) (hs : slots + 6 ≤ 7293034) (hP : va_P D vwCl (wLaw cI cB cW cL o F ob nw tr qs sc (g_rot qs r) M N S n L T z x hh M Sp Ot Sv T) H) (hD : va_D (fun q : Nat => ss.heap.size ≤ q) (wLaw cI cB cW cL o F ob nw tr qs sc (g_rot qs r) M N S n L T z x hh M Sp Ot Sv T)) (hS : va_S (fun q : Nat => ss.heap.size ≤ q) ss.heap H locs) (hl : lv_has ls 9 [(0, .ref bb), (1, .ref (ob 0)), (2, .ref (z 0)), (3, .ref o), (4, .int (nI i))]) (kk : LNext pp l ee ss mm below meth cc bb D cI cB cW cL o ob nw tr qs sc z i cells slots Q) : W pp l ee room_1 ss mm #[Value.ref bb] below meth cc H locs cells slots Q (F0 mm 448 ls []) := by
  obtain ⟨hx, hcd, hml, hown, hts, hX, hbl, hst, hZ, hN, hK, hL9⟩ := C
  obtain ⟨hI, hn, hr, hL, hT, hx4, hx6, hsv⟩ := id hV
  have hA : ∀ q : Nat, ss.heap.size ≤ q → (fun q : Nat => ss.heap.size ≤ q) q := fun _ h => h
  have hbA : ¬ (fun q : Nat => ss.heap.size ≤ q) bb := Nat.not_le.mpr hbl
  refine lv_aload_n hx hcd dL_law_448 rfl (lv_at hl 1 rfl) ?_
  refine lv_aload_n hx hcd dL_law_449 rfl (lv_at hl 0 rfl) ?_
  refine lv_iload hx hcd dL_law_450 (lv_at hl 4 rfl) ?_
  refine lv_iconst (v := nI 1) hx hcd dL_law_452 (by decide) ?_
  refine kr_add hx hcd dL_law_453 ?_
  refine kl_sld hx hcd hX hbl hbA hS (k := i + 1) (by omega) hL9 dL_law_454 ?_
  refine lv_aload_n hx hcd dL_law_455 rfl (lv_at hl 0 rfl) ?_
  refine lv_iload hx hcd dL_law_456 (lv_at hl 4 rfl) ?_
  refine lv_iconst (v := nI 2) hx hcd dL_law_458 (by decide) ?_
  refine kr_add hx hcd dL_law_459 ?_
  refine kl_sld hx hcd hX hbl hbA hS (k := i + 2) (by omega) hL9 dL_law_460 ?_
  refine lv_aload_n hx hcd dL_law_461 rfl (lv_at hl 0 rfl) ?_
  refine lv_iload hx hcd dL_law_462 (lv_at hl 4 rfl) ?_
  refine lv_iconst (v := nI 3) hx hcd dL_law_464 (by decide) ?_
  refine kr_add hx hcd dL_law_465 ?_
  refine kl_sld hx hcd hX hbl hbA hS (k := i + 3) (by omega) hL9 dL_law_466 ?_
  refine lv_if_eq (tgt := 474) hx hcd dL_law_467 (by decide) (fun (c_467 : (xs (i + 3)) = 0) => absurd c_467 hv) (fun (c_467 : ¬ (xs (i + 3)) = 0) => ?_)
  refine lv_iconst (v := nI 1) hx hcd dL_law_470 (by decide) ?_
  refine kr_top (w := kI true) rfl ?_
  refine lv_goto (tgt := 475) hx hcd dL_law_471 (by decide) ?_
  refine lv_aload_n hx hcd dL_law_475 rfl (lv_at hl 3 rfl) ?_
  refine kl_S (As := [.ref (ob 0), .int (xs (i + 1)), .int (xs (i + 2)), .int (kI true), .ref o]) (rest := []) (ws2 := wLaw cI cB cW cL o F ob nw tr qs sc (g_rot qs r) M N S n L T z x hh M Sp Ot Sv T) ⟨hx, hcd, hml, hown, hts⟩ (c_L_block__e1 l hst D cI cB cW cL o F ob nw tr qs sc (g_rot qs r) N S n L T _ M (xs (i + 1)) (xs (i + 2)) true hg) (vx_cwSW 5 hts gL_law_L_block rfl rfl rfl (by decide +kernel) ⟨Nat.le_of_ble_eq_true rfl, Nat.le_of_ble_eq_true rfl⟩) hZ hN hK hP hD hS hA [0, 1, 2, 3, 4, 5, 6, 7, 8, 9, 10, 11, 12, 13, 14, 15, 16, 17, 18, 19, 20, 21, 22, 23, 24, 25, 26, 27, 28, 29, 30, 31, 32, 33, 34, 35, 36, 37, 38, 39, 40, 41, 42, 43, 44, 45, 46, 47, 48, 49, 50, 51, 52, 53, 54, 55, 56, 57, 58, 59, 60, 61, 62, 63, 64, 65, 66, 67, 68, 69, 70, 71, 72, 73, 74, 75, 76, 77, 78, 79, 80, 81, 82, 83, 84, 85, 86, 87, 88, 89, 90, 91, 92, 93, 94] wLaw_LXC nd_LX wLX_adr wLaw_LX rfl hl.1 rfl (Nat.le_of_ble_eq_true rfl) dL_law_476 ⟨hc, hs⟩ (fun H locs hP hD hS => ?_)
  refine lv_istore (lv' := [(5, .int (nI 1)), (0, .ref bb), (1, .ref (ob 0)), (2, .ref (z 0)), (3, .ref o), (4, .int (nI i))]) hx hcd dL_law_479 hl (by decide) rfl (fun ls hl => ?_)
  refine lv_aload_n hx hcd dL_law_481 rfl (lv_at hl 3 rfl) ?_
  refine lv_aload_n hx hcd dL_law_482 rfl (lv_at hl 1 rfl) ?_
  refine lv_iload hx hcd dL_law_483 (lv_at hl 5 rfl) ?_
  refine lv_iconst (v := nI 1) hx hcd dL_law_485 (by decide) ?_
  refine kr_add hx hcd dL_law_486 ?_
  refine kl_sld hx hcd hX hbl hbA hS (k := i + 1) (by omega) hL9 dL_law_487 ?_
  refine lv_aload_n hx hcd dL_law_488 rfl (lv_at hl 1 rfl) ?_
  refine lv_iload hx hcd dL_law_489 (lv_at hl 5 rfl) ?_
  refine lv_iconst (v := nI 2) hx hcd dL_law_491 (by decide) ?_
  refine kr_add hx hcd dL_law_492 ?_
  refine kl_sld hx hcd hX hbl hbA hS (k := i + 2) (by omega) hL9 dL_law_493 ?_
  refine lv_aload_n hx hcd dL_law_494 rfl (lv_at hl 1 rfl) ?_
  refine lv_iload hx hcd dL_law_495 (lv_at hl 5 rfl) ?_
  refine lv_iconst (v := nI 3) hx hcd dL_law_497 (by decide) ?_
  refine kr_add hx hcd dL_law_498 ?_
  refine kl_sld hx hcd hX hbl hbA hS (k := i + 3) (by omega) hL9 dL_law_499 ?_
  refine lv_if_eq (tgt := 507) hx hcd dL_law_500 (by decide) (fun (c_500 : (xs (i + 3)) = 0) => absurd c_500 hv) (fun (c_500 : ¬ (xs (i + 3)) = 0) => ?_)
  refine lv_iconst (v := nI 1) hx hcd dL_law_503 (by decide) ?_
  refine kr_top (w := kI true) rfl ?_
  refine lv_goto (tgt := 508) hx hcd dL_law_504 (by decide) ?_
  refine kr_Vi (As := [.int (xs (i + 1)), .int (xs (i + 2)), .int (kI true)]) (rest := []) (ws2 := wLaw cI cB cW cL o F ob nw tr qs sc (g_rot qs r) M N S n L T z (xu x 7 (nI 1)) hh M Sp Ot Sv T) (q := (RX7, TX7, 10)) ⟨hx, hcd, hml, hown, hts⟩ (c_X7_block__bad l D cI cB cW cL z x hh Sp Ot Sv T _ M (xs (i + 1)) (xs (i + 2)) true 1 hg (by omega)) (cwV 3 hts gL_law_X7_block rfl rfl rfl (by decide +kernel) ⟨Nat.le_of_ble_eq_true rfl, Nat.le_of_ble_eq_true rfl⟩) hK hP hD hS hA [95, 96, 97, 98, 99, 100] wLaw_MAC (by decide) wMA_adr wLaw_MA 95 rfl rfl rfl hl.1 rfl (Nat.le_of_ble_eq_true rfl) dL_law_508 ⟨hc, hs⟩ (fun H locs hP hD hS => ?_)
  refine lv_istore (lv' := [(6, .int (nI 0)), (5, .int (nI 1)), (0, .ref bb), (1, .ref (ob 0)), (2, .ref (z 0)), (3, .ref o), (4, .int (nI i))]) hx hcd dL_law_511 hl (by decide) rfl (fun ls hl => ?_)
  refine lv_aload_n hx hcd dL_law_513 rfl (lv_at hl 4 rfl) ?_
  refine kr_Vi (As := []) (rest := []) (ws2 := wLaw cI cB cW cL o F ob nw tr qs sc (g_rot qs r) M N S n L T z (xu x 7 (nI 1)) hh M Sp Ot Sv T) (q := (RX7, TX7, 10)) ⟨hx, hcd, hml, hown, hts⟩ (c_X7_thrown l D cI cB cW cL z (xu x 7 (nI 1)) hh _ M ) (cwV 0 hts gL_law_X7_thrown rfl rfl rfl (by decide +kernel) ⟨Nat.le_of_ble_eq_true rfl, Nat.le_of_ble_eq_true rfl⟩) hK hP hD hS hA [95, 96] wLaw_MoC (by decide) wMo_adr2 wLaw_Mo 95 rfl rfl rfl hl.1 rfl (Nat.le_of_ble_eq_true rfl) dL_law_514 ⟨hc, hs⟩ (fun H locs hP hD hS => ?_)
  refine kr_top (w := nI 1) rfl ?_
  refine lv_iload hx hcd dL_law_517 (lv_at hl 1 rfl) ?_
  refine kr_ceq (tgt := 524) hx hcd (by omega) (by omega) dL_law_519 (by decide) (fun (c_519 : 1 = 1) => ?_) (fun (c_519 : ¬ 1 = 1) => absurd c_519 (by omega))
  refine lv_iload hx hcd dL_law_524 (lv_at hl 1 rfl) ?_
  refine kr_zne (tgt := 541) hx hcd (by omega) dL_law_526 (by decide) (fun (c_526 : 0 < 1) => ?_) (fun (c_526 : 1 = 0) => absurd c_526 (by omega))
  refine lv_goto (tgt := 1812) hx hcd dL_law_541 (by decide) ?_
  exact kk F N M S n r L T (xu x 7 (nI 1)) hh Sp Ot Sv (linv_x hV rfl rfl) H locs ls hP hD hS (lv_sub hl [2, 3, 4, 5, 6] rfl)

set_option maxHeartbeats 4000000 in
set_option maxRecDepth 100000 in
theorem law_block__e2t {pp : Program} {l : Launch} {ee : Env} {ss : State} {mm : MethodId} {below : List Frame} {meth : Method} {cc : Code} {bb Ls : Nat} {xs : Nat → Int32} {D : va_G} {cI cB cW cL : ClassId} (C : LFix pp l ss mm cc bb Ls xs D cI cB cW cL) {o : Nat} {F : Nat → Int64} {ob nw tr : Nat → Nat} {qs : Nat → Nat → Nat} {sc : Nat → Nat} {N : kM} {S : Nat → kM} {n r L : Nat} {T : Nat → Int32} {z : Nat → Nat} {x : Nat → Int32} {hh : Int64} {Sp Ot Sv : Nat → Int32} {M : kM} (hV : LInv M S n r L T Sv x) {i : Nat} (hi : i + 5 ≤ Ls)  (hg : g_why (xs (i + 1)) (xs (i + 2)) = nI 2) (hv : ¬ xs (i + 3) = 0) {H : Heap} {locs : List Loc} {ls : Array Slot} {cells slots : Nat} {Q : State → Prop} (hc : cells + 1 ≤ 601024) (hs : slots + 6 ≤ 7293034) (hP : va_P D vwCl (wLaw cI cB cW cL o F ob nw tr qs sc (g_rot qs r) M N S n L T z x hh M Sp Ot Sv T) H) (hD : va_D (fun q : Nat => ss.heap.size ≤ q) (wLaw cI cB cW cL o F ob nw tr qs sc (g_rot qs r) M N S n L T z x hh M Sp Ot Sv T)) (hS : va_S (fun q : Nat => ss.heap.size ≤ q) ss.heap H locs) (hl : lv_has ls 9 [(0, .ref bb), (1, .ref (ob 0)), (2, .ref (z 0)), (3, .ref o), (4, .int (nI i))]) (kk : LNext pp l ee ss mm below meth cc bb D cI cB cW cL o ob nw tr qs sc z i cells slots Q) : W pp l ee room_1 ss mm #[Value.ref bb] below meth cc H locs cells slots Q (F0 mm 448 ls []) := by
  obtain ⟨hx, hcd, hml, hown, hts, hX, hbl, hst, hZ, hN, hK, hL9⟩ := C
  obtain ⟨hI, hn, hr, hL, hT, hx4, hx6, hsv⟩ := id hV
  have hA : ∀ q : Nat, ss.heap.size ≤ q → (fun q : Nat => ss.heap.size ≤ q) q := fun _ h => h
  have hbA : ¬ (fun q : Nat => ss.heap.size ≤ q) bb := Nat.not_le.mpr hbl
  refine lv_aload_n hx hcd dL_law_448 rfl (lv_at hl 1 rfl) ?_
  refine lv_aload_n hx hcd dL_law_449 rfl (lv_at hl 0 rfl) ?_
  refine lv_iload hx hcd dL_law_450 (lv_at hl 4 rfl) ?_
  refine lv_iconst (v := nI 1) hx hcd dL_law_452 (by decide) ?_
  refine kr_add hx hcd dL_law_453 ?_
  refine kl_sld hx hcd hX hbl hbA hS (k := i + 1) (by omega) hL9 dL_law_454 ?_
  refine lv_aload_n hx hcd dL_law_455 rfl (lv_at hl 0 rfl) ?_
  refine lv_iload hx hcd dL_law_456 (lv_at hl 4 rfl) ?_
  refine lv_iconst (v := nI 2) hx hcd dL_law_458 (by decide) ?_
  refine kr_add hx hcd dL_law_459 ?_
  refine kl_sld hx hcd hX hbl hbA hS (k := i + 2) (by omega) hL9 dL_law_460 ?_
  refine lv_aload_n hx hcd dL_law_461 rfl (lv_at hl 0 rfl) ?_
  refine lv_iload hx hcd dL_law_462 (lv_at hl 4 rfl) ?_
  refine lv_iconst (v := nI 3) hx hcd dL_law_464 (by decide) ?_
  refine kr_add hx hcd dL_law_465 ?_
  refine kl_sld hx hcd hX hbl hbA hS (k := i + 3) (by omega) hL9 dL_law_466 ?_
  refine lv_if_eq (tgt := 474) hx hcd dL_law_467 (by decide) (fun (c_467 : (xs (i + 3)) = 0) => absurd c_467 hv) (fun (c_467 : ¬ (xs (i + 3)) = 0) => ?_)
  refine lv_iconst (v := nI 1) hx hcd dL_law_470 (by decide) ?_
  refine kr_top (w := kI true) rfl ?_
  refine lv_goto (tgt := 475) hx hcd dL_law_471 (by decide) ?_
  refine lv_aload_n hx hcd dL_law_475 rfl (lv_at hl 3 rfl) ?_
  refine kl_S (As := [.ref (ob 0), .int (xs (i + 1)), .int (xs (i + 2)), .int (kI true), .ref o]) (rest := []) (ws2 := wLaw cI cB cW cL o F ob nw tr qs sc (g_rot qs r) M N S n L T z x hh M Sp Ot Sv T) ⟨hx, hcd, hml, hown, hts⟩ (c_L_block__e2 l hst D cI cB cW cL o F ob nw tr qs sc (g_rot qs r) N S n L T _ M (xs (i + 1)) (xs (i + 2)) true hg) (vx_cwSW 5 hts gL_law_L_block rfl rfl rfl (by decide +kernel) ⟨Nat.le_of_ble_eq_true rfl, Nat.le_of_ble_eq_true rfl⟩) hZ hN hK hP hD hS hA [0, 1, 2, 3, 4, 5, 6, 7, 8, 9, 10, 11, 12, 13, 14, 15, 16, 17, 18, 19, 20, 21, 22, 23, 24, 25, 26, 27, 28, 29, 30, 31, 32, 33, 34, 35, 36, 37, 38, 39, 40, 41, 42, 43, 44, 45, 46, 47, 48, 49, 50, 51, 52, 53, 54, 55, 56, 57, 58, 59, 60, 61, 62, 63, 64, 65, 66, 67, 68, 69, 70, 71, 72, 73, 74, 75, 76, 77, 78, 79, 80, 81, 82, 83, 84, 85, 86, 87, 88, 89, 90, 91, 92, 93, 94] wLaw_LXC nd_LX wLX_adr wLaw_LX rfl hl.1 rfl (Nat.le_of_ble_eq_true rfl) dL_law_476 ⟨hc, hs⟩ (fun H locs hP hD hS => ?_)
  refine lv_istore (lv' := [(5, .int (nI 2)), (0, .ref bb), (1, .ref (ob 0)), (2, .ref (z 0)), (3, .ref o), (4, .int (nI i))]) hx hcd dL_law_479 hl (by decide) rfl (fun ls hl => ?_)
  refine lv_aload_n hx hcd dL_law_481 rfl (lv_at hl 3 rfl) ?_
  refine lv_aload_n hx hcd dL_law_482 rfl (lv_at hl 1 rfl) ?_
  refine lv_iload hx hcd dL_law_483 (lv_at hl 5 rfl) ?_
  refine lv_iconst (v := nI 1) hx hcd dL_law_485 (by decide) ?_
  refine kr_add hx hcd dL_law_486 ?_
  refine kl_sld hx hcd hX hbl hbA hS (k := i + 1) (by omega) hL9 dL_law_487 ?_
  refine lv_aload_n hx hcd dL_law_488 rfl (lv_at hl 1 rfl) ?_
  refine lv_iload hx hcd dL_law_489 (lv_at hl 5 rfl) ?_
  refine lv_iconst (v := nI 2) hx hcd dL_law_491 (by decide) ?_
  refine kr_add hx hcd dL_law_492 ?_
  refine kl_sld hx hcd hX hbl hbA hS (k := i + 2) (by omega) hL9 dL_law_493 ?_
  refine lv_aload_n hx hcd dL_law_494 rfl (lv_at hl 1 rfl) ?_
  refine lv_iload hx hcd dL_law_495 (lv_at hl 5 rfl) ?_
  refine lv_iconst (v := nI 3) hx hcd dL_law_497 (by decide) ?_
  refine kr_add hx hcd dL_law_498 ?_
  refine kl_sld hx hcd hX hbl hbA hS (k := i + 3) (by omega) hL9 dL_law_499 ?_
  refine lv_if_eq (tgt := 507) hx hcd dL_law_500 (by decide) (fun (c_500 : (xs (i + 3)) = 0) => absurd c_500 hv) (fun (c_500 : ¬ (xs (i + 3)) = 0) => ?_)
  refine lv_iconst (v := nI 1) hx hcd dL_law_503 (by decide) ?_
  refine kr_top (w := kI true) rfl ?_
  refine lv_goto (tgt := 508) hx hcd dL_law_504 (by decide) ?_
  refine kr_Vi (As := [.int (xs (i + 1)), .int (xs (i + 2)), .int (kI true)]) (rest := []) (ws2 := wLaw cI cB cW cL o F ob nw tr qs sc (g_rot qs r) M N S n L T z (xu x 7 (nI 2)) hh M Sp Ot Sv T) (q := (RX7, TX7, 10)) ⟨hx, hcd, hml, hown, hts⟩ (c_X7_block__bad l D cI cB cW cL z x hh Sp Ot Sv T _ M (xs (i + 1)) (xs (i + 2)) true 2 hg (by omega)) (cwV 3 hts gL_law_X7_block rfl rfl rfl (by decide +kernel) ⟨Nat.le_of_ble_eq_true rfl, Nat.le_of_ble_eq_true rfl⟩) hK hP hD hS hA [95, 96, 97, 98, 99, 100] wLaw_MAC (by decide) wMA_adr wLaw_MA 95 rfl rfl rfl hl.1 rfl (Nat.le_of_ble_eq_true rfl) dL_law_508 ⟨hc, hs⟩ (fun H locs hP hD hS => ?_)
  refine lv_istore (lv' := [(6, .int (nI 0)), (5, .int (nI 2)), (0, .ref bb), (1, .ref (ob 0)), (2, .ref (z 0)), (3, .ref o), (4, .int (nI i))]) hx hcd dL_law_511 hl (by decide) rfl (fun ls hl => ?_)
  refine lv_aload_n hx hcd dL_law_513 rfl (lv_at hl 4 rfl) ?_
  refine kr_Vi (As := []) (rest := []) (ws2 := wLaw cI cB cW cL o F ob nw tr qs sc (g_rot qs r) M N S n L T z (xu x 7 (nI 2)) hh M Sp Ot Sv T) (q := (RX7, TX7, 10)) ⟨hx, hcd, hml, hown, hts⟩ (c_X7_thrown l D cI cB cW cL z (xu x 7 (nI 2)) hh _ M ) (cwV 0 hts gL_law_X7_thrown rfl rfl rfl (by decide +kernel) ⟨Nat.le_of_ble_eq_true rfl, Nat.le_of_ble_eq_true rfl⟩) hK hP hD hS hA [95, 96] wLaw_MoC (by decide) wMo_adr2 wLaw_Mo 95 rfl rfl rfl hl.1 rfl (Nat.le_of_ble_eq_true rfl) dL_law_514 ⟨hc, hs⟩ (fun H locs hP hD hS => ?_)
  refine kr_top (w := nI 2) rfl ?_
  refine lv_iload hx hcd dL_law_517 (lv_at hl 1 rfl) ?_
  refine kr_ceq (tgt := 524) hx hcd (by omega) (by omega) dL_law_519 (by decide) (fun (c_519 : 2 = 2) => ?_) (fun (c_519 : ¬ 2 = 2) => absurd c_519 (by omega))
  refine lv_iload hx hcd dL_law_524 (lv_at hl 1 rfl) ?_
  refine kr_zne (tgt := 541) hx hcd (by omega) dL_law_526 (by decide) (fun (c_526 : 0 < 2) => ?_) (fun (c_526 : 2 = 0) => absurd c_526 (by omega))
  refine lv_goto (tgt := 1812) hx hcd dL_law_541 (by decide) ?_
  exact kk F N M S n r L T (xu x 7 (nI 2)) hh Sp Ot Sv (linv_x hV rfl rfl) H locs ls hP hD hS (lv_sub hl [2, 3, 4, 5, 6] rfl)

set_option maxHeartbeats 4000000 in
set_option maxRecDepth 100000 in
theorem law_block__okf {pp : Program} {l : Launch} {ee : Env} {ss : State} {mm : MethodId} {below : List Frame} {meth : Method} {cc : Code} {bb Ls : Nat} {xs : Nat → Int32} {D : va_G} {cI cB cW cL : ClassId} (C : LFix pp l ss mm cc bb Ls xs D cI cB cW cL) {o : Nat} {F : Nat → Int64} {ob nw tr : Nat → Nat} {qs : Nat → Nat → Nat} {sc : Nat → Nat} {N : kM} {S : Nat → kM} {n r L : Nat} {T : Nat → Int32} {z : Nat → Nat} {x : Nat → Int32} {hh : Int64} {Sp Ot Sv : Nat → Int32} {M : kM} (hV : LInv M S n r L T Sv x) {i : Nat} (hi : i + 5 ≤ Ls) {a b : Nat} (h1 : xs (i + 1) = nI a) (h2 : xs (i + 2) = nI b) (ha : a < 6) (hb : b < 6) (hne : a ≠ b) (hv : xs (i + 3) = 0) {H : Heap} {locs : List Loc} {ls : Array Slot} {cells slots : Nat} {Q : State → Prop} (hc : cells + 1 ≤ 601024) (hs : slots + 6 ≤ 7293034) (hP : va_P D vwCl (wLaw cI cB cW cL o F ob nw tr qs sc (g_rot qs r) M N S n L T z x hh M Sp Ot Sv T) H) (hD : va_D (fun q : Nat => ss.heap.size ≤ q) (wLaw cI cB cW cL o F ob nw tr qs sc (g_rot qs r) M N S n L T z x hh M Sp Ot Sv T)) (hS : va_S (fun q : Nat => ss.heap.size ≤ q) ss.heap H locs) (hl : lv_has ls 9 [(0, .ref bb), (1, .ref (ob 0)), (2, .ref (z 0)), (3, .ref o), (4, .int (nI i))]) (kk : LNext pp l ee ss mm below meth cc bb D cI cB cW cL o ob nw tr qs sc z i cells slots Q) : W pp l ee room_1 ss mm #[Value.ref bb] below meth cc H locs cells slots Q (F0 mm 448 ls []) := by
  obtain ⟨hx, hcd, hml, hown, hts, hX, hbl, hst, hZ, hN, hK, hL9⟩ := C
  obtain ⟨hI, hn, hr, hL, hT, hx4, hx6, hsv⟩ := id hV
  have hA : ∀ q : Nat, ss.heap.size ≤ q → (fun q : Nat => ss.heap.size ≤ q) q := fun _ h => h
  have hbA : ¬ (fun q : Nat => ss.heap.size ≤ q) bb := Nat.not_le.mpr hbl
  refine lv_aload_n hx hcd dL_law_448 rfl (lv_at hl 1 rfl) ?_
  refine lv_aload_n hx hcd dL_law_449 rfl (lv_at hl 0 rfl) ?_
  refine lv_iload hx hcd dL_law_450 (lv_at hl 4 rfl) ?_
  refine lv_iconst (v := nI 1) hx hcd dL_law_452 (by decide) ?_
  refine kr_add hx hcd dL_law_453 ?_
  refine kl_sld hx hcd hX hbl hbA hS (k := i + 1) (by omega) hL9 dL_law_454 ?_
  refine kr_top (w := nI a) h1 ?_
  refine lv_aload_n hx hcd dL_law_455 rfl (lv_at hl 0 rfl) ?_
  refine lv_iload hx hcd dL_law_456 (lv_at hl 4 rfl) ?_
  refine lv_iconst (v := nI 2) hx hcd dL_law_458 (by decide) ?_
  refine kr_add hx hcd dL_law_459 ?_
  refine kl_sld hx hcd hX hbl hbA hS (k := i + 2) (by omega) hL9 dL_law_460 ?_
  refine kr_top (w := nI b) h2 ?_
  refine lv_aload_n hx hcd dL_law_461 rfl (lv_at hl 0 rfl) ?_
  refine lv_iload hx hcd dL_law_462 (lv_at hl 4 rfl) ?_
  refine lv_iconst (v := nI 3) hx hcd dL_law_464 (by decide) ?_
  refine kr_add hx hcd dL_law_465 ?_
  refine kl_sld hx hcd hX hbl hbA hS (k := i + 3) (by omega) hL9 dL_law_466 ?_
  refine lv_if_eq (tgt := 474) hx hcd dL_law_467 (by decide) (fun (c_467 : (xs (i + 3)) = 0) => ?_) (fun (c_467 : ¬ (xs (i + 3)) = 0) => absurd c_467 (not_not_intro hv))
  refine lv_iconst (v := nI 0) hx hcd dL_law_474 (by decide) ?_
  refine kr_top (w := kI false) rfl ?_
  refine lv_aload_n hx hcd dL_law_475 rfl (lv_at hl 3 rfl) ?_
  refine kl_S (As := [.ref (ob 0), .int (nI a), .int (nI b), .int (kI false), .ref o]) (rest := []) (ws2 := wLaw cI cB cW cL o (vp_updL F 0 (((if M (240 + 6 * a + b) = kI false then 0 else 1) : Int32).toInt64)) ob nw tr qs sc (g_rot qs (rj n r)) (g_block M a b false) N (sset S (pj n r) M) (g_kn n) L T z x hh M Sp Ot Sv T) ⟨hx, hcd, hml, hown, hts⟩ (c_L_block__ok l hst D cI cB cW cL o F ob nw tr qs sc (g_rot qs r) N S n L T _ M a b false r hI ha hb hne hn hr) (vx_cwSW 5 hts gL_law_L_block rfl rfl rfl (by decide +kernel) ⟨Nat.le_of_ble_eq_true rfl, Nat.le_of_ble_eq_true rfl⟩) hZ hN hK hP hD hS hA [0, 1, 2, 3, 4, 5, 6, 7, 8, 9, 10, 11, 12, 13, 14, 15, 16, 17, 18, 19, 20, 21, 22, 23, 24, 25, 26, 27, 28, 29, 30, 31, 32, 33, 34, 35, 36, 37, 38, 39, 40, 41, 42, 43, 44, 45, 46, 47, 48, 49, 50, 51, 52, 53, 54, 55, 56, 57, 58, 59, 60, 61, 62, 63, 64, 65, 66, 67, 68, 69, 70, 71, 72, 73, 74, 75, 76, 77, 78, 79, 80, 81, 82, 83, 84, 85, 86, 87, 88, 89, 90, 91, 92, 93, 94] wLaw_LXC nd_LX wLX_adr wLaw_LX rfl hl.1 rfl (Nat.le_of_ble_eq_true rfl) dL_law_476 ⟨hc, hs⟩ (fun H locs hP hD hS => ?_)
  refine lv_istore (lv' := [(5, .int (nI 0)), (0, .ref bb), (1, .ref (ob 0)), (2, .ref (z 0)), (3, .ref o), (4, .int (nI i))]) hx hcd dL_law_479 hl (by decide) rfl (fun ls hl => ?_)
  refine lv_aload_n hx hcd dL_law_481 rfl (lv_at hl 3 rfl) ?_
  refine lv_aload_n hx hcd dL_law_482 rfl (lv_at hl 1 rfl) ?_
  refine lv_iload hx hcd dL_law_483 (lv_at hl 5 rfl) ?_
  refine lv_iconst (v := nI 1) hx hcd dL_law_485 (by decide) ?_
  refine kr_add hx hcd dL_law_486 ?_
  refine kl_sld hx hcd hX hbl hbA hS (k := i + 1) (by omega) hL9 dL_law_487 ?_
  refine kr_top (w := nI a) h1 ?_
  refine lv_aload_n hx hcd dL_law_488 rfl (lv_at hl 1 rfl) ?_
  refine lv_iload hx hcd dL_law_489 (lv_at hl 5 rfl) ?_
  refine lv_iconst (v := nI 2) hx hcd dL_law_491 (by decide) ?_
  refine kr_add hx hcd dL_law_492 ?_
  refine kl_sld hx hcd hX hbl hbA hS (k := i + 2) (by omega) hL9 dL_law_493 ?_
  refine kr_top (w := nI b) h2 ?_
  refine lv_aload_n hx hcd dL_law_494 rfl (lv_at hl 1 rfl) ?_
  refine lv_iload hx hcd dL_law_495 (lv_at hl 5 rfl) ?_
  refine lv_iconst (v := nI 3) hx hcd dL_law_497 (by decide) ?_
  refine kr_add hx hcd dL_law_498 ?_
  refine kl_sld hx hcd hX hbl hbA hS (k := i + 3) (by omega) hL9 dL_law_499 ?_
  refine lv_if_eq (tgt := 507) hx hcd dL_law_500 (by decide) (fun (c_500 : (xs (i + 3)) = 0) => ?_) (fun (c_500 : ¬ (xs (i + 3)) = 0) => absurd c_500 (not_not_intro hv))
  refine lv_iconst (v := nI 0) hx hcd dL_law_507 (by decide) ?_
  refine kr_top (w := kI false) rfl ?_
  refine kr_Vi (As := [.int (nI a), .int (nI b), .int (kI false)]) (rest := []) (ws2 := wLaw cI cB cW cL o (vp_updL F 0 (((if M (240 + 6 * a + b) = kI false then 0 else 1) : Int32).toInt64)) ob nw tr qs sc (g_rot qs (rj n r)) (g_block M a b false) N (sset S (pj n r) M) (g_kn n) L T z (xu (xu x 7 0) 4 (nI (g_kn n))) hh (g_block M a b false) Sp Ot (g_keep Sv M n) T) (q := (RX7, TX7, 10)) ⟨hx, hcd, hml, hown, hts⟩ (c_X7_block__ok l D cI cB cW cL z x hh Sp Ot Sv T _ M a b false n hI ha hb hne hx4 hn) (cwV 3 hts gL_law_X7_block rfl rfl rfl (by decide +kernel) ⟨Nat.le_of_ble_eq_true rfl, Nat.le_of_ble_eq_true rfl⟩) hK hP hD hS hA [95, 96, 97, 98, 99, 100] wLaw_MAC (by decide) wMA_adr wLaw_MA 95 rfl rfl rfl hl.1 rfl (Nat.le_of_ble_eq_true rfl) dL_law_508 ⟨hc, hs⟩ (fun H locs hP hD hS => ?_)
  refine lv_istore (lv' := [(6, .int (if M (240 + 6 * a + b) = kI false then 0 else 1)), (5, .int (nI 0)), (0, .ref bb), (1, .ref (ob 0)), (2, .ref (z 0)), (3, .ref o), (4, .int (nI i))]) hx hcd dL_law_511 hl (by decide) rfl (fun ls hl => ?_)
  refine lv_aload_n hx hcd dL_law_513 rfl (lv_at hl 4 rfl) ?_
  refine kr_Vi (As := []) (rest := []) (ws2 := wLaw cI cB cW cL o (vp_updL F 0 (((if M (240 + 6 * a + b) = kI false then 0 else 1) : Int32).toInt64)) ob nw tr qs sc (g_rot qs (rj n r)) (g_block M a b false) N (sset S (pj n r) M) (g_kn n) L T z (xu (xu x 7 0) 4 (nI (g_kn n))) hh (g_block M a b false) Sp Ot (g_keep Sv M n) T) (q := (RX7, TX7, 10)) ⟨hx, hcd, hml, hown, hts⟩ (c_X7_thrown l D cI cB cW cL z (xu (xu x 7 0) 4 (nI (g_kn n))) hh _ (g_block M a b false) ) (cwV 0 hts gL_law_X7_thrown rfl rfl rfl (by decide +kernel) ⟨Nat.le_of_ble_eq_true rfl, Nat.le_of_ble_eq_true rfl⟩) hK hP hD hS hA [95, 96] wLaw_MoC (by decide) wMo_adr2 wLaw_Mo 95 rfl rfl rfl hl.1 rfl (Nat.le_of_ble_eq_true rfl) dL_law_514 ⟨hc, hs⟩ (fun H locs hP hD hS => ?_)
  refine kr_top (w := 0) rfl ?_
  refine kr_top (w := nI 0) rfl ?_
  refine lv_iload hx hcd dL_law_517 (lv_at hl 1 rfl) ?_
  refine kr_ceq (tgt := 524) hx hcd (by omega) (by omega) dL_law_519 (by decide) (fun (c_519 : 0 = 0) => ?_) (fun (c_519 : ¬ 0 = 0) => absurd c_519 (by omega))
  refine lv_iload hx hcd dL_law_524 (lv_at hl 1 rfl) ?_
  refine kr_zne (tgt := 541) hx hcd (by omega) dL_law_526 (by decide) (fun (c_526 : 0 < 0) => absurd c_526 (by omega)) (fun (c_526 : 0 = 0) => ?_)
  refine lv_aload_n hx hcd dL_law_529 rfl (lv_at hl 5 rfl) ?_
  refine lv_iconst (v := nI 0) hx hcd dL_law_530 (by decide) ?_
  refine kl_lald hx hcd hK hP 0 3 rfl rfl (v := ((if M (240 + 6 * a + b) = kI false then 0 else 1) : Int32).toInt64) (by omega) (by decide) updL_0 dL_law_531 ?_
  refine lv_iload hx hcd dL_law_532 (lv_at hl 0 rfl) ?_
  refine lv_i2l hx hcd dL_law_534 rfl ?_
  refine kl_lcmp hx hcd (rfl) dL_law_535 ?_
  refine kr_zeq (tgt := 541) hx hcd (by omega) dL_law_536 (by decide) (fun (c_536 : 0 = 0) => ?_) (fun (c_536 : 0 < 0) => absurd c_536 (by omega))
  refine lv_goto (tgt := 1812) hx hcd dL_law_541 (by decide) ?_
  exact kk (vp_updL F 0 (((if M (240 + 6 * a + b) = kI false then 0 else 1) : Int32).toInt64)) N (g_block M a b false) (sset S (pj n r) M) (g_kn n) (rj n r) L T (xu (xu x 7 0) 4 (nI (g_kn n))) hh Sp Ot (g_keep Sv M n) (linv_keep hV (i_block hI ha hb) rfl rfl) H locs ls hP hD hS (lv_sub hl [2, 3, 4, 5, 6] rfl)

set_option maxHeartbeats 4000000 in
set_option maxRecDepth 100000 in
theorem law_block__e1f {pp : Program} {l : Launch} {ee : Env} {ss : State} {mm : MethodId} {below : List Frame} {meth : Method} {cc : Code} {bb Ls : Nat} {xs : Nat → Int32} {D : va_G} {cI cB cW cL : ClassId} (C : LFix pp l ss mm cc bb Ls xs D cI cB cW cL) {o : Nat} {F : Nat → Int64} {ob nw tr : Nat → Nat} {qs : Nat → Nat → Nat} {sc : Nat → Nat} {N : kM} {S : Nat → kM} {n r L : Nat} {T : Nat → Int32} {z : Nat → Nat} {x : Nat → Int32} {hh : Int64} {Sp Ot Sv : Nat → Int32} {M : kM} (hV : LInv M S n r L T Sv x) {i : Nat} (hi : i + 5 ≤ Ls)  (hg : g_why (xs (i + 1)) (xs (i + 2)) = nI 1) (hv : xs (i + 3) = 0) {H : Heap} {locs : List Loc} {ls : Array Slot} {cells slots : Nat} {Q : State → Prop} (hc : cells + 1 ≤ 601024) (hs : slots + 6 ≤ 7293034) (hP : va_P D vwCl (wLaw cI cB cW cL o F ob nw tr qs sc (g_rot qs r) M N S n L T z x hh M Sp Ot Sv T) H) (hD : va_D (fun q : Nat => ss.heap.size ≤ q) (wLaw cI cB cW cL o F ob nw tr qs sc (g_rot qs r) M N S n L T z x hh M Sp Ot Sv T)) (hS : va_S (fun q : Nat => ss.heap.size ≤ q) ss.heap H locs) (hl : lv_has ls 9 [(0, .ref bb), (1, .ref (ob 0)), (2, .ref (z 0)), (3, .ref o), (4, .int (nI i))]) (kk : LNext pp l ee ss mm below meth cc bb D cI cB cW cL o ob nw tr qs sc z i cells slots Q) : W pp l ee room_1 ss mm #[Value.ref bb] below meth cc H locs cells slots Q (F0 mm 448 ls []) := by
  obtain ⟨hx, hcd, hml, hown, hts, hX, hbl, hst, hZ, hN, hK, hL9⟩ := C
  obtain ⟨hI, hn, hr, hL, hT, hx4, hx6, hsv⟩ := id hV
  have hA : ∀ q : Nat, ss.heap.size ≤ q → (fun q : Nat => ss.heap.size ≤ q) q := fun _ h => h
  have hbA : ¬ (fun q : Nat => ss.heap.size ≤ q) bb := Nat.not_le.mpr hbl
  refine lv_aload_n hx hcd dL_law_448 rfl (lv_at hl 1 rfl) ?_
  refine lv_aload_n hx hcd dL_law_449 rfl (lv_at hl 0 rfl) ?_
  refine lv_iload hx hcd dL_law_450 (lv_at hl 4 rfl) ?_
  refine lv_iconst (v := nI 1) hx hcd dL_law_452 (by decide) ?_
  refine kr_add hx hcd dL_law_453 ?_
  refine kl_sld hx hcd hX hbl hbA hS (k := i + 1) (by omega) hL9 dL_law_454 ?_
  refine lv_aload_n hx hcd dL_law_455 rfl (lv_at hl 0 rfl) ?_
  refine lv_iload hx hcd dL_law_456 (lv_at hl 4 rfl) ?_
  refine lv_iconst (v := nI 2) hx hcd dL_law_458 (by decide) ?_
  refine kr_add hx hcd dL_law_459 ?_
  refine kl_sld hx hcd hX hbl hbA hS (k := i + 2) (by omega) hL9 dL_law_460 ?_
  refine lv_aload_n hx hcd dL_law_461 rfl (lv_at hl 0 rfl) ?_
  refine lv_iload hx hcd dL_law_462 (lv_at hl 4 rfl) ?_
  refine lv_iconst (v := nI 3) hx hcd dL_law_464 (by decide) ?_
  refine kr_add hx hcd dL_law_465 ?_
  refine kl_sld hx hcd hX hbl hbA hS (k := i + 3) (by omega) hL9 dL_law_466 ?_
  refine lv_if_eq (tgt := 474) hx hcd dL_law_467 (by decide) (fun (c_467 : (xs (i + 3)) = 0) => ?_) (fun (c_467 : ¬ (xs (i + 3)) = 0) => absurd c_467 (not_not_intro hv))
  refine lv_iconst (v := nI 0) hx hcd dL_law_474 (by decide) ?_
  refine kr_top (w := kI false) rfl ?_
  refine lv_aload_n hx hcd dL_law_475 rfl (lv_at hl 3 rfl) ?_
  refine kl_S (As := [.ref (ob 0), .int (xs (i + 1)), .int (xs (i + 2)), .int (kI false), .ref o]) (rest := []) (ws2 := wLaw cI cB cW cL o F ob nw tr qs sc (g_rot qs r) M N S n L T z x hh M Sp Ot Sv T) ⟨hx, hcd, hml, hown, hts⟩ (c_L_block__e1 l hst D cI cB cW cL o F ob nw tr qs sc (g_rot qs r) N S n L T _ M (xs (i + 1)) (xs (i + 2)) false hg) (vx_cwSW 5 hts gL_law_L_block rfl rfl rfl (by decide +kernel) ⟨Nat.le_of_ble_eq_true rfl, Nat.le_of_ble_eq_true rfl⟩) hZ hN hK hP hD hS hA [0, 1, 2, 3, 4, 5, 6, 7, 8, 9, 10, 11, 12, 13, 14, 15, 16, 17, 18, 19, 20, 21, 22, 23, 24, 25, 26, 27, 28, 29, 30, 31, 32, 33, 34, 35, 36, 37, 38, 39, 40, 41, 42, 43, 44, 45, 46, 47, 48, 49, 50, 51, 52, 53, 54, 55, 56, 57, 58, 59, 60, 61, 62, 63, 64, 65, 66, 67, 68, 69, 70, 71, 72, 73, 74, 75, 76, 77, 78, 79, 80, 81, 82, 83, 84, 85, 86, 87, 88, 89, 90, 91, 92, 93, 94] wLaw_LXC nd_LX wLX_adr wLaw_LX rfl hl.1 rfl (Nat.le_of_ble_eq_true rfl) dL_law_476 ⟨hc, hs⟩ (fun H locs hP hD hS => ?_)
  refine lv_istore (lv' := [(5, .int (nI 1)), (0, .ref bb), (1, .ref (ob 0)), (2, .ref (z 0)), (3, .ref o), (4, .int (nI i))]) hx hcd dL_law_479 hl (by decide) rfl (fun ls hl => ?_)
  refine lv_aload_n hx hcd dL_law_481 rfl (lv_at hl 3 rfl) ?_
  refine lv_aload_n hx hcd dL_law_482 rfl (lv_at hl 1 rfl) ?_
  refine lv_iload hx hcd dL_law_483 (lv_at hl 5 rfl) ?_
  refine lv_iconst (v := nI 1) hx hcd dL_law_485 (by decide) ?_
  refine kr_add hx hcd dL_law_486 ?_
  refine kl_sld hx hcd hX hbl hbA hS (k := i + 1) (by omega) hL9 dL_law_487 ?_
  refine lv_aload_n hx hcd dL_law_488 rfl (lv_at hl 1 rfl) ?_
  refine lv_iload hx hcd dL_law_489 (lv_at hl 5 rfl) ?_
  refine lv_iconst (v := nI 2) hx hcd dL_law_491 (by decide) ?_
  refine kr_add hx hcd dL_law_492 ?_
  refine kl_sld hx hcd hX hbl hbA hS (k := i + 2) (by omega) hL9 dL_law_493 ?_
  refine lv_aload_n hx hcd dL_law_494 rfl (lv_at hl 1 rfl) ?_
  refine lv_iload hx hcd dL_law_495 (lv_at hl 5 rfl) ?_
  refine lv_iconst (v := nI 3) hx hcd dL_law_497 (by decide) ?_
  refine kr_add hx hcd dL_law_498 ?_
  refine kl_sld hx hcd hX hbl hbA hS (k := i + 3) (by omega) hL9 dL_law_499 ?_
  refine lv_if_eq (tgt := 507) hx hcd dL_law_500 (by decide) (fun (c_500 : (xs (i + 3)) = 0) => ?_) (fun (c_500 : ¬ (xs (i + 3)) = 0) => absurd c_500 (not_not_intro hv))
  refine lv_iconst (v := nI 0) hx hcd dL_law_507 (by decide) ?_
  refine kr_top (w := kI false) rfl ?_
  refine kr_Vi (As := [.int (xs (i + 1)), .int (xs (i + 2)), .int (kI false)]) (rest := []) (ws2 := wLaw cI cB cW cL o F ob nw tr qs sc (g_rot qs r) M N S n L T z (xu x 7 (nI 1)) hh M Sp Ot Sv T) (q := (RX7, TX7, 10)) ⟨hx, hcd, hml, hown, hts⟩ (c_X7_block__bad l D cI cB cW cL z x hh Sp Ot Sv T _ M (xs (i + 1)) (xs (i + 2)) false 1 hg (by omega)) (cwV 3 hts gL_law_X7_block rfl rfl rfl (by decide +kernel) ⟨Nat.le_of_ble_eq_true rfl, Nat.le_of_ble_eq_true rfl⟩) hK hP hD hS hA [95, 96, 97, 98, 99, 100] wLaw_MAC (by decide) wMA_adr wLaw_MA 95 rfl rfl rfl hl.1 rfl (Nat.le_of_ble_eq_true rfl) dL_law_508 ⟨hc, hs⟩ (fun H locs hP hD hS => ?_)
  refine lv_istore (lv' := [(6, .int (nI 0)), (5, .int (nI 1)), (0, .ref bb), (1, .ref (ob 0)), (2, .ref (z 0)), (3, .ref o), (4, .int (nI i))]) hx hcd dL_law_511 hl (by decide) rfl (fun ls hl => ?_)
  refine lv_aload_n hx hcd dL_law_513 rfl (lv_at hl 4 rfl) ?_
  refine kr_Vi (As := []) (rest := []) (ws2 := wLaw cI cB cW cL o F ob nw tr qs sc (g_rot qs r) M N S n L T z (xu x 7 (nI 1)) hh M Sp Ot Sv T) (q := (RX7, TX7, 10)) ⟨hx, hcd, hml, hown, hts⟩ (c_X7_thrown l D cI cB cW cL z (xu x 7 (nI 1)) hh _ M ) (cwV 0 hts gL_law_X7_thrown rfl rfl rfl (by decide +kernel) ⟨Nat.le_of_ble_eq_true rfl, Nat.le_of_ble_eq_true rfl⟩) hK hP hD hS hA [95, 96] wLaw_MoC (by decide) wMo_adr2 wLaw_Mo 95 rfl rfl rfl hl.1 rfl (Nat.le_of_ble_eq_true rfl) dL_law_514 ⟨hc, hs⟩ (fun H locs hP hD hS => ?_)
  refine kr_top (w := nI 1) rfl ?_
  refine lv_iload hx hcd dL_law_517 (lv_at hl 1 rfl) ?_
  refine kr_ceq (tgt := 524) hx hcd (by omega) (by omega) dL_law_519 (by decide) (fun (c_519 : 1 = 1) => ?_) (fun (c_519 : ¬ 1 = 1) => absurd c_519 (by omega))
  refine lv_iload hx hcd dL_law_524 (lv_at hl 1 rfl) ?_
  refine kr_zne (tgt := 541) hx hcd (by omega) dL_law_526 (by decide) (fun (c_526 : 0 < 1) => ?_) (fun (c_526 : 1 = 0) => absurd c_526 (by omega))
  refine lv_goto (tgt := 1812) hx hcd dL_law_541 (by decide) ?_
  exact kk F N M S n r L T (xu x 7 (nI 1)) hh Sp Ot Sv (linv_x hV rfl rfl) H locs ls hP hD hS (lv_sub hl [2, 3, 4, 5, 6] rfl)

set_option maxHeartbeats 4000000 in
set_option maxRecDepth 100000 in
theorem law_block__e2f {pp : Program} {l : Launch} {ee : Env} {ss : State} {mm : MethodId} {below : List Frame} {meth : Method} {cc : Code} {bb Ls : Nat} {xs : Nat → Int32} {D : va_G} {cI cB cW cL : ClassId} (C : LFix pp l ss mm cc bb Ls xs D cI cB cW cL) {o : Nat} {F : Nat → Int64} {ob nw tr : Nat → Nat} {qs : Nat → Nat → Nat} {sc : Nat → Nat} {N : kM} {S : Nat → kM} {n r L : Nat} {T : Nat → Int32} {z : Nat → Nat} {x : Nat → Int32} {hh : Int64} {Sp Ot Sv : Nat → Int32} {M : kM} (hV : LInv M S n r L T Sv x) {i : Nat} (hi : i + 5 ≤ Ls)  (hg : g_why (xs (i + 1)) (xs (i + 2)) = nI 2) (hv : xs (i + 3) = 0) {H : Heap} {locs : List Loc} {ls : Array Slot} {cells slots : Nat} {Q : State → Prop} (hc : cells + 1 ≤ 601024) (hs : slots + 6 ≤ 7293034) (hP : va_P D vwCl (wLaw cI cB cW cL o F ob nw tr qs sc (g_rot qs r) M N S n L T z x hh M Sp Ot Sv T) H) (hD : va_D (fun q : Nat => ss.heap.size ≤ q) (wLaw cI cB cW cL o F ob nw tr qs sc (g_rot qs r) M N S n L T z x hh M Sp Ot Sv T)) (hS : va_S (fun q : Nat => ss.heap.size ≤ q) ss.heap H locs) (hl : lv_has ls 9 [(0, .ref bb), (1, .ref (ob 0)), (2, .ref (z 0)), (3, .ref o), (4, .int (nI i))]) (kk : LNext pp l ee ss mm below meth cc bb D cI cB cW cL o ob nw tr qs sc z i cells slots Q) : W pp l ee room_1 ss mm #[Value.ref bb] below meth cc H locs cells slots Q (F0 mm 448 ls []) := by
  obtain ⟨hx, hcd, hml, hown, hts, hX, hbl, hst, hZ, hN, hK, hL9⟩ := C
  obtain ⟨hI, hn, hr, hL, hT, hx4, hx6, hsv⟩ := id hV
  have hA : ∀ q : Nat, ss.heap.size ≤ q → (fun q : Nat => ss.heap.size ≤ q) q := fun _ h => h
  have hbA : ¬ (fun q : Nat => ss.heap.size ≤ q) bb := Nat.not_le.mpr hbl
  refine lv_aload_n hx hcd dL_law_448 rfl (lv_at hl 1 rfl) ?_
  refine lv_aload_n hx hcd dL_law_449 rfl (lv_at hl 0 rfl) ?_
  refine lv_iload hx hcd dL_law_450 (lv_at hl 4 rfl) ?_
  refine lv_iconst (v := nI 1) hx hcd dL_law_452 (by decide) ?_
  refine kr_add hx hcd dL_law_453 ?_
  refine kl_sld hx hcd hX hbl hbA hS (k := i + 1) (by omega) hL9 dL_law_454 ?_
  refine lv_aload_n hx hcd dL_law_455 rfl (lv_at hl 0 rfl) ?_
  refine lv_iload hx hcd dL_law_456 (lv_at hl 4 rfl) ?_
  refine lv_iconst (v := nI 2) hx hcd dL_law_458 (by decide) ?_
  refine kr_add hx hcd dL_law_459 ?_
  refine kl_sld hx hcd hX hbl hbA hS (k := i + 2) (by omega) hL9 dL_law_460 ?_
  refine lv_aload_n hx hcd dL_law_461 rfl (lv_at hl 0 rfl) ?_
  refine lv_iload hx hcd dL_law_462 (lv_at hl 4 rfl) ?_
  refine lv_iconst (v := nI 3) hx hcd dL_law_464 (by decide) ?_
  refine kr_add hx hcd dL_law_465 ?_
  refine kl_sld hx hcd hX hbl hbA hS (k := i + 3) (by omega) hL9 dL_law_466 ?_
  refine lv_if_eq (tgt := 474) hx hcd dL_law_467 (by decide) (fun (c_467 : (xs (i + 3)) = 0) => ?_) (fun (c_467 : ¬ (xs (i + 3)) = 0) => absurd c_467 (not_not_intro hv))
  refine lv_iconst (v := nI 0) hx hcd dL_law_474 (by decide) ?_
  refine kr_top (w := kI false) rfl ?_
  refine lv_aload_n hx hcd dL_law_475 rfl (lv_at hl 3 rfl) ?_
  refine kl_S (As := [.ref (ob 0), .int (xs (i + 1)), .int (xs (i + 2)), .int (kI false), .ref o]) (rest := []) (ws2 := wLaw cI cB cW cL o F ob nw tr qs sc (g_rot qs r) M N S n L T z x hh M Sp Ot Sv T) ⟨hx, hcd, hml, hown, hts⟩ (c_L_block__e2 l hst D cI cB cW cL o F ob nw tr qs sc (g_rot qs r) N S n L T _ M (xs (i + 1)) (xs (i + 2)) false hg) (vx_cwSW 5 hts gL_law_L_block rfl rfl rfl (by decide +kernel) ⟨Nat.le_of_ble_eq_true rfl, Nat.le_of_ble_eq_true rfl⟩) hZ hN hK hP hD hS hA [0, 1, 2, 3, 4, 5, 6, 7, 8, 9, 10, 11, 12, 13, 14, 15, 16, 17, 18, 19, 20, 21, 22, 23, 24, 25, 26, 27, 28, 29, 30, 31, 32, 33, 34, 35, 36, 37, 38, 39, 40, 41, 42, 43, 44, 45, 46, 47, 48, 49, 50, 51, 52, 53, 54, 55, 56, 57, 58, 59, 60, 61, 62, 63, 64, 65, 66, 67, 68, 69, 70, 71, 72, 73, 74, 75, 76, 77, 78, 79, 80, 81, 82, 83, 84, 85, 86, 87, 88, 89, 90, 91, 92, 93, 94] wLaw_LXC nd_LX wLX_adr wLaw_LX rfl hl.1 rfl (Nat.le_of_ble_eq_true rfl) dL_law_476 ⟨hc, hs⟩ (fun H locs hP hD hS => ?_)
  refine lv_istore (lv' := [(5, .int (nI 2)), (0, .ref bb), (1, .ref (ob 0)), (2, .ref (z 0)), (3, .ref o), (4, .int (nI i))]) hx hcd dL_law_479 hl (by decide) rfl (fun ls hl => ?_)
  refine lv_aload_n hx hcd dL_law_481 rfl (lv_at hl 3 rfl) ?_
  refine lv_aload_n hx hcd dL_law_482 rfl (lv_at hl 1 rfl) ?_
  refine lv_iload hx hcd dL_law_483 (lv_at hl 5 rfl) ?_
  refine lv_iconst (v := nI 1) hx hcd dL_law_485 (by decide) ?_
  refine kr_add hx hcd dL_law_486 ?_
  refine kl_sld hx hcd hX hbl hbA hS (k := i + 1) (by omega) hL9 dL_law_487 ?_
  refine lv_aload_n hx hcd dL_law_488 rfl (lv_at hl 1 rfl) ?_
  refine lv_iload hx hcd dL_law_489 (lv_at hl 5 rfl) ?_
  refine lv_iconst (v := nI 2) hx hcd dL_law_491 (by decide) ?_
  refine kr_add hx hcd dL_law_492 ?_
  refine kl_sld hx hcd hX hbl hbA hS (k := i + 2) (by omega) hL9 dL_law_493 ?_
  refine lv_aload_n hx hcd dL_law_494 rfl (lv_at hl 1 rfl) ?_
  refine lv_iload hx hcd dL_law_495 (lv_at hl 5 rfl) ?_
  refine lv_iconst (v := nI 3) hx hcd dL_law_497 (by decide) ?_
  refine kr_add hx hcd dL_law_498 ?_
  refine kl_sld hx hcd hX hbl hbA hS (k := i + 3) (by omega) hL9 dL_law_499 ?_
  refine lv_if_eq (tgt := 507) hx hcd dL_law_500 (by decide) (fun (c_500 : (xs (i + 3)) = 0) => ?_) (fun (c_500 : ¬ (xs (i + 3)) = 0) => absurd c_500 (not_not_intro hv))
  refine lv_iconst (v := nI 0) hx hcd dL_law_507 (by decide) ?_
  refine kr_top (w := kI false) rfl ?_
  refine kr_Vi (As := [.int (xs (i + 1)), .int (xs (i + 2)), .int (kI false)]) (rest := []) (ws2 := wLaw cI cB cW cL o F ob nw tr qs sc (g_rot qs r) M N S n L T z (xu x 7 (nI 2)) hh M Sp Ot Sv T) (q := (RX7, TX7, 10)) ⟨hx, hcd, hml, hown, hts⟩ (c_X7_block__bad l D cI cB cW cL z x hh Sp Ot Sv T _ M (xs (i + 1)) (xs (i + 2)) false 2 hg (by omega)) (cwV 3 hts gL_law_X7_block rfl rfl rfl (by decide +kernel) ⟨Nat.le_of_ble_eq_true rfl, Nat.le_of_ble_eq_true rfl⟩) hK hP hD hS hA [95, 96, 97, 98, 99, 100] wLaw_MAC (by decide) wMA_adr wLaw_MA 95 rfl rfl rfl hl.1 rfl (Nat.le_of_ble_eq_true rfl) dL_law_508 ⟨hc, hs⟩ (fun H locs hP hD hS => ?_)
  refine lv_istore (lv' := [(6, .int (nI 0)), (5, .int (nI 2)), (0, .ref bb), (1, .ref (ob 0)), (2, .ref (z 0)), (3, .ref o), (4, .int (nI i))]) hx hcd dL_law_511 hl (by decide) rfl (fun ls hl => ?_)
  refine lv_aload_n hx hcd dL_law_513 rfl (lv_at hl 4 rfl) ?_
  refine kr_Vi (As := []) (rest := []) (ws2 := wLaw cI cB cW cL o F ob nw tr qs sc (g_rot qs r) M N S n L T z (xu x 7 (nI 2)) hh M Sp Ot Sv T) (q := (RX7, TX7, 10)) ⟨hx, hcd, hml, hown, hts⟩ (c_X7_thrown l D cI cB cW cL z (xu x 7 (nI 2)) hh _ M ) (cwV 0 hts gL_law_X7_thrown rfl rfl rfl (by decide +kernel) ⟨Nat.le_of_ble_eq_true rfl, Nat.le_of_ble_eq_true rfl⟩) hK hP hD hS hA [95, 96] wLaw_MoC (by decide) wMo_adr2 wLaw_Mo 95 rfl rfl rfl hl.1 rfl (Nat.le_of_ble_eq_true rfl) dL_law_514 ⟨hc, hs⟩ (fun H locs hP hD hS => ?_)
  refine kr_top (w := nI 2) rfl ?_
  refine lv_iload hx hcd dL_law_517 (lv_at hl 1 rfl) ?_
  refine kr_ceq (tgt := 524) hx hcd (by omega) (by omega) dL_law_519 (by decide) (fun (c_519 : 2 = 2) => ?_) (fun (c_519 : ¬ 2 = 2) => absurd c_519 (by omega))
  refine lv_iload hx hcd dL_law_524 (lv_at hl 1 rfl) ?_
  refine kr_zne (tgt := 541) hx hcd (by omega) dL_law_526 (by decide) (fun (c_526 : 0 < 2) => ?_) (fun (c_526 : 2 = 0) => absurd c_526 (by omega))
  refine lv_goto (tgt := 1812) hx hcd dL_law_541 (by decide) ?_
  exact kk F N M S n r L T (xu x 7 (nI 2)) hh Sp Ot Sv (linv_x hV rfl rfl) H locs ls hP hD hS (lv_sub hl [2, 3, 4, 5, 6] rfl)

set_option maxHeartbeats 4000000 in
set_option maxRecDepth 100000 in
theorem law_turnOn__ok {pp : Program} {l : Launch} {ee : Env} {ss : State} {mm : MethodId} {below : List Frame} {meth : Method} {cc : Code} {bb Ls : Nat} {xs : Nat → Int32} {D : va_G} {cI cB cW cL : ClassId} (C : LFix pp l ss mm cc bb Ls xs D cI cB cW cL) {o : Nat} {F : Nat → Int64} {ob nw tr : Nat → Nat} {qs : Nat → Nat → Nat} {sc : Nat → Nat} {N : kM} {S : Nat → kM} {n r L : Nat} {T : Nat → Int32} {z : Nat → Nat} {x : Nat → Int32} {hh : Int64} {Sp Ot Sv : Nat → Int32} {M : kM} (hV : LInv M S n r L T Sv x) {i : Nat} (hi : i + 5 ≤ Ls) {a s : Nat} (h1 : xs (i + 1) = nI a) (h2 : xs (i + 2) = nI s) (ha : a < 6) (hs3 : s < 3) {d : Nat} (h4 : xs (i + 4) = nI d) (hd : d < 5) (hrk : g_in (xs (i + 3)) (-9) 9 = true)  {H : Heap} {locs : List Loc} {ls : Array Slot} {cells slots : Nat} {Q : State → Prop} (hc : cells + 1 ≤ 601024) (hs : slots + 6 ≤ 7293034) (hP : va_P D vwCl (wLaw cI cB cW cL o F ob nw tr qs sc (g_rot qs r) M N S n L T z x hh M Sp Ot Sv T) H) (hD : va_D (fun q : Nat => ss.heap.size ≤ q) (wLaw cI cB cW cL o F ob nw tr qs sc (g_rot qs r) M N S n L T z x hh M Sp Ot Sv T)) (hS : va_S (fun q : Nat => ss.heap.size ≤ q) ss.heap H locs) (hl : lv_has ls 9 [(0, .ref bb), (1, .ref (ob 0)), (2, .ref (z 0)), (3, .ref o), (4, .int (nI i))]) (kk : LNext pp l ee ss mm below meth cc bb D cI cB cW cL o ob nw tr qs sc z i cells slots Q) : W pp l ee room_1 ss mm #[Value.ref bb] below meth cc H locs cells slots Q (F0 mm 544 ls []) := by
  obtain ⟨hx, hcd, hml, hown, hts, hX, hbl, hst, hZ, hN, hK, hL9⟩ := C
  obtain ⟨hI, hn, hr, hL, hT, hx4, hx6, hsv⟩ := id hV
  have hA : ∀ q : Nat, ss.heap.size ≤ q → (fun q : Nat => ss.heap.size ≤ q) q := fun _ h => h
  have hbA : ¬ (fun q : Nat => ss.heap.size ≤ q) bb := Nat.not_le.mpr hbl
  refine lv_aload_n hx hcd dL_law_544 rfl (lv_at hl 1 rfl) ?_
  refine lv_aload_n hx hcd dL_law_545 rfl (lv_at hl 0 rfl) ?_
  refine lv_iload hx hcd dL_law_546 (lv_at hl 4 rfl) ?_
  refine lv_iconst (v := nI 1) hx hcd dL_law_548 (by decide) ?_
  refine kr_add hx hcd dL_law_549 ?_
  refine kl_sld hx hcd hX hbl hbA hS (k := i + 1) (by omega) hL9 dL_law_550 ?_
  refine kr_top (w := nI a) h1 ?_
  refine lv_aload_n hx hcd dL_law_551 rfl (lv_at hl 0 rfl) ?_
  refine lv_iload hx hcd dL_law_552 (lv_at hl 4 rfl) ?_
  refine lv_iconst (v := nI 2) hx hcd dL_law_554 (by decide) ?_
  refine kr_add hx hcd dL_law_555 ?_
  refine kl_sld hx hcd hX hbl hbA hS (k := i + 2) (by omega) hL9 dL_law_556 ?_
  refine kr_top (w := nI s) h2 ?_
  refine lv_aload_n hx hcd dL_law_557 rfl (lv_at hl 0 rfl) ?_
  refine lv_iload hx hcd dL_law_558 (lv_at hl 4 rfl) ?_
  refine lv_iconst (v := nI 3) hx hcd dL_law_560 (by decide) ?_
  refine kr_add hx hcd dL_law_561 ?_
  refine kl_sld hx hcd hX hbl hbA hS (k := i + 3) (by omega) hL9 dL_law_562 ?_
  refine lv_aload_n hx hcd dL_law_563 rfl (lv_at hl 0 rfl) ?_
  refine lv_iload hx hcd dL_law_564 (lv_at hl 4 rfl) ?_
  refine lv_iconst (v := nI 4) hx hcd dL_law_566 (by decide) ?_
  refine kr_add hx hcd dL_law_567 ?_
  refine kl_sld hx hcd hX hbl hbA hS (k := i + 4) (by omega) hL9 dL_law_568 ?_
  refine kr_top (w := nI d) h4 ?_
  refine lv_aload_n hx hcd dL_law_569 rfl (lv_at hl 3 rfl) ?_
  refine kl_S (As := [.ref (ob 0), .int (nI a), .int (nI s), .int (xs (i + 3)), .int (nI d), .ref o]) (rest := []) (ws2 := wLaw cI cB cW cL o (vp_updL F 0 (((g_cnt (g_turnOn M a s (xs (i + 3)) d) a) : Int32).toInt64)) ob nw tr qs sc (g_rot qs (rj n r)) (g_turnOn M a s (xs (i + 3)) d) N (sset S (pj n r) M) (g_kn n) L T z x hh M Sp Ot Sv T) ⟨hx, hcd, hml, hown, hts⟩ (c_L_turnOn__ok l hst D cI cB cW cL o F ob nw tr qs sc (g_rot qs r) N S n L T _ M a s (xs (i + 3)) d r hI ha hs3 hd (in_split hrk).1 (in_split hrk).2 hn hr) (vx_cwSW 6 hts gL_law_L_turnOn rfl rfl rfl (by decide +kernel) ⟨Nat.le_of_ble_eq_true rfl, Nat.le_of_ble_eq_true rfl⟩) hZ hN hK hP hD hS hA [0, 1, 2, 3, 4, 5, 6, 7, 8, 9, 10, 11, 12, 13, 14, 15, 16, 17, 18, 19, 20, 21, 22, 23, 24, 25, 26, 27, 28, 29, 30, 31, 32, 33, 34, 35, 36, 37, 38, 39, 40, 41, 42, 43, 44, 45, 46, 47, 48, 49, 50, 51, 52, 53, 54, 55, 56, 57, 58, 59, 60, 61, 62, 63, 64, 65, 66, 67, 68, 69, 70, 71, 72, 73, 74, 75, 76, 77, 78, 79, 80, 81, 82, 83, 84, 85, 86, 87, 88, 89, 90, 91, 92, 93, 94] wLaw_LXC nd_LX wLX_adr wLaw_LX rfl hl.1 rfl (Nat.le_of_ble_eq_true rfl) dL_law_570 ⟨hc, hs⟩ (fun H locs hP hD hS => ?_)
  refine lv_istore (lv' := [(5, .int (nI 0)), (0, .ref bb), (1, .ref (ob 0)), (2, .ref (z 0)), (3, .ref o), (4, .int (nI i))]) hx hcd dL_law_573 hl (by decide) rfl (fun ls hl => ?_)
  refine lv_aload_n hx hcd dL_law_575 rfl (lv_at hl 3 rfl) ?_
  refine lv_aload_n hx hcd dL_law_576 rfl (lv_at hl 1 rfl) ?_
  refine lv_iload hx hcd dL_law_577 (lv_at hl 5 rfl) ?_
  refine lv_iconst (v := nI 1) hx hcd dL_law_579 (by decide) ?_
  refine kr_add hx hcd dL_law_580 ?_
  refine kl_sld hx hcd hX hbl hbA hS (k := i + 1) (by omega) hL9 dL_law_581 ?_
  refine kr_top (w := nI a) h1 ?_
  refine lv_aload_n hx hcd dL_law_582 rfl (lv_at hl 1 rfl) ?_
  refine lv_iload hx hcd dL_law_583 (lv_at hl 5 rfl) ?_
  refine lv_iconst (v := nI 2) hx hcd dL_law_585 (by decide) ?_
  refine kr_add hx hcd dL_law_586 ?_
  refine kl_sld hx hcd hX hbl hbA hS (k := i + 2) (by omega) hL9 dL_law_587 ?_
  refine kr_top (w := nI s) h2 ?_
  refine lv_aload_n hx hcd dL_law_588 rfl (lv_at hl 1 rfl) ?_
  refine lv_iload hx hcd dL_law_589 (lv_at hl 5 rfl) ?_
  refine lv_iconst (v := nI 3) hx hcd dL_law_591 (by decide) ?_
  refine kr_add hx hcd dL_law_592 ?_
  refine kl_sld hx hcd hX hbl hbA hS (k := i + 3) (by omega) hL9 dL_law_593 ?_
  refine lv_aload_n hx hcd dL_law_594 rfl (lv_at hl 1 rfl) ?_
  refine lv_iload hx hcd dL_law_595 (lv_at hl 5 rfl) ?_
  refine lv_iconst (v := nI 4) hx hcd dL_law_597 (by decide) ?_
  refine kr_add hx hcd dL_law_598 ?_
  refine kl_sld hx hcd hX hbl hbA hS (k := i + 4) (by omega) hL9 dL_law_599 ?_
  refine kr_top (w := nI d) h4 ?_
  refine kr_Vi (As := [.int (nI a), .int (nI s), .int (xs (i + 3)), .int (nI d)]) (rest := []) (ws2 := wLaw cI cB cW cL o (vp_updL F 0 (((g_cnt (g_turnOn M a s (xs (i + 3)) d) a) : Int32).toInt64)) ob nw tr qs sc (g_rot qs (rj n r)) (g_turnOn M a s (xs (i + 3)) d) N (sset S (pj n r) M) (g_kn n) L T z (xu (xu x 7 0) 4 (nI (g_kn n))) hh (g_turnOn M a s (xs (i + 3)) d) Sp Ot (g_keep Sv M n) T) (q := (RX7, TX7, 10)) ⟨hx, hcd, hml, hown, hts⟩ (c_X7_turnOn__ok l D cI cB cW cL z x hh Sp Ot Sv T _ M a s (xs (i + 3)) d n hI ha hs3 hd hrk hx4 hn) (cwV 4 hts gL_law_X7_turnOn rfl rfl rfl (by decide +kernel) ⟨Nat.le_of_ble_eq_true rfl, Nat.le_of_ble_eq_true rfl⟩) hK hP hD hS hA [95, 96, 97, 98, 99, 100] wLaw_MAC (by decide) wMA_adr wLaw_MA 95 rfl rfl rfl hl.1 rfl (Nat.le_of_ble_eq_true rfl) dL_law_600 ⟨hc, hs⟩ (fun H locs hP hD hS => ?_)
  refine lv_istore (lv' := [(6, .int (g_cnt (g_turnOn M a s (xs (i + 3)) d) a)), (5, .int (nI 0)), (0, .ref bb), (1, .ref (ob 0)), (2, .ref (z 0)), (3, .ref o), (4, .int (nI i))]) hx hcd dL_law_603 hl (by decide) rfl (fun ls hl => ?_)
  refine lv_aload_n hx hcd dL_law_605 rfl (lv_at hl 4 rfl) ?_
  refine kr_Vi (As := []) (rest := []) (ws2 := wLaw cI cB cW cL o (vp_updL F 0 (((g_cnt (g_turnOn M a s (xs (i + 3)) d) a) : Int32).toInt64)) ob nw tr qs sc (g_rot qs (rj n r)) (g_turnOn M a s (xs (i + 3)) d) N (sset S (pj n r) M) (g_kn n) L T z (xu (xu x 7 0) 4 (nI (g_kn n))) hh (g_turnOn M a s (xs (i + 3)) d) Sp Ot (g_keep Sv M n) T) (q := (RX7, TX7, 10)) ⟨hx, hcd, hml, hown, hts⟩ (c_X7_thrown l D cI cB cW cL z (xu (xu x 7 0) 4 (nI (g_kn n))) hh _ (g_turnOn M a s (xs (i + 3)) d) ) (cwV 0 hts gL_law_X7_thrown rfl rfl rfl (by decide +kernel) ⟨Nat.le_of_ble_eq_true rfl, Nat.le_of_ble_eq_true rfl⟩) hK hP hD hS hA [95, 96] wLaw_MoC (by decide) wMo_adr2 wLaw_Mo 95 rfl rfl rfl hl.1 rfl (Nat.le_of_ble_eq_true rfl) dL_law_606 ⟨hc, hs⟩ (fun H locs hP hD hS => ?_)
  refine kr_top (w := 0) rfl ?_
  refine kr_top (w := nI 0) rfl ?_
  refine lv_iload hx hcd dL_law_609 (lv_at hl 1 rfl) ?_
  refine kr_ceq (tgt := 616) hx hcd (by omega) (by omega) dL_law_611 (by decide) (fun (c_611 : 0 = 0) => ?_) (fun (c_611 : ¬ 0 = 0) => absurd c_611 (by omega))
  refine lv_iload hx hcd dL_law_616 (lv_at hl 1 rfl) ?_
  refine kr_zne (tgt := 633) hx hcd (by omega) dL_law_618 (by decide) (fun (c_618 : 0 < 0) => absurd c_618 (by omega)) (fun (c_618 : 0 = 0) => ?_)
  refine lv_aload_n hx hcd dL_law_621 rfl (lv_at hl 5 rfl) ?_
  refine lv_iconst (v := nI 0) hx hcd dL_law_622 (by decide) ?_
  refine kl_lald hx hcd hK hP 0 3 rfl rfl (v := ((g_cnt (g_turnOn M a s (xs (i + 3)) d) a) : Int32).toInt64) (by omega) (by decide) updL_0 dL_law_623 ?_
  refine lv_iload hx hcd dL_law_624 (lv_at hl 0 rfl) ?_
  refine lv_i2l hx hcd dL_law_626 rfl ?_
  refine kl_lcmp hx hcd (rfl) dL_law_627 ?_
  refine kr_zeq (tgt := 633) hx hcd (by omega) dL_law_628 (by decide) (fun (c_628 : 0 = 0) => ?_) (fun (c_628 : 0 < 0) => absurd c_628 (by omega))
  refine lv_goto (tgt := 1812) hx hcd dL_law_633 (by decide) ?_
  exact kk (vp_updL F 0 (((g_cnt (g_turnOn M a s (xs (i + 3)) d) a) : Int32).toInt64)) N (g_turnOn M a s (xs (i + 3)) d) (sset S (pj n r) M) (g_kn n) (rj n r) L T (xu (xu x 7 0) 4 (nI (g_kn n))) hh Sp Ot (g_keep Sv M n) (linv_keep hV (i_turnOn hI ha hs3 hd) rfl rfl) H locs ls hP hD hS (lv_sub hl [2, 3, 4, 5, 6] rfl)

set_option maxHeartbeats 4000000 in
set_option maxRecDepth 100000 in
theorem law_turnOn__e1 {pp : Program} {l : Launch} {ee : Env} {ss : State} {mm : MethodId} {below : List Frame} {meth : Method} {cc : Code} {bb Ls : Nat} {xs : Nat → Int32} {D : va_G} {cI cB cW cL : ClassId} (C : LFix pp l ss mm cc bb Ls xs D cI cB cW cL) {o : Nat} {F : Nat → Int64} {ob nw tr : Nat → Nat} {qs : Nat → Nat → Nat} {sc : Nat → Nat} {N : kM} {S : Nat → kM} {n r L : Nat} {T : Nat → Int32} {z : Nat → Nat} {x : Nat → Int32} {hh : Int64} {Sp Ot Sv : Nat → Int32} {M : kM} (hV : LInv M S n r L T Sv x) {i : Nat} (hi : i + 5 ≤ Ls)  (hg : g_seatok (xs (i + 1)) (xs (i + 2)) = false) {H : Heap} {locs : List Loc} {ls : Array Slot} {cells slots : Nat} {Q : State → Prop} (hc : cells + 1 ≤ 601024) (hs : slots + 6 ≤ 7293034) (hP : va_P D vwCl (wLaw cI cB cW cL o F ob nw tr qs sc (g_rot qs r) M N S n L T z x hh M Sp Ot Sv T) H) (hD : va_D (fun q : Nat => ss.heap.size ≤ q) (wLaw cI cB cW cL o F ob nw tr qs sc (g_rot qs r) M N S n L T z x hh M Sp Ot Sv T)) (hS : va_S (fun q : Nat => ss.heap.size ≤ q) ss.heap H locs) (hl : lv_has ls 9 [(0, .ref bb), (1, .ref (ob 0)), (2, .ref (z 0)), (3, .ref o), (4, .int (nI i))]) (kk : LNext pp l ee ss mm below meth cc bb D cI cB cW cL o ob nw tr qs sc z i cells slots Q) : W pp l ee room_1 ss mm #[Value.ref bb] below meth cc H locs cells slots Q (F0 mm 544 ls []) := by
  obtain ⟨hx, hcd, hml, hown, hts, hX, hbl, hst, hZ, hN, hK, hL9⟩ := C
  obtain ⟨hI, hn, hr, hL, hT, hx4, hx6, hsv⟩ := id hV
  have hA : ∀ q : Nat, ss.heap.size ≤ q → (fun q : Nat => ss.heap.size ≤ q) q := fun _ h => h
  have hbA : ¬ (fun q : Nat => ss.heap.size ≤ q) bb := Nat.not_le.mpr hbl
  refine lv_aload_n hx hcd dL_law_544 rfl (lv_at hl 1 rfl) ?_
  refine lv_aload_n hx hcd dL_law_545 rfl (lv_at hl 0 rfl) ?_
  refine lv_iload hx hcd dL_law_546 (lv_at hl 4 rfl) ?_
  refine lv_iconst (v := nI 1) hx hcd dL_law_548 (by decide) ?_
  refine kr_add hx hcd dL_law_549 ?_
  refine kl_sld hx hcd hX hbl hbA hS (k := i + 1) (by omega) hL9 dL_law_550 ?_
  refine lv_aload_n hx hcd dL_law_551 rfl (lv_at hl 0 rfl) ?_
  refine lv_iload hx hcd dL_law_552 (lv_at hl 4 rfl) ?_
  refine lv_iconst (v := nI 2) hx hcd dL_law_554 (by decide) ?_
  refine kr_add hx hcd dL_law_555 ?_
  refine kl_sld hx hcd hX hbl hbA hS (k := i + 2) (by omega) hL9 dL_law_556 ?_
  refine lv_aload_n hx hcd dL_law_557 rfl (lv_at hl 0 rfl) ?_
  refine lv_iload hx hcd dL_law_558 (lv_at hl 4 rfl) ?_
  refine lv_iconst (v := nI 3) hx hcd dL_law_560 (by decide) ?_
  refine kr_add hx hcd dL_law_561 ?_
  refine kl_sld hx hcd hX hbl hbA hS (k := i + 3) (by omega) hL9 dL_law_562 ?_
  refine lv_aload_n hx hcd dL_law_563 rfl (lv_at hl 0 rfl) ?_
  refine lv_iload hx hcd dL_law_564 (lv_at hl 4 rfl) ?_
  refine lv_iconst (v := nI 4) hx hcd dL_law_566 (by decide) ?_
  refine kr_add hx hcd dL_law_567 ?_
  refine kl_sld hx hcd hX hbl hbA hS (k := i + 4) (by omega) hL9 dL_law_568 ?_
  refine lv_aload_n hx hcd dL_law_569 rfl (lv_at hl 3 rfl) ?_
  refine kl_S (As := [.ref (ob 0), .int (xs (i + 1)), .int (xs (i + 2)), .int (xs (i + 3)), .int (xs (i + 4)), .ref o]) (rest := []) (ws2 := wLaw cI cB cW cL o F ob nw tr qs sc (g_rot qs r) M N S n L T z x hh M Sp Ot Sv T) ⟨hx, hcd, hml, hown, hts⟩ (c_L_turnOn__e1 l hst D cI cB cW cL o F ob nw tr qs sc (g_rot qs r) N S n L T _ M (xs (i + 1)) (xs (i + 2)) (xs (i + 3)) (xs (i + 4)) hg) (vx_cwSW 6 hts gL_law_L_turnOn rfl rfl rfl (by decide +kernel) ⟨Nat.le_of_ble_eq_true rfl, Nat.le_of_ble_eq_true rfl⟩) hZ hN hK hP hD hS hA [0, 1, 2, 3, 4, 5, 6, 7, 8, 9, 10, 11, 12, 13, 14, 15, 16, 17, 18, 19, 20, 21, 22, 23, 24, 25, 26, 27, 28, 29, 30, 31, 32, 33, 34, 35, 36, 37, 38, 39, 40, 41, 42, 43, 44, 45, 46, 47, 48, 49, 50, 51, 52, 53, 54, 55, 56, 57, 58, 59, 60, 61, 62, 63, 64, 65, 66, 67, 68, 69, 70, 71, 72, 73, 74, 75, 76, 77, 78, 79, 80, 81, 82, 83, 84, 85, 86, 87, 88, 89, 90, 91, 92, 93, 94] wLaw_LXC nd_LX wLX_adr wLaw_LX rfl hl.1 rfl (Nat.le_of_ble_eq_true rfl) dL_law_570 ⟨hc, hs⟩ (fun H locs hP hD hS => ?_)
  refine lv_istore (lv' := [(5, .int (nI 1)), (0, .ref bb), (1, .ref (ob 0)), (2, .ref (z 0)), (3, .ref o), (4, .int (nI i))]) hx hcd dL_law_573 hl (by decide) rfl (fun ls hl => ?_)
  refine lv_aload_n hx hcd dL_law_575 rfl (lv_at hl 3 rfl) ?_
  refine lv_aload_n hx hcd dL_law_576 rfl (lv_at hl 1 rfl) ?_
  refine lv_iload hx hcd dL_law_577 (lv_at hl 5 rfl) ?_
  refine lv_iconst (v := nI 1) hx hcd dL_law_579 (by decide) ?_
  refine kr_add hx hcd dL_law_580 ?_
  refine kl_sld hx hcd hX hbl hbA hS (k := i + 1) (by omega) hL9 dL_law_581 ?_
  refine lv_aload_n hx hcd dL_law_582 rfl (lv_at hl 1 rfl) ?_
  refine lv_iload hx hcd dL_law_583 (lv_at hl 5 rfl) ?_
  refine lv_iconst (v := nI 2) hx hcd dL_law_585 (by decide) ?_
  refine kr_add hx hcd dL_law_586 ?_
  refine kl_sld hx hcd hX hbl hbA hS (k := i + 2) (by omega) hL9 dL_law_587 ?_
  refine lv_aload_n hx hcd dL_law_588 rfl (lv_at hl 1 rfl) ?_
  refine lv_iload hx hcd dL_law_589 (lv_at hl 5 rfl) ?_
  refine lv_iconst (v := nI 3) hx hcd dL_law_591 (by decide) ?_
  refine kr_add hx hcd dL_law_592 ?_
  refine kl_sld hx hcd hX hbl hbA hS (k := i + 3) (by omega) hL9 dL_law_593 ?_
  refine lv_aload_n hx hcd dL_law_594 rfl (lv_at hl 1 rfl) ?_
  refine lv_iload hx hcd dL_law_595 (lv_at hl 5 rfl) ?_
  refine lv_iconst (v := nI 4) hx hcd dL_law_597 (by decide) ?_
  refine kr_add hx hcd dL_law_598 ?_
  refine kl_sld hx hcd hX hbl hbA hS (k := i + 4) (by omega) hL9 dL_law_599 ?_
  refine kr_Vi (As := [.int (xs (i + 1)), .int (xs (i + 2)), .int (xs (i + 3)), .int (xs (i + 4))]) (rest := []) (ws2 := wLaw cI cB cW cL o F ob nw tr qs sc (g_rot qs r) M N S n L T z (xu x 7 1) hh M Sp Ot Sv T) (q := (RX7, TX7, 10)) ⟨hx, hcd, hml, hown, hts⟩ (c_X7_turnOn__b1 l D cI cB cW cL z x hh Sp Ot Sv T _ M (xs (i + 1)) (xs (i + 2)) (xs (i + 3)) (xs (i + 4)) hg) (cwV 4 hts gL_law_X7_turnOn rfl rfl rfl (by decide +kernel) ⟨Nat.le_of_ble_eq_true rfl, Nat.le_of_ble_eq_true rfl⟩) hK hP hD hS hA [95, 96, 97, 98, 99, 100] wLaw_MAC (by decide) wMA_adr wLaw_MA 95 rfl rfl rfl hl.1 rfl (Nat.le_of_ble_eq_true rfl) dL_law_600 ⟨hc, hs⟩ (fun H locs hP hD hS => ?_)
  refine lv_istore (lv' := [(6, .int (nI 0)), (5, .int (nI 1)), (0, .ref bb), (1, .ref (ob 0)), (2, .ref (z 0)), (3, .ref o), (4, .int (nI i))]) hx hcd dL_law_603 hl (by decide) rfl (fun ls hl => ?_)
  refine lv_aload_n hx hcd dL_law_605 rfl (lv_at hl 4 rfl) ?_
  refine kr_Vi (As := []) (rest := []) (ws2 := wLaw cI cB cW cL o F ob nw tr qs sc (g_rot qs r) M N S n L T z (xu x 7 1) hh M Sp Ot Sv T) (q := (RX7, TX7, 10)) ⟨hx, hcd, hml, hown, hts⟩ (c_X7_thrown l D cI cB cW cL z (xu x 7 1) hh _ M ) (cwV 0 hts gL_law_X7_thrown rfl rfl rfl (by decide +kernel) ⟨Nat.le_of_ble_eq_true rfl, Nat.le_of_ble_eq_true rfl⟩) hK hP hD hS hA [95, 96] wLaw_MoC (by decide) wMo_adr2 wLaw_Mo 95 rfl rfl rfl hl.1 rfl (Nat.le_of_ble_eq_true rfl) dL_law_606 ⟨hc, hs⟩ (fun H locs hP hD hS => ?_)
  refine kr_top (w := 1) rfl ?_
  refine kr_top (w := nI 1) rfl ?_
  refine lv_iload hx hcd dL_law_609 (lv_at hl 1 rfl) ?_
  refine kr_ceq (tgt := 616) hx hcd (by omega) (by omega) dL_law_611 (by decide) (fun (c_611 : 1 = 1) => ?_) (fun (c_611 : ¬ 1 = 1) => absurd c_611 (by omega))
  refine lv_iload hx hcd dL_law_616 (lv_at hl 1 rfl) ?_
  refine kr_zne (tgt := 633) hx hcd (by omega) dL_law_618 (by decide) (fun (c_618 : 0 < 1) => ?_) (fun (c_618 : 1 = 0) => absurd c_618 (by omega))
  refine lv_goto (tgt := 1812) hx hcd dL_law_633 (by decide) ?_
  exact kk F N M S n r L T (xu x 7 1) hh Sp Ot Sv (linv_x hV rfl rfl) H locs ls hP hD hS (lv_sub hl [2, 3, 4, 5, 6] rfl)

set_option maxHeartbeats 4000000 in
set_option maxRecDepth 100000 in
theorem law_turnOn__e2a {pp : Program} {l : Launch} {ee : Env} {ss : State} {mm : MethodId} {below : List Frame} {meth : Method} {cc : Code} {bb Ls : Nat} {xs : Nat → Int32} {D : va_G} {cI cB cW cL : ClassId} (C : LFix pp l ss mm cc bb Ls xs D cI cB cW cL) {o : Nat} {F : Nat → Int64} {ob nw tr : Nat → Nat} {qs : Nat → Nat → Nat} {sc : Nat → Nat} {N : kM} {S : Nat → kM} {n r L : Nat} {T : Nat → Int32} {z : Nat → Nat} {x : Nat → Int32} {hh : Int64} {Sp Ot Sv : Nat → Int32} {M : kM} (hV : LInv M S n r L T Sv x) {i : Nat} (hi : i + 5 ≤ Ls) {a s : Nat} (h1 : xs (i + 1) = nI a) (h2 : xs (i + 2) = nI s) (ha : a < 6) (hs3 : s < 3) (hg : g_in (xs (i + 3)) (-9) 9 = false) {H : Heap} {locs : List Loc} {ls : Array Slot} {cells slots : Nat} {Q : State → Prop} (hc : cells + 1 ≤ 601024) (hs : slots + 6 ≤ 7293034) (hP : va_P D vwCl (wLaw cI cB cW cL o F ob nw tr qs sc (g_rot qs r) M N S n L T z x hh M Sp Ot Sv T) H) (hD : va_D (fun q : Nat => ss.heap.size ≤ q) (wLaw cI cB cW cL o F ob nw tr qs sc (g_rot qs r) M N S n L T z x hh M Sp Ot Sv T)) (hS : va_S (fun q : Nat => ss.heap.size ≤ q) ss.heap H locs) (hl : lv_has ls 9 [(0, .ref bb), (1, .ref (ob 0)), (2, .ref (z 0)), (3, .ref o), (4, .int (nI i))]) (kk : LNext pp l ee ss mm below meth cc bb D cI cB cW cL o ob nw tr qs sc z i cells slots Q) : W pp l ee room_1 ss mm #[Value.ref bb] below meth cc H locs cells slots Q (F0 mm 544 ls []) := by
  obtain ⟨hx, hcd, hml, hown, hts, hX, hbl, hst, hZ, hN, hK, hL9⟩ := C
  obtain ⟨hI, hn, hr, hL, hT, hx4, hx6, hsv⟩ := id hV
  have hA : ∀ q : Nat, ss.heap.size ≤ q → (fun q : Nat => ss.heap.size ≤ q) q := fun _ h => h
  have hbA : ¬ (fun q : Nat => ss.heap.size ≤ q) bb := Nat.not_le.mpr hbl
  refine lv_aload_n hx hcd dL_law_544 rfl (lv_at hl 1 rfl) ?_
  refine lv_aload_n hx hcd dL_law_545 rfl (lv_at hl 0 rfl) ?_
  refine lv_iload hx hcd dL_law_546 (lv_at hl 4 rfl) ?_
  refine lv_iconst (v := nI 1) hx hcd dL_law_548 (by decide) ?_
  refine kr_add hx hcd dL_law_549 ?_
  refine kl_sld hx hcd hX hbl hbA hS (k := i + 1) (by omega) hL9 dL_law_550 ?_
  refine kr_top (w := nI a) h1 ?_
  refine lv_aload_n hx hcd dL_law_551 rfl (lv_at hl 0 rfl) ?_
  refine lv_iload hx hcd dL_law_552 (lv_at hl 4 rfl) ?_
  refine lv_iconst (v := nI 2) hx hcd dL_law_554 (by decide) ?_
  refine kr_add hx hcd dL_law_555 ?_
  refine kl_sld hx hcd hX hbl hbA hS (k := i + 2) (by omega) hL9 dL_law_556 ?_
  refine kr_top (w := nI s) h2 ?_
  refine lv_aload_n hx hcd dL_law_557 rfl (lv_at hl 0 rfl) ?_
  refine lv_iload hx hcd dL_law_558 (lv_at hl 4 rfl) ?_
  refine lv_iconst (v := nI 3) hx hcd dL_law_560 (by decide) ?_
  refine kr_add hx hcd dL_law_561 ?_
  refine kl_sld hx hcd hX hbl hbA hS (k := i + 3) (by omega) hL9 dL_law_562 ?_
  refine lv_aload_n hx hcd dL_law_563 rfl (lv_at hl 0 rfl) ?_
  refine lv_iload hx hcd dL_law_564 (lv_at hl 4 rfl) ?_
  refine lv_iconst (v := nI 4) hx hcd dL_law_566 (by decide) ?_
  refine kr_add hx hcd dL_law_567 ?_
  refine kl_sld hx hcd hX hbl hbA hS (k := i + 4) (by omega) hL9 dL_law_568 ?_
  refine lv_aload_n hx hcd dL_law_569 rfl (lv_at hl 3 rfl) ?_
  refine kl_S (As := [.ref (ob 0), .int (nI a), .int (nI s), .int (xs (i + 3)), .int (xs (i + 4)), .ref o]) (rest := []) (ws2 := wLaw cI cB cW cL o F ob nw tr qs sc (g_rot qs r) M N S n L T z x hh M Sp Ot Sv T) ⟨hx, hcd, hml, hown, hts⟩ (c_L_turnOn__e2 l hst D cI cB cW cL o F ob nw tr qs sc (g_rot qs r) N S n L T _ M a s (xs (i + 3)) (xs (i + 4)) ha hs3 (Or.inl hg)) (vx_cwSW 6 hts gL_law_L_turnOn rfl rfl rfl (by decide +kernel) ⟨Nat.le_of_ble_eq_true rfl, Nat.le_of_ble_eq_true rfl⟩) hZ hN hK hP hD hS hA [0, 1, 2, 3, 4, 5, 6, 7, 8, 9, 10, 11, 12, 13, 14, 15, 16, 17, 18, 19, 20, 21, 22, 23, 24, 25, 26, 27, 28, 29, 30, 31, 32, 33, 34, 35, 36, 37, 38, 39, 40, 41, 42, 43, 44, 45, 46, 47, 48, 49, 50, 51, 52, 53, 54, 55, 56, 57, 58, 59, 60, 61, 62, 63, 64, 65, 66, 67, 68, 69, 70, 71, 72, 73, 74, 75, 76, 77, 78, 79, 80, 81, 82, 83, 84, 85, 86, 87, 88, 89, 90, 91, 92, 93, 94] wLaw_LXC nd_LX wLX_adr wLaw_LX rfl hl.1 rfl (Nat.le_of_ble_eq_true rfl) dL_law_570 ⟨hc, hs⟩ (fun H locs hP hD hS => ?_)
  refine lv_istore (lv' := [(5, .int (nI 2)), (0, .ref bb), (1, .ref (ob 0)), (2, .ref (z 0)), (3, .ref o), (4, .int (nI i))]) hx hcd dL_law_573 hl (by decide) rfl (fun ls hl => ?_)
  refine lv_aload_n hx hcd dL_law_575 rfl (lv_at hl 3 rfl) ?_
  refine lv_aload_n hx hcd dL_law_576 rfl (lv_at hl 1 rfl) ?_
  refine lv_iload hx hcd dL_law_577 (lv_at hl 5 rfl) ?_
  refine lv_iconst (v := nI 1) hx hcd dL_law_579 (by decide) ?_
  refine kr_add hx hcd dL_law_580 ?_
  refine kl_sld hx hcd hX hbl hbA hS (k := i + 1) (by omega) hL9 dL_law_581 ?_
  refine kr_top (w := nI a) h1 ?_
  refine lv_aload_n hx hcd dL_law_582 rfl (lv_at hl 1 rfl) ?_
  refine lv_iload hx hcd dL_law_583 (lv_at hl 5 rfl) ?_
  refine lv_iconst (v := nI 2) hx hcd dL_law_585 (by decide) ?_
  refine kr_add hx hcd dL_law_586 ?_
  refine kl_sld hx hcd hX hbl hbA hS (k := i + 2) (by omega) hL9 dL_law_587 ?_
  refine kr_top (w := nI s) h2 ?_
  refine lv_aload_n hx hcd dL_law_588 rfl (lv_at hl 1 rfl) ?_
  refine lv_iload hx hcd dL_law_589 (lv_at hl 5 rfl) ?_
  refine lv_iconst (v := nI 3) hx hcd dL_law_591 (by decide) ?_
  refine kr_add hx hcd dL_law_592 ?_
  refine kl_sld hx hcd hX hbl hbA hS (k := i + 3) (by omega) hL9 dL_law_593 ?_
  refine lv_aload_n hx hcd dL_law_594 rfl (lv_at hl 1 rfl) ?_
  refine lv_iload hx hcd dL_law_595 (lv_at hl 5 rfl) ?_
  refine lv_iconst (v := nI 4) hx hcd dL_law_597 (by decide) ?_
  refine kr_add hx hcd dL_law_598 ?_
  refine kl_sld hx hcd hX hbl hbA hS (k := i + 4) (by omega) hL9 dL_law_599 ?_
  refine kr_Vi (As := [.int (nI a), .int (nI s), .int (xs (i + 3)), .int (xs (i + 4))]) (rest := []) (ws2 := wLaw cI cB cW cL o F ob nw tr qs sc (g_rot qs r) M N S n L T z (xu x 7 2) hh M Sp Ot Sv T) (q := (RX7, TX7, 10)) ⟨hx, hcd, hml, hown, hts⟩ (c_X7_turnOn__b2a l D cI cB cW cL z x hh Sp Ot Sv T _ M (nI a) (nI s) (xs (i + 3)) (xs (i + 4)) (seat_ok ha hs3) hg) (cwV 4 hts gL_law_X7_turnOn rfl rfl rfl (by decide +kernel) ⟨Nat.le_of_ble_eq_true rfl, Nat.le_of_ble_eq_true rfl⟩) hK hP hD hS hA [95, 96, 97, 98, 99, 100] wLaw_MAC (by decide) wMA_adr wLaw_MA 95 rfl rfl rfl hl.1 rfl (Nat.le_of_ble_eq_true rfl) dL_law_600 ⟨hc, hs⟩ (fun H locs hP hD hS => ?_)
  refine lv_istore (lv' := [(6, .int (nI 0)), (5, .int (nI 2)), (0, .ref bb), (1, .ref (ob 0)), (2, .ref (z 0)), (3, .ref o), (4, .int (nI i))]) hx hcd dL_law_603 hl (by decide) rfl (fun ls hl => ?_)
  refine lv_aload_n hx hcd dL_law_605 rfl (lv_at hl 4 rfl) ?_
  refine kr_Vi (As := []) (rest := []) (ws2 := wLaw cI cB cW cL o F ob nw tr qs sc (g_rot qs r) M N S n L T z (xu x 7 2) hh M Sp Ot Sv T) (q := (RX7, TX7, 10)) ⟨hx, hcd, hml, hown, hts⟩ (c_X7_thrown l D cI cB cW cL z (xu x 7 2) hh _ M ) (cwV 0 hts gL_law_X7_thrown rfl rfl rfl (by decide +kernel) ⟨Nat.le_of_ble_eq_true rfl, Nat.le_of_ble_eq_true rfl⟩) hK hP hD hS hA [95, 96] wLaw_MoC (by decide) wMo_adr2 wLaw_Mo 95 rfl rfl rfl hl.1 rfl (Nat.le_of_ble_eq_true rfl) dL_law_606 ⟨hc, hs⟩ (fun H locs hP hD hS => ?_)
  refine kr_top (w := 2) rfl ?_
  refine kr_top (w := nI 2) rfl ?_
  refine lv_iload hx hcd dL_law_609 (lv_at hl 1 rfl) ?_
  refine kr_ceq (tgt := 616) hx hcd (by omega) (by omega) dL_law_611 (by decide) (fun (c_611 : 2 = 2) => ?_) (fun (c_611 : ¬ 2 = 2) => absurd c_611 (by omega))
  refine lv_iload hx hcd dL_law_616 (lv_at hl 1 rfl) ?_
  refine kr_zne (tgt := 633) hx hcd (by omega) dL_law_618 (by decide) (fun (c_618 : 0 < 2) => ?_) (fun (c_618 : 2 = 0) => absurd c_618 (by omega))
  refine lv_goto (tgt := 1812) hx hcd dL_law_633 (by decide) ?_
  exact kk F N M S n r L T (xu x 7 2) hh Sp Ot Sv (linv_x hV rfl rfl) H locs ls hP hD hS (lv_sub hl [2, 3, 4, 5, 6] rfl)

set_option maxHeartbeats 4000000 in
set_option maxRecDepth 100000 in
theorem law_turnOn__e2b {pp : Program} {l : Launch} {ee : Env} {ss : State} {mm : MethodId} {below : List Frame} {meth : Method} {cc : Code} {bb Ls : Nat} {xs : Nat → Int32} {D : va_G} {cI cB cW cL : ClassId} (C : LFix pp l ss mm cc bb Ls xs D cI cB cW cL) {o : Nat} {F : Nat → Int64} {ob nw tr : Nat → Nat} {qs : Nat → Nat → Nat} {sc : Nat → Nat} {N : kM} {S : Nat → kM} {n r L : Nat} {T : Nat → Int32} {z : Nat → Nat} {x : Nat → Int32} {hh : Int64} {Sp Ot Sv : Nat → Int32} {M : kM} (hV : LInv M S n r L T Sv x) {i : Nat} (hi : i + 5 ≤ Ls) {a s : Nat} (h1 : xs (i + 1) = nI a) (h2 : xs (i + 2) = nI s) (ha : a < 6) (hs3 : s < 3) (hrk : g_in (xs (i + 3)) (-9) 9 = true) (hg : g_in (xs (i + 4)) 0 4 = false) {H : Heap} {locs : List Loc} {ls : Array Slot} {cells slots : Nat} {Q : State → Prop} (hc : cells + 1 ≤ 601024) (hs : slots + 6 ≤ 7293034) (hP : va_P D vwCl (wLaw cI cB cW cL o F ob nw tr qs sc (g_rot qs r) M N S n L T z x hh M Sp Ot Sv T) H) (hD : va_D (fun q : Nat => ss.heap.size ≤ q) (wLaw cI cB cW cL o F ob nw tr qs sc (g_rot qs r) M N S n L T z x hh M Sp Ot Sv T)) (hS : va_S (fun q : Nat => ss.heap.size ≤ q) ss.heap H locs) (hl : lv_has ls 9 [(0, .ref bb), (1, .ref (ob 0)), (2, .ref (z 0)), (3, .ref o), (4, .int (nI i))]) (kk : LNext pp l ee ss mm below meth cc bb D cI cB cW cL o ob nw tr qs sc z i cells slots Q) : W pp l ee room_1 ss mm #[Value.ref bb] below meth cc H locs cells slots Q (F0 mm 544 ls []) := by
  obtain ⟨hx, hcd, hml, hown, hts, hX, hbl, hst, hZ, hN, hK, hL9⟩ := C
  obtain ⟨hI, hn, hr, hL, hT, hx4, hx6, hsv⟩ := id hV
  have hA : ∀ q : Nat, ss.heap.size ≤ q → (fun q : Nat => ss.heap.size ≤ q) q := fun _ h => h
  have hbA : ¬ (fun q : Nat => ss.heap.size ≤ q) bb := Nat.not_le.mpr hbl
  refine lv_aload_n hx hcd dL_law_544 rfl (lv_at hl 1 rfl) ?_
  refine lv_aload_n hx hcd dL_law_545 rfl (lv_at hl 0 rfl) ?_
  refine lv_iload hx hcd dL_law_546 (lv_at hl 4 rfl) ?_
  refine lv_iconst (v := nI 1) hx hcd dL_law_548 (by decide) ?_
  refine kr_add hx hcd dL_law_549 ?_
  refine kl_sld hx hcd hX hbl hbA hS (k := i + 1) (by omega) hL9 dL_law_550 ?_
  refine kr_top (w := nI a) h1 ?_
  refine lv_aload_n hx hcd dL_law_551 rfl (lv_at hl 0 rfl) ?_
  refine lv_iload hx hcd dL_law_552 (lv_at hl 4 rfl) ?_
  refine lv_iconst (v := nI 2) hx hcd dL_law_554 (by decide) ?_
  refine kr_add hx hcd dL_law_555 ?_
  refine kl_sld hx hcd hX hbl hbA hS (k := i + 2) (by omega) hL9 dL_law_556 ?_
  refine kr_top (w := nI s) h2 ?_
  refine lv_aload_n hx hcd dL_law_557 rfl (lv_at hl 0 rfl) ?_
  refine lv_iload hx hcd dL_law_558 (lv_at hl 4 rfl) ?_
  refine lv_iconst (v := nI 3) hx hcd dL_law_560 (by decide) ?_
  refine kr_add hx hcd dL_law_561 ?_
  refine kl_sld hx hcd hX hbl hbA hS (k := i + 3) (by omega) hL9 dL_law_562 ?_
  refine lv_aload_n hx hcd dL_law_563 rfl (lv_at hl 0 rfl) ?_
  refine lv_iload hx hcd dL_law_564 (lv_at hl 4 rfl) ?_
  refine lv_iconst (v := nI 4) hx hcd dL_law_566 (by decide) ?_
  refine kr_add hx hcd dL_law_567 ?_
  refine kl_sld hx hcd hX hbl hbA hS (k := i + 4) (by omega) hL9 dL_law_568 ?_
  refine lv_aload_n hx hcd dL_law_569 rfl (lv_at hl 3 rfl) ?_
  refine kl_S (As := [.ref (ob 0), .int (nI a), .int (nI s), .int (xs (i + 3)), .int (xs (i + 4)), .ref o]) (rest := []) (ws2 := wLaw cI cB cW cL o F ob nw tr qs sc (g_rot qs r) M N S n L T z x hh M Sp Ot Sv T) ⟨hx, hcd, hml, hown, hts⟩ (c_L_turnOn__e2 l hst D cI cB cW cL o F ob nw tr qs sc (g_rot qs r) N S n L T _ M a s (xs (i + 3)) (xs (i + 4)) ha hs3 (Or.inr hg)) (vx_cwSW 6 hts gL_law_L_turnOn rfl rfl rfl (by decide +kernel) ⟨Nat.le_of_ble_eq_true rfl, Nat.le_of_ble_eq_true rfl⟩) hZ hN hK hP hD hS hA [0, 1, 2, 3, 4, 5, 6, 7, 8, 9, 10, 11, 12, 13, 14, 15, 16, 17, 18, 19, 20, 21, 22, 23, 24, 25, 26, 27, 28, 29, 30, 31, 32, 33, 34, 35, 36, 37, 38, 39, 40, 41, 42, 43, 44, 45, 46, 47, 48, 49, 50, 51, 52, 53, 54, 55, 56, 57, 58, 59, 60, 61, 62, 63, 64, 65, 66, 67, 68, 69, 70, 71, 72, 73, 74, 75, 76, 77, 78, 79, 80, 81, 82, 83, 84, 85, 86, 87, 88, 89, 90, 91, 92, 93, 94] wLaw_LXC nd_LX wLX_adr wLaw_LX rfl hl.1 rfl (Nat.le_of_ble_eq_true rfl) dL_law_570 ⟨hc, hs⟩ (fun H locs hP hD hS => ?_)
  refine lv_istore (lv' := [(5, .int (nI 2)), (0, .ref bb), (1, .ref (ob 0)), (2, .ref (z 0)), (3, .ref o), (4, .int (nI i))]) hx hcd dL_law_573 hl (by decide) rfl (fun ls hl => ?_)
  refine lv_aload_n hx hcd dL_law_575 rfl (lv_at hl 3 rfl) ?_
  refine lv_aload_n hx hcd dL_law_576 rfl (lv_at hl 1 rfl) ?_
  refine lv_iload hx hcd dL_law_577 (lv_at hl 5 rfl) ?_
  refine lv_iconst (v := nI 1) hx hcd dL_law_579 (by decide) ?_
  refine kr_add hx hcd dL_law_580 ?_
  refine kl_sld hx hcd hX hbl hbA hS (k := i + 1) (by omega) hL9 dL_law_581 ?_
  refine kr_top (w := nI a) h1 ?_
  refine lv_aload_n hx hcd dL_law_582 rfl (lv_at hl 1 rfl) ?_
  refine lv_iload hx hcd dL_law_583 (lv_at hl 5 rfl) ?_
  refine lv_iconst (v := nI 2) hx hcd dL_law_585 (by decide) ?_
  refine kr_add hx hcd dL_law_586 ?_
  refine kl_sld hx hcd hX hbl hbA hS (k := i + 2) (by omega) hL9 dL_law_587 ?_
  refine kr_top (w := nI s) h2 ?_
  refine lv_aload_n hx hcd dL_law_588 rfl (lv_at hl 1 rfl) ?_
  refine lv_iload hx hcd dL_law_589 (lv_at hl 5 rfl) ?_
  refine lv_iconst (v := nI 3) hx hcd dL_law_591 (by decide) ?_
  refine kr_add hx hcd dL_law_592 ?_
  refine kl_sld hx hcd hX hbl hbA hS (k := i + 3) (by omega) hL9 dL_law_593 ?_
  refine lv_aload_n hx hcd dL_law_594 rfl (lv_at hl 1 rfl) ?_
  refine lv_iload hx hcd dL_law_595 (lv_at hl 5 rfl) ?_
  refine lv_iconst (v := nI 4) hx hcd dL_law_597 (by decide) ?_
  refine kr_add hx hcd dL_law_598 ?_
  refine kl_sld hx hcd hX hbl hbA hS (k := i + 4) (by omega) hL9 dL_law_599 ?_
  refine kr_Vi (As := [.int (nI a), .int (nI s), .int (xs (i + 3)), .int (xs (i + 4))]) (rest := []) (ws2 := wLaw cI cB cW cL o F ob nw tr qs sc (g_rot qs r) M N S n L T z (xu x 7 2) hh M Sp Ot Sv T) (q := (RX7, TX7, 10)) ⟨hx, hcd, hml, hown, hts⟩ (c_X7_turnOn__b2b l D cI cB cW cL z x hh Sp Ot Sv T _ M (nI a) (nI s) (xs (i + 3)) (xs (i + 4)) (seat_ok ha hs3) hrk hg) (cwV 4 hts gL_law_X7_turnOn rfl rfl rfl (by decide +kernel) ⟨Nat.le_of_ble_eq_true rfl, Nat.le_of_ble_eq_true rfl⟩) hK hP hD hS hA [95, 96, 97, 98, 99, 100] wLaw_MAC (by decide) wMA_adr wLaw_MA 95 rfl rfl rfl hl.1 rfl (Nat.le_of_ble_eq_true rfl) dL_law_600 ⟨hc, hs⟩ (fun H locs hP hD hS => ?_)
  refine lv_istore (lv' := [(6, .int (nI 0)), (5, .int (nI 2)), (0, .ref bb), (1, .ref (ob 0)), (2, .ref (z 0)), (3, .ref o), (4, .int (nI i))]) hx hcd dL_law_603 hl (by decide) rfl (fun ls hl => ?_)
  refine lv_aload_n hx hcd dL_law_605 rfl (lv_at hl 4 rfl) ?_
  refine kr_Vi (As := []) (rest := []) (ws2 := wLaw cI cB cW cL o F ob nw tr qs sc (g_rot qs r) M N S n L T z (xu x 7 2) hh M Sp Ot Sv T) (q := (RX7, TX7, 10)) ⟨hx, hcd, hml, hown, hts⟩ (c_X7_thrown l D cI cB cW cL z (xu x 7 2) hh _ M ) (cwV 0 hts gL_law_X7_thrown rfl rfl rfl (by decide +kernel) ⟨Nat.le_of_ble_eq_true rfl, Nat.le_of_ble_eq_true rfl⟩) hK hP hD hS hA [95, 96] wLaw_MoC (by decide) wMo_adr2 wLaw_Mo 95 rfl rfl rfl hl.1 rfl (Nat.le_of_ble_eq_true rfl) dL_law_606 ⟨hc, hs⟩ (fun H locs hP hD hS => ?_)
  refine kr_top (w := 2) rfl ?_
  refine kr_top (w := nI 2) rfl ?_
  refine lv_iload hx hcd dL_law_609 (lv_at hl 1 rfl) ?_
  refine kr_ceq (tgt := 616) hx hcd (by omega) (by omega) dL_law_611 (by decide) (fun (c_611 : 2 = 2) => ?_) (fun (c_611 : ¬ 2 = 2) => absurd c_611 (by omega))
  refine lv_iload hx hcd dL_law_616 (lv_at hl 1 rfl) ?_
  refine kr_zne (tgt := 633) hx hcd (by omega) dL_law_618 (by decide) (fun (c_618 : 0 < 2) => ?_) (fun (c_618 : 2 = 0) => absurd c_618 (by omega))
  refine lv_goto (tgt := 1812) hx hcd dL_law_633 (by decide) ?_
  exact kk F N M S n r L T (xu x 7 2) hh Sp Ot Sv (linv_x hV rfl rfl) H locs ls hP hD hS (lv_sub hl [2, 3, 4, 5, 6] rfl)

set_option maxHeartbeats 4000000 in
set_option maxRecDepth 100000 in
theorem law_turnOff__ok {pp : Program} {l : Launch} {ee : Env} {ss : State} {mm : MethodId} {below : List Frame} {meth : Method} {cc : Code} {bb Ls : Nat} {xs : Nat → Int32} {D : va_G} {cI cB cW cL : ClassId} (C : LFix pp l ss mm cc bb Ls xs D cI cB cW cL) {o : Nat} {F : Nat → Int64} {ob nw tr : Nat → Nat} {qs : Nat → Nat → Nat} {sc : Nat → Nat} {N : kM} {S : Nat → kM} {n r L : Nat} {T : Nat → Int32} {z : Nat → Nat} {x : Nat → Int32} {hh : Int64} {Sp Ot Sv : Nat → Int32} {M : kM} (hV : LInv M S n r L T Sv x) {i : Nat} (hi : i + 5 ≤ Ls) {a s : Nat} (h1 : xs (i + 1) = nI a) (h2 : xs (i + 2) = nI s) (ha : a < 6) (hs3 : s < 3) (ho : g_on M a s = true) {H : Heap} {locs : List Loc} {ls : Array Slot} {cells slots : Nat} {Q : State → Prop} (hc : cells + 1 ≤ 601024) (hs : slots + 6 ≤ 7293034) (hP : va_P D vwCl (wLaw cI cB cW cL o F ob nw tr qs sc (g_rot qs r) M N S n L T z x hh M Sp Ot Sv T) H) (hD : va_D (fun q : Nat => ss.heap.size ≤ q) (wLaw cI cB cW cL o F ob nw tr qs sc (g_rot qs r) M N S n L T z x hh M Sp Ot Sv T)) (hS : va_S (fun q : Nat => ss.heap.size ≤ q) ss.heap H locs) (hl : lv_has ls 9 [(0, .ref bb), (1, .ref (ob 0)), (2, .ref (z 0)), (3, .ref o), (4, .int (nI i))]) (kk : LNext pp l ee ss mm below meth cc bb D cI cB cW cL o ob nw tr qs sc z i cells slots Q) : W pp l ee room_1 ss mm #[Value.ref bb] below meth cc H locs cells slots Q (F0 mm 636 ls []) := by
  obtain ⟨hx, hcd, hml, hown, hts, hX, hbl, hst, hZ, hN, hK, hL9⟩ := C
  obtain ⟨hI, hn, hr, hL, hT, hx4, hx6, hsv⟩ := id hV
  have hA : ∀ q : Nat, ss.heap.size ≤ q → (fun q : Nat => ss.heap.size ≤ q) q := fun _ h => h
  have hbA : ¬ (fun q : Nat => ss.heap.size ≤ q) bb := Nat.not_le.mpr hbl
  refine lv_aload_n hx hcd dL_law_636 rfl (lv_at hl 1 rfl) ?_
  refine lv_aload_n hx hcd dL_law_637 rfl (lv_at hl 0 rfl) ?_
  refine lv_iload hx hcd dL_law_638 (lv_at hl 4 rfl) ?_
  refine lv_iconst (v := nI 1) hx hcd dL_law_640 (by decide) ?_
  refine kr_add hx hcd dL_law_641 ?_
  refine kl_sld hx hcd hX hbl hbA hS (k := i + 1) (by omega) hL9 dL_law_642 ?_
  refine kr_top (w := nI a) h1 ?_
  refine lv_aload_n hx hcd dL_law_643 rfl (lv_at hl 0 rfl) ?_
  refine lv_iload hx hcd dL_law_644 (lv_at hl 4 rfl) ?_
  refine lv_iconst (v := nI 2) hx hcd dL_law_646 (by decide) ?_
  refine kr_add hx hcd dL_law_647 ?_
  refine kl_sld hx hcd hX hbl hbA hS (k := i + 2) (by omega) hL9 dL_law_648 ?_
  refine kr_top (w := nI s) h2 ?_
  refine lv_aload_n hx hcd dL_law_649 rfl (lv_at hl 3 rfl) ?_
  refine kl_S (As := [.ref (ob 0), .int (nI a), .int (nI s), .ref o]) (rest := []) (ws2 := wLaw cI cB cW cL o (vp_updL F 0 (((g_cnt (g_turnOff M a s) a) : Int32).toInt64)) ob nw tr qs sc (g_rot qs (rj n r)) (g_turnOff M a s) N (sset S (pj n r) M) (g_kn n) L T z x hh M Sp Ot Sv T) ⟨hx, hcd, hml, hown, hts⟩ (c_L_turnOff__ok l hst D cI cB cW cL o F ob nw tr qs sc (g_rot qs r) N S n L T _ M a s r hI ha hs3 ho hn hr) (vx_cwSW 4 hts gL_law_L_turnOff rfl rfl rfl (by decide +kernel) ⟨Nat.le_of_ble_eq_true rfl, Nat.le_of_ble_eq_true rfl⟩) hZ hN hK hP hD hS hA [0, 1, 2, 3, 4, 5, 6, 7, 8, 9, 10, 11, 12, 13, 14, 15, 16, 17, 18, 19, 20, 21, 22, 23, 24, 25, 26, 27, 28, 29, 30, 31, 32, 33, 34, 35, 36, 37, 38, 39, 40, 41, 42, 43, 44, 45, 46, 47, 48, 49, 50, 51, 52, 53, 54, 55, 56, 57, 58, 59, 60, 61, 62, 63, 64, 65, 66, 67, 68, 69, 70, 71, 72, 73, 74, 75, 76, 77, 78, 79, 80, 81, 82, 83, 84, 85, 86, 87, 88, 89, 90, 91, 92, 93, 94] wLaw_LXC nd_LX wLX_adr wLaw_LX rfl hl.1 rfl (Nat.le_of_ble_eq_true rfl) dL_law_650 ⟨hc, hs⟩ (fun H locs hP hD hS => ?_)
  refine lv_istore (lv' := [(5, .int (nI 0)), (0, .ref bb), (1, .ref (ob 0)), (2, .ref (z 0)), (3, .ref o), (4, .int (nI i))]) hx hcd dL_law_653 hl (by decide) rfl (fun ls hl => ?_)
  refine lv_aload_n hx hcd dL_law_655 rfl (lv_at hl 3 rfl) ?_
  refine lv_aload_n hx hcd dL_law_656 rfl (lv_at hl 1 rfl) ?_
  refine lv_iload hx hcd dL_law_657 (lv_at hl 5 rfl) ?_
  refine lv_iconst (v := nI 1) hx hcd dL_law_659 (by decide) ?_
  refine kr_add hx hcd dL_law_660 ?_
  refine kl_sld hx hcd hX hbl hbA hS (k := i + 1) (by omega) hL9 dL_law_661 ?_
  refine kr_top (w := nI a) h1 ?_
  refine lv_aload_n hx hcd dL_law_662 rfl (lv_at hl 1 rfl) ?_
  refine lv_iload hx hcd dL_law_663 (lv_at hl 5 rfl) ?_
  refine lv_iconst (v := nI 2) hx hcd dL_law_665 (by decide) ?_
  refine kr_add hx hcd dL_law_666 ?_
  refine kl_sld hx hcd hX hbl hbA hS (k := i + 2) (by omega) hL9 dL_law_667 ?_
  refine kr_top (w := nI s) h2 ?_
  refine kr_Vi (As := [.int (nI a), .int (nI s)]) (rest := []) (ws2 := wLaw cI cB cW cL o (vp_updL F 0 (((g_cnt (g_turnOff M a s) a) : Int32).toInt64)) ob nw tr qs sc (g_rot qs (rj n r)) (g_turnOff M a s) N (sset S (pj n r) M) (g_kn n) L T z (xu (xu x 7 0) 4 (nI (g_kn n))) hh (g_turnOff M a s) Sp Ot (g_keep Sv M n) T) (q := (RX7, TX7, 10)) ⟨hx, hcd, hml, hown, hts⟩ (c_X7_turnOff__ok l D cI cB cW cL z x hh Sp Ot Sv T _ M a s n hI ha hs3 ho hx4 hn) (cwV 2 hts gL_law_X7_turnOff rfl rfl rfl (by decide +kernel) ⟨Nat.le_of_ble_eq_true rfl, Nat.le_of_ble_eq_true rfl⟩) hK hP hD hS hA [95, 96, 97, 98, 99, 100] wLaw_MAC (by decide) wMA_adr wLaw_MA 95 rfl rfl rfl hl.1 rfl (Nat.le_of_ble_eq_true rfl) dL_law_668 ⟨hc, hs⟩ (fun H locs hP hD hS => ?_)
  refine lv_istore (lv' := [(6, .int (g_cnt (g_turnOff M a s) a)), (5, .int (nI 0)), (0, .ref bb), (1, .ref (ob 0)), (2, .ref (z 0)), (3, .ref o), (4, .int (nI i))]) hx hcd dL_law_671 hl (by decide) rfl (fun ls hl => ?_)
  refine lv_aload_n hx hcd dL_law_673 rfl (lv_at hl 4 rfl) ?_
  refine kr_Vi (As := []) (rest := []) (ws2 := wLaw cI cB cW cL o (vp_updL F 0 (((g_cnt (g_turnOff M a s) a) : Int32).toInt64)) ob nw tr qs sc (g_rot qs (rj n r)) (g_turnOff M a s) N (sset S (pj n r) M) (g_kn n) L T z (xu (xu x 7 0) 4 (nI (g_kn n))) hh (g_turnOff M a s) Sp Ot (g_keep Sv M n) T) (q := (RX7, TX7, 10)) ⟨hx, hcd, hml, hown, hts⟩ (c_X7_thrown l D cI cB cW cL z (xu (xu x 7 0) 4 (nI (g_kn n))) hh _ (g_turnOff M a s) ) (cwV 0 hts gL_law_X7_thrown rfl rfl rfl (by decide +kernel) ⟨Nat.le_of_ble_eq_true rfl, Nat.le_of_ble_eq_true rfl⟩) hK hP hD hS hA [95, 96] wLaw_MoC (by decide) wMo_adr2 wLaw_Mo 95 rfl rfl rfl hl.1 rfl (Nat.le_of_ble_eq_true rfl) dL_law_674 ⟨hc, hs⟩ (fun H locs hP hD hS => ?_)
  refine kr_top (w := 0) rfl ?_
  refine kr_top (w := nI 0) rfl ?_
  refine lv_iload hx hcd dL_law_677 (lv_at hl 1 rfl) ?_
  refine kr_ceq (tgt := 684) hx hcd (by omega) (by omega) dL_law_679 (by decide) (fun (c_679 : 0 = 0) => ?_) (fun (c_679 : ¬ 0 = 0) => absurd c_679 (by omega))
  refine lv_iload hx hcd dL_law_684 (lv_at hl 1 rfl) ?_
  refine kr_zne (tgt := 701) hx hcd (by omega) dL_law_686 (by decide) (fun (c_686 : 0 < 0) => absurd c_686 (by omega)) (fun (c_686 : 0 = 0) => ?_)
  refine lv_aload_n hx hcd dL_law_689 rfl (lv_at hl 5 rfl) ?_
  refine lv_iconst (v := nI 0) hx hcd dL_law_690 (by decide) ?_
  refine kl_lald hx hcd hK hP 0 3 rfl rfl (v := ((g_cnt (g_turnOff M a s) a) : Int32).toInt64) (by omega) (by decide) updL_0 dL_law_691 ?_
  refine lv_iload hx hcd dL_law_692 (lv_at hl 0 rfl) ?_
  refine lv_i2l hx hcd dL_law_694 rfl ?_
  refine kl_lcmp hx hcd (rfl) dL_law_695 ?_
  refine kr_zeq (tgt := 701) hx hcd (by omega) dL_law_696 (by decide) (fun (c_696 : 0 = 0) => ?_) (fun (c_696 : 0 < 0) => absurd c_696 (by omega))
  refine lv_goto (tgt := 1812) hx hcd dL_law_701 (by decide) ?_
  exact kk (vp_updL F 0 (((g_cnt (g_turnOff M a s) a) : Int32).toInt64)) N (g_turnOff M a s) (sset S (pj n r) M) (g_kn n) (rj n r) L T (xu (xu x 7 0) 4 (nI (g_kn n))) hh Sp Ot (g_keep Sv M n) (linv_keep hV (i_turnOff hI ha hs3) rfl rfl) H locs ls hP hD hS (lv_sub hl [2, 3, 4, 5, 6] rfl)

set_option maxHeartbeats 4000000 in
set_option maxRecDepth 100000 in
theorem law_turnOff__e1 {pp : Program} {l : Launch} {ee : Env} {ss : State} {mm : MethodId} {below : List Frame} {meth : Method} {cc : Code} {bb Ls : Nat} {xs : Nat → Int32} {D : va_G} {cI cB cW cL : ClassId} (C : LFix pp l ss mm cc bb Ls xs D cI cB cW cL) {o : Nat} {F : Nat → Int64} {ob nw tr : Nat → Nat} {qs : Nat → Nat → Nat} {sc : Nat → Nat} {N : kM} {S : Nat → kM} {n r L : Nat} {T : Nat → Int32} {z : Nat → Nat} {x : Nat → Int32} {hh : Int64} {Sp Ot Sv : Nat → Int32} {M : kM} (hV : LInv M S n r L T Sv x) {i : Nat} (hi : i + 5 ≤ Ls)  (hg : g_seatok (xs (i + 1)) (xs (i + 2)) = false) {H : Heap} {locs : List Loc} {ls : Array Slot} {cells slots : Nat} {Q : State → Prop} (hc : cells + 1 ≤ 601024) (hs : slots + 6 ≤ 7293034) (hP : va_P D vwCl (wLaw cI cB cW cL o F ob nw tr qs sc (g_rot qs r) M N S n L T z x hh M Sp Ot Sv T) H) (hD : va_D (fun q : Nat => ss.heap.size ≤ q) (wLaw cI cB cW cL o F ob nw tr qs sc (g_rot qs r) M N S n L T z x hh M Sp Ot Sv T)) (hS : va_S (fun q : Nat => ss.heap.size ≤ q) ss.heap H locs) (hl : lv_has ls 9 [(0, .ref bb), (1, .ref (ob 0)), (2, .ref (z 0)), (3, .ref o), (4, .int (nI i))]) (kk : LNext pp l ee ss mm below meth cc bb D cI cB cW cL o ob nw tr qs sc z i cells slots Q) : W pp l ee room_1 ss mm #[Value.ref bb] below meth cc H locs cells slots Q (F0 mm 636 ls []) := by
  obtain ⟨hx, hcd, hml, hown, hts, hX, hbl, hst, hZ, hN, hK, hL9⟩ := C
  obtain ⟨hI, hn, hr, hL, hT, hx4, hx6, hsv⟩ := id hV
  have hA : ∀ q : Nat, ss.heap.size ≤ q → (fun q : Nat => ss.heap.size ≤ q) q := fun _ h => h
  have hbA : ¬ (fun q : Nat => ss.heap.size ≤ q) bb := Nat.not_le.mpr hbl
  refine lv_aload_n hx hcd dL_law_636 rfl (lv_at hl 1 rfl) ?_
  refine lv_aload_n hx hcd dL_law_637 rfl (lv_at hl 0 rfl) ?_
  refine lv_iload hx hcd dL_law_638 (lv_at hl 4 rfl) ?_
  refine lv_iconst (v := nI 1) hx hcd dL_law_640 (by decide) ?_
  refine kr_add hx hcd dL_law_641 ?_
  refine kl_sld hx hcd hX hbl hbA hS (k := i + 1) (by omega) hL9 dL_law_642 ?_
  refine lv_aload_n hx hcd dL_law_643 rfl (lv_at hl 0 rfl) ?_
  refine lv_iload hx hcd dL_law_644 (lv_at hl 4 rfl) ?_
  refine lv_iconst (v := nI 2) hx hcd dL_law_646 (by decide) ?_
  refine kr_add hx hcd dL_law_647 ?_
  refine kl_sld hx hcd hX hbl hbA hS (k := i + 2) (by omega) hL9 dL_law_648 ?_
  refine lv_aload_n hx hcd dL_law_649 rfl (lv_at hl 3 rfl) ?_
  refine kl_S (As := [.ref (ob 0), .int (xs (i + 1)), .int (xs (i + 2)), .ref o]) (rest := []) (ws2 := wLaw cI cB cW cL o F ob nw tr qs sc (g_rot qs r) M N S n L T z x hh M Sp Ot Sv T) ⟨hx, hcd, hml, hown, hts⟩ (c_L_turnOff__e1 l hst D cI cB cW cL o F ob nw tr qs sc (g_rot qs r) N S n L T _ M (xs (i + 1)) (xs (i + 2)) hg) (vx_cwSW 4 hts gL_law_L_turnOff rfl rfl rfl (by decide +kernel) ⟨Nat.le_of_ble_eq_true rfl, Nat.le_of_ble_eq_true rfl⟩) hZ hN hK hP hD hS hA [0, 1, 2, 3, 4, 5, 6, 7, 8, 9, 10, 11, 12, 13, 14, 15, 16, 17, 18, 19, 20, 21, 22, 23, 24, 25, 26, 27, 28, 29, 30, 31, 32, 33, 34, 35, 36, 37, 38, 39, 40, 41, 42, 43, 44, 45, 46, 47, 48, 49, 50, 51, 52, 53, 54, 55, 56, 57, 58, 59, 60, 61, 62, 63, 64, 65, 66, 67, 68, 69, 70, 71, 72, 73, 74, 75, 76, 77, 78, 79, 80, 81, 82, 83, 84, 85, 86, 87, 88, 89, 90, 91, 92, 93, 94] wLaw_LXC nd_LX wLX_adr wLaw_LX rfl hl.1 rfl (Nat.le_of_ble_eq_true rfl) dL_law_650 ⟨hc, hs⟩ (fun H locs hP hD hS => ?_)
  refine lv_istore (lv' := [(5, .int (nI 1)), (0, .ref bb), (1, .ref (ob 0)), (2, .ref (z 0)), (3, .ref o), (4, .int (nI i))]) hx hcd dL_law_653 hl (by decide) rfl (fun ls hl => ?_)
  refine lv_aload_n hx hcd dL_law_655 rfl (lv_at hl 3 rfl) ?_
  refine lv_aload_n hx hcd dL_law_656 rfl (lv_at hl 1 rfl) ?_
  refine lv_iload hx hcd dL_law_657 (lv_at hl 5 rfl) ?_
  refine lv_iconst (v := nI 1) hx hcd dL_law_659 (by decide) ?_
  refine kr_add hx hcd dL_law_660 ?_
  refine kl_sld hx hcd hX hbl hbA hS (k := i + 1) (by omega) hL9 dL_law_661 ?_
  refine lv_aload_n hx hcd dL_law_662 rfl (lv_at hl 1 rfl) ?_
  refine lv_iload hx hcd dL_law_663 (lv_at hl 5 rfl) ?_
  refine lv_iconst (v := nI 2) hx hcd dL_law_665 (by decide) ?_
  refine kr_add hx hcd dL_law_666 ?_
  refine kl_sld hx hcd hX hbl hbA hS (k := i + 2) (by omega) hL9 dL_law_667 ?_
  refine kr_Vi (As := [.int (xs (i + 1)), .int (xs (i + 2))]) (rest := []) (ws2 := wLaw cI cB cW cL o F ob nw tr qs sc (g_rot qs r) M N S n L T z (xu x 7 1) hh M Sp Ot Sv T) (q := (RX7, TX7, 10)) ⟨hx, hcd, hml, hown, hts⟩ (c_X7_turnOff__b1 l D cI cB cW cL z x hh Sp Ot Sv T _ M (xs (i + 1)) (xs (i + 2)) hg) (cwV 2 hts gL_law_X7_turnOff rfl rfl rfl (by decide +kernel) ⟨Nat.le_of_ble_eq_true rfl, Nat.le_of_ble_eq_true rfl⟩) hK hP hD hS hA [95, 96, 97, 98, 99, 100] wLaw_MAC (by decide) wMA_adr wLaw_MA 95 rfl rfl rfl hl.1 rfl (Nat.le_of_ble_eq_true rfl) dL_law_668 ⟨hc, hs⟩ (fun H locs hP hD hS => ?_)
  refine lv_istore (lv' := [(6, .int (nI 0)), (5, .int (nI 1)), (0, .ref bb), (1, .ref (ob 0)), (2, .ref (z 0)), (3, .ref o), (4, .int (nI i))]) hx hcd dL_law_671 hl (by decide) rfl (fun ls hl => ?_)
  refine lv_aload_n hx hcd dL_law_673 rfl (lv_at hl 4 rfl) ?_
  refine kr_Vi (As := []) (rest := []) (ws2 := wLaw cI cB cW cL o F ob nw tr qs sc (g_rot qs r) M N S n L T z (xu x 7 1) hh M Sp Ot Sv T) (q := (RX7, TX7, 10)) ⟨hx, hcd, hml, hown, hts⟩ (c_X7_thrown l D cI cB cW cL z (xu x 7 1) hh _ M ) (cwV 0 hts gL_law_X7_thrown rfl rfl rfl (by decide +kernel) ⟨Nat.le_of_ble_eq_true rfl, Nat.le_of_ble_eq_true rfl⟩) hK hP hD hS hA [95, 96] wLaw_MoC (by decide) wMo_adr2 wLaw_Mo 95 rfl rfl rfl hl.1 rfl (Nat.le_of_ble_eq_true rfl) dL_law_674 ⟨hc, hs⟩ (fun H locs hP hD hS => ?_)
  refine kr_top (w := 1) rfl ?_
  refine kr_top (w := nI 1) rfl ?_
  refine lv_iload hx hcd dL_law_677 (lv_at hl 1 rfl) ?_
  refine kr_ceq (tgt := 684) hx hcd (by omega) (by omega) dL_law_679 (by decide) (fun (c_679 : 1 = 1) => ?_) (fun (c_679 : ¬ 1 = 1) => absurd c_679 (by omega))
  refine lv_iload hx hcd dL_law_684 (lv_at hl 1 rfl) ?_
  refine kr_zne (tgt := 701) hx hcd (by omega) dL_law_686 (by decide) (fun (c_686 : 0 < 1) => ?_) (fun (c_686 : 1 = 0) => absurd c_686 (by omega))
  refine lv_goto (tgt := 1812) hx hcd dL_law_701 (by decide) ?_
  exact kk F N M S n r L T (xu x 7 1) hh Sp Ot Sv (linv_x hV rfl rfl) H locs ls hP hD hS (lv_sub hl [2, 3, 4, 5, 6] rfl)

set_option maxHeartbeats 4000000 in
set_option maxRecDepth 100000 in
theorem law_turnOff__e2 {pp : Program} {l : Launch} {ee : Env} {ss : State} {mm : MethodId} {below : List Frame} {meth : Method} {cc : Code} {bb Ls : Nat} {xs : Nat → Int32} {D : va_G} {cI cB cW cL : ClassId} (C : LFix pp l ss mm cc bb Ls xs D cI cB cW cL) {o : Nat} {F : Nat → Int64} {ob nw tr : Nat → Nat} {qs : Nat → Nat → Nat} {sc : Nat → Nat} {N : kM} {S : Nat → kM} {n r L : Nat} {T : Nat → Int32} {z : Nat → Nat} {x : Nat → Int32} {hh : Int64} {Sp Ot Sv : Nat → Int32} {M : kM} (hV : LInv M S n r L T Sv x) {i : Nat} (hi : i + 5 ≤ Ls) {a s : Nat} (h1 : xs (i + 1) = nI a) (h2 : xs (i + 2) = nI s) (ha : a < 6) (hs3 : s < 3) (ho : g_on M a s = false) {H : Heap} {locs : List Loc} {ls : Array Slot} {cells slots : Nat} {Q : State → Prop} (hc : cells + 1 ≤ 601024) (hs : slots + 6 ≤ 7293034) (hP : va_P D vwCl (wLaw cI cB cW cL o F ob nw tr qs sc (g_rot qs r) M N S n L T z x hh M Sp Ot Sv T) H) (hD : va_D (fun q : Nat => ss.heap.size ≤ q) (wLaw cI cB cW cL o F ob nw tr qs sc (g_rot qs r) M N S n L T z x hh M Sp Ot Sv T)) (hS : va_S (fun q : Nat => ss.heap.size ≤ q) ss.heap H locs) (hl : lv_has ls 9 [(0, .ref bb), (1, .ref (ob 0)), (2, .ref (z 0)), (3, .ref o), (4, .int (nI i))]) (kk : LNext pp l ee ss mm below meth cc bb D cI cB cW cL o ob nw tr qs sc z i cells slots Q) : W pp l ee room_1 ss mm #[Value.ref bb] below meth cc H locs cells slots Q (F0 mm 636 ls []) := by
  obtain ⟨hx, hcd, hml, hown, hts, hX, hbl, hst, hZ, hN, hK, hL9⟩ := C
  obtain ⟨hI, hn, hr, hL, hT, hx4, hx6, hsv⟩ := id hV
  have hA : ∀ q : Nat, ss.heap.size ≤ q → (fun q : Nat => ss.heap.size ≤ q) q := fun _ h => h
  have hbA : ¬ (fun q : Nat => ss.heap.size ≤ q) bb := Nat.not_le.mpr hbl
  refine lv_aload_n hx hcd dL_law_636 rfl (lv_at hl 1 rfl) ?_
  refine lv_aload_n hx hcd dL_law_637 rfl (lv_at hl 0 rfl) ?_
  refine lv_iload hx hcd dL_law_638 (lv_at hl 4 rfl) ?_
  refine lv_iconst (v := nI 1) hx hcd dL_law_640 (by decide) ?_
  refine kr_add hx hcd dL_law_641 ?_
  refine kl_sld hx hcd hX hbl hbA hS (k := i + 1) (by omega) hL9 dL_law_642 ?_
  refine kr_top (w := nI a) h1 ?_
  refine lv_aload_n hx hcd dL_law_643 rfl (lv_at hl 0 rfl) ?_
  refine lv_iload hx hcd dL_law_644 (lv_at hl 4 rfl) ?_
  refine lv_iconst (v := nI 2) hx hcd dL_law_646 (by decide) ?_
  refine kr_add hx hcd dL_law_647 ?_
  refine kl_sld hx hcd hX hbl hbA hS (k := i + 2) (by omega) hL9 dL_law_648 ?_
  refine kr_top (w := nI s) h2 ?_
  refine lv_aload_n hx hcd dL_law_649 rfl (lv_at hl 3 rfl) ?_
  refine kl_S (As := [.ref (ob 0), .int (nI a), .int (nI s), .ref o]) (rest := []) (ws2 := wLaw cI cB cW cL o F ob nw tr qs sc (g_rot qs r) M N S n L T z x hh M Sp Ot Sv T) ⟨hx, hcd, hml, hown, hts⟩ (c_L_turnOff__e2 l hst D cI cB cW cL o F ob nw tr qs sc (g_rot qs r) N S n L T _ M a s ha hs3 ho) (vx_cwSW 4 hts gL_law_L_turnOff rfl rfl rfl (by decide +kernel) ⟨Nat.le_of_ble_eq_true rfl, Nat.le_of_ble_eq_true rfl⟩) hZ hN hK hP hD hS hA [0, 1, 2, 3, 4, 5, 6, 7, 8, 9, 10, 11, 12, 13, 14, 15, 16, 17, 18, 19, 20, 21, 22, 23, 24, 25, 26, 27, 28, 29, 30, 31, 32, 33, 34, 35, 36, 37, 38, 39, 40, 41, 42, 43, 44, 45, 46, 47, 48, 49, 50, 51, 52, 53, 54, 55, 56, 57, 58, 59, 60, 61, 62, 63, 64, 65, 66, 67, 68, 69, 70, 71, 72, 73, 74, 75, 76, 77, 78, 79, 80, 81, 82, 83, 84, 85, 86, 87, 88, 89, 90, 91, 92, 93, 94] wLaw_LXC nd_LX wLX_adr wLaw_LX rfl hl.1 rfl (Nat.le_of_ble_eq_true rfl) dL_law_650 ⟨hc, hs⟩ (fun H locs hP hD hS => ?_)
  refine lv_istore (lv' := [(5, .int (nI 2)), (0, .ref bb), (1, .ref (ob 0)), (2, .ref (z 0)), (3, .ref o), (4, .int (nI i))]) hx hcd dL_law_653 hl (by decide) rfl (fun ls hl => ?_)
  refine lv_aload_n hx hcd dL_law_655 rfl (lv_at hl 3 rfl) ?_
  refine lv_aload_n hx hcd dL_law_656 rfl (lv_at hl 1 rfl) ?_
  refine lv_iload hx hcd dL_law_657 (lv_at hl 5 rfl) ?_
  refine lv_iconst (v := nI 1) hx hcd dL_law_659 (by decide) ?_
  refine kr_add hx hcd dL_law_660 ?_
  refine kl_sld hx hcd hX hbl hbA hS (k := i + 1) (by omega) hL9 dL_law_661 ?_
  refine kr_top (w := nI a) h1 ?_
  refine lv_aload_n hx hcd dL_law_662 rfl (lv_at hl 1 rfl) ?_
  refine lv_iload hx hcd dL_law_663 (lv_at hl 5 rfl) ?_
  refine lv_iconst (v := nI 2) hx hcd dL_law_665 (by decide) ?_
  refine kr_add hx hcd dL_law_666 ?_
  refine kl_sld hx hcd hX hbl hbA hS (k := i + 2) (by omega) hL9 dL_law_667 ?_
  refine kr_top (w := nI s) h2 ?_
  refine kr_Vi (As := [.int (nI a), .int (nI s)]) (rest := []) (ws2 := wLaw cI cB cW cL o F ob nw tr qs sc (g_rot qs r) M N S n L T z (xu x 7 2) hh M Sp Ot Sv T) (q := (RX7, TX7, 10)) ⟨hx, hcd, hml, hown, hts⟩ (c_X7_turnOff__b2 l D cI cB cW cL z x hh Sp Ot Sv T _ M a s hI ha hs3 ho) (cwV 2 hts gL_law_X7_turnOff rfl rfl rfl (by decide +kernel) ⟨Nat.le_of_ble_eq_true rfl, Nat.le_of_ble_eq_true rfl⟩) hK hP hD hS hA [95, 96, 97, 98, 99, 100] wLaw_MAC (by decide) wMA_adr wLaw_MA 95 rfl rfl rfl hl.1 rfl (Nat.le_of_ble_eq_true rfl) dL_law_668 ⟨hc, hs⟩ (fun H locs hP hD hS => ?_)
  refine lv_istore (lv' := [(6, .int (nI 0)), (5, .int (nI 2)), (0, .ref bb), (1, .ref (ob 0)), (2, .ref (z 0)), (3, .ref o), (4, .int (nI i))]) hx hcd dL_law_671 hl (by decide) rfl (fun ls hl => ?_)
  refine lv_aload_n hx hcd dL_law_673 rfl (lv_at hl 4 rfl) ?_
  refine kr_Vi (As := []) (rest := []) (ws2 := wLaw cI cB cW cL o F ob nw tr qs sc (g_rot qs r) M N S n L T z (xu x 7 2) hh M Sp Ot Sv T) (q := (RX7, TX7, 10)) ⟨hx, hcd, hml, hown, hts⟩ (c_X7_thrown l D cI cB cW cL z (xu x 7 2) hh _ M ) (cwV 0 hts gL_law_X7_thrown rfl rfl rfl (by decide +kernel) ⟨Nat.le_of_ble_eq_true rfl, Nat.le_of_ble_eq_true rfl⟩) hK hP hD hS hA [95, 96] wLaw_MoC (by decide) wMo_adr2 wLaw_Mo 95 rfl rfl rfl hl.1 rfl (Nat.le_of_ble_eq_true rfl) dL_law_674 ⟨hc, hs⟩ (fun H locs hP hD hS => ?_)
  refine kr_top (w := 2) rfl ?_
  refine kr_top (w := nI 2) rfl ?_
  refine lv_iload hx hcd dL_law_677 (lv_at hl 1 rfl) ?_
  refine kr_ceq (tgt := 684) hx hcd (by omega) (by omega) dL_law_679 (by decide) (fun (c_679 : 2 = 2) => ?_) (fun (c_679 : ¬ 2 = 2) => absurd c_679 (by omega))
  refine lv_iload hx hcd dL_law_684 (lv_at hl 1 rfl) ?_
  refine kr_zne (tgt := 701) hx hcd (by omega) dL_law_686 (by decide) (fun (c_686 : 0 < 2) => ?_) (fun (c_686 : 2 = 0) => absurd c_686 (by omega))
  refine lv_goto (tgt := 1812) hx hcd dL_law_701 (by decide) ?_
  exact kk F N M S n r L T (xu x 7 2) hh Sp Ot Sv (linv_x hV rfl rfl) H locs ls hP hD hS (lv_sub hl [2, 3, 4, 5, 6] rfl)

set_option maxHeartbeats 4000000 in
set_option maxRecDepth 100000 in
theorem law_bestSeat__ok {pp : Program} {l : Launch} {ee : Env} {ss : State} {mm : MethodId} {below : List Frame} {meth : Method} {cc : Code} {bb Ls : Nat} {xs : Nat → Int32} {D : va_G} {cI cB cW cL : ClassId} (C : LFix pp l ss mm cc bb Ls xs D cI cB cW cL) {o : Nat} {F : Nat → Int64} {ob nw tr : Nat → Nat} {qs : Nat → Nat → Nat} {sc : Nat → Nat} {N : kM} {S : Nat → kM} {n r L : Nat} {T : Nat → Int32} {z : Nat → Nat} {x : Nat → Int32} {hh : Int64} {Sp Ot Sv : Nat → Int32} {M : kM} (hV : LInv M S n r L T Sv x) {i : Nat} (hi : i + 5 ≤ Ls) {a : Nat} (h1 : xs (i + 1) = nI a) (ha : a < 6)  {H : Heap} {locs : List Loc} {ls : Array Slot} {cells slots : Nat} {Q : State → Prop} (hc : cells + 1 ≤ 601024) (hs : slots + 6 ≤ 7293034) (hP : va_P D vwCl (wLaw cI cB cW cL o F ob nw tr qs sc (g_rot qs r) M N S n L T z x hh M Sp Ot Sv T) H) (hD : va_D (fun q : Nat => ss.heap.size ≤ q) (wLaw cI cB cW cL o F ob nw tr qs sc (g_rot qs r) M N S n L T z x hh M Sp Ot Sv T)) (hS : va_S (fun q : Nat => ss.heap.size ≤ q) ss.heap H locs) (hl : lv_has ls 9 [(0, .ref bb), (1, .ref (ob 0)), (2, .ref (z 0)), (3, .ref o), (4, .int (nI i))]) (kk : LNext pp l ee ss mm below meth cc bb D cI cB cW cL o ob nw tr qs sc z i cells slots Q) : W pp l ee room_1 ss mm #[Value.ref bb] below meth cc H locs cells slots Q (F0 mm 704 ls []) := by
  obtain ⟨hx, hcd, hml, hown, hts, hX, hbl, hst, hZ, hN, hK, hL9⟩ := C
  obtain ⟨hI, hn, hr, hL, hT, hx4, hx6, hsv⟩ := id hV
  have hA : ∀ q : Nat, ss.heap.size ≤ q → (fun q : Nat => ss.heap.size ≤ q) q := fun _ h => h
  have hbA : ¬ (fun q : Nat => ss.heap.size ≤ q) bb := Nat.not_le.mpr hbl
  refine lv_aload_n hx hcd dL_law_704 rfl (lv_at hl 1 rfl) ?_
  refine lv_aload_n hx hcd dL_law_705 rfl (lv_at hl 0 rfl) ?_
  refine lv_iload hx hcd dL_law_706 (lv_at hl 4 rfl) ?_
  refine lv_iconst (v := nI 1) hx hcd dL_law_708 (by decide) ?_
  refine kr_add hx hcd dL_law_709 ?_
  refine kl_sld hx hcd hX hbl hbA hS (k := i + 1) (by omega) hL9 dL_law_710 ?_
  refine kr_top (w := nI a) h1 ?_
  refine lv_aload_n hx hcd dL_law_711 rfl (lv_at hl 3 rfl) ?_
  refine kl_S (As := [.ref (ob 0), .int (nI a), .ref o]) (rest := []) (ws2 := wLaw cI cB cW cL o (vp_updL F 0 ((((g_bst M a 3).1) : Int32).toInt64)) ob nw tr qs sc (g_rot qs r) M N S n L T z x hh M Sp Ot Sv T) ⟨hx, hcd, hml, hown, hts⟩ (c_L_bestSeat__ok l hst D cI cB cW cL o F ob nw tr qs sc (g_rot qs r) N S n L T _ M a ha) (vx_cwSW 3 hts gL_law_L_bestSeat rfl rfl rfl (by decide +kernel) ⟨Nat.le_of_ble_eq_true rfl, Nat.le_of_ble_eq_true rfl⟩) hZ hN hK hP hD hS hA [0, 1, 2, 3, 4, 5, 6, 7, 8, 9, 10, 11, 12, 13, 14, 15, 16, 17, 18, 19, 20, 21, 22, 23, 24, 25, 26, 27, 28, 29, 30, 31, 32, 33, 34, 35, 36, 37, 38, 39, 40, 41, 42, 43, 44, 45, 46, 47, 48, 49, 50, 51, 52, 53, 54, 55, 56, 57, 58, 59, 60, 61, 62, 63, 64, 65, 66, 67, 68, 69, 70, 71, 72, 73, 74, 75, 76, 77, 78, 79, 80, 81, 82, 83, 84, 85, 86, 87, 88, 89, 90, 91, 92, 93, 94] wLaw_LXC nd_LX wLX_adr wLaw_LX rfl hl.1 rfl (Nat.le_of_ble_eq_true rfl) dL_law_712 ⟨hc, hs⟩ (fun H locs hP hD hS => ?_)
  refine lv_istore (lv' := [(5, .int (nI 0)), (0, .ref bb), (1, .ref (ob 0)), (2, .ref (z 0)), (3, .ref o), (4, .int (nI i))]) hx hcd dL_law_715 hl (by decide) rfl (fun ls hl => ?_)
  refine lv_aload_n hx hcd dL_law_717 rfl (lv_at hl 3 rfl) ?_
  refine lv_aload_n hx hcd dL_law_718 rfl (lv_at hl 1 rfl) ?_
  refine lv_iload hx hcd dL_law_719 (lv_at hl 5 rfl) ?_
  refine lv_iconst (v := nI 1) hx hcd dL_law_721 (by decide) ?_
  refine kr_add hx hcd dL_law_722 ?_
  refine kl_sld hx hcd hX hbl hbA hS (k := i + 1) (by omega) hL9 dL_law_723 ?_
  refine kr_top (w := nI a) h1 ?_
  refine kr_Vi (As := [.int (nI a)]) (rest := []) (ws2 := wLaw cI cB cW cL o (vp_updL F 0 ((((g_bst M a 3).1) : Int32).toInt64)) ob nw tr qs sc (g_rot qs r) M N S n L T z (xu x 7 0) hh M Sp Ot Sv T) (q := (RX7, TX7, 10)) ⟨hx, hcd, hml, hown, hts⟩ (c_X7_bestSeat__ok l D cI cB cW cL z x hh _ M a ha) (cwV 1 hts gL_law_X7_bestSeat rfl rfl rfl (by decide +kernel) ⟨Nat.le_of_ble_eq_true rfl, Nat.le_of_ble_eq_true rfl⟩) hK hP hD hS hA [95, 96] wLaw_MoC (by decide) wMo_adr2 wLaw_Mo 95 rfl rfl rfl hl.1 rfl (Nat.le_of_ble_eq_true rfl) dL_law_724 ⟨hc, hs⟩ (fun H locs hP hD hS => ?_)
  refine lv_istore (lv' := [(6, .int ((g_bst M a 3).1)), (5, .int (nI 0)), (0, .ref bb), (1, .ref (ob 0)), (2, .ref (z 0)), (3, .ref o), (4, .int (nI i))]) hx hcd dL_law_727 hl (by decide) rfl (fun ls hl => ?_)
  refine lv_aload_n hx hcd dL_law_729 rfl (lv_at hl 4 rfl) ?_
  refine kr_Vi (As := []) (rest := []) (ws2 := wLaw cI cB cW cL o (vp_updL F 0 ((((g_bst M a 3).1) : Int32).toInt64)) ob nw tr qs sc (g_rot qs r) M N S n L T z (xu x 7 0) hh M Sp Ot Sv T) (q := (RX7, TX7, 10)) ⟨hx, hcd, hml, hown, hts⟩ (c_X7_thrown l D cI cB cW cL z (xu x 7 0) hh _ M ) (cwV 0 hts gL_law_X7_thrown rfl rfl rfl (by decide +kernel) ⟨Nat.le_of_ble_eq_true rfl, Nat.le_of_ble_eq_true rfl⟩) hK hP hD hS hA [95, 96] wLaw_MoC (by decide) wMo_adr2 wLaw_Mo 95 rfl rfl rfl hl.1 rfl (Nat.le_of_ble_eq_true rfl) dL_law_730 ⟨hc, hs⟩ (fun H locs hP hD hS => ?_)
  refine kr_top (w := 0) rfl ?_
  refine kr_top (w := nI 0) rfl ?_
  refine lv_iload hx hcd dL_law_733 (lv_at hl 1 rfl) ?_
  refine kr_ceq (tgt := 740) hx hcd (by omega) (by omega) dL_law_735 (by decide) (fun (c_735 : 0 = 0) => ?_) (fun (c_735 : ¬ 0 = 0) => absurd c_735 (by omega))
  refine lv_iload hx hcd dL_law_740 (lv_at hl 1 rfl) ?_
  refine kr_zne (tgt := 757) hx hcd (by omega) dL_law_742 (by decide) (fun (c_742 : 0 < 0) => absurd c_742 (by omega)) (fun (c_742 : 0 = 0) => ?_)
  refine lv_aload_n hx hcd dL_law_745 rfl (lv_at hl 5 rfl) ?_
  refine lv_iconst (v := nI 0) hx hcd dL_law_746 (by decide) ?_
  refine kl_lald hx hcd hK hP 0 3 rfl rfl (v := (((g_bst M a 3).1) : Int32).toInt64) (by omega) (by decide) updL_0 dL_law_747 ?_
  refine lv_iload hx hcd dL_law_748 (lv_at hl 0 rfl) ?_
  refine lv_i2l hx hcd dL_law_750 rfl ?_
  refine kl_lcmp hx hcd (rfl) dL_law_751 ?_
  refine kr_zeq (tgt := 757) hx hcd (by omega) dL_law_752 (by decide) (fun (c_752 : 0 = 0) => ?_) (fun (c_752 : 0 < 0) => absurd c_752 (by omega))
  refine lv_goto (tgt := 1812) hx hcd dL_law_757 (by decide) ?_
  exact kk (vp_updL F 0 ((((g_bst M a 3).1) : Int32).toInt64)) N M S n r L T (xu x 7 0) hh Sp Ot Sv (linv_x hV rfl rfl) H locs ls hP hD hS (lv_sub hl [2, 3, 4, 5, 6] rfl)

set_option maxHeartbeats 4000000 in
set_option maxRecDepth 100000 in
theorem law_bestSeat__e1 {pp : Program} {l : Launch} {ee : Env} {ss : State} {mm : MethodId} {below : List Frame} {meth : Method} {cc : Code} {bb Ls : Nat} {xs : Nat → Int32} {D : va_G} {cI cB cW cL : ClassId} (C : LFix pp l ss mm cc bb Ls xs D cI cB cW cL) {o : Nat} {F : Nat → Int64} {ob nw tr : Nat → Nat} {qs : Nat → Nat → Nat} {sc : Nat → Nat} {N : kM} {S : Nat → kM} {n r L : Nat} {T : Nat → Int32} {z : Nat → Nat} {x : Nat → Int32} {hh : Int64} {Sp Ot Sv : Nat → Int32} {M : kM} (hV : LInv M S n r L T Sv x) {i : Nat} (hi : i + 5 ≤ Ls)  (hg : g_usr (xs (i + 1)) = false) {H : Heap} {locs : List Loc} {ls : Array Slot} {cells slots : Nat} {Q : State → Prop} (hc : cells + 1 ≤ 601024) (hs : slots + 6 ≤ 7293034) (hP : va_P D vwCl (wLaw cI cB cW cL o F ob nw tr qs sc (g_rot qs r) M N S n L T z x hh M Sp Ot Sv T) H) (hD : va_D (fun q : Nat => ss.heap.size ≤ q) (wLaw cI cB cW cL o F ob nw tr qs sc (g_rot qs r) M N S n L T z x hh M Sp Ot Sv T)) (hS : va_S (fun q : Nat => ss.heap.size ≤ q) ss.heap H locs) (hl : lv_has ls 9 [(0, .ref bb), (1, .ref (ob 0)), (2, .ref (z 0)), (3, .ref o), (4, .int (nI i))]) (kk : LNext pp l ee ss mm below meth cc bb D cI cB cW cL o ob nw tr qs sc z i cells slots Q) : W pp l ee room_1 ss mm #[Value.ref bb] below meth cc H locs cells slots Q (F0 mm 704 ls []) := by
  obtain ⟨hx, hcd, hml, hown, hts, hX, hbl, hst, hZ, hN, hK, hL9⟩ := C
  obtain ⟨hI, hn, hr, hL, hT, hx4, hx6, hsv⟩ := id hV
  have hA : ∀ q : Nat, ss.heap.size ≤ q → (fun q : Nat => ss.heap.size ≤ q) q := fun _ h => h
  have hbA : ¬ (fun q : Nat => ss.heap.size ≤ q) bb := Nat.not_le.mpr hbl
  refine lv_aload_n hx hcd dL_law_704 rfl (lv_at hl 1 rfl) ?_
  refine lv_aload_n hx hcd dL_law_705 rfl (lv_at hl 0 rfl) ?_
  refine lv_iload hx hcd dL_law_706 (lv_at hl 4 rfl) ?_
  refine lv_iconst (v := nI 1) hx hcd dL_law_708 (by decide) ?_
  refine kr_add hx hcd dL_law_709 ?_
  refine kl_sld hx hcd hX hbl hbA hS (k := i + 1) (by omega) hL9 dL_law_710 ?_
  refine lv_aload_n hx hcd dL_law_711 rfl (lv_at hl 3 rfl) ?_
  refine kl_S (As := [.ref (ob 0), .int (xs (i + 1)), .ref o]) (rest := []) (ws2 := wLaw cI cB cW cL o F ob nw tr qs sc (g_rot qs r) M N S n L T z x hh M Sp Ot Sv T) ⟨hx, hcd, hml, hown, hts⟩ (c_L_bestSeat__e1 l hst D cI cB cW cL o F ob nw tr qs sc (g_rot qs r) N S n L T _ M (xs (i + 1)) hg) (vx_cwSW 3 hts gL_law_L_bestSeat rfl rfl rfl (by decide +kernel) ⟨Nat.le_of_ble_eq_true rfl, Nat.le_of_ble_eq_true rfl⟩) hZ hN hK hP hD hS hA [0, 1, 2, 3, 4, 5, 6, 7, 8, 9, 10, 11, 12, 13, 14, 15, 16, 17, 18, 19, 20, 21, 22, 23, 24, 25, 26, 27, 28, 29, 30, 31, 32, 33, 34, 35, 36, 37, 38, 39, 40, 41, 42, 43, 44, 45, 46, 47, 48, 49, 50, 51, 52, 53, 54, 55, 56, 57, 58, 59, 60, 61, 62, 63, 64, 65, 66, 67, 68, 69, 70, 71, 72, 73, 74, 75, 76, 77, 78, 79, 80, 81, 82, 83, 84, 85, 86, 87, 88, 89, 90, 91, 92, 93, 94] wLaw_LXC nd_LX wLX_adr wLaw_LX rfl hl.1 rfl (Nat.le_of_ble_eq_true rfl) dL_law_712 ⟨hc, hs⟩ (fun H locs hP hD hS => ?_)
  refine lv_istore (lv' := [(5, .int (nI 1)), (0, .ref bb), (1, .ref (ob 0)), (2, .ref (z 0)), (3, .ref o), (4, .int (nI i))]) hx hcd dL_law_715 hl (by decide) rfl (fun ls hl => ?_)
  refine lv_aload_n hx hcd dL_law_717 rfl (lv_at hl 3 rfl) ?_
  refine lv_aload_n hx hcd dL_law_718 rfl (lv_at hl 1 rfl) ?_
  refine lv_iload hx hcd dL_law_719 (lv_at hl 5 rfl) ?_
  refine lv_iconst (v := nI 1) hx hcd dL_law_721 (by decide) ?_
  refine kr_add hx hcd dL_law_722 ?_
  refine kl_sld hx hcd hX hbl hbA hS (k := i + 1) (by omega) hL9 dL_law_723 ?_
  refine kr_Vi (As := [.int (xs (i + 1))]) (rest := []) (ws2 := wLaw cI cB cW cL o F ob nw tr qs sc (g_rot qs r) M N S n L T z (xu x 7 1) hh M Sp Ot Sv T) (q := (RX7, TX7, 10)) ⟨hx, hcd, hml, hown, hts⟩ (c_X7_bestSeat__b1 l D cI cB cW cL z x hh _ M (xs (i + 1)) hg) (cwV 1 hts gL_law_X7_bestSeat rfl rfl rfl (by decide +kernel) ⟨Nat.le_of_ble_eq_true rfl, Nat.le_of_ble_eq_true rfl⟩) hK hP hD hS hA [95, 96] wLaw_MoC (by decide) wMo_adr2 wLaw_Mo 95 rfl rfl rfl hl.1 rfl (Nat.le_of_ble_eq_true rfl) dL_law_724 ⟨hc, hs⟩ (fun H locs hP hD hS => ?_)
  refine lv_istore (lv' := [(6, .int (nI 0)), (5, .int (nI 1)), (0, .ref bb), (1, .ref (ob 0)), (2, .ref (z 0)), (3, .ref o), (4, .int (nI i))]) hx hcd dL_law_727 hl (by decide) rfl (fun ls hl => ?_)
  refine lv_aload_n hx hcd dL_law_729 rfl (lv_at hl 4 rfl) ?_
  refine kr_Vi (As := []) (rest := []) (ws2 := wLaw cI cB cW cL o F ob nw tr qs sc (g_rot qs r) M N S n L T z (xu x 7 1) hh M Sp Ot Sv T) (q := (RX7, TX7, 10)) ⟨hx, hcd, hml, hown, hts⟩ (c_X7_thrown l D cI cB cW cL z (xu x 7 1) hh _ M ) (cwV 0 hts gL_law_X7_thrown rfl rfl rfl (by decide +kernel) ⟨Nat.le_of_ble_eq_true rfl, Nat.le_of_ble_eq_true rfl⟩) hK hP hD hS hA [95, 96] wLaw_MoC (by decide) wMo_adr2 wLaw_Mo 95 rfl rfl rfl hl.1 rfl (Nat.le_of_ble_eq_true rfl) dL_law_730 ⟨hc, hs⟩ (fun H locs hP hD hS => ?_)
  refine kr_top (w := 1) rfl ?_
  refine kr_top (w := nI 1) rfl ?_
  refine lv_iload hx hcd dL_law_733 (lv_at hl 1 rfl) ?_
  refine kr_ceq (tgt := 740) hx hcd (by omega) (by omega) dL_law_735 (by decide) (fun (c_735 : 1 = 1) => ?_) (fun (c_735 : ¬ 1 = 1) => absurd c_735 (by omega))
  refine lv_iload hx hcd dL_law_740 (lv_at hl 1 rfl) ?_
  refine kr_zne (tgt := 757) hx hcd (by omega) dL_law_742 (by decide) (fun (c_742 : 0 < 1) => ?_) (fun (c_742 : 1 = 0) => absurd c_742 (by omega))
  refine lv_goto (tgt := 1812) hx hcd dL_law_757 (by decide) ?_
  exact kk F N M S n r L T (xu x 7 1) hh Sp Ot Sv (linv_x hV rfl rfl) H locs ls hP hD hS (lv_sub hl [2, 3, 4, 5, 6] rfl)

set_option maxHeartbeats 4000000 in
set_option maxRecDepth 100000 in
theorem law_seat__ok {pp : Program} {l : Launch} {ee : Env} {ss : State} {mm : MethodId} {below : List Frame} {meth : Method} {cc : Code} {bb Ls : Nat} {xs : Nat → Int32} {D : va_G} {cI cB cW cL : ClassId} (C : LFix pp l ss mm cc bb Ls xs D cI cB cW cL) {o : Nat} {F : Nat → Int64} {ob nw tr : Nat → Nat} {qs : Nat → Nat → Nat} {sc : Nat → Nat} {N : kM} {S : Nat → kM} {n r L : Nat} {T : Nat → Int32} {z : Nat → Nat} {x : Nat → Int32} {hh : Int64} {Sp Ot Sv : Nat → Int32} {M : kM} (hV : LInv M S n r L T Sv x) {i : Nat} (hi : i + 5 ≤ Ls) {a s : Nat} (h1 : xs (i + 1) = nI a) (h2 : xs (i + 2) = nI s) (ha : a < 6) (hs3 : s < 3) {wh : Nat} (h3 : xs (i + 3) = nI wh) (hwh : wh < 3)  {H : Heap} {locs : List Loc} {ls : Array Slot} {cells slots : Nat} {Q : State → Prop} (hc : cells + 1 ≤ 601024) (hs : slots + 6 ≤ 7293034) (hP : va_P D vwCl (wLaw cI cB cW cL o F ob nw tr qs sc (g_rot qs r) M N S n L T z x hh M Sp Ot Sv T) H) (hD : va_D (fun q : Nat => ss.heap.size ≤ q) (wLaw cI cB cW cL o F ob nw tr qs sc (g_rot qs r) M N S n L T z x hh M Sp Ot Sv T)) (hS : va_S (fun q : Nat => ss.heap.size ≤ q) ss.heap H locs) (hl : lv_has ls 9 [(0, .ref bb), (1, .ref (ob 0)), (2, .ref (z 0)), (3, .ref o), (4, .int (nI i))]) (kk : LNext pp l ee ss mm below meth cc bb D cI cB cW cL o ob nw tr qs sc z i cells slots Q) : W pp l ee room_1 ss mm #[Value.ref bb] below meth cc H locs cells slots Q (F0 mm 760 ls []) := by
  obtain ⟨hx, hcd, hml, hown, hts, hX, hbl, hst, hZ, hN, hK, hL9⟩ := C
  obtain ⟨hI, hn, hr, hL, hT, hx4, hx6, hsv⟩ := id hV
  have hA : ∀ q : Nat, ss.heap.size ≤ q → (fun q : Nat => ss.heap.size ≤ q) q := fun _ h => h
  have hbA : ¬ (fun q : Nat => ss.heap.size ≤ q) bb := Nat.not_le.mpr hbl
  refine lv_aload_n hx hcd dL_law_760 rfl (lv_at hl 1 rfl) ?_
  refine lv_aload_n hx hcd dL_law_761 rfl (lv_at hl 0 rfl) ?_
  refine lv_iload hx hcd dL_law_762 (lv_at hl 4 rfl) ?_
  refine lv_iconst (v := nI 1) hx hcd dL_law_764 (by decide) ?_
  refine kr_add hx hcd dL_law_765 ?_
  refine kl_sld hx hcd hX hbl hbA hS (k := i + 1) (by omega) hL9 dL_law_766 ?_
  refine kr_top (w := nI a) h1 ?_
  refine lv_aload_n hx hcd dL_law_767 rfl (lv_at hl 0 rfl) ?_
  refine lv_iload hx hcd dL_law_768 (lv_at hl 4 rfl) ?_
  refine lv_iconst (v := nI 2) hx hcd dL_law_770 (by decide) ?_
  refine kr_add hx hcd dL_law_771 ?_
  refine kl_sld hx hcd hX hbl hbA hS (k := i + 2) (by omega) hL9 dL_law_772 ?_
  refine kr_top (w := nI s) h2 ?_
  refine lv_aload_n hx hcd dL_law_773 rfl (lv_at hl 0 rfl) ?_
  refine lv_iload hx hcd dL_law_774 (lv_at hl 4 rfl) ?_
  refine lv_iconst (v := nI 3) hx hcd dL_law_776 (by decide) ?_
  refine kr_add hx hcd dL_law_777 ?_
  refine kl_sld hx hcd hX hbl hbA hS (k := i + 3) (by omega) hL9 dL_law_778 ?_
  refine kr_top (w := nI wh) h3 ?_
  refine lv_aload_n hx hcd dL_law_779 rfl (lv_at hl 3 rfl) ?_
  refine kl_S (As := [.ref (ob 0), .int (nI a), .int (nI s), .int (nI wh), .ref o]) (rest := []) (ws2 := wLaw cI cB cW cL o (vp_updL F 0 (((M (9 * a + 3 * s + wh)) : Int32).toInt64)) ob nw tr qs sc (g_rot qs r) M N S n L T z x hh M Sp Ot Sv T) ⟨hx, hcd, hml, hown, hts⟩ (c_L_seat__ok l hst D cI cB cW cL o F ob nw tr qs sc (g_rot qs r) N S n L T _ M a s wh ha hs3 hwh) (vx_cwSW 5 hts gL_law_L_seat rfl rfl rfl (by decide +kernel) ⟨Nat.le_of_ble_eq_true rfl, Nat.le_of_ble_eq_true rfl⟩) hZ hN hK hP hD hS hA [0, 1, 2, 3, 4, 5, 6, 7, 8, 9, 10, 11, 12, 13, 14, 15, 16, 17, 18, 19, 20, 21, 22, 23, 24, 25, 26, 27, 28, 29, 30, 31, 32, 33, 34, 35, 36, 37, 38, 39, 40, 41, 42, 43, 44, 45, 46, 47, 48, 49, 50, 51, 52, 53, 54, 55, 56, 57, 58, 59, 60, 61, 62, 63, 64, 65, 66, 67, 68, 69, 70, 71, 72, 73, 74, 75, 76, 77, 78, 79, 80, 81, 82, 83, 84, 85, 86, 87, 88, 89, 90, 91, 92, 93, 94] wLaw_LXC nd_LX wLX_adr wLaw_LX rfl hl.1 rfl (Nat.le_of_ble_eq_true rfl) dL_law_780 ⟨hc, hs⟩ (fun H locs hP hD hS => ?_)
  refine lv_istore (lv' := [(5, .int (nI 0)), (0, .ref bb), (1, .ref (ob 0)), (2, .ref (z 0)), (3, .ref o), (4, .int (nI i))]) hx hcd dL_law_783 hl (by decide) rfl (fun ls hl => ?_)
  refine lv_aload_n hx hcd dL_law_785 rfl (lv_at hl 3 rfl) ?_
  refine lv_aload_n hx hcd dL_law_786 rfl (lv_at hl 1 rfl) ?_
  refine lv_iload hx hcd dL_law_787 (lv_at hl 5 rfl) ?_
  refine lv_iconst (v := nI 1) hx hcd dL_law_789 (by decide) ?_
  refine kr_add hx hcd dL_law_790 ?_
  refine kl_sld hx hcd hX hbl hbA hS (k := i + 1) (by omega) hL9 dL_law_791 ?_
  refine kr_top (w := nI a) h1 ?_
  refine lv_aload_n hx hcd dL_law_792 rfl (lv_at hl 1 rfl) ?_
  refine lv_iload hx hcd dL_law_793 (lv_at hl 5 rfl) ?_
  refine lv_iconst (v := nI 2) hx hcd dL_law_795 (by decide) ?_
  refine kr_add hx hcd dL_law_796 ?_
  refine kl_sld hx hcd hX hbl hbA hS (k := i + 2) (by omega) hL9 dL_law_797 ?_
  refine kr_top (w := nI s) h2 ?_
  refine lv_aload_n hx hcd dL_law_798 rfl (lv_at hl 1 rfl) ?_
  refine lv_iload hx hcd dL_law_799 (lv_at hl 5 rfl) ?_
  refine lv_iconst (v := nI 3) hx hcd dL_law_801 (by decide) ?_
  refine kr_add hx hcd dL_law_802 ?_
  refine kl_sld hx hcd hX hbl hbA hS (k := i + 3) (by omega) hL9 dL_law_803 ?_
  refine kr_top (w := nI wh) h3 ?_
  refine kr_Vi (As := [.int (nI a), .int (nI s), .int (nI wh)]) (rest := []) (ws2 := wLaw cI cB cW cL o (vp_updL F 0 (((M (9 * a + 3 * s + wh)) : Int32).toInt64)) ob nw tr qs sc (g_rot qs r) M N S n L T z (xu x 7 0) hh M Sp Ot Sv T) (q := (RX7, TX7, 10)) ⟨hx, hcd, hml, hown, hts⟩ (c_X7_seat__ok l D cI cB cW cL z x hh _ M a s wh ha hs3 hwh) (cwV 3 hts gL_law_X7_seat rfl rfl rfl (by decide +kernel) ⟨Nat.le_of_ble_eq_true rfl, Nat.le_of_ble_eq_true rfl⟩) hK hP hD hS hA [95, 96] wLaw_MoC (by decide) wMo_adr2 wLaw_Mo 95 rfl rfl rfl hl.1 rfl (Nat.le_of_ble_eq_true rfl) dL_law_804 ⟨hc, hs⟩ (fun H locs hP hD hS => ?_)
  refine lv_istore (lv' := [(6, .int (M (9 * a + 3 * s + wh))), (5, .int (nI 0)), (0, .ref bb), (1, .ref (ob 0)), (2, .ref (z 0)), (3, .ref o), (4, .int (nI i))]) hx hcd dL_law_807 hl (by decide) rfl (fun ls hl => ?_)
  refine lv_aload_n hx hcd dL_law_809 rfl (lv_at hl 4 rfl) ?_
  refine kr_Vi (As := []) (rest := []) (ws2 := wLaw cI cB cW cL o (vp_updL F 0 (((M (9 * a + 3 * s + wh)) : Int32).toInt64)) ob nw tr qs sc (g_rot qs r) M N S n L T z (xu x 7 0) hh M Sp Ot Sv T) (q := (RX7, TX7, 10)) ⟨hx, hcd, hml, hown, hts⟩ (c_X7_thrown l D cI cB cW cL z (xu x 7 0) hh _ M ) (cwV 0 hts gL_law_X7_thrown rfl rfl rfl (by decide +kernel) ⟨Nat.le_of_ble_eq_true rfl, Nat.le_of_ble_eq_true rfl⟩) hK hP hD hS hA [95, 96] wLaw_MoC (by decide) wMo_adr2 wLaw_Mo 95 rfl rfl rfl hl.1 rfl (Nat.le_of_ble_eq_true rfl) dL_law_810 ⟨hc, hs⟩ (fun H locs hP hD hS => ?_)
  refine kr_top (w := 0) rfl ?_
  refine kr_top (w := nI 0) rfl ?_
  refine lv_iload hx hcd dL_law_813 (lv_at hl 1 rfl) ?_
  refine kr_ceq (tgt := 820) hx hcd (by omega) (by omega) dL_law_815 (by decide) (fun (c_815 : 0 = 0) => ?_) (fun (c_815 : ¬ 0 = 0) => absurd c_815 (by omega))
  refine lv_iload hx hcd dL_law_820 (lv_at hl 1 rfl) ?_
  refine kr_zne (tgt := 837) hx hcd (by omega) dL_law_822 (by decide) (fun (c_822 : 0 < 0) => absurd c_822 (by omega)) (fun (c_822 : 0 = 0) => ?_)
  refine lv_aload_n hx hcd dL_law_825 rfl (lv_at hl 5 rfl) ?_
  refine lv_iconst (v := nI 0) hx hcd dL_law_826 (by decide) ?_
  refine kl_lald hx hcd hK hP 0 3 rfl rfl (v := ((M (9 * a + 3 * s + wh)) : Int32).toInt64) (by omega) (by decide) updL_0 dL_law_827 ?_
  refine lv_iload hx hcd dL_law_828 (lv_at hl 0 rfl) ?_
  refine lv_i2l hx hcd dL_law_830 rfl ?_
  refine kl_lcmp hx hcd (rfl) dL_law_831 ?_
  refine kr_zeq (tgt := 837) hx hcd (by omega) dL_law_832 (by decide) (fun (c_832 : 0 = 0) => ?_) (fun (c_832 : 0 < 0) => absurd c_832 (by omega))
  refine lv_goto (tgt := 1812) hx hcd dL_law_837 (by decide) ?_
  exact kk (vp_updL F 0 (((M (9 * a + 3 * s + wh)) : Int32).toInt64)) N M S n r L T (xu x 7 0) hh Sp Ot Sv (linv_x hV rfl rfl) H locs ls hP hD hS (lv_sub hl [2, 3, 4, 5, 6] rfl)

set_option maxHeartbeats 4000000 in
set_option maxRecDepth 100000 in
theorem law_seat__e1 {pp : Program} {l : Launch} {ee : Env} {ss : State} {mm : MethodId} {below : List Frame} {meth : Method} {cc : Code} {bb Ls : Nat} {xs : Nat → Int32} {D : va_G} {cI cB cW cL : ClassId} (C : LFix pp l ss mm cc bb Ls xs D cI cB cW cL) {o : Nat} {F : Nat → Int64} {ob nw tr : Nat → Nat} {qs : Nat → Nat → Nat} {sc : Nat → Nat} {N : kM} {S : Nat → kM} {n r L : Nat} {T : Nat → Int32} {z : Nat → Nat} {x : Nat → Int32} {hh : Int64} {Sp Ot Sv : Nat → Int32} {M : kM} (hV : LInv M S n r L T Sv x) {i : Nat} (hi : i + 5 ≤ Ls)  (hg : g_seatok (xs (i + 1)) (xs (i + 2)) = false) {H : Heap} {locs : List Loc} {ls : Array Slot} {cells slots : Nat} {Q : State → Prop} (hc : cells + 1 ≤ 601024) (hs : slots + 6 ≤ 7293034) (hP : va_P D vwCl (wLaw cI cB cW cL o F ob nw tr qs sc (g_rot qs r) M N S n L T z x hh M Sp Ot Sv T) H) (hD : va_D (fun q : Nat => ss.heap.size ≤ q) (wLaw cI cB cW cL o F ob nw tr qs sc (g_rot qs r) M N S n L T z x hh M Sp Ot Sv T)) (hS : va_S (fun q : Nat => ss.heap.size ≤ q) ss.heap H locs) (hl : lv_has ls 9 [(0, .ref bb), (1, .ref (ob 0)), (2, .ref (z 0)), (3, .ref o), (4, .int (nI i))]) (kk : LNext pp l ee ss mm below meth cc bb D cI cB cW cL o ob nw tr qs sc z i cells slots Q) : W pp l ee room_1 ss mm #[Value.ref bb] below meth cc H locs cells slots Q (F0 mm 760 ls []) := by
  obtain ⟨hx, hcd, hml, hown, hts, hX, hbl, hst, hZ, hN, hK, hL9⟩ := C
  obtain ⟨hI, hn, hr, hL, hT, hx4, hx6, hsv⟩ := id hV
  have hA : ∀ q : Nat, ss.heap.size ≤ q → (fun q : Nat => ss.heap.size ≤ q) q := fun _ h => h
  have hbA : ¬ (fun q : Nat => ss.heap.size ≤ q) bb := Nat.not_le.mpr hbl
  refine lv_aload_n hx hcd dL_law_760 rfl (lv_at hl 1 rfl) ?_
  refine lv_aload_n hx hcd dL_law_761 rfl (lv_at hl 0 rfl) ?_
  refine lv_iload hx hcd dL_law_762 (lv_at hl 4 rfl) ?_
  refine lv_iconst (v := nI 1) hx hcd dL_law_764 (by decide) ?_
  refine kr_add hx hcd dL_law_765 ?_
  refine kl_sld hx hcd hX hbl hbA hS (k := i + 1) (by omega) hL9 dL_law_766 ?_
  refine lv_aload_n hx hcd dL_law_767 rfl (lv_at hl 0 rfl) ?_
  refine lv_iload hx hcd dL_law_768 (lv_at hl 4 rfl) ?_
  refine lv_iconst (v := nI 2) hx hcd dL_law_770 (by decide) ?_
  refine kr_add hx hcd dL_law_771 ?_
  refine kl_sld hx hcd hX hbl hbA hS (k := i + 2) (by omega) hL9 dL_law_772 ?_
  refine lv_aload_n hx hcd dL_law_773 rfl (lv_at hl 0 rfl) ?_
  refine lv_iload hx hcd dL_law_774 (lv_at hl 4 rfl) ?_
  refine lv_iconst (v := nI 3) hx hcd dL_law_776 (by decide) ?_
  refine kr_add hx hcd dL_law_777 ?_
  refine kl_sld hx hcd hX hbl hbA hS (k := i + 3) (by omega) hL9 dL_law_778 ?_
  refine lv_aload_n hx hcd dL_law_779 rfl (lv_at hl 3 rfl) ?_
  refine kl_S (As := [.ref (ob 0), .int (xs (i + 1)), .int (xs (i + 2)), .int (xs (i + 3)), .ref o]) (rest := []) (ws2 := wLaw cI cB cW cL o F ob nw tr qs sc (g_rot qs r) M N S n L T z x hh M Sp Ot Sv T) ⟨hx, hcd, hml, hown, hts⟩ (c_L_seat__e1 l hst D cI cB cW cL o F ob nw tr qs sc (g_rot qs r) N S n L T _ M (xs (i + 1)) (xs (i + 2)) (xs (i + 3)) hg) (vx_cwSW 5 hts gL_law_L_seat rfl rfl rfl (by decide +kernel) ⟨Nat.le_of_ble_eq_true rfl, Nat.le_of_ble_eq_true rfl⟩) hZ hN hK hP hD hS hA [0, 1, 2, 3, 4, 5, 6, 7, 8, 9, 10, 11, 12, 13, 14, 15, 16, 17, 18, 19, 20, 21, 22, 23, 24, 25, 26, 27, 28, 29, 30, 31, 32, 33, 34, 35, 36, 37, 38, 39, 40, 41, 42, 43, 44, 45, 46, 47, 48, 49, 50, 51, 52, 53, 54, 55, 56, 57, 58, 59, 60, 61, 62, 63, 64, 65, 66, 67, 68, 69, 70, 71, 72, 73, 74, 75, 76, 77, 78, 79, 80, 81, 82, 83, 84, 85, 86, 87, 88, 89, 90, 91, 92, 93, 94] wLaw_LXC nd_LX wLX_adr wLaw_LX rfl hl.1 rfl (Nat.le_of_ble_eq_true rfl) dL_law_780 ⟨hc, hs⟩ (fun H locs hP hD hS => ?_)
  refine lv_istore (lv' := [(5, .int (nI 1)), (0, .ref bb), (1, .ref (ob 0)), (2, .ref (z 0)), (3, .ref o), (4, .int (nI i))]) hx hcd dL_law_783 hl (by decide) rfl (fun ls hl => ?_)
  refine lv_aload_n hx hcd dL_law_785 rfl (lv_at hl 3 rfl) ?_
  refine lv_aload_n hx hcd dL_law_786 rfl (lv_at hl 1 rfl) ?_
  refine lv_iload hx hcd dL_law_787 (lv_at hl 5 rfl) ?_
  refine lv_iconst (v := nI 1) hx hcd dL_law_789 (by decide) ?_
  refine kr_add hx hcd dL_law_790 ?_
  refine kl_sld hx hcd hX hbl hbA hS (k := i + 1) (by omega) hL9 dL_law_791 ?_
  refine lv_aload_n hx hcd dL_law_792 rfl (lv_at hl 1 rfl) ?_
  refine lv_iload hx hcd dL_law_793 (lv_at hl 5 rfl) ?_
  refine lv_iconst (v := nI 2) hx hcd dL_law_795 (by decide) ?_
  refine kr_add hx hcd dL_law_796 ?_
  refine kl_sld hx hcd hX hbl hbA hS (k := i + 2) (by omega) hL9 dL_law_797 ?_
  refine lv_aload_n hx hcd dL_law_798 rfl (lv_at hl 1 rfl) ?_
  refine lv_iload hx hcd dL_law_799 (lv_at hl 5 rfl) ?_
  refine lv_iconst (v := nI 3) hx hcd dL_law_801 (by decide) ?_
  refine kr_add hx hcd dL_law_802 ?_
  refine kl_sld hx hcd hX hbl hbA hS (k := i + 3) (by omega) hL9 dL_law_803 ?_
  refine kr_Vi (As := [.int (xs (i + 1)), .int (xs (i + 2)), .int (xs (i + 3))]) (rest := []) (ws2 := wLaw cI cB cW cL o F ob nw tr qs sc (g_rot qs r) M N S n L T z (xu x 7 1) hh M Sp Ot Sv T) (q := (RX7, TX7, 10)) ⟨hx, hcd, hml, hown, hts⟩ (c_X7_seat__b1 l D cI cB cW cL z x hh _ M (xs (i + 1)) (xs (i + 2)) (xs (i + 3)) hg) (cwV 3 hts gL_law_X7_seat rfl rfl rfl (by decide +kernel) ⟨Nat.le_of_ble_eq_true rfl, Nat.le_of_ble_eq_true rfl⟩) hK hP hD hS hA [95, 96] wLaw_MoC (by decide) wMo_adr2 wLaw_Mo 95 rfl rfl rfl hl.1 rfl (Nat.le_of_ble_eq_true rfl) dL_law_804 ⟨hc, hs⟩ (fun H locs hP hD hS => ?_)
  refine lv_istore (lv' := [(6, .int (nI 0)), (5, .int (nI 1)), (0, .ref bb), (1, .ref (ob 0)), (2, .ref (z 0)), (3, .ref o), (4, .int (nI i))]) hx hcd dL_law_807 hl (by decide) rfl (fun ls hl => ?_)
  refine lv_aload_n hx hcd dL_law_809 rfl (lv_at hl 4 rfl) ?_
  refine kr_Vi (As := []) (rest := []) (ws2 := wLaw cI cB cW cL o F ob nw tr qs sc (g_rot qs r) M N S n L T z (xu x 7 1) hh M Sp Ot Sv T) (q := (RX7, TX7, 10)) ⟨hx, hcd, hml, hown, hts⟩ (c_X7_thrown l D cI cB cW cL z (xu x 7 1) hh _ M ) (cwV 0 hts gL_law_X7_thrown rfl rfl rfl (by decide +kernel) ⟨Nat.le_of_ble_eq_true rfl, Nat.le_of_ble_eq_true rfl⟩) hK hP hD hS hA [95, 96] wLaw_MoC (by decide) wMo_adr2 wLaw_Mo 95 rfl rfl rfl hl.1 rfl (Nat.le_of_ble_eq_true rfl) dL_law_810 ⟨hc, hs⟩ (fun H locs hP hD hS => ?_)
  refine kr_top (w := 1) rfl ?_
  refine kr_top (w := nI 1) rfl ?_
  refine lv_iload hx hcd dL_law_813 (lv_at hl 1 rfl) ?_
  refine kr_ceq (tgt := 820) hx hcd (by omega) (by omega) dL_law_815 (by decide) (fun (c_815 : 1 = 1) => ?_) (fun (c_815 : ¬ 1 = 1) => absurd c_815 (by omega))
  refine lv_iload hx hcd dL_law_820 (lv_at hl 1 rfl) ?_
  refine kr_zne (tgt := 837) hx hcd (by omega) dL_law_822 (by decide) (fun (c_822 : 0 < 1) => ?_) (fun (c_822 : 1 = 0) => absurd c_822 (by omega))
  refine lv_goto (tgt := 1812) hx hcd dL_law_837 (by decide) ?_
  exact kk F N M S n r L T (xu x 7 1) hh Sp Ot Sv (linv_x hV rfl rfl) H locs ls hP hD hS (lv_sub hl [2, 3, 4, 5, 6] rfl)

set_option maxHeartbeats 4000000 in
set_option maxRecDepth 100000 in
theorem law_seat__e2 {pp : Program} {l : Launch} {ee : Env} {ss : State} {mm : MethodId} {below : List Frame} {meth : Method} {cc : Code} {bb Ls : Nat} {xs : Nat → Int32} {D : va_G} {cI cB cW cL : ClassId} (C : LFix pp l ss mm cc bb Ls xs D cI cB cW cL) {o : Nat} {F : Nat → Int64} {ob nw tr : Nat → Nat} {qs : Nat → Nat → Nat} {sc : Nat → Nat} {N : kM} {S : Nat → kM} {n r L : Nat} {T : Nat → Int32} {z : Nat → Nat} {x : Nat → Int32} {hh : Int64} {Sp Ot Sv : Nat → Int32} {M : kM} (hV : LInv M S n r L T Sv x) {i : Nat} (hi : i + 5 ≤ Ls) {a s : Nat} (h1 : xs (i + 1) = nI a) (h2 : xs (i + 2) = nI s) (ha : a < 6) (hs3 : s < 3) (hg : g_in (xs (i + 3)) 0 2 = false) {H : Heap} {locs : List Loc} {ls : Array Slot} {cells slots : Nat} {Q : State → Prop} (hc : cells + 1 ≤ 601024) (hs : slots + 6 ≤ 7293034) (hP : va_P D vwCl (wLaw cI cB cW cL o F ob nw tr qs sc (g_rot qs r) M N S n L T z x hh M Sp Ot Sv T) H) (hD : va_D (fun q : Nat => ss.heap.size ≤ q) (wLaw cI cB cW cL o F ob nw tr qs sc (g_rot qs r) M N S n L T z x hh M Sp Ot Sv T)) (hS : va_S (fun q : Nat => ss.heap.size ≤ q) ss.heap H locs) (hl : lv_has ls 9 [(0, .ref bb), (1, .ref (ob 0)), (2, .ref (z 0)), (3, .ref o), (4, .int (nI i))]) (kk : LNext pp l ee ss mm below meth cc bb D cI cB cW cL o ob nw tr qs sc z i cells slots Q) : W pp l ee room_1 ss mm #[Value.ref bb] below meth cc H locs cells slots Q (F0 mm 760 ls []) := by
  obtain ⟨hx, hcd, hml, hown, hts, hX, hbl, hst, hZ, hN, hK, hL9⟩ := C
  obtain ⟨hI, hn, hr, hL, hT, hx4, hx6, hsv⟩ := id hV
  have hA : ∀ q : Nat, ss.heap.size ≤ q → (fun q : Nat => ss.heap.size ≤ q) q := fun _ h => h
  have hbA : ¬ (fun q : Nat => ss.heap.size ≤ q) bb := Nat.not_le.mpr hbl
  refine lv_aload_n hx hcd dL_law_760 rfl (lv_at hl 1 rfl) ?_
  refine lv_aload_n hx hcd dL_law_761 rfl (lv_at hl 0 rfl) ?_
  refine lv_iload hx hcd dL_law_762 (lv_at hl 4 rfl) ?_
  refine lv_iconst (v := nI 1) hx hcd dL_law_764 (by decide) ?_
  refine kr_add hx hcd dL_law_765 ?_
  refine kl_sld hx hcd hX hbl hbA hS (k := i + 1) (by omega) hL9 dL_law_766 ?_
  refine kr_top (w := nI a) h1 ?_
  refine lv_aload_n hx hcd dL_law_767 rfl (lv_at hl 0 rfl) ?_
  refine lv_iload hx hcd dL_law_768 (lv_at hl 4 rfl) ?_
  refine lv_iconst (v := nI 2) hx hcd dL_law_770 (by decide) ?_
  refine kr_add hx hcd dL_law_771 ?_
  refine kl_sld hx hcd hX hbl hbA hS (k := i + 2) (by omega) hL9 dL_law_772 ?_
  refine kr_top (w := nI s) h2 ?_
  refine lv_aload_n hx hcd dL_law_773 rfl (lv_at hl 0 rfl) ?_
  refine lv_iload hx hcd dL_law_774 (lv_at hl 4 rfl) ?_
  refine lv_iconst (v := nI 3) hx hcd dL_law_776 (by decide) ?_
  refine kr_add hx hcd dL_law_777 ?_
  refine kl_sld hx hcd hX hbl hbA hS (k := i + 3) (by omega) hL9 dL_law_778 ?_
  refine lv_aload_n hx hcd dL_law_779 rfl (lv_at hl 3 rfl) ?_
  refine kl_S (As := [.ref (ob 0), .int (nI a), .int (nI s), .int (xs (i + 3)), .ref o]) (rest := []) (ws2 := wLaw cI cB cW cL o F ob nw tr qs sc (g_rot qs r) M N S n L T z x hh M Sp Ot Sv T) ⟨hx, hcd, hml, hown, hts⟩ (c_L_seat__e2 l hst D cI cB cW cL o F ob nw tr qs sc (g_rot qs r) N S n L T _ M a s (xs (i + 3)) ha hs3 hg) (vx_cwSW 5 hts gL_law_L_seat rfl rfl rfl (by decide +kernel) ⟨Nat.le_of_ble_eq_true rfl, Nat.le_of_ble_eq_true rfl⟩) hZ hN hK hP hD hS hA [0, 1, 2, 3, 4, 5, 6, 7, 8, 9, 10, 11, 12, 13, 14, 15, 16, 17, 18, 19, 20, 21, 22, 23, 24, 25, 26, 27, 28, 29, 30, 31, 32, 33, 34, 35, 36, 37, 38, 39, 40, 41, 42, 43, 44, 45, 46, 47, 48, 49, 50, 51, 52, 53, 54, 55, 56, 57, 58, 59, 60, 61, 62, 63, 64, 65, 66, 67, 68, 69, 70, 71, 72, 73, 74, 75, 76, 77, 78, 79, 80, 81, 82, 83, 84, 85, 86, 87, 88, 89, 90, 91, 92, 93, 94] wLaw_LXC nd_LX wLX_adr wLaw_LX rfl hl.1 rfl (Nat.le_of_ble_eq_true rfl) dL_law_780 ⟨hc, hs⟩ (fun H locs hP hD hS => ?_)
  refine lv_istore (lv' := [(5, .int (nI 2)), (0, .ref bb), (1, .ref (ob 0)), (2, .ref (z 0)), (3, .ref o), (4, .int (nI i))]) hx hcd dL_law_783 hl (by decide) rfl (fun ls hl => ?_)
  refine lv_aload_n hx hcd dL_law_785 rfl (lv_at hl 3 rfl) ?_
  refine lv_aload_n hx hcd dL_law_786 rfl (lv_at hl 1 rfl) ?_
  refine lv_iload hx hcd dL_law_787 (lv_at hl 5 rfl) ?_
  refine lv_iconst (v := nI 1) hx hcd dL_law_789 (by decide) ?_
  refine kr_add hx hcd dL_law_790 ?_
  refine kl_sld hx hcd hX hbl hbA hS (k := i + 1) (by omega) hL9 dL_law_791 ?_
  refine kr_top (w := nI a) h1 ?_
  refine lv_aload_n hx hcd dL_law_792 rfl (lv_at hl 1 rfl) ?_
  refine lv_iload hx hcd dL_law_793 (lv_at hl 5 rfl) ?_
  refine lv_iconst (v := nI 2) hx hcd dL_law_795 (by decide) ?_
  refine kr_add hx hcd dL_law_796 ?_
  refine kl_sld hx hcd hX hbl hbA hS (k := i + 2) (by omega) hL9 dL_law_797 ?_
  refine kr_top (w := nI s) h2 ?_
  refine lv_aload_n hx hcd dL_law_798 rfl (lv_at hl 1 rfl) ?_
  refine lv_iload hx hcd dL_law_799 (lv_at hl 5 rfl) ?_
  refine lv_iconst (v := nI 3) hx hcd dL_law_801 (by decide) ?_
  refine kr_add hx hcd dL_law_802 ?_
  refine kl_sld hx hcd hX hbl hbA hS (k := i + 3) (by omega) hL9 dL_law_803 ?_
  refine kr_Vi (As := [.int (nI a), .int (nI s), .int (xs (i + 3))]) (rest := []) (ws2 := wLaw cI cB cW cL o F ob nw tr qs sc (g_rot qs r) M N S n L T z (xu x 7 2) hh M Sp Ot Sv T) (q := (RX7, TX7, 10)) ⟨hx, hcd, hml, hown, hts⟩ (c_X7_seat__b2 l D cI cB cW cL z x hh _ M (nI a) (nI s) (xs (i + 3)) (seat_ok ha hs3) hg) (cwV 3 hts gL_law_X7_seat rfl rfl rfl (by decide +kernel) ⟨Nat.le_of_ble_eq_true rfl, Nat.le_of_ble_eq_true rfl⟩) hK hP hD hS hA [95, 96] wLaw_MoC (by decide) wMo_adr2 wLaw_Mo 95 rfl rfl rfl hl.1 rfl (Nat.le_of_ble_eq_true rfl) dL_law_804 ⟨hc, hs⟩ (fun H locs hP hD hS => ?_)
  refine lv_istore (lv' := [(6, .int (nI 0)), (5, .int (nI 2)), (0, .ref bb), (1, .ref (ob 0)), (2, .ref (z 0)), (3, .ref o), (4, .int (nI i))]) hx hcd dL_law_807 hl (by decide) rfl (fun ls hl => ?_)
  refine lv_aload_n hx hcd dL_law_809 rfl (lv_at hl 4 rfl) ?_
  refine kr_Vi (As := []) (rest := []) (ws2 := wLaw cI cB cW cL o F ob nw tr qs sc (g_rot qs r) M N S n L T z (xu x 7 2) hh M Sp Ot Sv T) (q := (RX7, TX7, 10)) ⟨hx, hcd, hml, hown, hts⟩ (c_X7_thrown l D cI cB cW cL z (xu x 7 2) hh _ M ) (cwV 0 hts gL_law_X7_thrown rfl rfl rfl (by decide +kernel) ⟨Nat.le_of_ble_eq_true rfl, Nat.le_of_ble_eq_true rfl⟩) hK hP hD hS hA [95, 96] wLaw_MoC (by decide) wMo_adr2 wLaw_Mo 95 rfl rfl rfl hl.1 rfl (Nat.le_of_ble_eq_true rfl) dL_law_810 ⟨hc, hs⟩ (fun H locs hP hD hS => ?_)
  refine kr_top (w := 2) rfl ?_
  refine kr_top (w := nI 2) rfl ?_
  refine lv_iload hx hcd dL_law_813 (lv_at hl 1 rfl) ?_
  refine kr_ceq (tgt := 820) hx hcd (by omega) (by omega) dL_law_815 (by decide) (fun (c_815 : 2 = 2) => ?_) (fun (c_815 : ¬ 2 = 2) => absurd c_815 (by omega))
  refine lv_iload hx hcd dL_law_820 (lv_at hl 1 rfl) ?_
  refine kr_zne (tgt := 837) hx hcd (by omega) dL_law_822 (by decide) (fun (c_822 : 0 < 2) => ?_) (fun (c_822 : 2 = 0) => absurd c_822 (by omega))
  refine lv_goto (tgt := 1812) hx hcd dL_law_837 (by decide) ?_
  exact kk F N M S n r L T (xu x 7 2) hh Sp Ot Sv (linv_x hV rfl rfl) H locs ls hP hD hS (lv_sub hl [2, 3, 4, 5, 6] rfl)

set_option maxHeartbeats 4000000 in
set_option maxRecDepth 100000 in
theorem law_deliver__ok {pp : Program} {l : Launch} {ee : Env} {ss : State} {mm : MethodId} {below : List Frame} {meth : Method} {cc : Code} {bb Ls : Nat} {xs : Nat → Int32} {D : va_G} {cI cB cW cL : ClassId} (C : LFix pp l ss mm cc bb Ls xs D cI cB cW cL) {o : Nat} {F : Nat → Int64} {ob nw tr : Nat → Nat} {qs : Nat → Nat → Nat} {sc : Nat → Nat} {N : kM} {S : Nat → kM} {n r L : Nat} {T : Nat → Int32} {z : Nat → Nat} {x : Nat → Int32} {hh : Int64} {Sp Ot Sv : Nat → Int32} {M : kM} (hV : LInv M S n r L T Sv x) {i : Nat} (hi : i + 5 ≤ Ls) {ct : Nat} (h1 : xs (i + 1) = nI ct) (hct : ct ≤ 1000)  {H : Heap} {locs : List Loc} {ls : Array Slot} {cells slots : Nat} {Q : State → Prop} (hc : cells + 1 ≤ 601024) (hs : slots + 6 ≤ 7293034) (hP : va_P D vwCl (wLaw cI cB cW cL o F ob nw tr qs sc (g_rot qs r) M N S n L T z x hh M Sp Ot Sv T) H) (hD : va_D (fun q : Nat => ss.heap.size ≤ q) (wLaw cI cB cW cL o F ob nw tr qs sc (g_rot qs r) M N S n L T z x hh M Sp Ot Sv T)) (hS : va_S (fun q : Nat => ss.heap.size ≤ q) ss.heap H locs) (hl : lv_has ls 9 [(0, .ref bb), (1, .ref (ob 0)), (2, .ref (z 0)), (3, .ref o), (4, .int (nI i))]) (kk : LNext pp l ee ss mm below meth cc bb D cI cB cW cL o ob nw tr qs sc z i cells slots Q) : W pp l ee room_1 ss mm #[Value.ref bb] below meth cc H locs cells slots Q (F0 mm 840 ls []) := by
  obtain ⟨hx, hcd, hml, hown, hts, hX, hbl, hst, hZ, hN, hK, hL9⟩ := C
  obtain ⟨hI, hn, hr, hL, hT, hx4, hx6, hsv⟩ := id hV
  have hA : ∀ q : Nat, ss.heap.size ≤ q → (fun q : Nat => ss.heap.size ≤ q) q := fun _ h => h
  have hbA : ¬ (fun q : Nat => ss.heap.size ≤ q) bb := Nat.not_le.mpr hbl
  refine lv_aload_n hx hcd dL_law_840 rfl (lv_at hl 1 rfl) ?_
  refine lv_aload_n hx hcd dL_law_841 rfl (lv_at hl 0 rfl) ?_
  refine lv_iload hx hcd dL_law_842 (lv_at hl 4 rfl) ?_
  refine lv_iconst (v := nI 1) hx hcd dL_law_844 (by decide) ?_
  refine kr_add hx hcd dL_law_845 ?_
  refine kl_sld hx hcd hX hbl hbA hS (k := i + 1) (by omega) hL9 dL_law_846 ?_
  refine kr_top (w := nI ct) h1 ?_
  refine lv_aload_n hx hcd dL_law_847 rfl (lv_at hl 3 rfl) ?_
  refine kl_S (As := [.ref (ob 0), .int (nI ct), .ref o]) (rest := []) (ws2 := wLaw cI cB cW cL o (vp_updL F 0 ((nI (g_delC ct M) : Int32).toInt64)) ob nw tr qs sc (g_rot qs (rj n r)) (g_del ct M) N (sset S (pj n r) M) (g_kn n) L T z x hh M Sp Ot Sv T) ⟨hx, hcd, hml, hown, hts⟩ (c_L_deliver__ok l hst D cI cB cW cL o F ob nw tr qs sc (g_rot qs r) N S n L T _ M ct r hI hct hn hr) (vx_cwSW 3 hts gL_law_L_deliver rfl rfl rfl (by decide +kernel) ⟨Nat.le_of_ble_eq_true rfl, Nat.le_of_ble_eq_true rfl⟩) hZ hN hK hP hD hS hA [0, 1, 2, 3, 4, 5, 6, 7, 8, 9, 10, 11, 12, 13, 14, 15, 16, 17, 18, 19, 20, 21, 22, 23, 24, 25, 26, 27, 28, 29, 30, 31, 32, 33, 34, 35, 36, 37, 38, 39, 40, 41, 42, 43, 44, 45, 46, 47, 48, 49, 50, 51, 52, 53, 54, 55, 56, 57, 58, 59, 60, 61, 62, 63, 64, 65, 66, 67, 68, 69, 70, 71, 72, 73, 74, 75, 76, 77, 78, 79, 80, 81, 82, 83, 84, 85, 86, 87, 88, 89, 90, 91, 92, 93, 94] wLaw_LXC nd_LX wLX_adr wLaw_LX rfl hl.1 rfl (Nat.le_of_ble_eq_true rfl) dL_law_848 ⟨hc, hs⟩ (fun H locs hP hD hS => ?_)
  refine lv_istore (lv' := [(5, .int (nI 0)), (0, .ref bb), (1, .ref (ob 0)), (2, .ref (z 0)), (3, .ref o), (4, .int (nI i))]) hx hcd dL_law_851 hl (by decide) rfl (fun ls hl => ?_)
  refine lv_aload_n hx hcd dL_law_853 rfl (lv_at hl 3 rfl) ?_
  refine lv_aload_n hx hcd dL_law_854 rfl (lv_at hl 1 rfl) ?_
  refine lv_iload hx hcd dL_law_855 (lv_at hl 5 rfl) ?_
  refine lv_iconst (v := nI 1) hx hcd dL_law_857 (by decide) ?_
  refine kr_add hx hcd dL_law_858 ?_
  refine kl_sld hx hcd hX hbl hbA hS (k := i + 1) (by omega) hL9 dL_law_859 ?_
  refine kr_top (w := nI ct) h1 ?_
  refine kr_Vi (As := [.int (nI ct)]) (rest := []) (ws2 := wLaw cI cB cW cL o (vp_updL F 0 ((nI (g_delC ct M) : Int32).toInt64)) ob nw tr qs sc (g_rot qs (rj n r)) (g_del ct M) N (sset S (pj n r) M) (g_kn n) L T z (xu (xu x 7 0) 4 (nI (g_kn n))) hh (g_del ct M) Sp Ot (g_keep Sv M n) T) (q := (RX7, TX7, 10)) ⟨hx, hcd, hml, hown, hts⟩ (c_X7_deliver__ok l D cI cB cW cL z x hh Sp Ot Sv T _ M ct n hI hct hx4 hn) (cwV 1 hts gL_law_X7_deliver rfl rfl rfl (by decide +kernel) ⟨Nat.le_of_ble_eq_true rfl, Nat.le_of_ble_eq_true rfl⟩) hK hP hD hS hA [95, 96, 97, 98, 99, 100] wLaw_MAC (by decide) wMA_adr wLaw_MA 95 rfl rfl rfl hl.1 rfl (Nat.le_of_ble_eq_true rfl) dL_law_860 ⟨hc, hs⟩ (fun H locs hP hD hS => ?_)
  refine lv_istore (lv' := [(6, .int (nI (g_delC ct M))), (5, .int (nI 0)), (0, .ref bb), (1, .ref (ob 0)), (2, .ref (z 0)), (3, .ref o), (4, .int (nI i))]) hx hcd dL_law_863 hl (by decide) rfl (fun ls hl => ?_)
  refine lv_aload_n hx hcd dL_law_865 rfl (lv_at hl 4 rfl) ?_
  refine kr_Vi (As := []) (rest := []) (ws2 := wLaw cI cB cW cL o (vp_updL F 0 ((nI (g_delC ct M) : Int32).toInt64)) ob nw tr qs sc (g_rot qs (rj n r)) (g_del ct M) N (sset S (pj n r) M) (g_kn n) L T z (xu (xu x 7 0) 4 (nI (g_kn n))) hh (g_del ct M) Sp Ot (g_keep Sv M n) T) (q := (RX7, TX7, 10)) ⟨hx, hcd, hml, hown, hts⟩ (c_X7_thrown l D cI cB cW cL z (xu (xu x 7 0) 4 (nI (g_kn n))) hh _ (g_del ct M) ) (cwV 0 hts gL_law_X7_thrown rfl rfl rfl (by decide +kernel) ⟨Nat.le_of_ble_eq_true rfl, Nat.le_of_ble_eq_true rfl⟩) hK hP hD hS hA [95, 96] wLaw_MoC (by decide) wMo_adr2 wLaw_Mo 95 rfl rfl rfl hl.1 rfl (Nat.le_of_ble_eq_true rfl) dL_law_866 ⟨hc, hs⟩ (fun H locs hP hD hS => ?_)
  refine kr_top (w := 0) rfl ?_
  refine kr_top (w := nI 0) rfl ?_
  refine lv_iload hx hcd dL_law_869 (lv_at hl 1 rfl) ?_
  refine kr_ceq (tgt := 876) hx hcd (by omega) (by omega) dL_law_871 (by decide) (fun (c_871 : 0 = 0) => ?_) (fun (c_871 : ¬ 0 = 0) => absurd c_871 (by omega))
  refine lv_iload hx hcd dL_law_876 (lv_at hl 1 rfl) ?_
  refine kr_zne (tgt := 893) hx hcd (by omega) dL_law_878 (by decide) (fun (c_878 : 0 < 0) => absurd c_878 (by omega)) (fun (c_878 : 0 = 0) => ?_)
  refine lv_aload_n hx hcd dL_law_881 rfl (lv_at hl 5 rfl) ?_
  refine lv_iconst (v := nI 0) hx hcd dL_law_882 (by decide) ?_
  refine kl_lald hx hcd hK hP 0 3 rfl rfl (v := (nI (g_delC ct M) : Int32).toInt64) (by omega) (by decide) updL_0 dL_law_883 ?_
  refine lv_iload hx hcd dL_law_884 (lv_at hl 0 rfl) ?_
  refine lv_i2l hx hcd dL_law_886 rfl ?_
  refine kl_lcmp hx hcd (rfl) dL_law_887 ?_
  refine kr_zeq (tgt := 893) hx hcd (by omega) dL_law_888 (by decide) (fun (c_888 : 0 = 0) => ?_) (fun (c_888 : 0 < 0) => absurd c_888 (by omega))
  refine lv_goto (tgt := 1812) hx hcd dL_law_893 (by decide) ?_
  exact kk (vp_updL F 0 ((nI (g_delC ct M) : Int32).toInt64)) N (g_del ct M) (sset S (pj n r) M) (g_kn n) (rj n r) L T (xu (xu x 7 0) 4 (nI (g_kn n))) hh Sp Ot (g_keep Sv M n) (linv_keep hV (i_del _ hI) rfl rfl) H locs ls hP hD hS (lv_sub hl [2, 3, 4, 5, 6] rfl)
