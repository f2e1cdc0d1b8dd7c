section VD
variable {p : Program} {l : Launch} {e : Env} {R : Room} {s : State} {m : MethodId} {args : Array Value} {below : List Frame} {meth : Method} {c : Code} {cc : ByteArray} {H H0 : Heap} {locs : List Loc} {cells slots : Nat} {Q : State → Prop} {pc : Nat} {ls : Array Slot} {rest st0 : List Value} {D : va_G} {cl : List vw_C} {tys : List (ClassId × FieldType)} {ws : va_W} {A : Nat → Prop}
theorem kr_Vd {cc : ByteArray} {nL : Nat} {Ts : List Cond} {own : String} {index n : Nat} {y : MethodName} {bytes : ByteArray} {maxL : Nat} {ret : Option FieldType} {wsC : List Cond} {rm : Room} {wc w1 ws2 : va_W} {r0 : UInt64} {b : Nat} {As : List Value} {fs : List Value} {ci : Nat} {q : vw_C} (S : CallFix p m c cc nL s args Ts own) (hM : kMd l y wsC rm D cl tys H.size (.ref b :: As) wc w1 r0) (cw : CallW R s args own q.1 index y bytes maxL ret wsC rm 0 0 n)
    (hK : va_K D cl tys s) (hP : va_P D cl ws H) (hD : va_D A ws) (hS : va_S A H0 H locs) (hA : ∀ q, H0.size ≤ q → A q) (is : List Nat) (hC : is.map (fun i => ws[i]?) = wc.map some) (hnd : va_nd is = true) (ha : w1.map (·.1) = wc.map (·.1)) (hw : kset ws is w1 = ws2) (q0 : Nat) (he : ws[q0]? = some (b, .inr (ci, fs))) (hc : cl[ci]? = some q)
    (hn : As.length = n) (hsize : ls.size = nL) (hst : st0 = As.reverse ++ .ref b :: rest) (hW : (rest.map fun v => v.category).sum ≤ 8) (hdg : decode cc pc = .ok (.invokevirtual index, 3)) (hf : cells ≤ R.cells ∧ slots ≤ R.slots)
    (kk : ∀ (H1 : Heap) (locs1 : List Loc), va_P D cl ws2 H1 → va_D A ws2 → va_S A H0 H1 locs1 → W p l e R s m args below meth c H1 locs1 cells slots Q (F0 m (pc + 3) ls (.double r0 :: rest))) : W p l e R s m args below meth c H locs cells slots Q (F0 m pc ls st0) := by
  have hPc := kcut (A := A) hP is hC
  have hDc := hD.sub is hnd hC
  have hFc := va_free (wc := wc) hD hS hA is hC
  refine va_calld (va_runV (As := As) (rest := rest) (b := b) S hM cw ⟨kblind, va_recv hK hP hc he, fun U hU hW => ⟨rfl, by rw [hU], by rw [hU]; exact hPc, va_K.moved hW.alike hK, hDc.weaken (fun _ _ _ _ => trivial)⟩⟩ rfl hn hsize hst (lv_room hW) hdg hf) hS (fun q _ h => hFc q h) hFc (fun r u t H1 locs1 ht hvm hr hB hz1 hk1 hS1 => ?_)
  subst hr
  obtain ⟨h1, h2⟩ := kr_join (l0 := l) hP hD is hC hnd ha hw ht hk1 hB
  exact kk H1 locs1 h1 h2 hS1
end VD
set_option maxHeartbeats 4000000 in
set_option maxRecDepth 100000 in
theorem law_view__e1c {pp : Program} {l : Launch} {ee : Env} {ss : State} {mm : MethodId} {below : List Frame} {meth : Method} {cc : Code} {bb Ls : Nat} {xs : Nat → Int32} {D : va_G} {cI cB cW cL : ClassId} (C : LFix pp l ss mm cc bb Ls xs D cI cB cW cL) {o : Nat} {F : Nat → Int64} {ob nw tr : Nat → Nat} {qs : Nat → Nat → Nat} {sc : Nat → Nat} {N : kM} {S : Nat → kM} {n r L : Nat} {T : Nat → Int32} {z : Nat → Nat} {x : Nat → Int32} {hh : Int64} {Sp Ot Sv : Nat → Int32} {M : kM} (hV : LInv M S n r L T Sv x) {i : Nat} (hi : i + 5 ≤ Ls) {a s : Nat} (h1 : xs (i + 1) = nI a) (h3 : xs (i + 3) = nI s) (ha : a < 6) (hs3 : s < 3) (hg : g_usr (xs (i + 2)) = false) {H : Heap} {locs : List Loc} {ls : Array Slot} {cells slots : Nat} {Q : State → Prop} (hc : cells + 1 ≤ 601024) (hs : slots + 6 ≤ 7293034) (hP : va_P D vwCl (wLaw cI cB cW cL o F ob nw tr qs sc (g_rot qs r) M N S n L T z x hh M Sp Ot Sv T) H) (hD : va_D (fun q : Nat => ss.heap.size ≤ q) (wLaw cI cB cW cL o F ob nw tr qs sc (g_rot qs r) M N S n L T z x hh M Sp Ot Sv T)) (hS : va_S (fun q : Nat => ss.heap.size ≤ q) ss.heap H locs) (hl : lv_has ls 9 [(0, .ref bb), (1, .ref (ob 0)), (2, .ref (z 0)), (3, .ref o), (4, .int (nI i))]) (kk : LNext pp l ee ss mm below meth cc bb D cI cB cW cL o ob nw tr qs sc z i cells slots Q) : W pp l ee room_1 ss mm #[Value.ref bb] below meth cc H locs cells slots Q (F0 mm 1293 ls []) := by
  obtain ⟨hx, hcd, hml, hown, hts, hX, hbl, hst, hZ, hN, hK, hL9⟩ := C
  obtain ⟨hI, hn, hr, hL, hT, hx4, hx6, hsv⟩ := id hV
  have hA : ∀ q : Nat, ss.heap.size ≤ q → (fun q : Nat => ss.heap.size ≤ q) q := fun _ h => h
  have hbA : ¬ (fun q : Nat => ss.heap.size ≤ q) bb := Nat.not_le.mpr hbl
  refine lv_aload_n hx hcd dL_law_1293 rfl (lv_at hl 1 rfl) ?_
  refine lv_aload_n hx hcd dL_law_1294 rfl (lv_at hl 0 rfl) ?_
  refine lv_iload hx hcd dL_law_1295 (lv_at hl 4 rfl) ?_
  refine lv_iconst (v := nI 1) hx hcd dL_law_1297 (by decide) ?_
  refine kr_add hx hcd dL_law_1298 ?_
  refine kl_sld hx hcd hX hbl hbA hS (k := i + 1) (by omega) hL9 dL_law_1299 ?_
  refine kr_top (w := nI a) h1 ?_
  refine lv_aload_n hx hcd dL_law_1300 rfl (lv_at hl 0 rfl) ?_
  refine lv_iload hx hcd dL_law_1301 (lv_at hl 4 rfl) ?_
  refine lv_iconst (v := nI 2) hx hcd dL_law_1303 (by decide) ?_
  refine kr_add hx hcd dL_law_1304 ?_
  refine kl_sld hx hcd hX hbl hbA hS (k := i + 2) (by omega) hL9 dL_law_1305 ?_
  refine lv_aload_n hx hcd dL_law_1306 rfl (lv_at hl 0 rfl) ?_
  refine lv_iload hx hcd dL_law_1307 (lv_at hl 4 rfl) ?_
  refine lv_iconst (v := nI 3) hx hcd dL_law_1309 (by decide) ?_
  refine kr_add hx hcd dL_law_1310 ?_
  refine kl_sld hx hcd hX hbl hbA hS (k := i + 3) (by omega) hL9 dL_law_1311 ?_
  refine kr_top (w := nI s) h3 ?_
  refine lv_aload_n hx hcd dL_law_1312 rfl (lv_at hl 3 rfl) ?_
  refine kl_S (As := [.ref (ob 0), .int (nI a), .int (xs (i + 2)), .int (nI s), .ref o]) (rest := []) (ws2 := wLaw cI cB cW cL o F ob nw tr qs sc (g_rot qs r) M N S n L T z x hh M Sp Ot Sv T) ⟨hx, hcd, hml, hown, hts⟩ (c_L_view__e1b l hst D cI cB cW cL o F ob nw tr qs sc (g_rot qs r) N S n L T _ M a (xs (i + 2)) s ha hs3 (by unfold g_why; rw [if_neg (fun q => by rw [hg] at q; cases q.2)]; rfl)) (vx_cwSW 5 hts gL_law_L_view rfl rfl rfl (by decide +kernel) ⟨Nat.le_of_ble_eq_true rfl, Nat.le_of_ble_eq_true rfl⟩) hZ hN hK hP hD hS hA [0, 1, 2, 3, 4, 5, 6, 7, 8, 9, 10, 11, 12, 13, 14, 15, 16, 17, 18, 19, 20, 21, 22, 23, 24, 25, 26, 27, 28, 29, 30, 31, 32, 33, 34, 35, 36, 37, 38, 39, 40, 41, 42, 43, 44, 45, 46, 47, 48, 49, 50, 51, 52, 53, 54, 55, 56, 57, 58, 59, 60, 61, 62, 63, 64, 65, 66, 67, 68, 69, 70, 71, 72, 73, 74, 75, 76, 77, 78, 79, 80, 81, 82, 83, 84, 85, 86, 87, 88, 89, 90, 91, 92, 93, 94] wLaw_LXC nd_LX wLX_adr wLaw_LX rfl hl.1 rfl (Nat.le_of_ble_eq_true rfl) dL_law_1313 ⟨hc, hs⟩ (fun H locs hP hD hS => ?_)
  refine lv_istore (lv' := [(5, .int (nI 1)), (0, .ref bb), (1, .ref (ob 0)), (2, .ref (z 0)), (3, .ref o), (4, .int (nI i))]) hx hcd dL_law_1316 hl (by decide) rfl (fun ls hl => ?_)
  refine lv_aload_n hx hcd dL_law_1318 rfl (lv_at hl 3 rfl) ?_
  refine lv_aload_n hx hcd dL_law_1319 rfl (lv_at hl 1 rfl) ?_
  refine lv_iload hx hcd dL_law_1320 (lv_at hl 5 rfl) ?_
  refine lv_iconst (v := nI 1) hx hcd dL_law_1322 (by decide) ?_
  refine kr_add hx hcd dL_law_1323 ?_
  refine kl_sld hx hcd hX hbl hbA hS (k := i + 1) (by omega) hL9 dL_law_1324 ?_
  refine kr_top (w := nI a) h1 ?_
  refine lv_aload_n hx hcd dL_law_1325 rfl (lv_at hl 1 rfl) ?_
  refine lv_iload hx hcd dL_law_1326 (lv_at hl 5 rfl) ?_
  refine lv_iconst (v := nI 2) hx hcd dL_law_1328 (by decide) ?_
  refine kr_add hx hcd dL_law_1329 ?_
  refine kl_sld hx hcd hX hbl hbA hS (k := i + 2) (by omega) hL9 dL_law_1330 ?_
  refine lv_aload_n hx hcd dL_law_1331 rfl (lv_at hl 1 rfl) ?_
  refine lv_iload hx hcd dL_law_1332 (lv_at hl 5 rfl) ?_
  refine lv_iconst (v := nI 3) hx hcd dL_law_1334 (by decide) ?_
  refine kr_add hx hcd dL_law_1335 ?_
  refine kl_sld hx hcd hX hbl hbA hS (k := i + 3) (by omega) hL9 dL_law_1336 ?_
  refine kr_top (w := nI s) h3 ?_
  refine kr_Vi (As := [.int (nI a), .int (xs (i + 2)), .int (nI s)]) (rest := []) (ws2 := wLaw cI cB cW cL o F ob nw tr qs sc (g_rot qs r) M N S n L T z (xu x 7 1) hh M Sp Ot Sv T) (q := (RX7, TX7, 10)) ⟨hx, hcd, hml, hown, hts⟩ (c_X7_view__b1b l D cI cB cW cL z x hh _ M (nI a) (xs (i + 2)) (nI s) (usr_ok ha) (seat_u hg)) (cwV 3 hts gL_law_X7_view rfl rfl rfl (by decide +kernel) ⟨Nat.le_of_ble_eq_true rfl, Nat.le_of_ble_eq_true rfl⟩) hK hP hD hS hA [95, 96] wLaw_MoC (by decide) wMo_adr2 wLaw_Mo 95 rfl rfl rfl hl.1 rfl (Nat.le_of_ble_eq_true rfl) dL_law_1337 ⟨hc, hs⟩ (fun H locs hP hD hS => ?_)
  refine lv_istore (lv' := [(6, .int (nI 0)), (5, .int (nI 1)), (0, .ref bb), (1, .ref (ob 0)), (2, .ref (z 0)), (3, .ref o), (4, .int (nI i))]) hx hcd dL_law_1340 hl (by decide) rfl (fun ls hl => ?_)
  refine lv_aload_n hx hcd dL_law_1342 rfl (lv_at hl 4 rfl) ?_
  refine kr_Vi (As := []) (rest := []) (ws2 := wLaw cI cB cW cL o F ob nw tr qs sc (g_rot qs r) M N S n L T z (xu x 7 1) hh M Sp Ot Sv T) (q := (RX7, TX7, 10)) ⟨hx, hcd, hml, hown, hts⟩ (c_X7_thrown l D cI cB cW cL z (xu x 7 1) hh _ M ) (cwV 0 hts gL_law_X7_thrown rfl rfl rfl (by decide +kernel) ⟨Nat.le_of_ble_eq_true rfl, Nat.le_of_ble_eq_true rfl⟩) hK hP hD hS hA [95, 96] wLaw_MoC (by decide) wMo_adr2 wLaw_Mo 95 rfl rfl rfl hl.1 rfl (Nat.le_of_ble_eq_true rfl) dL_law_1343 ⟨hc, hs⟩ (fun H locs hP hD hS => ?_)
  refine kr_top (w := 1) rfl ?_
  refine kr_top (w := nI 1) rfl ?_
  refine lv_iload hx hcd dL_law_1346 (lv_at hl 1 rfl) ?_
  refine kr_ceq (tgt := 1353) hx hcd (by omega) (by omega) dL_law_1348 (by decide) (fun (c_1348 : 1 = 1) => ?_) (fun (c_1348 : ¬ 1 = 1) => absurd c_1348 (by omega))
  refine lv_iload hx hcd dL_law_1353 (lv_at hl 1 rfl) ?_
  refine kr_zne (tgt := 1370) hx hcd (by omega) dL_law_1355 (by decide) (fun (c_1355 : 0 < 1) => ?_) (fun (c_1355 : 1 = 0) => absurd c_1355 (by omega))
  refine lv_goto (tgt := 1812) hx hcd dL_law_1370 (by decide) ?_
  exact kk F N M S n r L T (xu x 7 1) hh Sp Ot Sv (linv_x hV rfl rfl) H locs ls hP hD hS (lv_sub hl [2, 3, 4, 5, 6] rfl)

set_option maxHeartbeats 4000000 in
set_option maxRecDepth 100000 in
theorem law_view__e2 {pp : Program} {l : Launch} {ee : Env} {ss : State} {mm : MethodId} {below : List Frame} {meth : Method} {cc : Code} {bb Ls : Nat} {xs : Nat → Int32} {D : va_G} {cI cB cW cL : ClassId} (C : LFix pp l ss mm cc bb Ls xs D cI cB cW cL) {o : Nat} {F : Nat → Int64} {ob nw tr : Nat → Nat} {qs : Nat → Nat → Nat} {sc : Nat → Nat} {N : kM} {S : Nat → kM} {n r L : Nat} {T : Nat → Int32} {z : Nat → Nat} {x : Nat → Int32} {hh : Int64} {Sp Ot Sv : Nat → Int32} {M : kM} (hV : LInv M S n r L T Sv x) {i : Nat} (hi : i + 5 ≤ Ls) {a s : Nat} (h1 : xs (i + 1) = nI a) (h3 : xs (i + 3) = nI s) (ha : a < 6) (hs3 : s < 3) (h2 : xs (i + 2) = nI a) {H : Heap} {locs : List Loc} {ls : Array Slot} {cells slots : Nat} {Q : State → Prop} (hc : cells + 1 ≤ 601024) (hs : slots + 6 ≤ 7293034) (hP : va_P D vwCl (wLaw cI cB cW cL o F ob nw tr qs sc (g_rot qs r) M N S n L T z x hh M Sp Ot Sv T) H) (hD : va_D (fun q : Nat => ss.heap.size ≤ q) (wLaw cI cB cW cL o F ob nw tr qs sc (g_rot qs r) M N S n L T z x hh M Sp Ot Sv T)) (hS : va_S (fun q : Nat => ss.heap.size ≤ q) ss.heap H locs) (hl : lv_has ls 9 [(0, .ref bb), (1, .ref (ob 0)), (2, .ref (z 0)), (3, .ref o), (4, .int (nI i))]) (kk : LNext pp l ee ss mm below meth cc bb D cI cB cW cL o ob nw tr qs sc z i cells slots Q) : W pp l ee room_1 ss mm #[Value.ref bb] below meth cc H locs cells slots Q (F0 mm 1293 ls []) := by
  obtain ⟨hx, hcd, hml, hown, hts, hX, hbl, hst, hZ, hN, hK, hL9⟩ := C
  obtain ⟨hI, hn, hr, hL, hT, hx4, hx6, hsv⟩ := id hV
  have hA : ∀ q : Nat, ss.heap.size ≤ q → (fun q : Nat => ss.heap.size ≤ q) q := fun _ h => h
  have hbA : ¬ (fun q : Nat => ss.heap.size ≤ q) bb := Nat.not_le.mpr hbl
  refine lv_aload_n hx hcd dL_law_1293 rfl (lv_at hl 1 rfl) ?_
  refine lv_aload_n hx hcd dL_law_1294 rfl (lv_at hl 0 rfl) ?_
  refine lv_iload hx hcd dL_law_1295 (lv_at hl 4 rfl) ?_
  refine lv_iconst (v := nI 1) hx hcd dL_law_1297 (by decide) ?_
  refine kr_add hx hcd dL_law_1298 ?_
  refine kl_sld hx hcd hX hbl hbA hS (k := i + 1) (by omega) hL9 dL_law_1299 ?_
  refine kr_top (w := nI a) h1 ?_
  refine lv_aload_n hx hcd dL_law_1300 rfl (lv_at hl 0 rfl) ?_
  refine lv_iload hx hcd dL_law_1301 (lv_at hl 4 rfl) ?_
  refine lv_iconst (v := nI 2) hx hcd dL_law_1303 (by decide) ?_
  refine kr_add hx hcd dL_law_1304 ?_
  refine kl_sld hx hcd hX hbl hbA hS (k := i + 2) (by omega) hL9 dL_law_1305 ?_
  refine kr_top (w := nI a) h2 ?_
  refine lv_aload_n hx hcd dL_law_1306 rfl (lv_at hl 0 rfl) ?_
  refine lv_iload hx hcd dL_law_1307 (lv_at hl 4 rfl) ?_
  refine lv_iconst (v := nI 3) hx hcd dL_law_1309 (by decide) ?_
  refine kr_add hx hcd dL_law_1310 ?_
  refine kl_sld hx hcd hX hbl hbA hS (k := i + 3) (by omega) hL9 dL_law_1311 ?_
  refine kr_top (w := nI s) h3 ?_
  refine lv_aload_n hx hcd dL_law_1312 rfl (lv_at hl 3 rfl) ?_
  refine kl_S (As := [.ref (ob 0), .int (nI a), .int (nI a), .int (nI s), .ref o]) (rest := []) (ws2 := wLaw cI cB cW cL o F ob nw tr qs sc (g_rot qs r) M N S n L T z x hh M Sp Ot Sv T) ⟨hx, hcd, hml, hown, hts⟩ (c_L_view__e2 l hst D cI cB cW cL o F ob nw tr qs sc (g_rot qs r) N S n L T _ M a (nI a) s ha hs3 (why_same ha)) (vx_cwSW 5 hts gL_law_L_view rfl rfl rfl (by decide +kernel) ⟨Nat.le_of_ble_eq_true rfl, Nat.le_of_ble_eq_true rfl⟩) hZ hN hK hP hD hS hA [0, 1, 2, 3, 4, 5, 6, 7, 8, 9, 10, 11, 12, 13, 14, 15, 16, 17, 18, 19, 20, 21, 22, 23, 24, 25, 26, 27, 28, 29, 30, 31, 32, 33, 34, 35, 36, 37, 38, 39, 40, 41, 42, 43, 44, 45, 46, 47, 48, 49, 50, 51, 52, 53, 54, 55, 56, 57, 58, 59, 60, 61, 62, 63, 64, 65, 66, 67, 68, 69, 70, 71, 72, 73, 74, 75, 76, 77, 78, 79, 80, 81, 82, 83, 84, 85, 86, 87, 88, 89, 90, 91, 92, 93, 94] wLaw_LXC nd_LX wLX_adr wLaw_LX rfl hl.1 rfl (Nat.le_of_ble_eq_true rfl) dL_law_1313 ⟨hc, hs⟩ (fun H locs hP hD hS => ?_)
  refine lv_istore (lv' := [(5, .int (nI 2)), (0, .ref bb), (1, .ref (ob 0)), (2, .ref (z 0)), (3, .ref o), (4, .int (nI i))]) hx hcd dL_law_1316 hl (by decide) rfl (fun ls hl => ?_)
  refine lv_aload_n hx hcd dL_law_1318 rfl (lv_at hl 3 rfl) ?_
  refine lv_aload_n hx hcd dL_law_1319 rfl (lv_at hl 1 rfl) ?_
  refine lv_iload hx hcd dL_law_1320 (lv_at hl 5 rfl) ?_
  refine lv_iconst (v := nI 1) hx hcd dL_law_1322 (by decide) ?_
  refine kr_add hx hcd dL_law_1323 ?_
  refine kl_sld hx hcd hX hbl hbA hS (k := i + 1) (by omega) hL9 dL_law_1324 ?_
  refine kr_top (w := nI a) h1 ?_
  refine lv_aload_n hx hcd dL_law_1325 rfl (lv_at hl 1 rfl) ?_
  refine lv_iload hx hcd dL_law_1326 (lv_at hl 5 rfl) ?_
  refine lv_iconst (v := nI 2) hx hcd dL_law_1328 (by decide) ?_
  refine kr_add hx hcd dL_law_1329 ?_
  refine kl_sld hx hcd hX hbl hbA hS (k := i + 2) (by omega) hL9 dL_law_1330 ?_
  refine kr_top (w := nI a) h2 ?_
  refine lv_aload_n hx hcd dL_law_1331 rfl (lv_at hl 1 rfl) ?_
  refine lv_iload hx hcd dL_law_1332 (lv_at hl 5 rfl) ?_
  refine lv_iconst (v := nI 3) hx hcd dL_law_1334 (by decide) ?_
  refine kr_add hx hcd dL_law_1335 ?_
  refine kl_sld hx hcd hX hbl hbA hS (k := i + 3) (by omega) hL9 dL_law_1336 ?_
  refine kr_top (w := nI s) h3 ?_
  refine kr_Vi (As := [.int (nI a), .int (nI a), .int (nI s)]) (rest := []) (ws2 := wLaw cI cB cW cL o F ob nw tr qs sc (g_rot qs r) M N S n L T z (xu x 7 2) hh M Sp Ot Sv T) (q := (RX7, TX7, 10)) ⟨hx, hcd, hml, hown, hts⟩ (c_X7_view__b2 l D cI cB cW cL z x hh _ M (nI a) (nI a) (nI s) (usr_ok ha) (seat_ok ha hs3) rfl) (cwV 3 hts gL_law_X7_view rfl rfl rfl (by decide +kernel) ⟨Nat.le_of_ble_eq_true rfl, Nat.le_of_ble_eq_true rfl⟩) hK hP hD hS hA [95, 96] wLaw_MoC (by decide) wMo_adr2 wLaw_Mo 95 rfl rfl rfl hl.1 rfl (Nat.le_of_ble_eq_true rfl) dL_law_1337 ⟨hc, hs⟩ (fun H locs hP hD hS => ?_)
  refine lv_istore (lv' := [(6, .int (nI 0)), (5, .int (nI 2)), (0, .ref bb), (1, .ref (ob 0)), (2, .ref (z 0)), (3, .ref o), (4, .int (nI i))]) hx hcd dL_law_1340 hl (by decide) rfl (fun ls hl => ?_)
  refine lv_aload_n hx hcd dL_law_1342 rfl (lv_at hl 4 rfl) ?_
  refine kr_Vi (As := []) (rest := []) (ws2 := wLaw cI cB cW cL o F ob nw tr qs sc (g_rot qs r) M N S n L T z (xu x 7 2) hh M Sp Ot Sv T) (q := (RX7, TX7, 10)) ⟨hx, hcd, hml, hown, hts⟩ (c_X7_thrown l D cI cB cW cL z (xu x 7 2) hh _ M ) (cwV 0 hts gL_law_X7_thrown rfl rfl rfl (by decide +kernel) ⟨Nat.le_of_ble_eq_true rfl, Nat.le_of_ble_eq_true rfl⟩) hK hP hD hS hA [95, 96] wLaw_MoC (by decide) wMo_adr2 wLaw_Mo 95 rfl rfl rfl hl.1 rfl (Nat.le_of_ble_eq_true rfl) dL_law_1343 ⟨hc, hs⟩ (fun H locs hP hD hS => ?_)
  refine kr_top (w := 2) rfl ?_
  refine kr_top (w := nI 2) rfl ?_
  refine lv_iload hx hcd dL_law_1346 (lv_at hl 1 rfl) ?_
  refine kr_ceq (tgt := 1353) hx hcd (by omega) (by omega) dL_law_1348 (by decide) (fun (c_1348 : 2 = 2) => ?_) (fun (c_1348 : ¬ 2 = 2) => absurd c_1348 (by omega))
  refine lv_iload hx hcd dL_law_1353 (lv_at hl 1 rfl) ?_
  refine kr_zne (tgt := 1370) hx hcd (by omega) dL_law_1355 (by decide) (fun (c_1355 : 0 < 2) => ?_) (fun (c_1355 : 2 = 0) => absurd c_1355 (by omega))
  refine lv_goto (tgt := 1812) hx hcd dL_law_1370 (by decide) ?_
  exact kk F N M S n r L T (xu x 7 2) hh Sp Ot Sv (linv_x hV rfl rfl) H locs ls hP hD hS (lv_sub hl [2, 3, 4, 5, 6] rfl)

set_option maxHeartbeats 4000000 in
set_option maxRecDepth 100000 in
theorem law_wrongViews__ok {pp : Program} {l : Launch} {ee : Env} {ss : State} {mm : MethodId} {below : List Frame} {meth : Method} {cc : Code} {bb Ls : Nat} {xs : Nat → Int32} {D : va_G} {cI cB cW cL : ClassId} (C : LFix pp l ss mm cc bb Ls xs D cI cB cW cL) {o : Nat} {F : Nat → Int64} {ob nw tr : Nat → Nat} {qs : Nat → Nat → Nat} {sc : Nat → Nat} {N : kM} {S : Nat → kM} {n r L : Nat} {T : Nat → Int32} {z : Nat → Nat} {x : Nat → Int32} {hh : Int64} {Sp Ot Sv : Nat → Int32} {M : kM} (hV : LInv M S n r L T Sv x) {i : Nat} (hi : i + 5 ≤ Ls) {a : Nat} (h1 : xs (i + 1) = nI a) (ha : a < 6)  {H : Heap} {locs : List Loc} {ls : Array Slot} {cells slots : Nat} {Q : State → Prop} (hc : cells + 1 ≤ 601024) (hs : slots + 6 ≤ 7293034) (hP : va_P D vwCl (wLaw cI cB cW cL o F ob nw tr qs sc (g_rot qs r) M N S n L T z x hh M Sp Ot Sv T) H) (hD : va_D (fun q : Nat => ss.heap.size ≤ q) (wLaw cI cB cW cL o F ob nw tr qs sc (g_rot qs r) M N S n L T z x hh M Sp Ot Sv T)) (hS : va_S (fun q : Nat => ss.heap.size ≤ q) ss.heap H locs) (hl : lv_has ls 9 [(0, .ref bb), (1, .ref (ob 0)), (2, .ref (z 0)), (3, .ref o), (4, .int (nI i))]) (kk : LNext pp l ee ss mm below meth cc bb D cI cB cW cL o ob nw tr qs sc z i cells slots Q) : W pp l ee room_1 ss mm #[Value.ref bb] below meth cc H locs cells slots Q (F0 mm 1536 ls []) := by
  obtain ⟨hx, hcd, hml, hown, hts, hX, hbl, hst, hZ, hN, hK, hL9⟩ := C
  obtain ⟨hI, hn, hr, hL, hT, hx4, hx6, hsv⟩ := id hV
  have hA : ∀ q : Nat, ss.heap.size ≤ q → (fun q : Nat => ss.heap.size ≤ q) q := fun _ h => h
  have hbA : ¬ (fun q : Nat => ss.heap.size ≤ q) bb := Nat.not_le.mpr hbl
  refine lv_aload_n hx hcd dL_law_1536 rfl (lv_at hl 1 rfl) ?_
  refine lv_aload_n hx hcd dL_law_1537 rfl (lv_at hl 0 rfl) ?_
  refine lv_iload hx hcd dL_law_1538 (lv_at hl 4 rfl) ?_
  refine lv_iconst (v := nI 1) hx hcd dL_law_1540 (by decide) ?_
  refine kr_add hx hcd dL_law_1541 ?_
  refine kl_sld hx hcd hX hbl hbA hS (k := i + 1) (by omega) hL9 dL_law_1542 ?_
  refine kr_top (w := nI a) h1 ?_
  refine lv_aload_n hx hcd dL_law_1543 rfl (lv_at hl 3 rfl) ?_
  refine kl_S (As := [.ref (ob 0), .int (nI a), .ref o]) (rest := []) (ws2 := wLaw cI cB cW cL o (vp_updL F 0 ((nI (g_wrA M a 6) : Int32).toInt64)) ob nw tr qs sc (g_rot qs r) M N S n L T z x hh M Sp Ot Sv T) ⟨hx, hcd, hml, hown, hts⟩ (c_L_wrongViews__ok l hst D cI cB cW cL o F ob nw tr qs sc (g_rot qs r) N S n L T _ M a ha) (vx_cwSW 3 hts gL_law_L_wrongViews rfl rfl rfl (by decide +kernel) ⟨Nat.le_of_ble_eq_true rfl, Nat.le_of_ble_eq_true rfl⟩) hZ hN hK hP hD hS hA [0, 1, 2, 3, 4, 5, 6, 7, 8, 9, 10, 11, 12, 13, 14, 15, 16, 17, 18, 19, 20, 21, 22, 23, 24, 25, 26, 27, 28, 29, 30, 31, 32, 33, 34, 35, 36, 37, 38, 39, 40, 41, 42, 43, 44, 45, 46, 47, 48, 49, 50, 51, 52, 53, 54, 55, 56, 57, 58, 59, 60, 61, 62, 63, 64, 65, 66, 67, 68, 69, 70, 71, 72, 73, 74, 75, 76, 77, 78, 79, 80, 81, 82, 83, 84, 85, 86, 87, 88, 89, 90, 91, 92, 93, 94] wLaw_LXC nd_LX wLX_adr wLaw_LX rfl hl.1 rfl (Nat.le_of_ble_eq_true rfl) dL_law_1544 ⟨hc, hs⟩ (fun H locs hP hD hS => ?_)
  refine lv_istore (lv' := [(5, .int (nI 0)), (0, .ref bb), (1, .ref (ob 0)), (2, .ref (z 0)), (3, .ref o), (4, .int (nI i))]) hx hcd dL_law_1547 hl (by decide) rfl (fun ls hl => ?_)
  refine lv_aload_n hx hcd dL_law_1549 rfl (lv_at hl 3 rfl) ?_
  refine lv_aload_n hx hcd dL_law_1550 rfl (lv_at hl 1 rfl) ?_
  refine lv_iload hx hcd dL_law_1551 (lv_at hl 5 rfl) ?_
  refine lv_iconst (v := nI 1) hx hcd dL_law_1553 (by decide) ?_
  refine kr_add hx hcd dL_law_1554 ?_
  refine kl_sld hx hcd hX hbl hbA hS (k := i + 1) (by omega) hL9 dL_law_1555 ?_
  refine kr_top (w := nI a) h1 ?_
  refine kr_Vi (As := [.int (nI a)]) (rest := []) (ws2 := wLaw cI cB cW cL o (vp_updL F 0 ((nI (g_wrA M a 6) : Int32).toInt64)) ob nw tr qs sc (g_rot qs r) M N S n L T z (xu x 7 0) hh M Sp Ot Sv T) (q := (RX7, TX7, 10)) ⟨hx, hcd, hml, hown, hts⟩ (c_X7_wrongViews__ok l D cI cB cW cL z x hh _ M a ha) (cwV 1 hts gL_law_X7_wrongViews rfl rfl rfl (by decide +kernel) ⟨Nat.le_of_ble_eq_true rfl, Nat.le_of_ble_eq_true rfl⟩) hK hP hD hS hA [95, 96] wLaw_MoC (by decide) wMo_adr2 wLaw_Mo 95 rfl rfl rfl hl.1 rfl (Nat.le_of_ble_eq_true rfl) dL_law_1556 ⟨hc, hs⟩ (fun H locs hP hD hS => ?_)
  refine lv_istore (lv' := [(6, .int (nI (g_wrA M a 6))), (5, .int (nI 0)), (0, .ref bb), (1, .ref (ob 0)), (2, .ref (z 0)), (3, .ref o), (4, .int (nI i))]) hx hcd dL_law_1559 hl (by decide) rfl (fun ls hl => ?_)
  refine lv_aload_n hx hcd dL_law_1561 rfl (lv_at hl 4 rfl) ?_
  refine kr_Vi (As := []) (rest := []) (ws2 := wLaw cI cB cW cL o (vp_updL F 0 ((nI (g_wrA M a 6) : Int32).toInt64)) ob nw tr qs sc (g_rot qs r) M N S n L T z (xu x 7 0) hh M Sp Ot Sv T) (q := (RX7, TX7, 10)) ⟨hx, hcd, hml, hown, hts⟩ (c_X7_thrown l D cI cB cW cL z (xu x 7 0) hh _ M ) (cwV 0 hts gL_law_X7_thrown rfl rfl rfl (by decide +kernel) ⟨Nat.le_of_ble_eq_true rfl, Nat.le_of_ble_eq_true rfl⟩) hK hP hD hS hA [95, 96] wLaw_MoC (by decide) wMo_adr2 wLaw_Mo 95 rfl rfl rfl hl.1 rfl (Nat.le_of_ble_eq_true rfl) dL_law_1562 ⟨hc, hs⟩ (fun H locs hP hD hS => ?_)
  refine kr_top (w := 0) rfl ?_
  refine kr_top (w := nI 0) rfl ?_
  refine lv_iload hx hcd dL_law_1565 (lv_at hl 1 rfl) ?_
  refine kr_ceq (tgt := 1572) hx hcd (by omega) (by omega) dL_law_1567 (by decide) (fun (c_1567 : 0 = 0) => ?_) (fun (c_1567 : ¬ 0 = 0) => absurd c_1567 (by omega))
  refine lv_iload hx hcd dL_law_1572 (lv_at hl 1 rfl) ?_
  refine kr_zne (tgt := 1589) hx hcd (by omega) dL_law_1574 (by decide) (fun (c_1574 : 0 < 0) => absurd c_1574 (by omega)) (fun (c_1574 : 0 = 0) => ?_)
  refine lv_aload_n hx hcd dL_law_1577 rfl (lv_at hl 5 rfl) ?_
  refine lv_iconst (v := nI 0) hx hcd dL_law_1578 (by decide) ?_
  refine kl_lald hx hcd hK hP 0 3 rfl rfl (v := (nI (g_wrA M a 6) : Int32).toInt64) (by omega) (by decide) updL_0 dL_law_1579 ?_
  refine lv_iload hx hcd dL_law_1580 (lv_at hl 0 rfl) ?_
  refine lv_i2l hx hcd dL_law_1582 rfl ?_
  refine kl_lcmp hx hcd (rfl) dL_law_1583 ?_
  refine kr_zeq (tgt := 1589) hx hcd (by omega) dL_law_1584 (by decide) (fun (c_1584 : 0 = 0) => ?_) (fun (c_1584 : 0 < 0) => absurd c_1584 (by omega))
  refine lv_goto (tgt := 1812) hx hcd dL_law_1589 (by decide) ?_
  exact kk (vp_updL F 0 ((nI (g_wrA M a 6) : Int32).toInt64)) N M S n r L T (xu x 7 0) hh Sp Ot Sv (linv_x hV rfl rfl) H locs ls hP hD hS (lv_sub hl [2, 3, 4, 5, 6] rfl)

set_option maxHeartbeats 4000000 in
set_option maxRecDepth 100000 in
theorem law_wrongViews__e1 {pp : Program} {l : Launch} {ee : Env} {ss : State} {mm : MethodId} {below : List Frame} {meth : Method} {cc : Code} {bb Ls : Nat} {xs : Nat → Int32} {D : va_G} {cI cB cW cL : ClassId} (C : LFix pp l ss mm cc bb Ls xs D cI cB cW cL) {o : Nat} {F : Nat → Int64} {ob nw tr : Nat → Nat} {qs : Nat → Nat → Nat} {sc : Nat → Nat} {N : kM} {S : Nat → kM} {n r L : Nat} {T : Nat → Int32} {z : Nat → Nat} {x : Nat → Int32} {hh : Int64} {Sp Ot Sv : Nat → Int32} {M : kM} (hV : LInv M S n r L T Sv x) {i : Nat} (hi : i + 5 ≤ Ls)  (hg : g_usr (xs (i + 1)) = false) {H : Heap} {locs : List Loc} {ls : Array Slot} {cells slots : Nat} {Q : State → Prop} (hc : cells + 1 ≤ 601024) (hs : slots + 6 ≤ 7293034) (hP : va_P D vwCl (wLaw cI cB cW cL o F ob nw tr qs sc (g_rot qs r) M N S n L T z x hh M Sp Ot Sv T) H) (hD : va_D (fun q : Nat => ss.heap.size ≤ q) (wLaw cI cB cW cL o F ob nw tr qs sc (g_rot qs r) M N S n L T z x hh M Sp Ot Sv T)) (hS : va_S (fun q : Nat => ss.heap.size ≤ q) ss.heap H locs) (hl : lv_has ls 9 [(0, .ref bb), (1, .ref (ob 0)), (2, .ref (z 0)), (3, .ref o), (4, .int (nI i))]) (kk : LNext pp l ee ss mm below meth cc bb D cI cB cW cL o ob nw tr qs sc z i cells slots Q) : W pp l ee room_1 ss mm #[Value.ref bb] below meth cc H locs cells slots Q (F0 mm 1536 ls []) := by
  obtain ⟨hx, hcd, hml, hown, hts, hX, hbl, hst, hZ, hN, hK, hL9⟩ := C
  obtain ⟨hI, hn, hr, hL, hT, hx4, hx6, hsv⟩ := id hV
  have hA : ∀ q : Nat, ss.heap.size ≤ q → (fun q : Nat => ss.heap.size ≤ q) q := fun _ h => h
  have hbA : ¬ (fun q : Nat => ss.heap.size ≤ q) bb := Nat.not_le.mpr hbl
  refine lv_aload_n hx hcd dL_law_1536 rfl (lv_at hl 1 rfl) ?_
  refine lv_aload_n hx hcd dL_law_1537 rfl (lv_at hl 0 rfl) ?_
  refine lv_iload hx hcd dL_law_1538 (lv_at hl 4 rfl) ?_
  refine lv_iconst (v := nI 1) hx hcd dL_law_1540 (by decide) ?_
  refine kr_add hx hcd dL_law_1541 ?_
  refine kl_sld hx hcd hX hbl hbA hS (k := i + 1) (by omega) hL9 dL_law_1542 ?_
  refine lv_aload_n hx hcd dL_law_1543 rfl (lv_at hl 3 rfl) ?_
  refine kl_S (As := [.ref (ob 0), .int (xs (i + 1)), .ref o]) (rest := []) (ws2 := wLaw cI cB cW cL o F ob nw tr qs sc (g_rot qs r) M N S n L T z x hh M Sp Ot Sv T) ⟨hx, hcd, hml, hown, hts⟩ (c_L_wrongViews__e1 l hst D cI cB cW cL o F ob nw tr qs sc (g_rot qs r) N S n L T _ M (xs (i + 1)) hg) (vx_cwSW 3 hts gL_law_L_wrongViews rfl rfl rfl (by decide +kernel) ⟨Nat.le_of_ble_eq_true rfl, Nat.le_of_ble_eq_true rfl⟩) hZ hN hK hP hD hS hA [0, 1, 2, 3, 4, 5, 6, 7, 8, 9, 10, 11, 12, 13, 14, 15, 16, 17, 18, 19, 20, 21, 22, 23, 24, 25, 26, 27, 28, 29, 30, 31, 32, 33, 34, 35, 36, 37, 38, 39, 40, 41, 42, 43, 44, 45, 46, 47, 48, 49, 50, 51, 52, 53, 54, 55, 56, 57, 58, 59, 60, 61, 62, 63, 64, 65, 66, 67, 68, 69, 70, 71, 72, 73, 74, 75, 76, 77, 78, 79, 80, 81, 82, 83, 84, 85, 86, 87, 88, 89, 90, 91, 92, 93, 94] wLaw_LXC nd_LX wLX_adr wLaw_LX rfl hl.1 rfl (Nat.le_of_ble_eq_true rfl) dL_law_1544 ⟨hc, hs⟩ (fun H locs hP hD hS => ?_)
  refine lv_istore (lv' := [(5, .int (nI 1)), (0, .ref bb), (1, .ref (ob 0)), (2, .ref (z 0)), (3, .ref o), (4, .int (nI i))]) hx hcd dL_law_1547 hl (by decide) rfl (fun ls hl => ?_)
  refine lv_aload_n hx hcd dL_law_1549 rfl (lv_at hl 3 rfl) ?_
  refine lv_aload_n hx hcd dL_law_1550 rfl (lv_at hl 1 rfl) ?_
  refine lv_iload hx hcd dL_law_1551 (lv_at hl 5 rfl) ?_
  refine lv_iconst (v := nI 1) hx hcd dL_law_1553 (by decide) ?_
  refine kr_add hx hcd dL_law_1554 ?_
  refine kl_sld hx hcd hX hbl hbA hS (k := i + 1) (by omega) hL9 dL_law_1555 ?_
  refine kr_Vi (As := [.int (xs (i + 1))]) (rest := []) (ws2 := wLaw cI cB cW cL o F ob nw tr qs sc (g_rot qs r) M N S n L T z (xu x 7 1) hh M Sp Ot Sv T) (q := (RX7, TX7, 10)) ⟨hx, hcd, hml, hown, hts⟩ (c_X7_wrongViews__b1 l D cI cB cW cL z x hh _ M (xs (i + 1)) hg) (cwV 1 hts gL_law_X7_wrongViews rfl rfl rfl (by decide +kernel) ⟨Nat.le_of_ble_eq_true rfl, Nat.le_of_ble_eq_true rfl⟩) hK hP hD hS hA [95, 96] wLaw_MoC (by decide) wMo_adr2 wLaw_Mo 95 rfl rfl rfl hl.1 rfl (Nat.le_of_ble_eq_true rfl) dL_law_1556 ⟨hc, hs⟩ (fun H locs hP hD hS => ?_)
  refine lv_istore (lv' := [(6, .int (nI 0)), (5, .int (nI 1)), (0, .ref bb), (1, .ref (ob 0)), (2, .ref (z 0)), (3, .ref o), (4, .int (nI i))]) hx hcd dL_law_1559 hl (by decide) rfl (fun ls hl => ?_)
  refine lv_aload_n hx hcd dL_law_1561 rfl (lv_at hl 4 rfl) ?_
  refine kr_Vi (As := []) (rest := []) (ws2 := wLaw cI cB cW cL o F ob nw tr qs sc (g_rot qs r) M N S n L T z (xu x 7 1) hh M Sp Ot Sv T) (q := (RX7, TX7, 10)) ⟨hx, hcd, hml, hown, hts⟩ (c_X7_thrown l D cI cB cW cL z (xu x 7 1) hh _ M ) (cwV 0 hts gL_law_X7_thrown rfl rfl rfl (by decide +kernel) ⟨Nat.le_of_ble_eq_true rfl, Nat.le_of_ble_eq_true rfl⟩) hK hP hD hS hA [95, 96] wLaw_MoC (by decide) wMo_adr2 wLaw_Mo 95 rfl rfl rfl hl.1 rfl (Nat.le_of_ble_eq_true rfl) dL_law_1562 ⟨hc, hs⟩ (fun H locs hP hD hS => ?_)
  refine kr_top (w := 1) rfl ?_
  refine kr_top (w := nI 1) rfl ?_
  refine lv_iload hx hcd dL_law_1565 (lv_at hl 1 rfl) ?_
  refine kr_ceq (tgt := 1572) hx hcd (by omega) (by omega) dL_law_1567 (by decide) (fun (c_1567 : 1 = 1) => ?_) (fun (c_1567 : ¬ 1 = 1) => absurd c_1567 (by omega))
  refine lv_iload hx hcd dL_law_1572 (lv_at hl 1 rfl) ?_
  refine kr_zne (tgt := 1589) hx hcd (by omega) dL_law_1574 (by decide) (fun (c_1574 : 0 < 1) => ?_) (fun (c_1574 : 1 = 0) => absurd c_1574 (by omega))
  refine lv_goto (tgt := 1812) hx hcd dL_law_1589 (by decide) ?_
  exact kk F N M S n r L T (xu x 7 1) hh Sp Ot Sv (linv_x hV rfl rfl) H locs ls hP hD hS (lv_sub hl [2, 3, 4, 5, 6] rfl)

set_option maxHeartbeats 4000000 in
set_option maxRecDepth 100000 in
theorem law_append__ok {pp : Program} {l : Launch} {ee : Env} {ss : State} {mm : MethodId} {below : List Frame} {meth : Method} {cc : Code} {bb Ls : Nat} {xs : Nat → Int32} {D : va_G} {cI cB cW cL : ClassId} (C : LFix pp l ss mm cc bb Ls xs D cI cB cW cL) {o : Nat} {F : Nat → Int64} {ob nw tr : Nat → Nat} {qs : Nat → Nat → Nat} {sc : Nat → Nat} {N : kM} {S : Nat → kM} {n r L : Nat} {T : Nat → Int32} {z : Nat → Nat} {x : Nat → Int32} {hh : Int64} {Sp Ot Sv : Nat → Int32} {M : kM} (hV : LInv M S n r L T Sv x) {i : Nat} (hi : i + 5 ≤ Ls) {v : Nat} (h1 : xs (i + 1) = nI v) (hv : v ≤ 127) (hLt : L < 100)  {H : Heap} {locs : List Loc} {ls : Array Slot} {cells slots : Nat} {Q : State → Prop} (hc : cells + 1 ≤ 601024) (hs : slots + 6 ≤ 7293034) (hP : va_P D vwCl (wLaw cI cB cW cL o F ob nw tr qs sc (g_rot qs r) M N S n L T z x hh M Sp Ot Sv T) H) (hD : va_D (fun q : Nat => ss.heap.size ≤ q) (wLaw cI cB cW cL o F ob nw tr qs sc (g_rot qs r) M N S n L T z x hh M Sp Ot Sv T)) (hS : va_S (fun q : Nat => ss.heap.size ≤ q) ss.heap H locs) (hl : lv_has ls 9 [(0, .ref bb), (1, .ref (ob 0)), (2, .ref (z 0)), (3, .ref o), (4, .int (nI i))]) (kk : LNext pp l ee ss mm below meth cc bb D cI cB cW cL o ob nw tr qs sc z i cells slots Q) : W pp l ee room_1 ss mm #[Value.ref bb] below meth cc H locs cells slots Q (F0 mm 1672 ls []) := by
  obtain ⟨hx, hcd, hml, hown, hts, hX, hbl, hst, hZ, hN, hK, hL9⟩ := C
  obtain ⟨hI, hn, hr, hL, hT, hx4, hx6, hsv⟩ := id hV
  have hA : ∀ q : Nat, ss.heap.size ≤ q → (fun q : Nat => ss.heap.size ≤ q) q := fun _ h => h
  have hbA : ¬ (fun q : Nat => ss.heap.size ≤ q) bb := Nat.not_le.mpr hbl
  refine lv_aload_n hx hcd dL_law_1672 rfl (lv_at hl 1 rfl) ?_
  refine lv_aload_n hx hcd dL_law_1673 rfl (lv_at hl 0 rfl) ?_
  refine lv_iload hx hcd dL_law_1674 (lv_at hl 4 rfl) ?_
  refine lv_iconst (v := nI 1) hx hcd dL_law_1676 (by decide) ?_
  refine kr_add hx hcd dL_law_1677 ?_
  refine kl_sld hx hcd hX hbl hbA hS (k := i + 1) (by omega) hL9 dL_law_1678 ?_
  refine kr_top (w := nI v) h1 ?_
  refine lv_aload_n hx hcd dL_law_1679 rfl (lv_at hl 3 rfl) ?_
  refine kl_S (As := [.ref (ob 0), .int (nI v), .ref o]) (rest := []) (ws2 := wLaw cI cB cW cL o (vp_updL F 0 ((nI (L + 1) : Int32).toInt64)) ob nw tr qs sc (g_rot qs r) M N S n (L + 1) (upd T (L) (nI v)) z x hh M Sp Ot Sv T) ⟨hx, hcd, hml, hown, hts⟩ (c_L_append__ok l hst D cI cB cW cL o F ob nw tr qs sc (g_rot qs r) N S n L T _ M v hv hLt) (vx_cwSW 3 hts gL_law_L_append rfl rfl rfl (by decide +kernel) ⟨Nat.le_of_ble_eq_true rfl, Nat.le_of_ble_eq_true rfl⟩) hZ hN hK hP hD hS hA [0, 1, 2, 3, 4, 5, 6, 7, 8, 9, 10, 11, 12, 13, 14, 15, 16, 17, 18, 19, 20, 21, 22, 23, 24, 25, 26, 27, 28, 29, 30, 31, 32, 33, 34, 35, 36, 37, 38, 39, 40, 41, 42, 43, 44, 45, 46, 47, 48, 49, 50, 51, 52, 53, 54, 55, 56, 57, 58, 59, 60, 61, 62, 63, 64, 65, 66, 67, 68, 69, 70, 71, 72, 73, 74, 75, 76, 77, 78, 79, 80, 81, 82, 83, 84, 85, 86, 87, 88, 89, 90, 91, 92, 93, 94] wLaw_LXC nd_LX wLX_adr wLaw_LX rfl hl.1 rfl (Nat.le_of_ble_eq_true rfl) dL_law_1680 ⟨hc, hs⟩ (fun H locs hP hD hS => ?_)
  refine lv_istore (lv' := [(5, .int (nI 0)), (0, .ref bb), (1, .ref (ob 0)), (2, .ref (z 0)), (3, .ref o), (4, .int (nI i))]) hx hcd dL_law_1683 hl (by decide) rfl (fun ls hl => ?_)
  refine lv_aload_n hx hcd dL_law_1685 rfl (lv_at hl 3 rfl) ?_
  refine lv_aload_n hx hcd dL_law_1686 rfl (lv_at hl 1 rfl) ?_
  refine lv_iload hx hcd dL_law_1687 (lv_at hl 5 rfl) ?_
  refine lv_iconst (v := nI 1) hx hcd dL_law_1689 (by decide) ?_
  refine kr_add hx hcd dL_law_1690 ?_
  refine kl_sld hx hcd hX hbl hbA hS (k := i + 1) (by omega) hL9 dL_law_1691 ?_
  refine kr_top (w := nI v) h1 ?_
  refine kr_Vi (As := [.int (nI v)]) (rest := []) (ws2 := wLaw cI cB cW cL o (vp_updL F 0 ((nI (L + 1) : Int32).toInt64)) ob nw tr qs sc (g_rot qs r) M N S n (L + 1) (upd T (L) (nI v)) z (xu (xu x 6 (nI (L + 1))) 7 0) hh M Sp Ot Sv (upd T (L) (nI v))) (q := (RX7, TX7, 10)) ⟨hx, hcd, hml, hown, hts⟩ (c_X7_append__ok l D cI cB cW cL z x hh Sp Ot Sv T _ M v L hv hx6 hLt) (cwV 1 hts gL_law_X7_append rfl rfl rfl (by decide +kernel) ⟨Nat.le_of_ble_eq_true rfl, Nat.le_of_ble_eq_true rfl⟩) hK hP hD hS hA [95, 96, 97, 98, 99, 100] wLaw_MAC (by decide) wMA_adr wLaw_MA 95 rfl rfl rfl hl.1 rfl (Nat.le_of_ble_eq_true rfl) dL_law_1692 ⟨hc, hs⟩ (fun H locs hP hD hS => ?_)
  refine lv_istore (lv' := [(6, .int (nI (L + 1))), (5, .int (nI 0)), (0, .ref bb), (1, .ref (ob 0)), (2, .ref (z 0)), (3, .ref o), (4, .int (nI i))]) hx hcd dL_law_1695 hl (by decide) rfl (fun ls hl => ?_)
  refine lv_aload_n hx hcd dL_law_1697 rfl (lv_at hl 4 rfl) ?_
  refine kr_Vi (As := []) (rest := []) (ws2 := wLaw cI cB cW cL o (vp_updL F 0 ((nI (L + 1) : Int32).toInt64)) ob nw tr qs sc (g_rot qs r) M N S n (L + 1) (upd T (L) (nI v)) z (xu (xu x 6 (nI (L + 1))) 7 0) hh M Sp Ot Sv (upd T (L) (nI v))) (q := (RX7, TX7, 10)) ⟨hx, hcd, hml, hown, hts⟩ (c_X7_thrown l D cI cB cW cL z (xu (xu x 6 (nI (L + 1))) 7 0) hh _ M ) (cwV 0 hts gL_law_X7_thrown rfl rfl rfl (by decide +kernel) ⟨Nat.le_of_ble_eq_true rfl, Nat.le_of_ble_eq_true rfl⟩) hK hP hD hS hA [95, 96] wLaw_MoC (by decide) wMo_adr2 wLaw_Mo 95 rfl rfl rfl hl.1 rfl (Nat.le_of_ble_eq_true rfl) dL_law_1698 ⟨hc, hs⟩ (fun H locs hP hD hS => ?_)
  refine kr_top (w := 0) rfl ?_
  refine kr_top (w := nI 0) rfl ?_
  refine lv_iload hx hcd dL_law_1701 (lv_at hl 1 rfl) ?_
  refine kr_ceq (tgt := 1708) hx hcd (by omega) (by omega) dL_law_1703 (by decide) (fun (c_1703 : 0 = 0) => ?_) (fun (c_1703 : ¬ 0 = 0) => absurd c_1703 (by omega))
  refine lv_iload hx hcd dL_law_1708 (lv_at hl 1 rfl) ?_
  refine kr_zne (tgt := 1725) hx hcd (by omega) dL_law_1710 (by decide) (fun (c_1710 : 0 < 0) => absurd c_1710 (by omega)) (fun (c_1710 : 0 = 0) => ?_)
  refine lv_aload_n hx hcd dL_law_1713 rfl (lv_at hl 5 rfl) ?_
  refine lv_iconst (v := nI 0) hx hcd dL_law_1714 (by decide) ?_
  refine kl_lald hx hcd hK hP 0 3 rfl rfl (v := (nI (L + 1) : Int32).toInt64) (by omega) (by decide) updL_0 dL_law_1715 ?_
  refine lv_iload hx hcd dL_law_1716 (lv_at hl 0 rfl) ?_
  refine lv_i2l hx hcd dL_law_1718 rfl ?_
  refine kl_lcmp hx hcd (rfl) dL_law_1719 ?_
  refine kr_zeq (tgt := 1725) hx hcd (by omega) dL_law_1720 (by decide) (fun (c_1720 : 0 = 0) => ?_) (fun (c_1720 : 0 < 0) => absurd c_1720 (by omega))
  refine lv_goto (tgt := 1812) hx hcd dL_law_1725 (by decide) ?_
  exact kk (vp_updL F 0 ((nI (L + 1) : Int32).toInt64)) N M S n r (L + 1) (upd T (L) (nI v)) (xu (xu x 6 (nI (L + 1))) 7 0) hh Sp Ot Sv (linv_app hV hv hLt rfl rfl) H locs ls hP hD hS (lv_sub hl [2, 3, 4, 5, 6] rfl)

set_option maxHeartbeats 4000000 in
set_option maxRecDepth 100000 in
theorem law_append__e1 {pp : Program} {l : Launch} {ee : Env} {ss : State} {mm : MethodId} {below : List Frame} {meth : Method} {cc : Code} {bb Ls : Nat} {xs : Nat → Int32} {D : va_G} {cI cB cW cL : ClassId} (C : LFix pp l ss mm cc bb Ls xs D cI cB cW cL) {o : Nat} {F : Nat → Int64} {ob nw tr : Nat → Nat} {qs : Nat → Nat → Nat} {sc : Nat → Nat} {N : kM} {S : Nat → kM} {n r L : Nat} {T : Nat → Int32} {z : Nat → Nat} {x : Nat → Int32} {hh : Int64} {Sp Ot Sv : Nat → Int32} {M : kM} (hV : LInv M S n r L T Sv x) {i : Nat} (hi : i + 5 ≤ Ls)  (hg : g_in (xs (i + 1)) 0 127 = false) {H : Heap} {locs : List Loc} {ls : Array Slot} {cells slots : Nat} {Q : State → Prop} (hc : cells + 1 ≤ 601024) (hs : slots + 6 ≤ 7293034) (hP : va_P D vwCl (wLaw cI cB cW cL o F ob nw tr qs sc (g_rot qs r) M N S n L T z x hh M Sp Ot Sv T) H) (hD : va_D (fun q : Nat => ss.heap.size ≤ q) (wLaw cI cB cW cL o F ob nw tr qs sc (g_rot qs r) M N S n L T z x hh M Sp Ot Sv T)) (hS : va_S (fun q : Nat => ss.heap.size ≤ q) ss.heap H locs) (hl : lv_has ls 9 [(0, .ref bb), (1, .ref (ob 0)), (2, .ref (z 0)), (3, .ref o), (4, .int (nI i))]) (kk : LNext pp l ee ss mm below meth cc bb D cI cB cW cL o ob nw tr qs sc z i cells slots Q) : W pp l ee room_1 ss mm #[Value.ref bb] below meth cc H locs cells slots Q (F0 mm 1672 ls []) := by
  obtain ⟨hx, hcd, hml, hown, hts, hX, hbl, hst, hZ, hN, hK, hL9⟩ := C
  obtain ⟨hI, hn, hr, hL, hT, hx4, hx6, hsv⟩ := id hV
  have hA : ∀ q : Nat, ss.heap.size ≤ q → (fun q : Nat => ss.heap.size ≤ q) q := fun _ h => h
  have hbA : ¬ (fun q : Nat => ss.heap.size ≤ q) bb := Nat.not_le.mpr hbl
  refine lv_aload_n hx hcd dL_law_1672 rfl (lv_at hl 1 rfl) ?_
  refine lv_aload_n hx hcd dL_law_1673 rfl (lv_at hl 0 rfl) ?_
  refine lv_iload hx hcd dL_law_1674 (lv_at hl 4 rfl) ?_
  refine lv_iconst (v := nI 1) hx hcd dL_law_1676 (by decide) ?_
  refine kr_add hx hcd dL_law_1677 ?_
  refine kl_sld hx hcd hX hbl hbA hS (k := i + 1) (by omega) hL9 dL_law_1678 ?_
  refine lv_aload_n hx hcd dL_law_1679 rfl (lv_at hl 3 rfl) ?_
  refine kl_S (As := [.ref (ob 0), .int (xs (i + 1)), .ref o]) (rest := []) (ws2 := wLaw cI cB cW cL o F ob nw tr qs sc (g_rot qs r) M N S n L T z x hh M Sp Ot Sv T) ⟨hx, hcd, hml, hown, hts⟩ (c_L_append__e1 l hst D cI cB cW cL o F ob nw tr qs sc (g_rot qs r) N S n L T _ M (xs (i + 1)) hg) (vx_cwSW 3 hts gL_law_L_append rfl rfl rfl (by decide +kernel) ⟨Nat.le_of_ble_eq_true rfl, Nat.le_of_ble_eq_true rfl⟩) hZ hN hK hP hD hS hA [0, 1, 2, 3, 4, 5, 6, 7, 8, 9, 10, 11, 12, 13, 14, 15, 16, 17, 18, 19, 20, 21, 22, 23, 24, 25, 26, 27, 28, 29, 30, 31, 32, 33, 34, 35, 36, 37, 38, 39, 40, 41, 42, 43, 44, 45, 46, 47, 48, 49, 50, 51, 52, 53, 54, 55, 56, 57, 58, 59, 60, 61, 62, 63, 64, 65, 66, 67, 68, 69, 70, 71, 72, 73, 74, 75, 76, 77, 78, 79, 80, 81, 82, 83, 84, 85, 86, 87, 88, 89, 90, 91, 92, 93, 94] wLaw_LXC nd_LX wLX_adr wLaw_LX rfl hl.1 rfl (Nat.le_of_ble_eq_true rfl) dL_law_1680 ⟨hc, hs⟩ (fun H locs hP hD hS => ?_)
  refine lv_istore (lv' := [(5, .int (nI 1)), (0, .ref bb), (1, .ref (ob 0)), (2, .ref (z 0)), (3, .ref o), (4, .int (nI i))]) hx hcd dL_law_1683 hl (by decide) rfl (fun ls hl => ?_)
  refine lv_aload_n hx hcd dL_law_1685 rfl (lv_at hl 3 rfl) ?_
  refine lv_aload_n hx hcd dL_law_1686 rfl (lv_at hl 1 rfl) ?_
  refine lv_iload hx hcd dL_law_1687 (lv_at hl 5 rfl) ?_
  refine lv_iconst (v := nI 1) hx hcd dL_law_1689 (by decide) ?_
  refine kr_add hx hcd dL_law_1690 ?_
  refine kl_sld hx hcd hX hbl hbA hS (k := i + 1) (by omega) hL9 dL_law_1691 ?_
  refine kr_Vi (As := [.int (xs (i + 1))]) (rest := []) (ws2 := wLaw cI cB cW cL o F ob nw tr qs sc (g_rot qs r) M N S n L T z (xu x 7 1) hh M Sp Ot Sv T) (q := (RX7, TX7, 10)) ⟨hx, hcd, hml, hown, hts⟩ (c_X7_append__b1 l D cI cB cW cL z x hh Sp Ot Sv T _ M (xs (i + 1)) hg) (cwV 1 hts gL_law_X7_append rfl rfl rfl (by decide +kernel) ⟨Nat.le_of_ble_eq_true rfl, Nat.le_of_ble_eq_true rfl⟩) hK hP hD hS hA [95, 96, 97, 98, 99, 100] wLaw_MAC (by decide) wMA_adr wLaw_MA 95 rfl rfl rfl hl.1 rfl (Nat.le_of_ble_eq_true rfl) dL_law_1692 ⟨hc, hs⟩ (fun H locs hP hD hS => ?_)
  refine lv_istore (lv' := [(6, .int (nI 0)), (5, .int (nI 1)), (0, .ref bb), (1, .ref (ob 0)), (2, .ref (z 0)), (3, .ref o), (4, .int (nI i))]) hx hcd dL_law_1695 hl (by decide) rfl (fun ls hl => ?_)
  refine lv_aload_n hx hcd dL_law_1697 rfl (lv_at hl 4 rfl) ?_
  refine kr_Vi (As := []) (rest := []) (ws2 := wLaw cI cB cW cL o F ob nw tr qs sc (g_rot qs r) M N S n L T z (xu x 7 1) hh M Sp Ot Sv T) (q := (RX7, TX7, 10)) ⟨hx, hcd, hml, hown, hts⟩ (c_X7_thrown l D cI cB cW cL z (xu x 7 1) hh _ M ) (cwV 0 hts gL_law_X7_thrown rfl rfl rfl (by decide +kernel) ⟨Nat.le_of_ble_eq_true rfl, Nat.le_of_ble_eq_true rfl⟩) hK hP hD hS hA [95, 96] wLaw_MoC (by decide) wMo_adr2 wLaw_Mo 95 rfl rfl rfl hl.1 rfl (Nat.le_of_ble_eq_true rfl) dL_law_1698 ⟨hc, hs⟩ (fun H locs hP hD hS => ?_)
  refine kr_top (w := 1) rfl ?_
  refine kr_top (w := nI 1) rfl ?_
  refine lv_iload hx hcd dL_law_1701 (lv_at hl 1 rfl) ?_
  refine kr_ceq (tgt := 1708) hx hcd (by omega) (by omega) dL_law_1703 (by decide) (fun (c_1703 : 1 = 1) => ?_) (fun (c_1703 : ¬ 1 = 1) => absurd c_1703 (by omega))
  refine lv_iload hx hcd dL_law_1708 (lv_at hl 1 rfl) ?_
  refine kr_zne (tgt := 1725) hx hcd (by omega) dL_law_1710 (by decide) (fun (c_1710 : 0 < 1) => ?_) (fun (c_1710 : 1 = 0) => absurd c_1710 (by omega))
  refine lv_goto (tgt := 1812) hx hcd dL_law_1725 (by decide) ?_
  exact kk F N M S n r L T (xu x 7 1) hh Sp Ot Sv (linv_x hV rfl rfl) H locs ls hP hD hS (lv_sub hl [2, 3, 4, 5, 6] rfl)

set_option maxHeartbeats 4000000 in
set_option maxRecDepth 100000 in
theorem law_append__e2 {pp : Program} {l : Launch} {ee : Env} {ss : State} {mm : MethodId} {below : List Frame} {meth : Method} {cc : Code} {bb Ls : Nat} {xs : Nat → Int32} {D : va_G} {cI cB cW cL : ClassId} (C : LFix pp l ss mm cc bb Ls xs D cI cB cW cL) {o : Nat} {F : Nat → Int64} {ob nw tr : Nat → Nat} {qs : Nat → Nat → Nat} {sc : Nat → Nat} {N : kM} {S : Nat → kM} {n r L : Nat} {T : Nat → Int32} {z : Nat → Nat} {x : Nat → Int32} {hh : Int64} {Sp Ot Sv : Nat → Int32} {M : kM} (hV : LInv M S n r 100 T Sv x) {i : Nat} (hi : i + 5 ≤ Ls) {v : Nat} (h1 : xs (i + 1) = nI v) (hv : v ≤ 127)  {H : Heap} {locs : List Loc} {ls : Array Slot} {cells slots : Nat} {Q : State → Prop} (hc : cells + 1 ≤ 601024) (hs : slots + 6 ≤ 7293034) (hP : va_P D vwCl (wLaw cI cB cW cL o F ob nw tr qs sc (g_rot qs r) M N S n 100 T z x hh M Sp Ot Sv T) H) (hD : va_D (fun q : Nat => ss.heap.size ≤ q) (wLaw cI cB cW cL o F ob nw tr qs sc (g_rot qs r) M N S n 100 T z x hh M Sp Ot Sv T)) (hS : va_S (fun q : Nat => ss.heap.size ≤ q) ss.heap H locs) (hl : lv_has ls 9 [(0, .ref bb), (1, .ref (ob 0)), (2, .ref (z 0)), (3, .ref o), (4, .int (nI i))]) (kk : LNext pp l ee ss mm below meth cc bb D cI cB cW cL o ob nw tr qs sc z i cells slots Q) : W pp l ee room_1 ss mm #[Value.ref bb] below meth cc H locs cells slots Q (F0 mm 1672 ls []) := by
  obtain ⟨hx, hcd, hml, hown, hts, hX, hbl, hst, hZ, hN, hK, hL9⟩ := C
  obtain ⟨hI, hn, hr, hL, hT, hx4, hx6, hsv⟩ := id hV
  have hA : ∀ q : Nat, ss.heap.size ≤ q → (fun q : Nat => ss.heap.size ≤ q) q := fun _ h => h
  have hbA : ¬ (fun q : Nat => ss.heap.size ≤ q) bb := Nat.not_le.mpr hbl
  refine lv_aload_n hx hcd dL_law_1672 rfl (lv_at hl 1 rfl) ?_
  refine lv_aload_n hx hcd dL_law_1673 rfl (lv_at hl 0 rfl) ?_
  refine lv_iload hx hcd dL_law_1674 (lv_at hl 4 rfl) ?_
  refine lv_iconst (v := nI 1) hx hcd dL_law_1676 (by decide) ?_
  refine kr_add hx hcd dL_law_1677 ?_
  refine kl_sld hx hcd hX hbl hbA hS (k := i + 1) (by omega) hL9 dL_law_1678 ?_
  refine kr_top (w := nI v) h1 ?_
  refine lv_aload_n hx hcd dL_law_1679 rfl (lv_at hl 3 rfl) ?_
  refine kl_S (As := [.ref (ob 0), .int (nI v), .ref o]) (rest := []) (ws2 := wLaw cI cB cW cL o F ob nw tr qs sc (g_rot qs r) M N S n 100 T z x hh M Sp Ot Sv T) ⟨hx, hcd, hml, hown, hts⟩ (c_L_append__e2 l hst D cI cB cW cL o F ob nw tr qs sc (g_rot qs r) N S n 100 T _ M v hv) (vx_cwSW 3 hts gL_law_L_append rfl rfl rfl (by decide +kernel) ⟨Nat.le_of_ble_eq_true rfl, Nat.le_of_ble_eq_true rfl⟩) hZ hN hK hP hD hS hA [0, 1, 2, 3, 4, 5, 6, 7, 8, 9, 10, 11, 12, 13, 14, 15, 16, 17, 18, 19, 20, 21, 22, 23, 24, 25, 26, 27, 28, 29, 30, 31, 32, 33, 34, 35, 36, 37, 38, 39, 40, 41, 42, 43, 44, 45, 46, 47, 48, 49, 50, 51, 52, 53, 54, 55, 56, 57, 58, 59, 60, 61, 62, 63, 64, 65, 66, 67, 68, 69, 70, 71, 72, 73, 74, 75, 76, 77, 78, 79, 80, 81, 82, 83, 84, 85, 86, 87, 88, 89, 90, 91, 92, 93, 94] wLaw_LXC nd_LX wLX_adr wLaw_LX rfl hl.1 rfl (Nat.le_of_ble_eq_true rfl) dL_law_1680 ⟨hc, hs⟩ (fun H locs hP hD hS => ?_)
  refine lv_istore (lv' := [(5, .int (nI 2)), (0, .ref bb), (1, .ref (ob 0)), (2, .ref (z 0)), (3, .ref o), (4, .int (nI i))]) hx hcd dL_law_1683 hl (by decide) rfl (fun ls hl => ?_)
  refine lv_aload_n hx hcd dL_law_1685 rfl (lv_at hl 3 rfl) ?_
  refine lv_aload_n hx hcd dL_law_1686 rfl (lv_at hl 1 rfl) ?_
  refine lv_iload hx hcd dL_law_1687 (lv_at hl 5 rfl) ?_
  refine lv_iconst (v := nI 1) hx hcd dL_law_1689 (by decide) ?_
  refine kr_add hx hcd dL_law_1690 ?_
  refine kl_sld hx hcd hX hbl hbA hS (k := i + 1) (by omega) hL9 dL_law_1691 ?_
  refine kr_top (w := nI v) h1 ?_
  refine kr_Vi (As := [.int (nI v)]) (rest := []) (ws2 := wLaw cI cB cW cL o F ob nw tr qs sc (g_rot qs r) M N S n 100 T z (xu x 7 2) hh M Sp Ot Sv T) (q := (RX7, TX7, 10)) ⟨hx, hcd, hml, hown, hts⟩ (c_X7_append__b2 l D cI cB cW cL z x hh Sp Ot Sv T _ M v hv hx6) (cwV 1 hts gL_law_X7_append rfl rfl rfl (by decide +kernel) ⟨Nat.le_of_ble_eq_true rfl, Nat.le_of_ble_eq_true rfl⟩) hK hP hD hS hA [95, 96, 97, 98, 99, 100] wLaw_MAC (by decide) wMA_adr wLaw_MA 95 rfl rfl rfl hl.1 rfl (Nat.le_of_ble_eq_true rfl) dL_law_1692 ⟨hc, hs⟩ (fun H locs hP hD hS => ?_)
  refine lv_istore (lv' := [(6, .int (nI 0)), (5, .int (nI 2)), (0, .ref bb), (1, .ref (ob 0)), (2, .ref (z 0)), (3, .ref o), (4, .int (nI i))]) hx hcd dL_law_1695 hl (by decide) rfl (fun ls hl => ?_)
  refine lv_aload_n hx hcd dL_law_1697 rfl (lv_at hl 4 rfl) ?_
  refine kr_Vi (As := []) (rest := []) (ws2 := wLaw cI cB cW cL o F ob nw tr qs sc (g_rot qs r) M N S n 100 T z (xu x 7 2) hh M Sp Ot Sv T) (q := (RX7, TX7, 10)) ⟨hx, hcd, hml, hown, hts⟩ (c_X7_thrown l D cI cB cW cL z (xu x 7 2) hh _ M ) (cwV 0 hts gL_law_X7_thrown rfl rfl rfl (by decide +kernel) ⟨Nat.le_of_ble_eq_true rfl, Nat.le_of_ble_eq_true rfl⟩) hK hP hD hS hA [95, 96] wLaw_MoC (by decide) wMo_adr2 wLaw_Mo 95 rfl rfl rfl hl.1 rfl (Nat.le_of_ble_eq_true rfl) dL_law_1698 ⟨hc, hs⟩ (fun H locs hP hD hS => ?_)
  refine kr_top (w := 2) rfl ?_
  refine kr_top (w := nI 2) rfl ?_
  refine lv_iload hx hcd dL_law_1701 (lv_at hl 1 rfl) ?_
  refine kr_ceq (tgt := 1708) hx hcd (by omega) (by omega) dL_law_1703 (by decide) (fun (c_1703 : 2 = 2) => ?_) (fun (c_1703 : ¬ 2 = 2) => absurd c_1703 (by omega))
  refine lv_iload hx hcd dL_law_1708 (lv_at hl 1 rfl) ?_
  refine kr_zne (tgt := 1725) hx hcd (by omega) dL_law_1710 (by decide) (fun (c_1710 : 0 < 2) => ?_) (fun (c_1710 : 2 = 0) => absurd c_1710 (by omega))
  refine lv_goto (tgt := 1812) hx hcd dL_law_1725 (by decide) ?_
  exact kk F N M S n r 100 T (xu x 7 2) hh Sp Ot Sv (linv_x hV rfl rfl) H locs ls hP hD hS (lv_sub hl [2, 3, 4, 5, 6] rfl)

set_option maxHeartbeats 4000000 in
set_option maxRecDepth 100000 in
theorem law_undo__ok {pp : Program} {l : Launch} {ee : Env} {ss : State} {mm : MethodId} {below : List Frame} {meth : Method} {cc : Code} {bb Ls : Nat} {xs : Nat → Int32} {D : va_G} {cI cB cW cL : ClassId} (C : LFix pp l ss mm cc bb Ls xs D cI cB cW cL) {o : Nat} {F : Nat → Int64} {ob nw tr : Nat → Nat} {qs : Nat → Nat → Nat} {sc : Nat → Nat} {N : kM} {S : Nat → kM} {n r L : Nat} {T : Nat → Int32} {z : Nat → Nat} {x : Nat → Int32} {hh : Int64} {Sp Ot Sv : Nat → Int32} {M : kM} {k : Nat} (hV : LInv M S (k + 1) r L T Sv x) {i : Nat} (hi : i + 5 ≤ Ls)   {H : Heap} {locs : List Loc} {ls : Array Slot} {cells slots : Nat} {Q : State → Prop} (hc : cells + 1 ≤ 601024) (hs : slots + 6 ≤ 7293034) (hP : va_P D vwCl (wLaw cI cB cW cL o F ob nw tr qs sc (g_rot qs r) M N S (k + 1) L T z x hh M Sp Ot Sv T) H) (hD : va_D (fun q : Nat => ss.heap.size ≤ q) (wLaw cI cB cW cL o F ob nw tr qs sc (g_rot qs r) M N S (k + 1) L T z x hh M Sp Ot Sv T)) (hS : va_S (fun q : Nat => ss.heap.size ≤ q) ss.heap H locs) (hl : lv_has ls 9 [(0, .ref bb), (1, .ref (ob 0)), (2, .ref (z 0)), (3, .ref o), (4, .int (nI i))]) (kk : LNext pp l ee ss mm below meth cc bb D cI cB cW cL o ob nw tr qs sc z i cells slots Q) : W pp l ee room_1 ss mm #[Value.ref bb] below meth cc H locs cells slots Q (F0 mm 1754 ls []) := by
  obtain ⟨hx, hcd, hml, hown, hts, hX, hbl, hst, hZ, hN, hK, hL9⟩ := C
  obtain ⟨hI, hn, hr, hL, hT, hx4, hx6, hsv⟩ := id hV
  have hA : ∀ q : Nat, ss.heap.size ≤ q → (fun q : Nat => ss.heap.size ≤ q) q := fun _ h => h
  have hbA : ¬ (fun q : Nat => ss.heap.size ≤ q) bb := Nat.not_le.mpr hbl
  refine lv_aload_n hx hcd dL_law_1754 rfl (lv_at hl 1 rfl) ?_
  refine lv_aload_n hx hcd dL_law_1755 rfl (lv_at hl 3 rfl) ?_
  refine kl_S (As := [.ref (ob 0), .ref o]) (rest := []) (ws2 := wLaw cI cB cW cL o (vp_updL F 0 ((nI k : Int32).toInt64)) ob nw tr qs sc (g_rot qs r) (S ((k + r) % 4)) N S k L T z x hh M Sp Ot Sv T) ⟨hx, hcd, hml, hown, hts⟩ (c_L_undo__ok l hst D cI cB cW cL o F ob nw tr qs sc (g_rot qs r) N S (k + 1) L T _ M r k (by omega)) (vx_cwSW 2 hts gL_law_L_undo rfl rfl rfl (by decide +kernel) ⟨Nat.le_of_ble_eq_true rfl, Nat.le_of_ble_eq_true rfl⟩) hZ hN hK hP hD hS hA [0, 1, 2, 3, 4, 5, 6, 7, 8, 9, 10, 11, 12, 13, 14, 15, 16, 17, 18, 19, 20, 21, 22, 23, 24, 25, 26, 27, 28, 29, 30, 31, 32, 33, 34, 35, 36, 37, 38, 39, 40, 41, 42, 43, 44, 45, 46, 47, 48, 49, 50, 51, 52, 53, 54, 55, 56, 57, 58, 59, 60, 61, 62, 63, 64, 65, 66, 67, 68, 69, 70, 71, 72, 73, 74, 75, 76, 77, 78, 79, 80, 81, 82, 83, 84, 85, 86, 87, 88, 89, 90, 91, 92, 93, 94] wLaw_LXC nd_LX wLX_adr wLaw_LX rfl hl.1 rfl (Nat.le_of_ble_eq_true rfl) dL_law_1756 ⟨hc, hs⟩ (fun H locs hP hD hS => ?_)
  refine lv_istore (lv' := [(5, .int (nI 0)), (0, .ref bb), (1, .ref (ob 0)), (2, .ref (z 0)), (3, .ref o), (4, .int (nI i))]) hx hcd dL_law_1759 hl (by decide) rfl (fun ls hl => ?_)
  refine lv_aload_n hx hcd dL_law_1761 rfl (lv_at hl 3 rfl) ?_
  refine kr_Vi (As := []) (rest := []) (ws2 := wLaw cI cB cW cL o (vp_updL F 0 ((nI k : Int32).toInt64)) ob nw tr qs sc (g_rot qs r) (S ((k + r) % 4)) N S k L T z (xu (xu x 4 (nI k)) 7 0) hh (va_cpy Sv M (581 * k) 0 581) Sp Ot Sv T) (q := (RX7, TX7, 10)) ⟨hx, hcd, hml, hown, hts⟩ (c_X7_undo__ok l D cI cB cW cL z x hh Sp Ot Sv T _ M k hx4 (by omega)) (cwV 0 hts gL_law_X7_undo rfl rfl rfl (by decide +kernel) ⟨Nat.le_of_ble_eq_true rfl, Nat.le_of_ble_eq_true rfl⟩) hK hP hD hS hA [95, 96, 97, 98, 99, 100] wLaw_MAC (by decide) wMA_adr wLaw_MA 95 rfl rfl rfl hl.1 rfl (Nat.le_of_ble_eq_true rfl) dL_law_1762 ⟨hc, hs⟩ (fun H locs hP hD hS => ?_)
  refine lv_istore (lv' := [(6, .int (nI k)), (5, .int (nI 0)), (0, .ref bb), (1, .ref (ob 0)), (2, .ref (z 0)), (3, .ref o), (4, .int (nI i))]) hx hcd dL_law_1765 hl (by decide) rfl (fun ls hl => ?_)
  refine lv_aload_n hx hcd dL_law_1767 rfl (lv_at hl 4 rfl) ?_
  refine kr_Vi (As := []) (rest := []) (ws2 := wLaw cI cB cW cL o (vp_updL F 0 ((nI k : Int32).toInt64)) ob nw tr qs sc (g_rot qs r) (S ((k + r) % 4)) N S k L T z (xu (xu x 4 (nI k)) 7 0) hh (va_cpy Sv M (581 * k) 0 581) Sp Ot Sv T) (q := (RX7, TX7, 10)) ⟨hx, hcd, hml, hown, hts⟩ (c_X7_thrown l D cI cB cW cL z (xu (xu x 4 (nI k)) 7 0) hh _ (va_cpy Sv M (581 * k) 0 581) ) (cwV 0 hts gL_law_X7_thrown rfl rfl rfl (by decide +kernel) ⟨Nat.le_of_ble_eq_true rfl, Nat.le_of_ble_eq_true rfl⟩) hK hP hD hS hA [95, 96] wLaw_MoC (by decide) wMo_adr2 wLaw_Mo 95 rfl rfl rfl hl.1 rfl (Nat.le_of_ble_eq_true rfl) dL_law_1768 ⟨hc, hs⟩ (fun H locs hP hD hS => ?_)
  refine kr_top (w := 0) rfl ?_
  refine kr_top (w := nI 0) rfl ?_
  refine lv_iload hx hcd dL_law_1771 (lv_at hl 1 rfl) ?_
  refine kr_ceq (tgt := 1778) hx hcd (by omega) (by omega) dL_law_1773 (by decide) (fun (c_1773 : 0 = 0) => ?_) (fun (c_1773 : ¬ 0 = 0) => absurd c_1773 (by omega))
  refine lv_iload hx hcd dL_law_1778 (lv_at hl 1 rfl) ?_
  refine kr_zne (tgt := 1795) hx hcd (by omega) dL_law_1780 (by decide) (fun (c_1780 : 0 < 0) => absurd c_1780 (by omega)) (fun (c_1780 : 0 = 0) => ?_)
  refine lv_aload_n hx hcd dL_law_1783 rfl (lv_at hl 5 rfl) ?_
  refine lv_iconst (v := nI 0) hx hcd dL_law_1784 (by decide) ?_
  refine kl_lald hx hcd hK hP 0 3 rfl rfl (v := (nI k : Int32).toInt64) (by omega) (by decide) updL_0 dL_law_1785 ?_
  refine lv_iload hx hcd dL_law_1786 (lv_at hl 0 rfl) ?_
  refine lv_i2l hx hcd dL_law_1788 rfl ?_
  refine kl_lcmp hx hcd (rfl) dL_law_1789 ?_
  refine kr_zeq (tgt := 1795) hx hcd (by omega) dL_law_1790 (by decide) (fun (c_1790 : 0 = 0) => ?_) (fun (c_1790 : 0 < 0) => absurd c_1790 (by omega))
  refine lv_goto (tgt := 1812) hx hcd dL_law_1795 (by decide) ?_
  obtain ⟨hP, hD⟩ := kr_re (ws2 := wLaw cI cB cW cL o (vp_updL F 0 ((nI k : Int32).toInt64)) ob nw tr qs sc (g_rot qs r) (va_cpy Sv M (581 * k) 0 581) N S k L T z (xu (xu x 4 (nI k)) 7 0) hh (va_cpy Sv M (581 * k) 0 581) Sp Ot Sv T) hP hD (wLaw_M (undo_M hV))
  exact kk (vp_updL F 0 ((nI k : Int32).toInt64)) N (va_cpy Sv M (581 * k) 0 581) S k r L T (xu (xu x 4 (nI k)) 7 0) hh Sp Ot Sv (linv_undo hV rfl rfl) H locs ls hP hD hS (lv_sub hl [2, 3, 4, 5, 6] rfl)

set_option maxHeartbeats 4000000 in
set_option maxRecDepth 100000 in
theorem law_undo__e1 {pp : Program} {l : Launch} {ee : Env} {ss : State} {mm : MethodId} {below : List Frame} {meth : Method} {cc : Code} {bb Ls : Nat} {xs : Nat → Int32} {D : va_G} {cI cB cW cL : ClassId} (C : LFix pp l ss mm cc bb Ls xs D cI cB cW cL) {o : Nat} {F : Nat → Int64} {ob nw tr : Nat → Nat} {qs : Nat → Nat → Nat} {sc : Nat → Nat} {N : kM} {S : Nat → kM} {n r L : Nat} {T : Nat → Int32} {z : Nat → Nat} {x : Nat → Int32} {hh : Int64} {Sp Ot Sv : Nat → Int32} {M : kM} (hV : LInv M S 0 r L T Sv x) {i : Nat} (hi : i + 5 ≤ Ls)   {H : Heap} {locs : List Loc} {ls : Array Slot} {cells slots : Nat} {Q : State → Prop} (hc : cells + 1 ≤ 601024) (hs : slots + 6 ≤ 7293034) (hP : va_P D vwCl (wLaw cI cB cW cL o F ob nw tr qs sc (g_rot qs r) M N S 0 L T z x hh M Sp Ot Sv T) H) (hD : va_D (fun q : Nat => ss.heap.size ≤ q) (wLaw cI cB cW cL o F ob nw tr qs sc (g_rot qs r) M N S 0 L T z x hh M Sp Ot Sv T)) (hS : va_S (fun q : Nat => ss.heap.size ≤ q) ss.heap H locs) (hl : lv_has ls 9 [(0, .ref bb), (1, .ref (ob 0)), (2, .ref (z 0)), (3, .ref o), (4, .int (nI i))]) (kk : LNext pp l ee ss mm below meth cc bb D cI cB cW cL o ob nw tr qs sc z i cells slots Q) : W pp l ee room_1 ss mm #[Value.ref bb] below meth cc H locs cells slots Q (F0 mm 1754 ls []) := by
  obtain ⟨hx, hcd, hml, hown, hts, hX, hbl, hst, hZ, hN, hK, hL9⟩ := C
  obtain ⟨hI, hn, hr, hL, hT, hx4, hx6, hsv⟩ := id hV
  have hA : ∀ q : Nat, ss.heap.size ≤ q → (fun q : Nat => ss.heap.size ≤ q) q := fun _ h => h
  have hbA : ¬ (fun q : Nat => ss.heap.size ≤ q) bb := Nat.not_le.mpr hbl
  refine lv_aload_n hx hcd dL_law_1754 rfl (lv_at hl 1 rfl) ?_
  refine lv_aload_n hx hcd dL_law_1755 rfl (lv_at hl 3 rfl) ?_
  refine kl_S (As := [.ref (ob 0), .ref o]) (rest := []) (ws2 := wLaw cI cB cW cL o F ob nw tr qs sc (g_rot qs r) M N S 0 L T z x hh M Sp Ot Sv T) ⟨hx, hcd, hml, hown, hts⟩ (c_L_undo__e1 l hst D cI cB cW cL o F ob nw tr qs sc (g_rot qs r) N S 0 L T _ M ) (vx_cwSW 2 hts gL_law_L_undo rfl rfl rfl (by decide +kernel) ⟨Nat.le_of_ble_eq_true rfl, Nat.le_of_ble_eq_true rfl⟩) hZ hN hK hP hD hS hA [0, 1, 2, 3, 4, 5, 6, 7, 8, 9, 10, 11, 12, 13, 14, 15, 16, 17, 18, 19, 20, 21, 22, 23, 24, 25, 26, 27, 28, 29, 30, 31, 32, 33, 34, 35, 36, 37, 38, 39, 40, 41, 42, 43, 44, 45, 46, 47, 48, 49, 50, 51, 52, 53, 54, 55, 56, 57, 58, 59, 60, 61, 62, 63, 64, 65, 66, 67, 68, 69, 70, 71, 72, 73, 74, 75, 76, 77, 78, 79, 80, 81, 82, 83, 84, 85, 86, 87, 88, 89, 90, 91, 92, 93, 94] wLaw_LXC nd_LX wLX_adr wLaw_LX rfl hl.1 rfl (Nat.le_of_ble_eq_true rfl) dL_law_1756 ⟨hc, hs⟩ (fun H locs hP hD hS => ?_)
  refine lv_istore (lv' := [(5, .int (nI 1)), (0, .ref bb), (1, .ref (ob 0)), (2, .ref (z 0)), (3, .ref o), (4, .int (nI i))]) hx hcd dL_law_1759 hl (by decide) rfl (fun ls hl => ?_)
  refine lv_aload_n hx hcd dL_law_1761 rfl (lv_at hl 3 rfl) ?_
  refine kr_Vi (As := []) (rest := []) (ws2 := wLaw cI cB cW cL o F ob nw tr qs sc (g_rot qs r) M N S 0 L T z (xu x 7 1) hh M Sp Ot Sv T) (q := (RX7, TX7, 10)) ⟨hx, hcd, hml, hown, hts⟩ (c_X7_undo__b1 l D cI cB cW cL z x hh Sp Ot Sv T _ M hx4) (cwV 0 hts gL_law_X7_undo rfl rfl rfl (by decide +kernel) ⟨Nat.le_of_ble_eq_true rfl, Nat.le_of_ble_eq_true rfl⟩) hK hP hD hS hA [95, 96, 97, 98, 99, 100] wLaw_MAC (by decide) wMA_adr wLaw_MA 95 rfl rfl rfl hl.1 rfl (Nat.le_of_ble_eq_true rfl) dL_law_1762 ⟨hc, hs⟩ (fun H locs hP hD hS => ?_)
  refine lv_istore (lv' := [(6, .int (nI 0)), (5, .int (nI 1)), (0, .ref bb), (1, .ref (ob 0)), (2, .ref (z 0)), (3, .ref o), (4, .int (nI i))]) hx hcd dL_law_1765 hl (by decide) rfl (fun ls hl => ?_)
  refine lv_aload_n hx hcd dL_law_1767 rfl (lv_at hl 4 rfl) ?_
  refine kr_Vi (As := []) (rest := []) (ws2 := wLaw cI cB cW cL o F ob nw tr qs sc (g_rot qs r) M N S 0 L T z (xu x 7 1) hh M Sp Ot Sv T) (q := (RX7, TX7, 10)) ⟨hx, hcd, hml, hown, hts⟩ (c_X7_thrown l D cI cB cW cL z (xu x 7 1) hh _ M ) (cwV 0 hts gL_law_X7_thrown rfl rfl rfl (by decide +kernel) ⟨Nat.le_of_ble_eq_true rfl, Nat.le_of_ble_eq_true rfl⟩) hK hP hD hS hA [95, 96] wLaw_MoC (by decide) wMo_adr2 wLaw_Mo 95 rfl rfl rfl hl.1 rfl (Nat.le_of_ble_eq_true rfl) dL_law_1768 ⟨hc, hs⟩ (fun H locs hP hD hS => ?_)
  refine kr_top (w := 1) rfl ?_
  refine kr_top (w := nI 1) rfl ?_
  refine lv_iload hx hcd dL_law_1771 (lv_at hl 1 rfl) ?_
  refine kr_ceq (tgt := 1778) hx hcd (by omega) (by omega) dL_law_1773 (by decide) (fun (c_1773 : 1 = 1) => ?_) (fun (c_1773 : ¬ 1 = 1) => absurd c_1773 (by omega))
  refine lv_iload hx hcd dL_law_1778 (lv_at hl 1 rfl) ?_
  refine kr_zne (tgt := 1795) hx hcd (by omega) dL_law_1780 (by decide) (fun (c_1780 : 0 < 1) => ?_) (fun (c_1780 : 1 = 0) => absurd c_1780 (by omega))
  refine lv_goto (tgt := 1812) hx hcd dL_law_1795 (by decide) ?_
  exact kk F N M S 0 r L T (xu x 7 1) hh Sp Ot Sv (linv_x hV rfl rfl) H locs ls hP hD hS (lv_sub hl [2, 3, 4, 5, 6] rfl)

set_option maxHeartbeats 4000000 in
set_option maxRecDepth 100000 in
theorem law_underWay__ok {pp : Program} {l : Launch} {ee : Env} {ss : State} {mm : MethodId} {below : List Frame} {meth : Method} {cc : Code} {bb Ls : Nat} {xs : Nat → Int32} {D : va_G} {cI cB cW cL : ClassId} (C : LFix pp l ss mm cc bb Ls xs D cI cB cW cL) {o : Nat} {F : Nat → Int64} {ob nw tr : Nat → Nat} {qs : Nat → Nat → Nat} {sc : Nat → Nat} {N : kM} {S : Nat → kM} {n r L : Nat} {T : Nat → Int32} {z : Nat → Nat} {x : Nat → Int32} {hh : Int64} {Sp Ot Sv : Nat → Int32} {M : kM} (hV : LInv M S n r L T Sv x) {i : Nat} (hi : i + 5 ≤ Ls)   {H : Heap} {locs : List Loc} {ls : Array Slot} {cells slots : Nat} {Q : State → Prop} (hc : cells + 1 ≤ 601024) (hs : slots + 6 ≤ 7293034) (hP : va_P D vwCl (wLaw cI cB cW cL o F ob nw tr qs sc (g_rot qs r) M N S n L T z x hh M Sp Ot Sv T) H) (hD : va_D (fun q : Nat => ss.heap.size ≤ q) (wLaw cI cB cW cL o F ob nw tr qs sc (g_rot qs r) M N S n L T z x hh M Sp Ot Sv T)) (hS : va_S (fun q : Nat => ss.heap.size ≤ q) ss.heap H locs) (hl : lv_has ls 9 [(0, .ref bb), (1, .ref (ob 0)), (2, .ref (z 0)), (3, .ref o), (4, .int (nI i))]) (kk : LNext pp l ee ss mm below meth cc bb D cI cB cW cL o ob nw tr qs sc z i cells slots Q) : W pp l ee room_1 ss mm #[Value.ref bb] below meth cc H locs cells slots Q (F0 mm 952 ls []) := by
  obtain ⟨hx, hcd, hml, hown, hts, hX, hbl, hst, hZ, hN, hK, hL9⟩ := C
  obtain ⟨hI, hn, hr, hL, hT, hx4, hx6, hsv⟩ := id hV
  have hA : ∀ q : Nat, ss.heap.size ≤ q → (fun q : Nat => ss.heap.size ≤ q) q := fun _ h => h
  have hbA : ¬ (fun q : Nat => ss.heap.size ≤ q) bb := Nat.not_le.mpr hbl
  have b577 := i_wyle hI
  refine lv_aload_n hx hcd dL_law_952 rfl (lv_at hl 1 rfl) ?_
  refine kr_Vi (As := []) (rest := []) (ws2 := wLaw cI cB cW cL o F ob nw tr qs sc (g_rot qs r) M N S n L T z x hh M Sp Ot Sv T) (q := (RX6, TX6, 5)) ⟨hx, hcd, hml, hown, hts⟩ (c_X6_underWay__ok l D cI cB cW cL ob nw tr qs sc (g_rot qs r) N S n L T _ M hI) (cwV 0 hts gL_law_X6_underWay rfl rfl rfl (by decide +kernel) ⟨Nat.le_of_ble_eq_true rfl, Nat.le_of_ble_eq_true rfl⟩) hK hP hD hS hA [1, 2, 3, 4, 5, 6, 7, 8, 9, 10, 11, 12, 13, 14, 15, 16, 17, 18, 19, 20, 21, 22, 23, 24, 25, 26, 27, 28, 29, 30, 31, 32, 33, 34, 35, 36, 37, 38, 39, 40, 41, 42, 43, 44, 45, 46, 47, 48, 49, 50, 51, 52, 53, 54, 55, 56, 57, 58, 59, 60, 61, 62, 63, 64, 65, 66, 67, 68, 69, 70, 71, 72, 73, 74, 75, 76, 77, 78, 79, 80, 81, 82, 83, 84, 85, 86, 87, 88, 89, 90, 91, 92, 93, 94] wLaw_XC wX_nd2 wX_adr wLaw_X 1 rfl rfl rfl hl.1 rfl (Nat.le_of_ble_eq_true rfl) dL_law_953 ⟨Nat.le_of_succ_le hc, Nat.le_trans (Nat.le_add_right _ _) hs⟩ (fun H locs hP hD hS => ?_)
  refine lv_aload_n hx hcd dL_law_956 rfl (lv_at hl 2 rfl) ?_
  refine kr_Vi (As := []) (rest := [.int (nI (wyN M))]) (ws2 := wLaw cI cB cW cL o F ob nw tr qs sc (g_rot qs r) M N S n L T z (xu x 7 0) hh M Sp Ot Sv T) (q := (RX7, TX7, 10)) ⟨hx, hcd, hml, hown, hts⟩ (c_X7_underWay__ok l D cI cB cW cL z x hh _ M hI) (cwV 0 hts gL_law_X7_underWay rfl rfl rfl (by decide +kernel) ⟨Nat.le_of_ble_eq_true rfl, Nat.le_of_ble_eq_true rfl⟩) hK hP hD hS hA [95, 96] wLaw_MoC (by decide) wMo_adr2 wLaw_Mo 95 rfl rfl rfl hl.1 rfl (Nat.le_of_ble_eq_true rfl) dL_law_957 ⟨Nat.le_of_succ_le hc, Nat.le_trans (Nat.le_add_right _ _) hs⟩ (fun H locs hP hD hS => ?_)
  refine kr_ceq (tgt := 1812) hx hcd (by omega) (by omega) dL_law_960 (by decide) (fun (c_960 : wyN M = wyN M) => ?_) (fun (c_960 : ¬ wyN M = wyN M) => absurd c_960 (not_not_intro rfl))
  refine W.widen (k := cells + 1) (n := slots + 6) (Nat.le_add_right _ _) (Nat.le_add_right _ _) ?_
  exact kk F N M S n r L T (xu x 7 0) hh Sp Ot Sv (linv_x hV rfl rfl) H locs ls hP hD hS (lv_sub hl [0, 1, 2, 3, 4] rfl)

set_option maxHeartbeats 4000000 in
set_option maxRecDepth 100000 in
theorem law_agreeing__ok {pp : Program} {l : Launch} {ee : Env} {ss : State} {mm : MethodId} {below : List Frame} {meth : Method} {cc : Code} {bb Ls : Nat} {xs : Nat → Int32} {D : va_G} {cI cB cW cL : ClassId} (C : LFix pp l ss mm cc bb Ls xs D cI cB cW cL) {o : Nat} {F : Nat → Int64} {ob nw tr : Nat → Nat} {qs : Nat → Nat → Nat} {sc : Nat → Nat} {N : kM} {S : Nat → kM} {n r L : Nat} {T : Nat → Int32} {z : Nat → Nat} {x : Nat → Int32} {hh : Int64} {Sp Ot Sv : Nat → Int32} {M : kM} (hV : LInv M S n r L T Sv x) {i : Nat} (hi : i + 5 ≤ Ls)   {H : Heap} {locs : List Loc} {ls : Array Slot} {cells slots : Nat} {Q : State → Prop} (hc : cells + 1 ≤ 601024) (hs : slots + 6 ≤ 7293034) (hP : va_P D vwCl (wLaw cI cB cW cL o F ob nw tr qs sc (g_rot qs r) M N S n L T z x hh M Sp Ot Sv T) H) (hD : va_D (fun q : Nat => ss.heap.size ≤ q) (wLaw cI cB cW cL o F ob nw tr qs sc (g_rot qs r) M N S n L T z x hh M Sp Ot Sv T)) (hS : va_S (fun q : Nat => ss.heap.size ≤ q) ss.heap H locs) (hl : lv_has ls 9 [(0, .ref bb), (1, .ref (ob 0)), (2, .ref (z 0)), (3, .ref o), (4, .int (nI i))]) (kk : LNext pp l ee ss mm below meth cc bb D cI cB cW cL o ob nw tr qs sc z i cells slots Q) : W pp l ee room_1 ss mm #[Value.ref bb] below meth cc H locs cells slots Q (F0 mm 1523 ls []) := by
  obtain ⟨hx, hcd, hml, hown, hts, hX, hbl, hst, hZ, hN, hK, hL9⟩ := C
  obtain ⟨hI, hn, hr, hL, hT, hx4, hx6, hsv⟩ := id hV
  have hA : ∀ q : Nat, ss.heap.size ≤ q → (fun q : Nat => ss.heap.size ≤ q) q := fun _ h => h
  have hbA : ¬ (fun q : Nat => ss.heap.size ≤ q) bb := Nat.not_le.mpr hbl
  have bp := pairs_le (M := M)
  refine lv_aload_n hx hcd dL_law_1523 rfl (lv_at hl 1 rfl) ?_
  refine kr_Vi (As := []) (rest := []) (ws2 := wLaw cI cB cW cL o F ob nw tr qs sc (g_rot qs r) M N S n L T z x hh M Sp Ot Sv T) (q := (RX6, TX6, 5)) ⟨hx, hcd, hml, hown, hts⟩ (c_X6_agreeing__ok l D cI cB cW cL ob nw tr qs sc (g_rot qs r) N S n L T _ M hI) (cwV 0 hts gL_law_X6_agreeing rfl rfl rfl (by decide +kernel) ⟨Nat.le_of_ble_eq_true rfl, Nat.le_of_ble_eq_true rfl⟩) hK hP hD hS hA [1, 2, 3, 4, 5, 6, 7, 8, 9, 10, 11, 12, 13, 14, 15, 16, 17, 18, 19, 20, 21, 22, 23, 24, 25, 26, 27, 28, 29, 30, 31, 32, 33, 34, 35, 36, 37, 38, 39, 40, 41, 42, 43, 44, 45, 46, 47, 48, 49, 50, 51, 52, 53, 54, 55, 56, 57, 58, 59, 60, 61, 62, 63, 64, 65, 66, 67, 68, 69, 70, 71, 72, 73, 74, 75, 76, 77, 78, 79, 80, 81, 82, 83, 84, 85, 86, 87, 88, 89, 90, 91, 92, 93, 94] wLaw_XC wX_nd2 wX_adr wLaw_X 1 rfl rfl rfl hl.1 rfl (Nat.le_of_ble_eq_true rfl) dL_law_1524 ⟨Nat.le_of_succ_le hc, Nat.le_trans (Nat.le_add_right _ _) hs⟩ (fun H locs hP hD hS => ?_)
  refine lv_aload_n hx hcd dL_law_1527 rfl (lv_at hl 2 rfl) ?_
  refine kr_Vi (As := []) (rest := [.int (nI (g_pairs M))]) (ws2 := wLaw cI cB cW cL o F ob nw tr qs sc (g_rot qs r) M N S n L T z (xu x 7 0) hh M Sp Ot Sv T) (q := (RX7, TX7, 10)) ⟨hx, hcd, hml, hown, hts⟩ (c_X7_agreeing__ok l D cI cB cW cL z x hh _ M ) (cwV 0 hts gL_law_X7_agreeing rfl rfl rfl (by decide +kernel) ⟨Nat.le_of_ble_eq_true rfl, Nat.le_of_ble_eq_true rfl⟩) hK hP hD hS hA [95, 96] wLaw_MoC (by decide) wMo_adr2 wLaw_Mo 95 rfl rfl rfl hl.1 rfl (Nat.le_of_ble_eq_true rfl) dL_law_1528 ⟨Nat.le_of_succ_le hc, Nat.le_trans (Nat.le_add_right _ _) hs⟩ (fun H locs hP hD hS => ?_)
  refine kr_ceq (tgt := 1812) hx hcd (by omega) (by omega) dL_law_1531 (by decide) (fun (c_1531 : g_pairs M = g_pairs M) => ?_) (fun (c_1531 : ¬ g_pairs M = g_pairs M) => absurd c_1531 (not_not_intro rfl))
  refine W.widen (k := cells + 1) (n := slots + 6) (Nat.le_add_right _ _) (Nat.le_add_right _ _) ?_
  exact kk F N M S n r L T (xu x 7 0) hh Sp Ot Sv (linv_x hV rfl rfl) H locs ls hP hD hS (lv_sub hl [0, 1, 2, 3, 4] rfl)

set_option maxHeartbeats 4000000 in
set_option maxRecDepth 100000 in
theorem law_untilRest__ok {pp : Program} {l : Launch} {ee : Env} {ss : State} {mm : MethodId} {below : List Frame} {meth : Method} {cc : Code} {bb Ls : Nat} {xs : Nat → Int32} {D : va_G} {cI cB cW cL : ClassId} (C : LFix pp l ss mm cc bb Ls xs D cI cB cW cL) {o : Nat} {F : Nat → Int64} {ob nw tr : Nat → Nat} {qs : Nat → Nat → Nat} {sc : Nat → Nat} {N : kM} {S : Nat → kM} {n r L : Nat} {T : Nat → Int32} {z : Nat → Nat} {x : Nat → Int32} {hh : Int64} {Sp Ot Sv : Nat → Int32} {M : kM} (hV : LInv M S n r L T Sv x) {i : Nat} (hi : i + 5 ≤ Ls)   {H : Heap} {locs : List Loc} {ls : Array Slot} {cells slots : Nat} {Q : State → Prop} (hc : cells + 1 ≤ 601024) (hs : slots + 6 ≤ 7293034) (hP : va_P D vwCl (wLaw cI cB cW cL o F ob nw tr qs sc (g_rot qs r) M N S n L T z x hh M Sp Ot Sv T) H) (hD : va_D (fun q : Nat => ss.heap.size ≤ q) (wLaw cI cB cW cL o F ob nw tr qs sc (g_rot qs r) M N S n L T z x hh M Sp Ot Sv T)) (hS : va_S (fun q : Nat => ss.heap.size ≤ q) ss.heap H locs) (hl : lv_has ls 9 [(0, .ref bb), (1, .ref (ob 0)), (2, .ref (z 0)), (3, .ref o), (4, .int (nI i))]) (kk : LNext pp l ee ss mm below meth cc bb D cI cB cW cL o ob nw tr qs sc z i cells slots Q) : W pp l ee room_1 ss mm #[Value.ref bb] below meth cc H locs cells slots Q (F0 mm 1592 ls []) := by
  obtain ⟨hx, hcd, hml, hown, hts, hX, hbl, hst, hZ, hN, hK, hL9⟩ := C
  obtain ⟨hI, hn, hr, hL, hT, hx4, hx6, hsv⟩ := id hV
  have hA : ∀ q : Nat, ss.heap.size ≤ q → (fun q : Nat => ss.heap.size ≤ q) q := fun _ h => h
  have hbA : ¬ (fun q : Nat => ss.heap.size ≤ q) bb := Nat.not_le.mpr hbl
  have bp := delC_le 1000 M
  refine lv_aload_n hx hcd dL_law_1592 rfl (lv_at hl 1 rfl) ?_
  refine kr_Vi (As := []) (rest := []) (ws2 := wLaw cI cB cW cL o F ob nw tr qs sc (g_rot qs r) M (g_del 1000 M) S n L T z x hh M Sp Ot Sv T) (q := (RX6, TX6, 5)) ⟨hx, hcd, hml, hown, hts⟩ (c_X6_untilRest__ok l D cI cB cW cL ob nw tr qs sc (g_rot qs r) N S n L T _ M hI) (cwV 0 hts gL_law_X6_untilRest rfl rfl rfl (by decide +kernel) ⟨Nat.le_of_ble_eq_true rfl, Nat.le_of_ble_eq_true rfl⟩) hK hP hD hS hA [1, 2, 3, 4, 5, 6, 7, 8, 9, 10, 11, 12, 13, 14, 15, 16, 17, 18, 19, 20, 21, 22, 23, 24, 25, 26, 27, 28, 29, 30, 31, 32, 33, 34, 35, 36, 37, 38, 39, 40, 41, 42, 43, 44, 45, 46, 47, 48, 49, 50, 51, 52, 53, 54, 55, 56, 57, 58, 59, 60, 61, 62, 63, 64, 65, 66, 67, 68, 69, 70, 71, 72, 73, 74, 75, 76, 77, 78, 79, 80, 81, 82, 83, 84, 85, 86, 87, 88, 89, 90, 91, 92, 93, 94] wLaw_XC wX_nd2 wX_adr wLaw_X 1 rfl rfl rfl hl.1 rfl (Nat.le_of_ble_eq_true rfl) dL_law_1593 ⟨Nat.le_of_succ_le hc, Nat.le_trans (Nat.le_add_right _ _) hs⟩ (fun H locs hP hD hS => ?_)
  refine lv_aload_n hx hcd dL_law_1596 rfl (lv_at hl 2 rfl) ?_
  refine kr_Vi (As := []) (rest := [.int (nI (g_delC 1000 M))]) (ws2 := wLaw cI cB cW cL o F ob nw tr qs sc (g_rot qs r) M (g_del 1000 M) S n L T z (xu x 7 0) hh M (va_cpy M Sp 0 0 581) Ot Sv T) (q := (RX7, TX7, 10)) ⟨hx, hcd, hml, hown, hts⟩ (c_X7_untilRest__ok l D cI cB cW cL z x hh Sp Ot Sv T _ M hI) (cwV 0 hts gL_law_X7_untilRest rfl rfl rfl (by decide +kernel) ⟨Nat.le_of_ble_eq_true rfl, Nat.le_of_ble_eq_true rfl⟩) hK hP hD hS hA [95, 96, 97, 98, 99, 100] wLaw_MAC (by decide) wMA_adr wLaw_MA 95 rfl rfl rfl hl.1 rfl (Nat.le_of_ble_eq_true rfl) dL_law_1597 ⟨Nat.le_of_succ_le hc, Nat.le_trans (Nat.le_add_right _ _) hs⟩ (fun H locs hP hD hS => ?_)
  refine kr_ceq (tgt := 1812) hx hcd (by omega) (by omega) dL_law_1600 (by decide) (fun (c_1600 : g_delC 1000 M = g_delC 1000 M) => ?_) (fun (c_1600 : ¬ g_delC 1000 M = g_delC 1000 M) => absurd c_1600 (not_not_intro rfl))
  refine W.widen (k := cells + 1) (n := slots + 6) (Nat.le_add_right _ _) (Nat.le_add_right _ _) ?_
  exact kk F (g_del 1000 M) M S n r L T (xu x 7 0) hh (va_cpy M Sp 0 0 581) Ot Sv (linv_x hV rfl rfl) H locs ls hP hD hS (lv_sub hl [0, 1, 2, 3, 4] rfl)

set_option maxHeartbeats 4000000 in
set_option maxRecDepth 100000 in
theorem law_agreeingAtRest__ok {pp : Program} {l : Launch} {ee : Env} {ss : State} {mm : MethodId} {below : List Frame} {meth : Method} {cc : Code} {bb Ls : Nat} {xs : Nat → Int32} {D : va_G} {cI cB cW cL : ClassId} (C : LFix pp l ss mm cc bb Ls xs D cI cB cW cL) {o : Nat} {F : Nat → Int64} {ob nw tr : Nat → Nat} {qs : Nat → Nat → Nat} {sc : Nat → Nat} {N : kM} {S : Nat → kM} {n r L : Nat} {T : Nat → Int32} {z : Nat → Nat} {x : Nat → Int32} {hh : Int64} {Sp Ot Sv : Nat → Int32} {M : kM} (hV : LInv M S n r L T Sv x) {i : Nat} (hi : i + 5 ≤ Ls)   {H : Heap} {locs : List Loc} {ls : Array Slot} {cells slots : Nat} {Q : State → Prop} (hc : cells + 1 ≤ 601024) (hs : slots + 6 ≤ 7293034) (hP : va_P D vwCl (wLaw cI cB cW cL o F ob nw tr qs sc (g_rot qs r) M N S n L T z x hh M Sp Ot Sv T) H) (hD : va_D (fun q : Nat => ss.heap.size ≤ q) (wLaw cI cB cW cL o F ob nw tr qs sc (g_rot qs r) M N S n L T z x hh M Sp Ot Sv T)) (hS : va_S (fun q : Nat => ss.heap.size ≤ q) ss.heap H locs) (hl : lv_has ls 9 [(0, .ref bb), (1, .ref (ob 0)), (2, .ref (z 0)), (3, .ref o), (4, .int (nI i))]) (kk : LNext pp l ee ss mm below meth cc bb D cI cB cW cL o ob nw tr qs sc z i cells slots Q) : W pp l ee room_1 ss mm #[Value.ref bb] below meth cc H locs cells slots Q (F0 mm 1605 ls []) := by
  obtain ⟨hx, hcd, hml, hown, hts, hX, hbl, hst, hZ, hN, hK, hL9⟩ := C
  obtain ⟨hI, hn, hr, hL, hT, hx4, hx6, hsv⟩ := id hV
  have hA : ∀ q : Nat, ss.heap.size ≤ q → (fun q : Nat => ss.heap.size ≤ q) q := fun _ h => h
  have hbA : ¬ (fun q : Nat => ss.heap.size ≤ q) bb := Nat.not_le.mpr hbl
  have bp := pairs_le (M := g_del 1000 M)
  refine lv_aload_n hx hcd dL_law_1605 rfl (lv_at hl 1 rfl) ?_
  refine kr_Vi (As := []) (rest := []) (ws2 := wLaw cI cB cW cL o F ob nw tr qs sc (g_rot qs r) M (g_del 1000 M) S n L T z x hh M Sp Ot Sv T) (q := (RX6, TX6, 5)) ⟨hx, hcd, hml, hown, hts⟩ (c_X6_agreeingAtRest__ok l D cI cB cW cL ob nw tr qs sc (g_rot qs r) N S n L T _ M hI) (cwV 0 hts gL_law_X6_agreeingAtRest rfl rfl rfl (by decide +kernel) ⟨Nat.le_of_ble_eq_true rfl, Nat.le_of_ble_eq_true rfl⟩) hK hP hD hS hA [1, 2, 3, 4, 5, 6, 7, 8, 9, 10, 11, 12, 13, 14, 15, 16, 17, 18, 19, 20, 21, 22, 23, 24, 25, 26, 27, 28, 29, 30, 31, 32, 33, 34, 35, 36, 37, 38, 39, 40, 41, 42, 43, 44, 45, 46, 47, 48, 49, 50, 51, 52, 53, 54, 55, 56, 57, 58, 59, 60, 61, 62, 63, 64, 65, 66, 67, 68, 69, 70, 71, 72, 73, 74, 75, 76, 77, 78, 79, 80, 81, 82, 83, 84, 85, 86, 87, 88, 89, 90, 91, 92, 93, 94] wLaw_XC wX_nd2 wX_adr wLaw_X 1 rfl rfl rfl hl.1 rfl (Nat.le_of_ble_eq_true rfl) dL_law_1606 ⟨Nat.le_of_succ_le hc, Nat.le_trans (Nat.le_add_right _ _) hs⟩ (fun H locs hP hD hS => ?_)
  refine lv_aload_n hx hcd dL_law_1609 rfl (lv_at hl 2 rfl) ?_
  refine kr_Vi (As := []) (rest := [.int (nI (g_pairs (g_del 1000 M)))]) (ws2 := wLaw cI cB cW cL o F ob nw tr qs sc (g_rot qs r) M (g_del 1000 M) S n L T z (xu x 7 0) hh M (va_cpy M Sp 0 0 581) Ot Sv T) (q := (RX7, TX7, 10)) ⟨hx, hcd, hml, hown, hts⟩ (c_X7_agreeingAtRest__ok l D cI cB cW cL z x hh Sp Ot Sv T _ M hI) (cwV 0 hts gL_law_X7_agreeingAtRest rfl rfl rfl (by decide +kernel) ⟨Nat.le_of_ble_eq_true rfl, Nat.le_of_ble_eq_true rfl⟩) hK hP hD hS hA [95, 96, 97, 98, 99, 100] wLaw_MAC (by decide) wMA_adr wLaw_MA 95 rfl rfl rfl hl.1 rfl (Nat.le_of_ble_eq_true rfl) dL_law_1610 ⟨Nat.le_of_succ_le hc, Nat.le_trans (Nat.le_add_right _ _) hs⟩ (fun H locs hP hD hS => ?_)
  refine kr_ceq (tgt := 1812) hx hcd (by omega) (by omega) dL_law_1613 (by decide) (fun (c_1613 : g_pairs (g_del 1000 M) = g_pairs (g_del 1000 M)) => ?_) (fun (c_1613 : ¬ g_pairs (g_del 1000 M) = g_pairs (g_del 1000 M)) => absurd c_1613 (not_not_intro rfl))
  refine W.widen (k := cells + 1) (n := slots + 6) (Nat.le_add_right _ _) (Nat.le_add_right _ _) ?_
  exact kk F (g_del 1000 M) M S n r L T (xu x 7 0) hh (va_cpy M Sp 0 0 581) Ot Sv (linv_x hV rfl rfl) H locs ls hP hD hS (lv_sub hl [0, 1, 2, 3, 4] rfl)

set_option maxHeartbeats 4000000 in
set_option maxRecDepth 100000 in
theorem law_mostNeeded__ok {pp : Program} {l : Launch} {ee : Env} {ss : State} {mm : MethodId} {below : List Frame} {meth : Method} {cc : Code} {bb Ls : Nat} {xs : Nat → Int32} {D : va_G} {cI cB cW cL : ClassId} (C : LFix pp l ss mm cc bb Ls xs D cI cB cW cL) {o : Nat} {F : Nat → Int64} {ob nw tr : Nat → Nat} {qs : Nat → Nat → Nat} {sc : Nat → Nat} {N : kM} {S : Nat → kM} {n r L : Nat} {T : Nat → Int32} {z : Nat → Nat} {x : Nat → Int32} {hh : Int64} {Sp Ot Sv : Nat → Int32} {M : kM} (hV : LInv M S n r L T Sv x) {i : Nat} (hi : i + 5 ≤ Ls)   {H : Heap} {locs : List Loc} {ls : Array Slot} {cells slots : Nat} {Q : State → Prop} (hc : cells + 1 ≤ 601024) (hs : slots + 6 ≤ 7293034) (hP : va_P D vwCl (wLaw cI cB cW cL o F ob nw tr qs sc (g_rot qs r) M N S n L T z x hh M Sp Ot Sv T) H) (hD : va_D (fun q : Nat => ss.heap.size ≤ q) (wLaw cI cB cW cL o F ob nw tr qs sc (g_rot qs r) M N S n L T z x hh M Sp Ot Sv T)) (hS : va_S (fun q : Nat => ss.heap.size ≤ q) ss.heap H locs) (hl : lv_has ls 9 [(0, .ref bb), (1, .ref (ob 0)), (2, .ref (z 0)), (3, .ref o), (4, .int (nI i))]) (kk : LNext pp l ee ss mm below meth cc bb D cI cB cW cL o ob nw tr qs sc z i cells slots Q) : W pp l ee room_1 ss mm #[Value.ref bb] below meth cc H locs cells slots Q (F0 mm 1618 ls []) := by
  obtain ⟨hx, hcd, hml, hown, hts, hX, hbl, hst, hZ, hN, hK, hL9⟩ := C
  obtain ⟨hI, hn, hr, hL, hT, hx4, hx6, hsv⟩ := id hV
  have hA : ∀ q : Nat, ss.heap.size ≤ q → (fun q : Nat => ss.heap.size ≤ q) q := fun _ h => h
  have hbA : ¬ (fun q : Nat => ss.heap.size ≤ q) bb := Nat.not_le.mpr hbl
  refine lv_aload_n hx hcd dL_law_1618 rfl (lv_at hl 1 rfl) ?_
  refine kr_Vi (As := []) (rest := []) (ws2 := wLaw cI cB cW cL o F ob nw tr qs sc (g_rot qs r) M (g_ndT M (wyN M)) S n L T z x hh M Sp Ot Sv T) (q := (RX6, TX6, 5)) ⟨hx, hcd, hml, hown, hts⟩ (c_X6_mostNeeded__ok l D cI cB cW cL ob nw tr qs sc (g_rot qs r) N S n L T _ M hI) (cwV 0 hts gL_law_X6_mostNeeded rfl rfl rfl (by decide +kernel) ⟨Nat.le_of_ble_eq_true rfl, Nat.le_of_ble_eq_true rfl⟩) hK hP hD hS hA [1, 2, 3, 4, 5, 6, 7, 8, 9, 10, 11, 12, 13, 14, 15, 16, 17, 18, 19, 20, 21, 22, 23, 24, 25, 26, 27, 28, 29, 30, 31, 32, 33, 34, 35, 36, 37, 38, 39, 40, 41, 42, 43, 44, 45, 46, 47, 48, 49, 50, 51, 52, 53, 54, 55, 56, 57, 58, 59, 60, 61, 62, 63, 64, 65, 66, 67, 68, 69, 70, 71, 72, 73, 74, 75, 76, 77, 78, 79, 80, 81, 82, 83, 84, 85, 86, 87, 88, 89, 90, 91, 92, 93, 94] wLaw_XC wX_nd2 wX_adr wLaw_X 1 rfl rfl rfl hl.1 rfl (Nat.le_of_ble_eq_true rfl) dL_law_1619 ⟨Nat.le_of_succ_le hc, Nat.le_trans (Nat.le_add_right _ _) hs⟩ (fun H locs hP hD hS => ?_)
  refine lv_aload_n hx hcd dL_law_1622 rfl (lv_at hl 2 rfl) ?_
  refine kr_Vi (As := []) (rest := [.int (g_need M)]) (ws2 := wLaw cI cB cW cL o F ob nw tr qs sc (g_rot qs r) M (g_ndT M (wyN M)) S n L T z (xu x 7 0) hh M (va_cpy M Sp 0 0 581) Ot Sv T) (q := (RX7, TX7, 10)) ⟨hx, hcd, hml, hown, hts⟩ (c_X7_mostNeeded__ok l D cI cB cW cL z x hh Sp Ot Sv T _ M hI) (cwV 0 hts gL_law_X7_mostNeeded rfl rfl rfl (by decide +kernel) ⟨Nat.le_of_ble_eq_true rfl, Nat.le_of_ble_eq_true rfl⟩) hK hP hD hS hA [95, 96, 97, 98, 99, 100] wLaw_MAC (by decide) wMA_adr wLaw_MA 95 rfl rfl rfl hl.1 rfl (Nat.le_of_ble_eq_true rfl) dL_law_1623 ⟨Nat.le_of_succ_le hc, Nat.le_trans (Nat.le_add_right _ _) hs⟩ (fun H locs hP hD hS => ?_)
  refine lv_icmp_eq (tgt := 1812) hx hcd dL_law_1626 (by decide) (fun (c_1626 : (g_need M) = (g_need M)) => ?_) (fun (c_1626 : ¬ (g_need M) = (g_need M)) => absurd c_1626 (not_not_intro rfl))
  refine W.widen (k := cells + 1) (n := slots + 6) (Nat.le_add_right _ _) (Nat.le_add_right _ _) ?_
  exact kk F (g_ndT M (wyN M)) M S n r L T (xu x 7 0) hh (va_cpy M Sp 0 0 581) Ot Sv (linv_x hV rfl rfl) H locs ls hP hD hS (lv_sub hl [0, 1, 2, 3, 4] rfl)

set_option maxHeartbeats 4000000 in
set_option maxRecDepth 100000 in
theorem law_visible__ok {pp : Program} {l : Launch} {ee : Env} {ss : State} {mm : MethodId} {below : List Frame} {meth : Method} {cc : Code} {bb Ls : Nat} {xs : Nat → Int32} {D : va_G} {cI cB cW cL : ClassId} (C : LFix pp l ss mm cc bb Ls xs D cI cB cW cL) {o : Nat} {F : Nat → Int64} {ob nw tr : Nat → Nat} {qs : Nat → Nat → Nat} {sc : Nat → Nat} {N : kM} {S : Nat → kM} {n r L : Nat} {T : Nat → Int32} {z : Nat → Nat} {x : Nat → Int32} {hh : Int64} {Sp Ot Sv : Nat → Int32} {M : kM} (hV : LInv M S n r L T Sv x) {i : Nat} (hi : i + 5 ≤ Ls)   {H : Heap} {locs : List Loc} {ls : Array Slot} {cells slots : Nat} {Q : State → Prop} (hc : cells + 1 ≤ 601024) (hs : slots + 6 ≤ 7293034) (hP : va_P D vwCl (wLaw cI cB cW cL o F ob nw tr qs sc (g_rot qs r) M N S n L T z x hh M Sp Ot Sv T) H) (hD : va_D (fun q : Nat => ss.heap.size ≤ q) (wLaw cI cB cW cL o F ob nw tr qs sc (g_rot qs r) M N S n L T z x hh M Sp Ot Sv T)) (hS : va_S (fun q : Nat => ss.heap.size ≤ q) ss.heap H locs) (hl : lv_has ls 9 [(0, .ref bb), (1, .ref (ob 0)), (2, .ref (z 0)), (3, .ref o), (4, .int (nI i))]) (kk : LNext pp l ee ss mm below meth cc bb D cI cB cW cL o ob nw tr qs sc z i cells slots Q) : W pp l ee room_1 ss mm #[Value.ref bb] below meth cc H locs cells slots Q (F0 mm 1631 ls []) := by
  obtain ⟨hx, hcd, hml, hown, hts, hX, hbl, hst, hZ, hN, hK, hL9⟩ := C
  obtain ⟨hI, hn, hr, hL, hT, hx4, hx6, hsv⟩ := id hV
  have hA : ∀ q : Nat, ss.heap.size ≤ q → (fun q : Nat => ss.heap.size ≤ q) q := fun _ h => h
  have hbA : ¬ (fun q : Nat => ss.heap.size ≤ q) bb := Nat.not_le.mpr hbl
  have bv := visA_le (M := M) 6
  refine lv_aload_n hx hcd dL_law_1631 rfl (lv_at hl 1 rfl) ?_
  refine kr_Vd (As := []) (rest := []) (ws2 := wLaw cI cB cW cL o F ob nw tr qs sc (g_rot qs r) M N S n L T z x hh M Sp Ot Sv T) (q := (RX6, TX6, 5)) ⟨hx, hcd, hml, hown, hts⟩ (c_X6_visible__ok l D cI cB cW cL ob nw tr qs sc (g_rot qs r) N S n L T _ M ) (cwV 0 hts gL_law_X6_visible rfl rfl rfl (by decide +kernel) ⟨Nat.le_of_ble_eq_true rfl, Nat.le_of_ble_eq_true rfl⟩) hK hP hD hS hA [1, 2, 3, 4, 5, 6, 7, 8, 9, 10, 11, 12, 13, 14, 15, 16, 17, 18, 19, 20, 21, 22, 23, 24, 25, 26, 27, 28, 29, 30, 31, 32, 33, 34, 35, 36, 37, 38, 39, 40, 41, 42, 43, 44, 45, 46, 47, 48, 49, 50, 51, 52, 53, 54, 55, 56, 57, 58, 59, 60, 61, 62, 63, 64, 65, 66, 67, 68, 69, 70, 71, 72, 73, 74, 75, 76, 77, 78, 79, 80, 81, 82, 83, 84, 85, 86, 87, 88, 89, 90, 91, 92, 93, 94] wLaw_XC wX_nd2 wX_adr wLaw_X 1 rfl rfl rfl hl.1 rfl (Nat.le_of_ble_eq_true rfl) dL_law_1632 ⟨Nat.le_of_succ_le hc, Nat.le_trans (Nat.le_add_right _ _) hs⟩ (fun H locs hP hD hS => ?_)
  refine lv_dstore (lv' := [(5, .double (g_share (g_visA M 6))), (0, .ref bb), (1, .ref (ob 0)), (2, .ref (z 0)), (3, .ref o), (4, .int (nI i))]) hx hcd dL_law_1635 hl (by decide) rfl (fun ls hl => ?_)
  refine lv_aload_n hx hcd dL_law_1637 rfl (lv_at hl 3 rfl) ?_
  refine kr_Vd (As := []) (rest := []) (ws2 := wLaw cI cB cW cL o F ob nw tr qs sc (g_rot qs r) M N S n L T z (xu x 7 0) hh M Sp Ot Sv T) (q := (RX7, TX7, 10)) ⟨hx, hcd, hml, hown, hts⟩ (c_X7_visible__ok l D cI cB cW cL z x hh _ M ) (cwV 0 hts gL_law_X7_visible rfl rfl rfl (by decide +kernel) ⟨Nat.le_of_ble_eq_true rfl, Nat.le_of_ble_eq_true rfl⟩) hK hP hD hS hA [95, 96] wLaw_MoC (by decide) wMo_adr2 wLaw_Mo 95 rfl rfl rfl hl.1 rfl (Nat.le_of_ble_eq_true rfl) dL_law_1638 ⟨Nat.le_of_succ_le hc, Nat.le_trans (Nat.le_add_right _ _) hs⟩ (fun H locs hP hD hS => ?_)
  refine lv_dstore (lv' := [(7, .double (g_share (g_visA M 6))), (5, .double (g_share (g_visA M 6))), (0, .ref bb), (1, .ref (ob 0)), (2, .ref (z 0)), (3, .ref o), (4, .int (nI i))]) hx hcd dL_law_1641 hl (by decide) rfl (fun ls hl => ?_)
  refine lv_dload hx hcd dL_law_1643 (lv_at hl 1 rfl) ?_
  refine lv_dload hx hcd dL_law_1645 (lv_at hl 0 rfl) ?_
  refine kl_dcmp (n := g_visA M 6) hx hcd (by omega) dL_law_1647 ?_
  refine kr_zeq (tgt := 1669) hx hcd (by omega) dL_law_1648 (by decide) (fun (c_1648 : 0 = 0) => ?_) (fun (c_1648 : 0 < 0) => absurd c_1648 (by omega))
  refine lv_goto (tgt := 1812) hx hcd dL_law_1669 (by decide) ?_
  refine W.widen (k := cells + 1) (n := slots + 6) (Nat.le_add_right _ _) (Nat.le_add_right _ _) ?_
  exact kk F N M S n r L T (xu x 7 0) hh Sp Ot Sv (linv_x hV rfl rfl) H locs ls hP hD hS (lv_sub hl [2, 3, 4, 5, 6] rfl)

set_option maxHeartbeats 4000000 in
set_option maxRecDepth 100000 in
theorem law_clearText__ok {pp : Program} {l : Launch} {ee : Env} {ss : State} {mm : MethodId} {below : List Frame} {meth : Method} {cc : Code} {bb Ls : Nat} {xs : Nat → Int32} {D : va_G} {cI cB cW cL : ClassId} (C : LFix pp l ss mm cc bb Ls xs D cI cB cW cL) {o : Nat} {F : Nat → Int64} {ob nw tr : Nat → Nat} {qs : Nat → Nat → Nat} {sc : Nat → Nat} {N : kM} {S : Nat → kM} {n r L : Nat} {T : Nat → Int32} {z : Nat → Nat} {x : Nat → Int32} {hh : Int64} {Sp Ot Sv : Nat → Int32} {M : kM} (hV : LInv M S n r L T Sv x) {i : Nat} (hi : i + 5 ≤ Ls)   {H : Heap} {locs : List Loc} {ls : Array Slot} {cells slots : Nat} {Q : State → Prop} (hc : cells + 1 ≤ 601024) (hs : slots + 6 ≤ 7293034) (hP : va_P D vwCl (wLaw cI cB cW cL o F ob nw tr qs sc (g_rot qs r) M N S n L T z x hh M Sp Ot Sv T) H) (hD : va_D (fun q : Nat => ss.heap.size ≤ q) (wLaw cI cB cW cL o F ob nw tr qs sc (g_rot qs r) M N S n L T z x hh M Sp Ot Sv T)) (hS : va_S (fun q : Nat => ss.heap.size ≤ q) ss.heap H locs) (hl : lv_has ls 9 [(0, .ref bb), (1, .ref (ob 0)), (2, .ref (z 0)), (3, .ref o), (4, .int (nI i))]) (kk : LNext pp l ee ss mm below meth cc bb D cI cB cW cL o ob nw tr qs sc z i cells slots Q) : W pp l ee room_1 ss mm #[Value.ref bb] below meth cc H locs cells slots Q (F0 mm 1728 ls []) := by
  obtain ⟨hx, hcd, hml, hown, hts, hX, hbl, hst, hZ, hN, hK, hL9⟩ := C
  obtain ⟨hI, hn, hr, hL, hT, hx4, hx6, hsv⟩ := id hV
  have hA : ∀ q : Nat, ss.heap.size ≤ q → (fun q : Nat => ss.heap.size ≤ q) q := fun _ h => h
  have hbA : ¬ (fun q : Nat => ss.heap.size ≤ q) bb := Nat.not_le.mpr hbl
  refine lv_aload_n hx hcd dL_law_1728 rfl (lv_at hl 1 rfl) ?_
  refine kr_Vi (As := []) (rest := []) (ws2 := wLaw cI cB cW cL o F ob nw tr qs sc (g_rot qs r) M N S n 0 T z x hh M Sp Ot Sv T) (q := (RX6, TX6, 5)) ⟨hx, hcd, hml, hown, hts⟩ (c_X6_clearText__ok l D cI cB cW cL ob nw tr qs sc (g_rot qs r) N S n L T _ M ) (cwV 0 hts gL_law_X6_clearText rfl rfl rfl (by decide +kernel) ⟨Nat.le_of_ble_eq_true rfl, Nat.le_of_ble_eq_true rfl⟩) hK hP hD hS hA [1, 2, 3, 4, 5, 6, 7, 8, 9, 10, 11, 12, 13, 14, 15, 16, 17, 18, 19, 20, 21, 22, 23, 24, 25, 26, 27, 28, 29, 30, 31, 32, 33, 34, 35, 36, 37, 38, 39, 40, 41, 42, 43, 44, 45, 46, 47, 48, 49, 50, 51, 52, 53, 54, 55, 56, 57, 58, 59, 60, 61, 62, 63, 64, 65, 66, 67, 68, 69, 70, 71, 72, 73, 74, 75, 76, 77, 78, 79, 80, 81, 82, 83, 84, 85, 86, 87, 88, 89, 90, 91, 92, 93, 94] wLaw_XC wX_nd2 wX_adr wLaw_X 1 rfl rfl rfl hl.1 rfl (Nat.le_of_ble_eq_true rfl) dL_law_1729 ⟨Nat.le_of_succ_le hc, Nat.le_trans (Nat.le_add_right _ _) hs⟩ (fun H locs hP hD hS => ?_)
  refine lv_aload_n hx hcd dL_law_1732 rfl (lv_at hl 2 rfl) ?_
  refine kr_Vi (As := []) (rest := [.int (nI L)]) (ws2 := wLaw cI cB cW cL o F ob nw tr qs sc (g_rot qs r) M N S n 0 T z (xu (xu x 6 0) 7 0) hh M Sp Ot Sv T) (q := (RX7, TX7, 10)) ⟨hx, hcd, hml, hown, hts⟩ (c_X7_clearText__ok l D cI cB cW cL z x hh _ M L hx6) (cwV 0 hts gL_law_X7_clearText rfl rfl rfl (by decide +kernel) ⟨Nat.le_of_ble_eq_true rfl, Nat.le_of_ble_eq_true rfl⟩) hK hP hD hS hA [95, 96] wLaw_MoC (by decide) wMo_adr2 wLaw_Mo 95 rfl rfl rfl hl.1 rfl (Nat.le_of_ble_eq_true rfl) dL_law_1733 ⟨Nat.le_of_succ_le hc, Nat.le_trans (Nat.le_add_right _ _) hs⟩ (fun H locs hP hD hS => ?_)
  refine kr_ceq (tgt := 1812) hx hcd (by omega) (by omega) dL_law_1736 (by decide) (fun (c_1736 : L = L) => ?_) (fun (c_1736 : ¬ L = L) => absurd c_1736 (not_not_intro rfl))
  refine W.widen (k := cells + 1) (n := slots + 6) (Nat.le_add_right _ _) (Nat.le_add_right _ _) ?_
  exact kk F N M S n r 0 T (xu (xu x 6 0) 7 0) hh Sp Ot Sv (linv_clr hV rfl rfl) H locs ls hP hD hS (lv_sub hl [0, 1, 2, 3, 4] rfl)

set_option maxHeartbeats 4000000 in
set_option maxRecDepth 100000 in
theorem law_carryOut__b {pp : Program} {l : Launch} {ee : Env} {ss : State} {mm : MethodId} {below : List Frame} {meth : Method} {cc : Code} {bb Ls : Nat} {xs : Nat → Int32} {D : va_G} {cI cB cW cL : ClassId} (C : LFix pp l ss mm cc bb Ls xs D cI cB cW cL) {o : Nat} {F : Nat → Int64} {ob nw tr : Nat → Nat} {qs : Nat → Nat → Nat} {sc : Nat → Nat} {N : kM} {S : Nat → kM} {n r L : Nat} {T : Nat → Int32} {z : Nat → Nat} {x : Nat → Int32} {hh : Int64} {Sp Ot Sv : Nat → Int32} {M : kM} (hV : LInv M S n r L T Sv x) {i : Nat} (hi : i + 5 ≤ Ls)  (hok : c_okk T L = false) {H : Heap} {locs : List Loc} {ls : Array Slot} {cells slots : Nat} {Q : State → Prop} (hc : cells + 1 ≤ 601024) (hs : slots + 6 ≤ 7293034) (hP : va_P D vwCl (wLaw cI cB cW cL o F ob nw tr qs sc (g_rot qs r) M N S n L T z x hh M Sp Ot Sv T) H) (hD : va_D (fun q : Nat => ss.heap.size ≤ q) (wLaw cI cB cW cL o F ob nw tr qs sc (g_rot qs r) M N S n L T z x hh M Sp Ot Sv T)) (hS : va_S (fun q : Nat => ss.heap.size ≤ q) ss.heap H locs) (hl : lv_has ls 9 [(0, .ref bb), (1, .ref (ob 0)), (2, .ref (z 0)), (3, .ref o), (4, .int (nI i))]) (kk : LNext pp l ee ss mm below meth cc bb D cI cB cW cL o ob nw tr qs sc z i cells slots Q) : W pp l ee room_1 ss mm #[Value.ref bb] below meth cc H locs cells slots Q (F0 mm 1741 ls []) := by
  obtain ⟨hx, hcd, hml, hown, hts, hX, hbl, hst, hZ, hN, hK, hL9⟩ := C
  obtain ⟨hI, hn, hr, hL, hT, hx4, hx6, hsv⟩ := id hV
  have hA : ∀ q : Nat, ss.heap.size ≤ q → (fun q : Nat => ss.heap.size ≤ q) q := fun _ h => h
  have hbA : ¬ (fun q : Nat => ss.heap.size ≤ q) bb := Nat.not_le.mpr hbl
  refine lv_aload_n hx hcd dL_law_1741 rfl (lv_at hl 1 rfl) ?_
  refine kr_Vi (As := []) (rest := []) (ws2 := wLaw cI cB cW cL o F ob nw tr qs sc (g_rot qs r) M N S n L T z x hh M Sp Ot Sv T) (q := (RX6, TX6, 5)) ⟨hx, hcd, hml, hown, hts⟩ (c_X6_carryOut__b l D cI cB cW cL ob nw tr qs sc (g_rot qs r) N S n L T _ M hI hT hL hok) (cwV 0 hts gL_law_X6_carryOut rfl rfl rfl (by decide +kernel) ⟨Nat.le_of_ble_eq_true rfl, Nat.le_of_ble_eq_true rfl⟩) hK hP hD hS hA [1, 2, 3, 4, 5, 6, 7, 8, 9, 10, 11, 12, 13, 14, 15, 16, 17, 18, 19, 20, 21, 22, 23, 24, 25, 26, 27, 28, 29, 30, 31, 32, 33, 34, 35, 36, 37, 38, 39, 40, 41, 42, 43, 44, 45, 46, 47, 48, 49, 50, 51, 52, 53, 54, 55, 56, 57, 58, 59, 60, 61, 62, 63, 64, 65, 66, 67, 68, 69, 70, 71, 72, 73, 74, 75, 76, 77, 78, 79, 80, 81, 82, 83, 84, 85, 86, 87, 88, 89, 90, 91, 92, 93, 94] wLaw_XC wX_nd2 wX_adr wLaw_X 1 rfl rfl rfl hl.1 rfl (Nat.le_of_ble_eq_true rfl) dL_law_1742 ⟨Nat.le_of_succ_le hc, Nat.le_trans (Nat.le_add_right _ _) hs⟩ (fun H locs hP hD hS => ?_)
  refine lv_aload_n hx hcd dL_law_1745 rfl (lv_at hl 2 rfl) ?_
  refine kr_Vi (As := []) (rest := [.int ((-10) - (nI (c_pos T L)))]) (ws2 := wLaw cI cB cW cL o F ob nw tr qs sc (g_rot qs r) M N S n L T z (xu (xu x 7 0) 8 (nI (c_pos T L))) hh M Sp Ot Sv T) (q := (RX7, TX7, 10)) ⟨hx, hcd, hml, hown, hts⟩ (c_X7_carryOut__b l D cI cB cW cL z x hh Sp Ot Sv T _ M L hI hT hx6 hL hok) (cwV 0 hts gL_law_X7_carryOut rfl rfl rfl (by decide +kernel) ⟨Nat.le_of_ble_eq_true rfl, Nat.le_of_ble_eq_true rfl⟩) hK hP hD hS hA [95, 96, 97, 98, 99, 100] wLaw_MAC (by decide) wMA_adr wLaw_MA 95 rfl rfl rfl hl.1 rfl (Nat.le_of_ble_eq_true rfl) dL_law_1746 ⟨Nat.le_of_succ_le hc, Nat.le_trans (Nat.le_add_right _ _) hs⟩ (fun H locs hP hD hS => ?_)
  refine lv_icmp_eq (tgt := 1812) hx hcd dL_law_1749 (by decide) (fun (c_1749 : ((-10) - (nI (c_pos T L))) = ((-10) - (nI (c_pos T L)))) => ?_) (fun (c_1749 : ¬ ((-10) - (nI (c_pos T L))) = ((-10) - (nI (c_pos T L)))) => absurd c_1749 (not_not_intro rfl))
  refine W.widen (k := cells + 1) (n := slots + 6) (Nat.le_add_right _ _) (Nat.le_add_right _ _) ?_
  exact kk F N M S n r L T (xu (xu x 7 0) 8 (nI (c_pos T L))) hh Sp Ot Sv (linv_x hV rfl rfl) H locs ls hP hD hS (lv_sub hl [0, 1, 2, 3, 4] rfl)

set_option maxHeartbeats 4000000 in
set_option maxRecDepth 100000 in
theorem law_carryOut__ok {pp : Program} {l : Launch} {ee : Env} {ss : State} {mm : MethodId} {below : List Frame} {meth : Method} {cc : Code} {bb Ls : Nat} {xs : Nat → Int32} {D : va_G} {cI cB cW cL : ClassId} (C : LFix pp l ss mm cc bb Ls xs D cI cB cW cL) {o : Nat} {F : Nat → Int64} {ob nw tr : Nat → Nat} {qs : Nat → Nat → Nat} {sc : Nat → Nat} {N : kM} {S : Nat → kM} {n r L : Nat} {T : Nat → Int32} {z : Nat → Nat} {x : Nat → Int32} {hh : Int64} {Sp Ot Sv : Nat → Int32} {M : kM} (hV : LInv M S n r L T Sv x) {i : Nat} (hi : i + 5 ≤ Ls)  (hok : c_okk T L = true) (hall : ∀ j, j < L / 4 → g_okr T M j = true) {H : Heap} {locs : List Loc} {ls : Array Slot} {cells slots : Nat} {Q : State → Prop} (hc : cells + 1 ≤ 601024) (hs : slots + 6 ≤ 7293034) (hP : va_P D vwCl (wLaw cI cB cW cL o F ob nw tr qs sc (g_rot qs r) M N S n L T z x hh M Sp Ot Sv T) H) (hD : va_D (fun q : Nat => ss.heap.size ≤ q) (wLaw cI cB cW cL o F ob nw tr qs sc (g_rot qs r) M N S n L T z x hh M Sp Ot Sv T)) (hS : va_S (fun q : Nat => ss.heap.size ≤ q) ss.heap H locs) (hl : lv_has ls 9 [(0, .ref bb), (1, .ref (ob 0)), (2, .ref (z 0)), (3, .ref o), (4, .int (nI i))]) (kk : LNext pp l ee ss mm below meth cc bb D cI cB cW cL o ob nw tr qs sc z i cells slots Q) : W pp l ee room_1 ss mm #[Value.ref bb] below meth cc H locs cells slots Q (F0 mm 1741 ls []) := by
  obtain ⟨hx, hcd, hml, hown, hts, hX, hbl, hst, hZ, hN, hK, hL9⟩ := C
  obtain ⟨hI, hn, hr, hL, hT, hx4, hx6, hsv⟩ := id hV
  have hA : ∀ q : Nat, ss.heap.size ≤ q → (fun q : Nat => ss.heap.size ≤ q) q := fun _ h => h
  have hbA : ¬ (fun q : Nat => ss.heap.size ≤ q) bb := Nat.not_le.mpr hbl
  refine lv_aload_n hx hcd dL_law_1741 rfl (lv_at hl 1 rfl) ?_
  refine kr_Vi (As := []) (rest := []) (ws2 := wLaw cI cB cW cL o F ob nw tr qs sc (g_rot qs (rj n r)) (g_run T M (L / 4)) (g_run T M (L / 4)) (sset S (pj n r) M) (g_kn n) L T z x hh M Sp Ot Sv T) (q := (RX6, TX6, 5)) ⟨hx, hcd, hml, hown, hts⟩ (c_X6_carryOut__ok l D cI cB cW cL ob nw tr qs sc (g_rot qs r) N S n L T _ M r hI hT hL hn hr hok hall) (cwV 0 hts gL_law_X6_carryOut rfl rfl rfl (by decide +kernel) ⟨Nat.le_of_ble_eq_true rfl, Nat.le_of_ble_eq_true rfl⟩) hK hP hD hS hA [1, 2, 3, 4, 5, 6, 7, 8, 9, 10, 11, 12, 13, 14, 15, 16, 17, 18, 19, 20, 21, 22, 23, 24, 25, 26, 27, 28, 29, 30, 31, 32, 33, 34, 35, 36, 37, 38, 39, 40, 41, 42, 43, 44, 45, 46, 47, 48, 49, 50, 51, 52, 53, 54, 55, 56, 57, 58, 59, 60, 61, 62, 63, 64, 65, 66, 67, 68, 69, 70, 71, 72, 73, 74, 75, 76, 77, 78, 79, 80, 81, 82, 83, 84, 85, 86, 87, 88, 89, 90, 91, 92, 93, 94] wLaw_XC wX_nd2 wX_adr wLaw_X 1 rfl rfl rfl hl.1 rfl (Nat.le_of_ble_eq_true rfl) dL_law_1742 ⟨Nat.le_of_succ_le hc, Nat.le_trans (Nat.le_add_right _ _) hs⟩ (fun H locs hP hD hS => ?_)
  refine lv_aload_n hx hcd dL_law_1745 rfl (lv_at hl 2 rfl) ?_
  refine kr_Vi (As := []) (rest := [.int (nI (L / 4))]) (ws2 := wLaw cI cB cW cL o F ob nw tr qs sc (g_rot qs (rj n r)) (g_run T M (L / 4)) (g_run T M (L / 4)) (sset S (pj n r) M) (g_kn n) L T z (xu (xu (xu x 7 0) 8 (nI (c_pos T L))) 4 (nI (g_kn n))) hh (g_run T M (L / 4)) (va_cpy (g_run T M (L / 4)) Sp 0 0 581) (va_cpy M Ot 0 0 581) (g_keep Sv M n) T) (q := (RX7, TX7, 10)) ⟨hx, hcd, hml, hown, hts⟩ (c_X7_carryOut__ok l D cI cB cW cL z x hh Sp Ot Sv T _ M L n hI hT hx6 hL hx4 hn hok hall) (cwV 0 hts gL_law_X7_carryOut rfl rfl rfl (by decide +kernel) ⟨Nat.le_of_ble_eq_true rfl, Nat.le_of_ble_eq_true rfl⟩) hK hP hD hS hA [95, 96, 97, 98, 99, 100] wLaw_MAC (by decide) wMA_adr wLaw_MA 95 rfl rfl rfl hl.1 rfl (Nat.le_of_ble_eq_true rfl) dL_law_1746 ⟨Nat.le_of_succ_le hc, Nat.le_trans (Nat.le_add_right _ _) hs⟩ (fun H locs hP hD hS => ?_)
  refine kr_ceq (tgt := 1812) hx hcd (by omega) (by omega) dL_law_1749 (by decide) (fun (c_1749 : L / 4 = L / 4) => ?_) (fun (c_1749 : ¬ L / 4 = L / 4) => absurd c_1749 (not_not_intro rfl))
  refine W.widen (k := cells + 1) (n := slots + 6) (Nat.le_add_right _ _) (Nat.le_add_right _ _) ?_
  exact kk F (g_run T M (L / 4)) (g_run T M (L / 4)) (sset S (pj n r) M) (g_kn n) (rj n r) L T (xu (xu (xu x 7 0) 8 (nI (c_pos T L))) 4 (nI (g_kn n))) hh (va_cpy (g_run T M (L / 4)) Sp 0 0 581) (va_cpy M Ot 0 0 581) (g_keep Sv M n) (linv_keep hV (i_run hok hI (L / 4) (by omega)) rfl rfl) H locs ls hP hD hS (lv_sub hl [0, 1, 2, 3, 4] rfl)

set_option maxHeartbeats 4000000 in
set_option maxRecDepth 100000 in
theorem law_carryOut__f {pp : Program} {l : Launch} {ee : Env} {ss : State} {mm : MethodId} {below : List Frame} {meth : Method} {cc : Code} {bb Ls : Nat} {xs : Nat → Int32} {D : va_G} {cI cB cW cL : ClassId} (C : LFix pp l ss mm cc bb Ls xs D cI cB cW cL) {o : Nat} {F : Nat → Int64} {ob nw tr : Nat → Nat} {qs : Nat → Nat → Nat} {sc : Nat → Nat} {N : kM} {S : Nat → kM} {n r L : Nat} {T : Nat → Int32} {z : Nat → Nat} {x : Nat → Int32} {hh : Int64} {Sp Ot Sv : Nat → Int32} {M : kM} (hV : LInv M S n r L T Sv x) {i : Nat} (hi : i + 5 ≤ Ls) {k : Nat} (hok : c_okk T L = true) (hk : k < L / 4) (hall : ∀ j, j < k → g_okr T M j = true) (hno : g_okr T M k = false) {H : Heap} {locs : List Loc} {ls : Array Slot} {cells slots : Nat} {Q : State → Prop} (hc : cells + 1 ≤ 601024) (hs : slots + 6 ≤ 7293034) (hP : va_P D vwCl (wLaw cI cB cW cL o F ob nw tr qs sc (g_rot qs r) M N S n L T z x hh M Sp Ot Sv T) H) (hD : va_D (fun q : Nat => ss.heap.size ≤ q) (wLaw cI cB cW cL o F ob nw tr qs sc (g_rot qs r) M N S n L T z x hh M Sp Ot Sv T)) (hS : va_S (fun q : Nat => ss.heap.size ≤ q) ss.heap H locs) (hl : lv_has ls 9 [(0, .ref bb), (1, .ref (ob 0)), (2, .ref (z 0)), (3, .ref o), (4, .int (nI i))]) (kk : LNext pp l ee ss mm below meth cc bb D cI cB cW cL o ob nw tr qs sc z i cells slots Q) : W pp l ee room_1 ss mm #[Value.ref bb] below meth cc H locs cells slots Q (F0 mm 1741 ls []) := by
  obtain ⟨hx, hcd, hml, hown, hts, hX, hbl, hst, hZ, hN, hK, hL9⟩ := C
  obtain ⟨hI, hn, hr, hL, hT, hx4, hx6, hsv⟩ := id hV
  have hA : ∀ q : Nat, ss.heap.size ≤ q → (fun q : Nat => ss.heap.size ≤ q) q := fun _ h => h
  have hbA : ¬ (fun q : Nat => ss.heap.size ≤ q) bb := Nat.not_le.mpr hbl
  refine lv_aload_n hx hcd dL_law_1741 rfl (lv_at hl 1 rfl) ?_
  refine kr_Vi (As := []) (rest := []) (ws2 := wLaw cI cB cW cL o F ob nw tr qs sc (g_rot qs r) M (g_run T M k) S n L T z x hh M Sp Ot Sv T) (q := (RX6, TX6, 5)) ⟨hx, hcd, hml, hown, hts⟩ (c_X6_carryOut__f l D cI cB cW cL ob nw tr qs sc (g_rot qs r) N S n L T _ M k hI hT hL hok hk hall hno) (cwV 0 hts gL_law_X6_carryOut rfl rfl rfl (by decide +kernel) ⟨Nat.le_of_ble_eq_true rfl, Nat.le_of_ble_eq_true rfl⟩) hK hP hD hS hA [1, 2, 3, 4, 5, 6, 7, 8, 9, 10, 11, 12, 13, 14, 15, 16, 17, 18, 19, 20, 21, 22, 23, 24, 25, 26, 27, 28, 29, 30, 31, 32, 33, 34, 35, 36, 37, 38, 39, 40, 41, 42, 43, 44, 45, 46, 47, 48, 49, 50, 51, 52, 53, 54, 55, 56, 57, 58, 59, 60, 61, 62, 63, 64, 65, 66, 67, 68, 69, 70, 71, 72, 73, 74, 75, 76, 77, 78, 79, 80, 81, 82, 83, 84, 85, 86, 87, 88, 89, 90, 91, 92, 93, 94] wLaw_XC wX_nd2 wX_adr wLaw_X 1 rfl rfl rfl hl.1 rfl (Nat.le_of_ble_eq_true rfl) dL_law_1742 ⟨Nat.le_of_succ_le hc, Nat.le_trans (Nat.le_add_right _ _) hs⟩ (fun H locs hP hD hS => ?_)
  refine lv_aload_n hx hcd dL_law_1745 rfl (lv_at hl 2 rfl) ?_
  refine kr_Vi (As := []) (rest := [.int ((-1000) - (nI k))]) (ws2 := wLaw cI cB cW cL o F ob nw tr qs sc (g_rot qs r) M (g_run T M k) S n L T z (xu (xu x 7 0) 8 (nI (c_pos T L))) hh M Sp (va_cpy M Ot 0 0 581) Sv T) (q := (RX7, TX7, 10)) ⟨hx, hcd, hml, hown, hts⟩ (c_X7_carryOut__f l D cI cB cW cL z x hh Sp Ot Sv T _ M L k hI hT hx6 hL hok hk hall hno) (cwV 0 hts gL_law_X7_carryOut rfl rfl rfl (by decide +kernel) ⟨Nat.le_of_ble_eq_true rfl, Nat.le_of_ble_eq_true rfl⟩) hK hP hD hS hA [95, 96, 97, 98, 99, 100] wLaw_MAC (by decide) wMA_adr wLaw_MA 95 rfl rfl rfl hl.1 rfl (Nat.le_of_ble_eq_true rfl) dL_law_1746 ⟨Nat.le_of_succ_le hc, Nat.le_trans (Nat.le_add_right _ _) hs⟩ (fun H locs hP hD hS => ?_)
  refine lv_icmp_eq (tgt := 1812) hx hcd dL_law_1749 (by decide) (fun (c_1749 : ((-1000) - (nI k)) = ((-1000) - (nI k))) => ?_) (fun (c_1749 : ¬ ((-1000) - (nI k)) = ((-1000) - (nI k))) => absurd c_1749 (not_not_intro rfl))
  refine W.widen (k := cells + 1) (n := slots + 6) (Nat.le_add_right _ _) (Nat.le_add_right _ _) ?_
  exact kk F (g_run T M k) M S n r L T (xu (xu x 7 0) 8 (nI (c_pos T L))) hh Sp (va_cpy M Ot 0 0 581) Sv (linv_x hV rfl rfl) H locs ls hP hD hS (lv_sub hl [0, 1, 2, 3, 4] rfl)

set_option maxHeartbeats 4000000 in
set_option maxRecDepth 100000 in
theorem law_digest__ok {pp : Program} {l : Launch} {ee : Env} {ss : State} {mm : MethodId} {below : List Frame} {meth : Method} {cc : Code} {bb Ls : Nat} {xs : Nat → Int32} {D : va_G} {cI cB cW cL : ClassId} (C : LFix pp l ss mm cc bb Ls xs D cI cB cW cL) {o : Nat} {F : Nat → Int64} {ob nw tr : Nat → Nat} {qs : Nat → Nat → Nat} {sc : Nat → Nat} {N : kM} {S : Nat → kM} {n r L : Nat} {T : Nat → Int32} {z : Nat → Nat} {x : Nat → Int32} {hh : Int64} {Sp Ot Sv : Nat → Int32} {M : kM} (hV : LInv M S n r L T Sv x) {i : Nat} (hi : i + 5 ≤ Ls)   {H : Heap} {locs : List Loc} {ls : Array Slot} {cells slots : Nat} {Q : State → Prop} (hc : cells + 1 ≤ 601024) (hs : slots + 6 ≤ 7293034) (hP : va_P D vwCl (wLaw cI cB cW cL o F ob nw tr qs sc (g_rot qs r) M N S n L T z x hh M Sp Ot Sv T) H) (hD : va_D (fun q : Nat => ss.heap.size ≤ q) (wLaw cI cB cW cL o F ob nw tr qs sc (g_rot qs r) M N S n L T z x hh M Sp Ot Sv T)) (hS : va_S (fun q : Nat => ss.heap.size ≤ q) ss.heap H locs) (hl : lv_has ls 9 [(0, .ref bb), (1, .ref (ob 0)), (2, .ref (z 0)), (3, .ref o), (4, .int (nI i))]) (kk : LNext pp l ee ss mm below meth cc bb D cI cB cW cL o ob nw tr qs sc z i cells slots Q) : W pp l ee room_1 ss mm #[Value.ref bb] below meth cc H locs cells slots Q (F0 mm 1798 ls []) := by
  obtain ⟨hx, hcd, hml, hown, hts, hX, hbl, hst, hZ, hN, hK, hL9⟩ := C
  obtain ⟨hI, hn, hr, hL, hT, hx4, hx6, hsv⟩ := id hV
  have hA : ∀ q : Nat, ss.heap.size ≤ q → (fun q : Nat => ss.heap.size ≤ q) q := fun _ h => h
  have hbA : ¬ (fun q : Nat => ss.heap.size ≤ q) bb := Nat.not_le.mpr hbl
  refine lv_aload_n hx hcd dL_law_1798 rfl (lv_at hl 1 rfl) ?_
  refine kr_Vl (As := []) (rest := []) (ws2 := wLaw cI cB cW cL o F ob nw tr qs sc (g_rot qs r) M N S n L T z x hh M Sp Ot Sv T) (q := (RX6, TX6, 5)) ⟨hx, hcd, hml, hown, hts⟩ (c_X6_digest__ok l D cI cB cW cL ob nw tr qs sc (g_rot qs r) N S n L T _ M hI) (cwV 0 hts gL_law_X6_digest rfl rfl rfl (by decide +kernel) ⟨Nat.le_of_ble_eq_true rfl, Nat.le_of_ble_eq_true rfl⟩) hK hP hD hS hA [1, 2, 3, 4, 5, 6, 7, 8, 9, 10, 11, 12, 13, 14, 15, 16, 17, 18, 19, 20, 21, 22, 23, 24, 25, 26, 27, 28, 29, 30, 31, 32, 33, 34, 35, 36, 37, 38, 39, 40, 41, 42, 43, 44, 45, 46, 47, 48, 49, 50, 51, 52, 53, 54, 55, 56, 57, 58, 59, 60, 61, 62, 63, 64, 65, 66, 67, 68, 69, 70, 71, 72, 73, 74, 75, 76, 77, 78, 79, 80, 81, 82, 83, 84, 85, 86, 87, 88, 89, 90, 91, 92, 93, 94] wLaw_XC wX_nd2 wX_adr wLaw_X 1 rfl rfl rfl hl.1 rfl (Nat.le_of_ble_eq_true rfl) dL_law_1799 ⟨Nat.le_of_succ_le hc, Nat.le_trans (Nat.le_add_right _ _) hs⟩ (fun H locs hP hD hS => ?_)
  refine lv_aload_n hx hcd dL_law_1802 rfl (lv_at hl 2 rfl) ?_
  refine kr_Vl (As := []) (rest := [.long (g_digest M (nI L) (nI n))]) (ws2 := wLaw cI cB cW cL o F ob nw tr qs sc (g_rot qs r) M N S n L T z (xu x 7 0) (g_digest M (x 6) (x 4)) M Sp Ot Sv T) (q := (RX7, TX7, 10)) ⟨hx, hcd, hml, hown, hts⟩ (c_X7_digest__ok l D cI cB cW cL z x hh _ M n hI hx4) (cwV 0 hts gL_law_X7_digest rfl rfl rfl (by decide +kernel) ⟨Nat.le_of_ble_eq_true rfl, Nat.le_of_ble_eq_true rfl⟩) hK hP hD hS hA [95, 96] wLaw_MoC (by decide) wMo_adr2 wLaw_Mo 95 rfl rfl rfl hl.1 rfl (Nat.le_of_ble_eq_true rfl) dL_law_1803 ⟨Nat.le_of_succ_le hc, Nat.le_trans (Nat.le_add_right _ _) hs⟩ (fun H locs hP hD hS => ?_)
  refine kl_lcmp hx hcd (by rw [hx6, hx4]) dL_law_1806 ?_
  refine kr_zeq (tgt := 1812) hx hcd (by omega) dL_law_1807 (by decide) (fun (c_1807 : 0 = 0) => ?_) (fun (c_1807 : 0 < 0) => absurd c_1807 (by omega))
  refine W.widen (k := cells + 1) (n := slots + 6) (Nat.le_add_right _ _) (Nat.le_add_right _ _) ?_
  exact kk F N M S n r L T (xu x 7 0) (g_digest M (x 6) (x 4)) Sp Ot Sv (linv_x hV rfl rfl) H locs ls hP hD hS (lv_sub hl [0, 1, 2, 3, 4] rfl)
