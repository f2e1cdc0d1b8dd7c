/-! the law: what holds at its points -/
def LAt (pp : Program) (l : Launch) (ee : Env) (ss : State) (mm : MethodId) (below : List Frame) (meth : Method) (cc : Code) (bb : Nat) (D : va_G) (cI cB cW : ClassId) (u u2 : Nat → Nat) (Q : State → Prop) (pc : Nat) (lv : List (Nat × Value)) (st : List Value) (cells slots : Nat) (M N : kM) (S : Nat → kM) (n r : Nat) (M2 N2 : kM) (S2 : Nat → kM) (n2 r2 : Nat) : Prop :=
  ∀ (H : Heap) (locs : List Loc) (ls : Array Slot), va_P D vwCl (wO cI cB cW u M N S n r ++ wO cI cB cW u2 M2 N2 S2 n2 r2) H → va_D (fun q : Nat => ss.heap.size ≤ q) (wO cI cB cW u M N S n r ++ wO cI cB cW u2 M2 N2 S2 n2 r2) → va_S (fun q : Nat => ss.heap.size ≤ q) ss.heap H locs → lv_has ls 7 lv → W pp l ee room_1 ss mm #[Value.ref bb] below meth cc H locs cells slots Q (F0 mm pc ls st)
def LEnd (pp : Program) (l : Launch) (ee : Env) (ss : State) (mm : MethodId) (below : List Frame) (meth : Method) (cc : Code) (bb : Nat) (Q : State → Prop) : Prop :=
  ∀ (H : Heap) (locs : List Loc) (ls : Array Slot) (cells slots : Nat), cells ≤ 600104 → slots ≤ 7301314 → va_S (fun q : Nat => ss.heap.size ≤ q) ss.heap H locs → W pp l ee room_1 ss mm #[Value.ref bb] below meth cc H locs cells slots Q (F0 mm 343 ls [.int (nI 1)])
theorem m0_wy : wyN g_M0 = 0 := by
  show (g_M0 577).toNatClampNeg = 0
  rw [m0_out (by omega)]
  decide
theorem m0_q : g_q g_M0 = [] := cm_q m0_wy
theorem m0_has {a b : Nat} {k : Int32} (ha : a < 6) (hb : b < 6) : g_has g_M0 a b k = false := by
  unfold g_has
  rw [m0_out (by omega), Int32.zero_and]
  decide
theorem m0_view {k : Nat} (h : 132 ≤ k ∧ k < 240) : g_M0 k = -1 := if_pos h
theorem m0_ox : oX 6 0 g_M0 := by
  refine ⟨m0_inv, fun a b ha hb => by rw [m0_out (by omega)]; exact ⟨by decide, by decide⟩, fun a ha => ⟨0, Nat.le_refl 0, m0_out (by omega), fun b hb => ⟨0, Nat.le_refl 0, m0_out (by omega), fun _ => m0_out (by omega)⟩, ⟨if a = 0 then 1 else 0, by split <;> omega, by split <;> omega, m0_out (Or.inl (by split <;> omega))⟩, m0_out (by omega)⟩, fun a b s ha hb hs => ?_, fun c hc => ?_, ?_⟩
  · have v : g_M0 (132 + 18 * a + 3 * b + s) = -1 := m0_view (by omega)
    exact ⟨Or.inl v, fun _ _ => v, fun _ => v⟩
  · rw [m0_q] at hc
    exact absurd hc List.not_mem_nil
  · show g_M0 578 = g_M0 579 + g_M0 580 + g_M0 577
    rw [m0_out (k := 578) (by omega), m0_out (k := 579) (by omega), m0_out (k := 580) (by omega), m0_out (k := 577) (by omega)]
    decide
theorem m0_cm : cm g_M0 := by
  refine ⟨⟨fun a b ha hb => ?_, fun c hc => absurd hc List.not_mem_nil, fun a b ha hb _ => ?_, fun a b s ha hb hab hs => Or.inl ?_, Nat.zero_le _, m0_out (by omega)⟩, m0_wy⟩
  · unfold g_apart
    rw [m0_out (by omega), m0_out (by omega)]
    decide
  · rw [m0_has ha hb, m0_has hb ha, m0_has hb ha, m0_has ha hb]
    exact ⟨rfl, fun q => absurd q (by decide), fun q => absurd q (by decide)⟩
  · unfold tg
    rw [m0_has ha hb, if_neg (fun q => absurd q.1 (by decide))]
    exact m0_view (by omega)
theorem vis_0 : Op.cmpValue (FP.dcmp (g_share (g_visA g_M0 6)) FP.dconst0) .l = 0 := by decide +kernel
theorem cnt_k3 : ∀ x y z : Bool, (x = true ∨ y = true ∨ z = true) → 1 ≤ 0 + kI x + kI y + kI z := by decide
theorem cnt_ge {M : kM} {a s : Nat} (h : kInv M) (ha : a < 6) (hs : s < 3) (e : M (9 * a + 3 * s) = 1) : 1 ≤ g_cnt M a := by
  obtain ⟨x, hx⟩ := i_on h ha (show 0 < 3 by omega)
  obtain ⟨y, hy⟩ := i_on h ha (show 1 < 3 by omega)
  obtain ⟨z, hz⟩ := i_on h ha (show 2 < 3 by omega)
  show 1 ≤ 0 + M (9 * a + 3 * 0) + M (9 * a + 3 * 1) + M (9 * a + 3 * 2)
  rw [hx, hy, hz]
  refine cnt_k3 x y z ?_
  rcases (show s = 0 ∨ s = 1 ∨ s = 2 by omega) with rfl | rfl | rfl
  · exact Or.inl (kI_inj1 x (hx.symm.trans e))
  · exact Or.inr (Or.inl (kI_inj1 y (hy.symm.trans e)))
  · exact Or.inr (Or.inr (kI_inj1 z (hz.symm.trans e)))
theorem gst_0 {M : kM} {b : Nat} (h : gst b M) (hb : b < 6) : pB M ∧ M 580 = nI 0 := by
  rcases h with h | ⟨M0, B0, h1, h2, h3, h4, rfl⟩
  · exact ⟨h.1.1, h.1.2.2.2.2.2⟩
  · obtain ⟨l, -, -, -, -, -, lo0, z0, -⟩ := est_grant h1 h2 (a := 0) (b := b) (by omega) hb (by omega) h4
    exact ⟨pB_congr (fun k h1 h2 => (lo0 k h2).trans (o_become (by omega) hb (by omega))) h2.1.1, z0.trans h2.1.2.2.2.2.2⟩
theorem kn_up {n j : Nat} (h : n ≤ 4) (hj : n = 4 ∨ j ≤ n) : g_kn n ≤ 4 ∧ (g_kn n = 4 ∨ j + 1 ≤ g_kn n) := by
  unfold g_kn
  split <;> omega
theorem lst_300 {M : kM} {l : Nat} (h : lst l M) (hl : 0 < l) : wyN M = 300 := h.2.resolve_left (by omega)
section LSEG
variable {pp : Program} {l : Launch} {ee : Env} {ss : State} {mm : MethodId} {below : List Frame} {meth : Method} {cc : Code} {bb Ls : Nat} {xs : Nat → Int32} {D : va_G} {cI cB cW cL : ClassId} {u u2 : Nat → Nat} {Q : State → Prop}
set_option maxHeartbeats 4000000 in
set_option maxRecDepth 100000 in
theorem law_end (C : LFix pp l ss mm cc bb Ls xs D cI cB cW cL) (hE : LEnd pp l ee ss mm below meth cc bb Q) {M N : kM} {S : Nat → kM} {n r : Nat} {M2 N2 : kM} {S2 : Nat → kM} {n2 r2 : Nat} {cells slots : Nat} (hI : kInv M) (hc : cells + 30 ≤ 600104) (hs : slots + 180 ≤ 7301314) : LAt pp l ee ss mm below meth cc bb D cI cB cW u u2 Q 339 [(0, .ref bb), (1, .ref (u 0)), (2, .ref (u2 0))] [] cells slots M N S n r M2 N2 S2 n2 r2 := by
  obtain ⟨hx, hcd, hml, hown, hts, hX, hbl, hst, hZ, hN, hK, hL9⟩ := id C
  have hown : ss.vm.findClass RL = some mm.cls := hown
  have hA : ∀ q : Nat, ss.heap.size ≤ q → (fun q : Nat => ss.heap.size ≤ q) q := fun _ h => h
  have hbA : ¬ (fun q : Nat => ss.heap.size ≤ q) bb := Nat.not_le.mpr hbl
  intro H locs ls hP hD hS hl
  refine lv_aload_n hx hcd dL_law_339 rfl (lv_at hl 1 rfl) ?_
  refine kl_P (As := [.ref (u 0)]) (rest := []) (ws2 := wO cI cB cW u M N S n r ++ wO cI cB cW u2 M2 N2 S2 n2 r2) ⟨hx, hcd, hml, hown, hts⟩ (c_L_refuses l hst D cI cB cW cL (fun i => u i) (fun i => u (100 + i)) (fun i => u (200 + i)) (fun j i => u (300 + 100 * j + i)) (fun i => u (800 + i)) (g_rot (fun j i => u (300 + 100 * j + i)) r) N S n 0 (fun _ => 0) _ M hI) (va_cwS 1 hts gL_law_L_refuses rfl rfl rfl (by decide +kernel) ⟨Nat.le_of_ble_eq_true rfl, Nat.le_of_ble_eq_true rfl⟩) hZ hN hK hP hD hS hA [0, 1, 2, 3, 4, 5, 6, 7, 8, 9, 10, 11, 12, 13, 14, 15, 16, 17, 18, 19, 20, 21, 22, 23, 24, 25, 26, 27, 28, 29, 30, 31, 32, 33, 34, 35, 36, 37, 38, 39, 40, 41, 42, 43, 44, 45, 46, 47, 48, 49, 50, 51, 52, 53, 54, 55, 56, 57, 58, 59, 60, 61, 62, 63, 64, 65, 66, 67, 68, 69, 70, 71, 72, 73, 74, 75, 76, 77, 78, 79, 80, 81, 82, 83, 84, 85, 86, 87, 88, 89, 90, 91, 92, 93] (w2_getA len_wX) ndo_1 wX_adr (w2_setA len_wX len_wX) rfl hl.1 rfl (Nat.le_of_ble_eq_true rfl) dL_law_340 ⟨by show _ ≤ 600104; omega, by show _ ≤ 7301314; omega⟩ (fun H locs hP hD hS => ?_)
  refine kr_top (w := nI 1) rfl ?_
  exact hE H locs ls _ _ (by omega) (by omega) hS
set_option maxHeartbeats 4000000 in
set_option maxRecDepth 100000 in
theorem law_full (C : LFix pp l ss mm cc bb Ls xs D cI cB cW cL) (hE : LEnd pp l ee ss mm below meth cc bb Q) {M N : kM} {S : Nat → kM} {n r : Nat} {M2 N2 : kM} {S2 : Nat → kM} {r2 : Nat} {cells slots : Nat} {B2 c0 c1 l2 : Nat} (hI : kInv M) (hO2 : oX 6 B2 M2) (hw : wyN M2 = 300) (h0 : M2 578 = nI c1) (h2 : M2 580 = nI l2) (hc1 : c0 + 350 ≤ c1) (hb1 : c1 < 2 ^ 31) (hl2 : 40 ≤ l2) (hb2 : l2 < 2 ^ 31) (hc : cells + 30 ≤ 600104) (hs : slots + 180 ≤ 7301314) : LAt pp l ee ss mm below meth cc bb D cI cB cW u u2 Q 289 [(0, .ref bb), (1, .ref (u 0)), (2, .ref (u2 0)), (3, .int (nI c0)), (4, .int (nI 70))] [] cells slots M N S n r M2 N2 S2 4 r2 := by
  obtain ⟨hx, hcd, hml, hown, hts, hX, hbl, hst, hZ, hN, hK, hL9⟩ := id C
  have hown : ss.vm.findClass RL = some mm.cls := hown
  have hA : ∀ q : Nat, ss.heap.size ≤ q → (fun q : Nat => ss.heap.size ≤ q) q := fun _ h => h
  have hbA : ¬ (fun q : Nat => ss.heap.size ≤ q) bb := Nat.not_le.mpr hbl
  have hI2 := hO2.1
  intro H locs ls hP hD hS hl
  refine lv_aload_n hx hcd dL_law_289 rfl (lv_at hl 2 rfl) ?_
  refine kr_Vi (As := []) (rest := []) (ws2 := wO cI cB cW u M N S n r ++ wO cI cB cW u2 M2 N2 S2 4 r2) (q := (RX6, TX6, 5)) ⟨hx, hcd, hml, hown, hts⟩ (c_X6_underWay__ok l D cI cB cW cL (fun i => u2 i) (fun i => u2 (100 + i)) (fun i => u2 (200 + i)) (fun j i => u2 (300 + 100 * j + i)) (fun i => u2 (800 + i)) (g_rot (fun j i => u2 (300 + 100 * j + i)) r2) N2 S2 4 0 (fun _ => 0) _ M2 hI2) (cwV 0 hts gL_law_X6_underWay rfl rfl rfl (by decide +kernel) ⟨Nat.le_of_ble_eq_true rfl, Nat.le_of_ble_eq_true rfl⟩) hK hP hD hS hA [94, 95, 96, 97, 98, 99, 100, 101, 102, 103, 104, 105, 106, 107, 108, 109, 110, 111, 112, 113, 114, 115, 116, 117, 118, 119, 120, 121, 122, 123, 124, 125, 126, 127, 128, 129, 130, 131, 132, 133, 134, 135, 136, 137, 138, 139, 140, 141, 142, 143, 144, 145, 146, 147, 148, 149, 150, 151, 152, 153, 154, 155, 156, 157, 158, 159, 160, 161, 162, 163, 164, 165, 166, 167, 168, 169, 170, 171, 172, 173, 174, 175, 176, 177, 178, 179, 180, 181, 182, 183, 184, 185, 186, 187] (w2_getB len_wX len_wX) ndo_2 wX_adr (w2_setB len_wX len_wX len_wX) 94 rfl rfl rfl hl.1 rfl (Nat.le_of_ble_eq_true rfl) dL_law_290 ⟨by show _ ≤ 600104; omega, by show _ ≤ 7301314; omega⟩ (fun H locs hP hD hS => ?_)
  refine kr_top (w := nI 300) (congrArg nI hw) ?_
  refine lv_sipush (v := nI 300) hx hcd dL_law_293 (by decide) ?_
  refine kr_cne (tgt := 337) hx hcd (by omega) (by omega) dL_law_296 (by decide) (fun (c_296 : ¬ 300 = 300) => absurd c_296 (not_not_intro rfl)) (fun (c_296 : 300 = 300) => ?_)
  refine lv_aload_n hx hcd dL_law_299 rfl (lv_at hl 2 rfl) ?_
  refine lv_iconst (v := nI 0) hx hcd dL_law_300 (by decide) ?_
  refine kl_S (As := [.ref (u2 0), .int (nI 0)]) (rest := []) (ws2 := wO cI cB cW u M N S n r ++ wO cI cB cW u2 M2 N2 S2 4 r2) ⟨hx, hcd, hml, hown, hts⟩ (c_L_count__ok l hst D cI cB cW cL (fun i => u2 i) (fun i => u2 (100 + i)) (fun i => u2 (200 + i)) (fun j i => u2 (300 + 100 * j + i)) (fun i => u2 (800 + i)) (g_rot (fun j i => u2 (300 + 100 * j + i)) r2) N2 S2 4 0 (fun _ => 0) _ M2 0 (by omega)) (vx_cwSW 2 hts gL_law_L_count rfl rfl rfl (by decide +kernel) ⟨Nat.le_of_ble_eq_true rfl, Nat.le_of_ble_eq_true rfl⟩) hZ hN hK hP hD hS hA [94, 95, 96, 97, 98, 99, 100, 101, 102, 103, 104, 105, 106, 107, 108, 109, 110, 111, 112, 113, 114, 115, 116, 117, 118, 119, 120, 121, 122, 123, 124, 125, 126, 127, 128, 129, 130, 131, 132, 133, 134, 135, 136, 137, 138, 139, 140, 141, 142, 143, 144, 145, 146, 147, 148, 149, 150, 151, 152, 153, 154, 155, 156, 157, 158, 159, 160, 161, 162, 163, 164, 165, 166, 167, 168, 169, 170, 171, 172, 173, 174, 175, 176, 177, 178, 179, 180, 181, 182, 183, 184, 185, 186, 187] (w2_getB len_wX len_wX) ndo_2 wX_adr (w2_setB len_wX len_wX len_wX) rfl hl.1 rfl (Nat.le_of_ble_eq_true rfl) dL_law_301 ⟨by show _ ≤ 600104; omega, by show _ ≤ 7301314; omega⟩ (fun H locs hP hD hS => ?_)
  refine kr_top (w := nI c1) (h0) ?_
  refine lv_iload_n hx hcd dL_law_304 rfl (lv_at hl 3 rfl) ?_
  refine lv_sipush (v := nI 350) hx hcd dL_law_305 (by decide) ?_
  refine kr_add hx hcd dL_law_308 ?_
  refine kr_clt (tgt := 337) hx hcd (by omega) (by omega) dL_law_309 (by decide) (fun (c_309 : c1 < c0 + 350) => absurd c_309 (by omega)) (fun (c_309 : c0 + 350 ≤ c1) => ?_)
  refine lv_aload_n hx hcd dL_law_312 rfl (lv_at hl 2 rfl) ?_
  refine lv_iconst (v := nI 2) hx hcd dL_law_313 (by decide) ?_
  refine kl_S (As := [.ref (u2 0), .int (nI 2)]) (rest := []) (ws2 := wO cI cB cW u M N S n r ++ wO cI cB cW u2 M2 N2 S2 4 r2) ⟨hx, hcd, hml, hown, hts⟩ (c_L_count__ok l hst D cI cB cW cL (fun i => u2 i) (fun i => u2 (100 + i)) (fun i => u2 (200 + i)) (fun j i => u2 (300 + 100 * j + i)) (fun i => u2 (800 + i)) (g_rot (fun j i => u2 (300 + 100 * j + i)) r2) N2 S2 4 0 (fun _ => 0) _ M2 2 (by omega)) (vx_cwSW 2 hts gL_law_L_count rfl rfl rfl (by decide +kernel) ⟨Nat.le_of_ble_eq_true rfl, Nat.le_of_ble_eq_true rfl⟩) hZ hN hK hP hD hS hA [94, 95, 96, 97, 98, 99, 100, 101, 102, 103, 104, 105, 106, 107, 108, 109, 110, 111, 112, 113, 114, 115, 116, 117, 118, 119, 120, 121, 122, 123, 124, 125, 126, 127, 128, 129, 130, 131, 132, 133, 134, 135, 136, 137, 138, 139, 140, 141, 142, 143, 144, 145, 146, 147, 148, 149, 150, 151, 152, 153, 154, 155, 156, 157, 158, 159, 160, 161, 162, 163, 164, 165, 166, 167, 168, 169, 170, 171, 172, 173, 174, 175, 176, 177, 178, 179, 180, 181, 182, 183, 184, 185, 186, 187] (w2_getB len_wX len_wX) ndo_2 wX_adr (w2_setB len_wX len_wX len_wX) rfl hl.1 rfl (Nat.le_of_ble_eq_true rfl) dL_law_314 ⟨by show _ ≤ 600104; omega, by show _ ≤ 7301314; omega⟩ (fun H locs hP hD hS => ?_)
  refine kr_top (w := nI l2) (h2) ?_
  refine lv_bipush (v := nI 40) hx hcd dL_law_317 (by decide) ?_
  refine kr_clt (tgt := 337) hx hcd (by omega) (by omega) dL_law_319 (by decide) (fun (c_319 : l2 < 40) => absurd c_319 (by omega)) (fun (c_319 : 40 ≤ l2) => ?_)
  refine lv_aload_n hx hcd dL_law_322 rfl (lv_at hl 2 rfl) ?_
  refine kl_P (As := [.ref (u2 0)]) (rest := []) (ws2 := wO cI cB cW u M N S n r ++ wO cI cB cW u2 M2 N2 S2 4 r2) ⟨hx, hcd, hml, hown, hts⟩ (c_L_views l hst D cI cB cW cL (fun i => u2 i) (fun i => u2 (100 + i)) (fun i => u2 (200 + i)) (fun j i => u2 (300 + 100 * j + i)) (fun i => u2 (800 + i)) (g_rot (fun j i => u2 (300 + 100 * j + i)) r2) N2 S2 4 0 (fun _ => 0) _ M2 _ hI2 hO2) (va_cwS 1 hts gL_law_L_views rfl rfl rfl (by decide +kernel) ⟨Nat.le_of_ble_eq_true rfl, Nat.le_of_ble_eq_true rfl⟩) hZ hN hK hP hD hS hA [94, 95, 96, 97, 98, 99, 100, 101, 102, 103, 104, 105, 106, 107, 108, 109, 110, 111, 112, 113, 114, 115, 116, 117, 118, 119, 120, 121, 122, 123, 124, 125, 126, 127, 128, 129, 130, 131, 132, 133, 134, 135, 136, 137, 138, 139, 140, 141, 142, 143, 144, 145, 146, 147, 148, 149, 150, 151, 152, 153, 154, 155, 156, 157, 158, 159, 160, 161, 162, 163, 164, 165, 166, 167, 168, 169, 170, 171, 172, 173, 174, 175, 176, 177, 178, 179, 180, 181, 182, 183, 184, 185, 186, 187] (w2_getB len_wX len_wX) ndo_2 wX_adr (w2_setB len_wX len_wX len_wX) rfl hl.1 rfl (Nat.le_of_ble_eq_true rfl) dL_law_323 ⟨by show _ ≤ 600104; omega, by show _ ≤ 7301314; omega⟩ (fun H locs hP hD hS => ?_)
  refine kr_top (w := nI 1) rfl ?_
  refine kr_zeq (tgt := 337) hx hcd (by omega) dL_law_326 (by decide) (fun (c_326 : 1 = 0) => absurd c_326 (by omega)) (fun (c_326 : 0 < 1) => ?_)
  refine lv_aload_n hx hcd dL_law_329 rfl (lv_at hl 2 rfl) ?_
  refine kl_S (As := [.ref (u2 0)]) (rest := []) (ws2 := wO cI cB cW u M N S n r ++ wO cI cB cW u2 (S2 ((3 + r2) % 4)) N2 S2 3 r2) ⟨hx, hcd, hml, hown, hts⟩ (c_L_undo__ok l hst D cI cB cW cL (fun i => u2 i) (fun i => u2 (100 + i)) (fun i => u2 (200 + i)) (fun j i => u2 (300 + 100 * j + i)) (fun i => u2 (800 + i)) (g_rot (fun j i => u2 (300 + 100 * j + i)) r2) N2 S2 0 0 (fun _ => 0) _ M2 r2 3 (by omega)) (vx_cwSW 1 hts gL_law_L_undo rfl rfl rfl (by decide +kernel) ⟨Nat.le_of_ble_eq_true rfl, Nat.le_of_ble_eq_true rfl⟩) hZ hN hK hP hD hS hA [94, 95, 96, 97, 98, 99, 100, 101, 102, 103, 104, 105, 106, 107, 108, 109, 110, 111, 112, 113, 114, 115, 116, 117, 118, 119, 120, 121, 122, 123, 124, 125, 126, 127, 128, 129, 130, 131, 132, 133, 134, 135, 136, 137, 138, 139, 140, 141, 142, 143, 144, 145, 146, 147, 148, 149, 150, 151, 152, 153, 154, 155, 156, 157, 158, 159, 160, 161, 162, 163, 164, 165, 166, 167, 168, 169, 170, 171, 172, 173, 174, 175, 176, 177, 178, 179, 180, 181, 182, 183, 184, 185, 186, 187] (w2_getB len_wX len_wX) ndo_2 wX_adr (w2_setB len_wX len_wX len_wX) rfl hl.1 rfl (Nat.le_of_ble_eq_true rfl) dL_law_330 ⟨by show _ ≤ 600104; omega, by show _ ≤ 7301314; omega⟩ (fun H locs hP hD hS => ?_)
  refine lv_iconst (v := nI 3) hx hcd dL_law_333 (by decide) ?_
  refine kr_ceq (tgt := 339) hx hcd (by omega) (by omega) dL_law_334 (by decide) (fun (c_334 : 3 = 3) => ?_) (fun (c_334 : ¬ 3 = 3) => absurd c_334 (not_not_intro rfl))
  exact law_end C hE hI hc hs H locs ls hP hD hS (lv_sub hl [0, 1, 2] rfl)
end LSEG
