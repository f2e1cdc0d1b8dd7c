/-! the law: many messages -/
section LSEG
variable {pp : Program} {l : Launch} {ee : Env} {ss : State} {mm : MethodId} {below : List Frame} {meth : Method} {cc : Code} {bb Ls : Nat} {xs : Nat → Int32} {D : va_G} {cI cB cW cL : ClassId} {u u2 : Nat → Nat} {Q : State → Prop}
set_option maxHeartbeats 4000000 in
set_option maxRecDepth 100000 in
theorem law_on (C : LFix pp l ss mm cc bb Ls xs D cI cB cW cL) (hE : LEnd pp l ee ss mm below meth cc bb Q) {B2 c0 w0 : Nat} (hB2 : B2 < 2 ^ 30) (hw0 : w0 ≤ 300) (hc0 : c0 < 2 ^ 30) : ∀ (f j : Nat), j + f = 70 → ∀ (M N : kM) (S : Nat → kM) (n r : Nat) (M2 N2 : kM) (S2 : Nat → kM) (n2 r2 : Nat) (cells slots : Nat) {X l2 : Nat}, oX 6 B2 M2 → pB M2 → (∀ i, 1 ≤ i → i < 6 → g_has M2 0 i 2 = true) → lst l2 M2 → wyN M2 + l2 = w0 + X → 5 * j ≤ X → X ≤ 12 * j → M2 578 = nI (c0 + X) → n2 ≤ 4 → (n2 = 4 ∨ j ≤ n2) → r2 < 4 → kInv M → cells + 30 ≤ 600104 → slots + 180 ≤ 7301314 → LAt pp l ee ss mm below meth cc bb D cI cB cW u u2 Q 256 [(0, .ref bb), (1, .ref (u 0)), (2, .ref (u2 0)), (3, .int (nI c0)), (4, .int (nI j))] [] cells slots M N S n r M2 N2 S2 n2 r2
  | 0, j, hj => by
    obtain ⟨hx, hcd, hml, hown, hts, hX, hbl, hst, hZ, hN, hK, hL9⟩ := id C
    have hown : ss.vm.findClass RL = some mm.cls := hown
    have hA : ∀ q : Nat, ss.heap.size ≤ q → (fun q : Nat => ss.heap.size ≤ q) q := fun _ h => h
    have hbA : ¬ (fun q : Nat => ss.heap.size ≤ q) bb := Nat.not_le.mpr hbl
    intro M N S n r M2 N2 S2 n2 r2 cells slots X l2 hO2 hB hm hlst hwl hX1 hX2 h578 hn2 hnj hr2 hI hc hs H locs ls hP hD hS hl
    obtain rfl : j = 70 := by omega
    have hI2 := hO2.1
    have h4 : n2 = 4 := by omega
    subst h4
    have hwy := i_wyle hI2
    have hw := lst_300 hlst (by omega)
    refine lv_iload hx hcd dL_law_256 (lv_at hl 4 rfl) ?_
    refine lv_bipush (v := nI 70) hx hcd dL_law_258 (by decide) ?_
    refine kr_cge (tgt := 289) hx hcd (by omega) (by omega) dL_law_260 (by decide) (fun (c_260 : 70 ≤ 70) => ?_) (fun (c_260 : 70 < 70) => absurd c_260 (by omega))
    exact law_full C hE hI hO2 hw h578 hlst.1 (by omega) (by omega) (by omega) (by omega) hc hs H locs ls hP hD hS (lv_sub hl [0, 1, 2, 3, 4] rfl)
  | f + 1, j, hj => by
    obtain ⟨hx, hcd, hml, hown, hts, hX, hbl, hst, hZ, hN, hK, hL9⟩ := id C
    have hown : ss.vm.findClass RL = some mm.cls := hown
    have hA : ∀ q : Nat, ss.heap.size ≤ q → (fun q : Nat => ss.heap.size ≤ q) q := fun _ h => h
    have hbA : ¬ (fun q : Nat => ss.heap.size ≤ q) bb := Nat.not_le.mpr hbl
    intro M N S n r M2 N2 S2 n2 r2 cells slots X l2 hO2 hB hm hlst hwl hX1 hX2 h578 hn2 hnj hr2 hI hc hs H locs ls hP hD hS hl
    have hI2 := hO2.1
    have hj70 : j < 70 := by omega
    refine lv_iload hx hcd dL_law_256 (lv_at hl 4 rfl) ?_
    refine lv_bipush (v := nI 70) hx hcd dL_law_258 (by decide) ?_
    refine kr_cge (tgt := 289) hx hcd (by omega) (by omega) dL_law_260 (by decide) (fun (c_260 : 70 ≤ j) => absurd c_260 (by omega)) (fun (c_260 : j < 70) => ?_)
    refine lv_aload_n hx hcd dL_law_263 rfl (lv_at hl 2 rfl) ?_
    refine lv_iconst (v := nI 0) hx hcd dL_law_264 (by decide) ?_
    refine lv_iload hx hcd dL_law_265 (lv_at hl 4 rfl) ?_
    refine lv_iconst (v := nI 3) hx hcd dL_law_267 (by decide) ?_
    refine kr_rem hx hcd (by omega) (by decide) (by decide) dL_law_268 ?_
    refine lv_iconst (v := nI 0) hx hcd dL_law_269 (by decide) ?_
    refine lv_iload hx hcd dL_law_270 (lv_at hl 4 rfl) ?_
    refine lv_iconst (v := nI 5) hx hcd dL_law_272 (by decide) ?_
    refine kr_rem hx hcd (by omega) (by decide) (by decide) dL_law_273 ?_
    refine kl_S (As := [.ref (u2 0), .int (nI 0), .int (nI (j % 3)), .int (nI 0), .int (nI (j % 5))]) (rest := []) (ws2 := wO cI cB cW u M N S n r ++ wO cI cB cW u2 (g_turnOn M2 0 (j % 3) (nI 0) (j % 5)) N2 (sset S2 (pj n2 r2) M2) (g_kn n2) (rj n2 r2)) ⟨hx, hcd, hml, hown, hts⟩ (c_L_turnOn__ok l hst D cI cB cW cL (fun i => u2 i) (fun i => u2 (100 + i)) (fun i => u2 (200 + i)) (fun j i => u2 (300 + 100 * j + i)) (fun i => u2 (800 + i)) (g_rot (fun j i => u2 (300 + 100 * j + i)) r2) N2 S2 n2 0 (fun _ => 0) _ M2 0 (j % 3) (nI 0) (j % 5) r2 hI2 (by omega) (by omega) (by omega) (by decide) (by decide) hn2 hr2) (vx_cwSW 5 hts gL_law_L_turnOn rfl rfl rfl (by decide +kernel) ⟨Nat.le_of_ble_eq_true rfl, Nat.le_of_ble_eq_true rfl⟩) hZ hN hK hP hD hS hA [94, 95, 96, 97, 98, 99, 100, 101, 102, 103, 104, 105, 106, 107, 108, 109, 110, 111, 112, 113, 114, 115, 116, 117, 118, 119, 120, 121, 122, 123, 124, 125, 126, 127, 128, 129, 130, 131, 132, 133, 134, 135, 136, 137, 138, 139, 140, 141, 142, 143, 144, 145, 146, 147, 148, 149, 150, 151, 152, 153, 154, 155, 156, 157, 158, 159, 160, 161, 162, 163, 164, 165, 166, 167, 168, 169, 170, 171, 172, 173, 174, 175, 176, 177, 178, 179, 180, 181, 182, 183, 184, 185, 186, 187] (w2_getB len_wX len_wX) ndo_2 wX_adr (w2_setB len_wX len_wX len_wX) rfl hl.1 rfl (Nat.le_of_ble_eq_true rfl) dL_law_274 ⟨by show _ ≤ 600104; omega, by show _ ≤ 7301314; omega⟩ (fun H locs hP hD hS => ?_)
    have hO3 := ox_turnOn (rk := nI 0) hO2 (by omega) (show 0 < 6 by omega) (show j % 3 < 3 by omega) (show j % 5 < 5 by omega)
    have hN3 := hO3.1
    have hB3 : pB (g_turnOn M2 0 (j % 3) (nI 0) (j % 5)) := pB_congr (fun k h1 h2 => turnOn_low (by omega) (by omega) (Or.inr ⟨h1, h2⟩)) hB
    have hm3 : ∀ i, 1 ≤ i → i < 6 → g_has (g_turnOn M2 0 (j % 3) (nI 0) (j % 5)) 0 i 2 = true := fun i h1 h2 => (has_congr (turnOn_low (by omega) (by omega) (Or.inl ⟨by omega, by omega⟩))).trans (hm i h1 h2)
    obtain ⟨l3, X3, q5, q12, q1, q2, q3⟩ := turnOn_lst (rk := nI 0) hI2 hB (show j % 3 < 3 by omega) (show j % 5 < 5 by omega) hlst hm
    have h3 : (g_turnOn M2 0 (j % 3) (nI 0) (j % 5)) 578 = nI (c0 + (X + X3)) := by rw [q3, h578, nI_add, Nat.add_assoc]
    have hk := kn_up hn2 hnj
    refine lv_iconst (v := nI 1) hx hcd dL_law_277 (by decide) ?_
    refine lv_icmp_ge (tgt := 283) hx hcd dL_law_278 (by decide) (fun (c_278 : 1 ≤ (g_cnt (g_turnOn M2 0 (j % 3) (nI 0) (j % 5)) 0)) => ?_) (fun (c_278 : ¬ 1 ≤ (g_cnt (g_turnOn M2 0 (j % 3) (nI 0) (j % 5)) 0)) => absurd c_278 (not_not_intro (cnt_ge hN3 (by omega) (by omega) (tn_on (by omega) (by omega)))))
    refine kr_iinc (lv' := [(4, .int (nI (j + 1))), (0, .ref bb), (1, .ref (u 0)), (2, .ref (u2 0)), (3, .int (nI c0))]) hx hcd dL_law_283 hl (k := 4) rfl (by decide) rfl (fun ls hl => ?_)
    refine lv_goto (tgt := 256) hx hcd dL_law_286 (by decide) ?_
    exact law_on C hE hB2 hw0 hc0 f (j + 1) (by omega) _ _ _ _ _ _ _ _ _ _ _ _ hO3 hB3 hm3 q1 (by omega) (by omega) (by omega) h3 hk.1 hk.2 (rj_lt hr2) hI (by omega) (by omega) H locs ls hP hD hS (lv_sub hl [1, 2, 3, 4, 0] rfl)
end LSEG
