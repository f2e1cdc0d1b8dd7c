/-! the law: grants, before the many messages -/
section LSEG
variable {pp : Program} {l : Launch} {ee : Env} {ss : State} {mm : MethodId} {below : List Frame} {meth : Method} {cc : Code} {bb Ls : Nat} {xs : Nat → Int32} {D : va_G} {cI cB cW cL : ClassId} {u u2 : Nat → Nat} {Q : State → Prop}
set_option maxHeartbeats 4000000 in
set_option maxRecDepth 100000 in
theorem law_gr (C : LFix pp l ss mm cc bb Ls xs D cI cB cW cL) (hE : LEnd pp l ee ss mm below meth cc bb Q) {Bq Dq : Nat} (hBq : Bq + 10000 < 2 ^ 30) (hDq : Dq + 10000 < 2 ^ 30) : ∀ (f i : Nat), i + f = 5 → ∀ (M N : kM) (S : Nat → kM) (n r : Nat) (M2 N2 : kM) (S2 : Nat → kM) (n2 r2 : Nat) (cells slots : Nat) {d : Nat}, oX 6 (Bq + 1002 * i) M2 → gst i M2 → (∀ j, 1 ≤ j → j ≤ i → g_has M2 0 j 2 = true) → M2 579 = nI d → d ≤ Dq + 1000 * i → n2 ≤ 4 → r2 < 4 → kInv M → cells + 30 ≤ 600104 → slots + 180 ≤ 7301314 → LAt pp l ee ss mm below meth cc bb D cI cB cW u u2 Q 193 [(0, .ref bb), (1, .ref (u 0)), (2, .ref (u2 0)), (3, .int (nI (i + 1)))] [] cells slots M N S n r M2 N2 S2 n2 r2
  | 0, i, hi => by
    obtain ⟨hx, hcd, hml, hown, hts, hX, hbl, hst, hZ, hN, hK, hL9⟩ := id C
    have hown : ss.vm.findClass RL = some mm.cls := hown
    have hA : ∀ q : Nat, ss.heap.size ≤ q → (fun q : Nat => ss.heap.size ≤ q) q := fun _ h => h
    have hbA : ¬ (fun q : Nat => ss.heap.size ≤ q) bb := Nat.not_le.mpr hbl
    intro M N S n r M2 N2 S2 n2 r2 cells slots d hO2 hg hm hd hdq hn2 hr2 hI hc hs H locs ls hP hD hS hl
    obtain rfl : i = 5 := by omega
    have hI2 := hO2.1
    have hwy := i_wyle hI2
    obtain ⟨hB, h580⟩ := gst_0 hg (by omega)
    have hct : M2 578 = nI (d + 0 + wyN M2) := by rw [x_ct hO2, hd, h580, nI_add, nI_add]
    refine lv_iload_n hx hcd dL_law_193 rfl (lv_at hl 3 rfl) ?_
    refine lv_bipush (v := nI 6) hx hcd dL_law_194 (by decide) ?_
    refine kr_cge (tgt := 247) hx hcd (by omega) (by omega) dL_law_196 (by decide) (fun (c_196 : 6 ≤ 5 + 1) => ?_) (fun (c_196 : 5 + 1 < 6) => absurd c_196 (by omega))
    refine lv_aload_n hx hcd dL_law_247 rfl (lv_at hl 2 rfl) ?_
    refine lv_iconst (v := nI 0) hx hcd dL_law_248 (by decide) ?_
    refine kl_S (As := [.ref (u2 0), .int (nI 0)]) (rest := []) (ws2 := wO cI cB cW u M N S n r ++ wO cI cB cW u2 M2 N2 S2 n2 r2) ⟨hx, hcd, hml, hown, hts⟩ (c_L_count__ok l hst D cI cB cW cL (fun i => u2 i) (fun i => u2 (100 + i)) (fun i => u2 (200 + i)) (fun j i => u2 (300 + 100 * j + i)) (fun i => u2 (800 + i)) (g_rot (fun j i => u2 (300 + 100 * j + i)) r2) N2 S2 n2 0 (fun _ => 0) _ M2 0 (by omega)) (vx_cwSW 2 hts gL_law_L_count rfl rfl rfl (by decide +kernel) ⟨Nat.le_of_ble_eq_true rfl, Nat.le_of_ble_eq_true rfl⟩) hZ hN hK hP hD hS hA [94, 95, 96, 97, 98, 99, 100, 101, 102, 103, 104, 105, 106, 107, 108, 109, 110, 111, 112, 113, 114, 115, 116, 117, 118, 119, 120, 121, 122, 123, 124, 125, 126, 127, 128, 129, 130, 131, 132, 133, 134, 135, 136, 137, 138, 139, 140, 141, 142, 143, 144, 145, 146, 147, 148, 149, 150, 151, 152, 153, 154, 155, 156, 157, 158, 159, 160, 161, 162, 163, 164, 165, 166, 167, 168, 169, 170, 171, 172, 173, 174, 175, 176, 177, 178, 179, 180, 181, 182, 183, 184, 185, 186, 187] (w2_getB len_wX len_wX) ndo_2 wX_adr (w2_setB len_wX len_wX len_wX) rfl hl.1 rfl (Nat.le_of_ble_eq_true rfl) dL_law_249 ⟨by show _ ≤ 600104; omega, by show _ ≤ 7301314; omega⟩ (fun H locs hP hD hS => ?_)
    refine kr_top (w := nI (d + 0 + wyN M2)) (hct) ?_
    refine lv_istore_n (lv' := [(3, .int (nI (d + 0 + wyN M2))), (0, .ref bb), (1, .ref (u 0)), (2, .ref (u2 0))]) hx hcd dL_law_252 rfl hl (by decide) rfl (fun ls hl => ?_)
    refine lv_iconst (v := nI 0) hx hcd dL_law_253 (by decide) ?_
    refine lv_istore (lv' := [(4, .int (nI 0)), (3, .int (nI (d + 0 + wyN M2))), (0, .ref bb), (1, .ref (u 0)), (2, .ref (u2 0))]) hx hcd dL_law_254 hl (by decide) rfl (fun ls hl => ?_)
    exact law_on C hE (c0 := d + 0 + wyN M2) (by omega) hwy (by omega) 70 0 rfl _ _ _ _ _ _ _ _ _ _ _ _ (X := 0) (l2 := 0) hO2 hB (fun j h1 h2 => hm j h1 (by omega)) ⟨h580, Or.inl rfl⟩ rfl (by omega) (by omega) hct hn2 (Or.inr (Nat.zero_le _)) hr2 hI (by omega) (by omega) H locs ls hP hD hS (lv_sub hl [2, 3, 4, 1, 0] rfl)
  | f + 1, i, hi => by
    obtain ⟨hx, hcd, hml, hown, hts, hX, hbl, hst, hZ, hN, hK, hL9⟩ := id C
    have hown : ss.vm.findClass RL = some mm.cls := hown
    have hA : ∀ q : Nat, ss.heap.size ≤ q → (fun q : Nat => ss.heap.size ≤ q) q := fun _ h => h
    have hbA : ¬ (fun q : Nat => ss.heap.size ≤ q) bb := Nat.not_le.mpr hbl
    intro M N S n r M2 N2 S2 n2 r2 cells slots d hO2 hg hm hd hdq hn2 hr2 hI hc hs H locs ls hP hD hS hl
    have hI2 := hO2.1
    have hi5 : i < 5 := by omega
    refine lv_iload_n hx hcd dL_law_193 rfl (lv_at hl 3 rfl) ?_
    refine lv_bipush (v := nI 6) hx hcd dL_law_194 (by decide) ?_
    refine kr_cge (tgt := 247) hx hcd (by omega) (by omega) dL_law_196 (by decide) (fun (c_196 : 6 ≤ i + 1) => absurd c_196 (by omega)) (fun (c_196 : i + 1 < 6) => ?_)
    refine lv_aload_n hx hcd dL_law_199 rfl (lv_at hl 2 rfl) ?_
    refine lv_iload_n hx hcd dL_law_200 rfl (lv_at hl 3 rfl) ?_
    refine lv_iconst (v := nI 0) hx hcd dL_law_201 (by decide) ?_
    refine kl_S (As := [.ref (u2 0), .int (nI (i + 1)), .int (nI 0)]) (rest := []) (ws2 := wO cI cB cW u M N S n r ++ wO cI cB cW u2 (g_ask M2 (i + 1) 0) N2 (sset S2 (pj n2 r2) M2) (g_kn n2) (rj n2 r2)) ⟨hx, hcd, hml, hown, hts⟩ (c_L_ask__ok l hst D cI cB cW cL (fun i => u2 i) (fun i => u2 (100 + i)) (fun i => u2 (200 + i)) (fun j i => u2 (300 + 100 * j + i)) (fun i => u2 (800 + i)) (g_rot (fun j i => u2 (300 + 100 * j + i)) r2) N2 S2 n2 0 (fun _ => 0) _ M2 (i + 1) 0 r2 hI2 (by omega) (by omega) (by omega) hn2 hr2) (vx_cwSW 3 hts gL_law_L_ask rfl rfl rfl (by decide +kernel) ⟨Nat.le_of_ble_eq_true rfl, Nat.le_of_ble_eq_true rfl⟩) hZ hN hK hP hD hS hA [94, 95, 96, 97, 98, 99, 100, 101, 102, 103, 104, 105, 106, 107, 108, 109, 110, 111, 112, 113, 114, 115, 116, 117, 118, 119, 120, 121, 122, 123, 124, 125, 126, 127, 128, 129, 130, 131, 132, 133, 134, 135, 136, 137, 138, 139, 140, 141, 142, 143, 144, 145, 146, 147, 148, 149, 150, 151, 152, 153, 154, 155, 156, 157, 158, 159, 160, 161, 162, 163, 164, 165, 166, 167, 168, 169, 170, 171, 172, 173, 174, 175, 176, 177, 178, 179, 180, 181, 182, 183, 184, 185, 186, 187] (w2_getB len_wX len_wX) ndo_2 wX_adr (w2_setB len_wX len_wX len_wX) rfl hl.1 rfl (Nat.le_of_ble_eq_true rfl) dL_law_202 ⟨by show _ ≤ 600104; omega, by show _ ≤ 7301314; omega⟩ (fun H locs hP hD hS => ?_)
    have hO3 := ox_ask hO2 (show i + 1 < 6 by omega) (show 0 < 6 by omega) (by omega)
    refine lv_istore (lv' := [(4, .int (if g_has M2 (i + 1) 0 5 = true then 0 else 1)), (0, .ref bb), (1, .ref (u 0)), (2, .ref (u2 0)), (3, .int (nI (i + 1)))]) hx hcd dL_law_205 hl (by decide) rfl (fun ls hl => ?_)
    refine lv_aload_n hx hcd dL_law_207 rfl (lv_at hl 3 rfl) ?_
    refine lv_sipush (v := nI 1000) hx hcd dL_law_208 (by decide) ?_
    refine kl_S (As := [.ref (u2 0), .int (nI 1000)]) (rest := []) (ws2 := wO cI cB cW u M N S n r ++ wO cI cB cW u2 (g_del 1000 (g_ask M2 (i + 1) 0)) N2 (sset (sset S2 (pj n2 r2) M2) (pj (g_kn n2) (rj n2 r2)) (g_ask M2 (i + 1) 0)) (g_kn (g_kn n2)) (rj (g_kn n2) (rj n2 r2))) ⟨hx, hcd, hml, hown, hts⟩ (c_L_deliver__ok l hst D cI cB cW cL (fun i => u2 i) (fun i => u2 (100 + i)) (fun i => u2 (200 + i)) (fun j i => u2 (300 + 100 * j + i)) (fun i => u2 (800 + i)) (g_rot (fun j i => u2 (300 + 100 * j + i)) (rj n2 r2)) N2 (sset S2 (pj n2 r2) M2) (g_kn n2) 0 (fun _ => 0) _ (g_ask M2 (i + 1) 0) 1000 (rj n2 r2) hO3.1 (by omega) (kn_le hn2).2 (rj_lt hr2)) (vx_cwSW 2 hts gL_law_L_deliver rfl rfl rfl (by decide +kernel) ⟨Nat.le_of_ble_eq_true rfl, Nat.le_of_ble_eq_true rfl⟩) hZ hN hK hP hD hS hA [94, 95, 96, 97, 98, 99, 100, 101, 102, 103, 104, 105, 106, 107, 108, 109, 110, 111, 112, 113, 114, 115, 116, 117, 118, 119, 120, 121, 122, 123, 124, 125, 126, 127, 128, 129, 130, 131, 132, 133, 134, 135, 136, 137, 138, 139, 140, 141, 142, 143, 144, 145, 146, 147, 148, 149, 150, 151, 152, 153, 154, 155, 156, 157, 158, 159, 160, 161, 162, 163, 164, 165, 166, 167, 168, 169, 170, 171, 172, 173, 174, 175, 176, 177, 178, 179, 180, 181, 182, 183, 184, 185, 186, 187] (w2_getB len_wX len_wX) ndo_2 wX_adr (w2_setB len_wX len_wX len_wX) rfl hl.1 rfl (Nat.le_of_ble_eq_true rfl) dL_law_211 ⟨by show _ ≤ 600104; omega, by show _ ≤ 7301314; omega⟩ (fun H locs hP hD hS => ?_)
    have hO4 := ox_del 1000 hO3
    have bd := delC_le 1000 (g_ask M2 (i + 1) 0)
    refine lv_istore (lv' := [(5, .int (nI (g_delC 1000 (g_ask M2 (i + 1) 0)))), (4, .int (if g_has M2 (i + 1) 0 5 = true then 0 else 1)), (0, .ref bb), (1, .ref (u 0)), (2, .ref (u2 0)), (3, .int (nI (i + 1)))]) hx hcd dL_law_214 hl (by decide) rfl (fun ls hl => ?_)
    refine lv_aload_n hx hcd dL_law_216 rfl (lv_at hl 4 rfl) ?_
    refine lv_iconst (v := nI 0) hx hcd dL_law_217 (by decide) ?_
    refine lv_iload_n hx hcd dL_law_218 rfl (lv_at hl 5 rfl) ?_
    refine kl_S (As := [.ref (u2 0), .int (nI 0), .int (nI (i + 1))]) (rest := []) (ws2 := wO cI cB cW u M N S n r ++ wO cI cB cW u2 (g_grant (g_del 1000 (g_ask M2 (i + 1) 0)) 0 (i + 1)) N2 (sset (sset (sset S2 (pj n2 r2) M2) (pj (g_kn n2) (rj n2 r2)) (g_ask M2 (i + 1) 0)) (pj (g_kn (g_kn n2)) (rj (g_kn n2) (rj n2 r2))) (g_del 1000 (g_ask M2 (i + 1) 0))) (g_kn (g_kn (g_kn n2))) (rj (g_kn (g_kn n2)) (rj (g_kn n2) (rj n2 r2)))) ⟨hx, hcd, hml, hown, hts⟩ (c_L_grant__ok l hst D cI cB cW cL (fun i => u2 i) (fun i => u2 (100 + i)) (fun i => u2 (200 + i)) (fun j i => u2 (300 + 100 * j + i)) (fun i => u2 (800 + i)) (g_rot (fun j i => u2 (300 + 100 * j + i)) (rj (g_kn n2) (rj n2 r2))) N2 (sset (sset S2 (pj n2 r2) M2) (pj (g_kn n2) (rj n2 r2)) (g_ask M2 (i + 1) 0)) (g_kn (g_kn n2)) 0 (fun _ => 0) _ (g_del 1000 (g_ask M2 (i + 1) 0)) 0 (i + 1) (rj (g_kn n2) (rj n2 r2)) hO4.1 (by omega) (by omega) (by omega) (kn_le (kn_le hn2).2).2 (rj_lt (rj_lt hr2))) (vx_cwSW 3 hts gL_law_L_grant rfl rfl rfl (by decide +kernel) ⟨Nat.le_of_ble_eq_true rfl, Nat.le_of_ble_eq_true rfl⟩) hZ hN hK hP hD hS hA [94, 95, 96, 97, 98, 99, 100, 101, 102, 103, 104, 105, 106, 107, 108, 109, 110, 111, 112, 113, 114, 115, 116, 117, 118, 119, 120, 121, 122, 123, 124, 125, 126, 127, 128, 129, 130, 131, 132, 133, 134, 135, 136, 137, 138, 139, 140, 141, 142, 143, 144, 145, 146, 147, 148, 149, 150, 151, 152, 153, 154, 155, 156, 157, 158, 159, 160, 161, 162, 163, 164, 165, 166, 167, 168, 169, 170, 171, 172, 173, 174, 175, 176, 177, 178, 179, 180, 181, 182, 183, 184, 185, 186, 187] (w2_getB len_wX len_wX) ndo_2 wX_adr (w2_setB len_wX len_wX len_wX) rfl hl.1 rfl (Nat.le_of_ble_eq_true rfl) dL_law_219 ⟨by show _ ≤ 600104; omega, by show _ ≤ 7301314; omega⟩ (fun H locs hP hD hS => ?_)
    have hO5 := ox_grant hO4 (show 0 < 6 by omega) (show i + 1 < 6 by omega) (by omega)
    obtain ⟨g1, g2, g3⟩ := gst_next hO2 hg hi5
    obtain ⟨k1, k2, k3⟩ := gst_grant hO4 g1 (show 1 ≤ i + 1 by omega) (show i + 1 < 6 by omega) g3
    have hm5 : ∀ j, 1 ≤ j → j ≤ i + 1 → g_has (g_grant (g_del 1000 (g_ask M2 (i + 1) 0)) 0 (i + 1)) 0 j 2 = true := fun j h1 h2 => by
      by_cases e : j = i + 1
      · rw [e]; exact k2
      · rw [k3 j (by omega) e]; exact g2 j h1 (by omega) (hm j h1 (by omega))
    have hd5 : (g_grant (g_del 1000 (g_ask M2 (i + 1) 0)) 0 (i + 1)) 579 = nI (d + g_delC 1000 (g_ask M2 (i + 1) 0)) := by rw [grant_579 (by omega) (by omega), del_579 1000 hO3.1, ask_579 (by omega) (by omega), hd, nI_add]
    refine lv_istore (lv' := [(6, .int (if g_has (g_del 1000 (g_ask M2 (i + 1) 0)) 0 (i + 1) 8 = true then 1 else 0)), (5, .int (nI (g_delC 1000 (g_ask M2 (i + 1) 0)))), (4, .int (if g_has M2 (i + 1) 0 5 = true then 0 else 1)), (0, .ref bb), (1, .ref (u 0)), (2, .ref (u2 0)), (3, .int (nI (i + 1)))]) hx hcd dL_law_222 hl (by decide) rfl (fun ls hl => ?_)
    refine lv_iload hx hcd dL_law_224 (lv_at hl 2 rfl) ?_
    refine lv_if_lt (tgt := 239) hx hcd dL_law_226 (by decide) (fun (c_226 : (if g_has M2 (i + 1) 0 5 = true then 0 else 1) < 0) => absurd c_226 (by split <;> decide)) (fun (c_226 : ¬ (if g_has M2 (i + 1) 0 5 = true then 0 else 1) < 0) => ?_)
    refine lv_iload hx hcd dL_law_229 (lv_at hl 1 rfl) ?_
    refine kr_zlt (tgt := 239) hx hcd (by omega) dL_law_231 (by decide) ?_
    refine lv_iload hx hcd dL_law_234 (lv_at hl 0 rfl) ?_
    refine lv_if_ge (tgt := 241) hx hcd dL_law_236 (by decide) (fun (c_236 : 0 ≤ (if g_has (g_del 1000 (g_ask M2 (i + 1) 0)) 0 (i + 1) 8 = true then 1 else 0)) => ?_) (fun (c_236 : ¬ 0 ≤ (if g_has (g_del 1000 (g_ask M2 (i + 1) 0)) 0 (i + 1) 8 = true then 1 else 0)) => absurd c_236 (not_not_intro (by split <;> decide)))
    refine kr_iinc (lv' := [(3, .int (nI (i + 1 + 1))), (6, .int (if g_has (g_del 1000 (g_ask M2 (i + 1) 0)) 0 (i + 1) 8 = true then 1 else 0)), (5, .int (nI (g_delC 1000 (g_ask M2 (i + 1) 0)))), (4, .int (if g_has M2 (i + 1) 0 5 = true then 0 else 1)), (0, .ref bb), (1, .ref (u 0)), (2, .ref (u2 0))]) hx hcd dL_law_241 hl (k := 6) rfl (by decide) rfl (fun ls hl => ?_)
    refine lv_goto (tgt := 193) hx hcd dL_law_244 (by decide) ?_
    exact law_gr C hE hBq hDq f (i + 1) (by omega) _ _ _ _ _ _ _ _ _ _ _ _ (ox_mono (by omega) hO5) k1 hm5 hd5 (by omega) (kn_le (kn_le (kn_le hn2).2).2).2 (rj_lt (rj_lt (rj_lt hr2))) hI (by omega) (by omega) H locs ls hP hD hS (lv_sub hl [4, 5, 6, 0] rfl)
end LSEG
