/-! the law: the rounds -/
def OInv (k : Nat) (M : kM) (n r : Nat) : Prop := oX 6 (9 * k) M ∧ n ≤ 4 ∧ r < 4
def QInv (k : Nat) (M : kM) (n r : Nat) : Prop := oX 6 (1009 * k) M ∧ cm M ∧ n ≤ 4 ∧ r < 4 ∧ ∃ d, d ≤ 1000 * k ∧ M 579 = nI d
section LSEG
variable {pp : Program} {l : Launch} {ee : Env} {ss : State} {mm : MethodId} {below : List Frame} {meth : Method} {cc : Code} {bb Ls : Nat} {xs : Nat → Int32} {D : va_G} {cI cB cW cL : ClassId} {u u2 : Nat → Nat} {Q : State → Prop}
set_option maxHeartbeats 4000000 in
set_option maxRecDepth 100000 in
theorem law_tail (C : LFix pp l ss mm cc bb Ls xs D cI cB cW cL) (hE : LEnd pp l ee ss mm below meth cc bb Q) {M N : kM} {S : Nat → kM} {n r : Nat} {M2 N2 : kM} {S2 : Nat → kM} {n2 r2 : Nat} {cells slots : Nat} {Bo : Nat} (hO : oX 6 Bo M) (hV : QInv 24 M2 n2 r2) (hc : cells + 30 ≤ 600104) (hs : slots + 180 ≤ 7301314) : LAt pp l ee ss mm below meth cc bb D cI cB cW u u2 Q 178 [(0, .ref bb), (1, .ref (u 0)), (2, .ref (u2 0)), (3, .int (nI 24))] [] cells slots M N S n r M2 N2 S2 n2 r2 := by
  obtain ⟨hx, hcd, hml, hown, hts, hX, hbl, hst, hZ, hN, hK, hL9⟩ := id C
  have hown : ss.vm.findClass RL = some mm.cls := hown
  have hA : ∀ q : Nat, ss.heap.size ≤ q → (fun q : Nat => ss.heap.size ≤ q) q := fun _ h => h
  have hbA : ¬ (fun q : Nat => ss.heap.size ≤ q) bb := Nat.not_le.mpr hbl
  obtain ⟨hO2, hm2, hn2, hr2, d, hdk, hd2⟩ := hV
  intro H locs ls hP hD hS hl
  refine lv_aload_n hx hcd dL_law_178 rfl (lv_at hl 0 rfl) ?_
  refine lv_bipush (v := nI 50) hx hcd dL_law_179 (by decide) ?_
  refine kl_C (As := [.ref bb, .int (nI 50)]) (rest := []) ⟨hx, hcd, hml, hown, hts⟩ (c_L_cell l bb Ls xs 50 (by omega) hL9) (va_cwS 2 hts gL_law_L_cell rfl rfl rfl (by decide +kernel) ⟨Nat.le_of_ble_eq_true rfl, Nat.le_of_ble_eq_true rfl⟩) hX hbl hbA hP hS rfl hl.1 rfl (Nat.le_of_ble_eq_true rfl) dL_law_181 ⟨by show _ ≤ 600104; omega, by show _ ≤ 7301314; omega⟩ (fun H locs hP hS => ?_)
  obtain ⟨wx, ex⟩ : ∃ wx, g_cell xs Ls 50 = wx := ⟨_, rfl⟩
  refine kr_top (w := wx) ex ?_
  have lx := low_lt (v := wx) (n := 3) (by omega)
  refine lv_iconst (v := nI 3) hx hcd dL_law_184 (by decide) ?_
  refine kr_Si (As := [.int wx, .int (nI 3)]) (rest := []) (ws2 := wO cI cB cW u M N S n r ++ wO cI cB cW u2 M2 N2 S2 n2 r2) ⟨hx, hcd, hml, hown, hts⟩ (c_L_low l D cI cB cW cL _ M wx 3 (by omega) (by omega)) (va_cwS 2 hts gL_law_L_low rfl rfl rfl (by decide +kernel) ⟨Nat.le_of_ble_eq_true rfl, Nat.le_of_ble_eq_true rfl⟩) hK hP hD hS hA [] rfl (by decide) rfl rfl rfl hl.1 rfl (Nat.le_of_ble_eq_true rfl) dL_law_185 ⟨by show _ ≤ 600104; omega, by show _ ≤ 7301314; omega⟩ (fun H locs hP hD hS => ?_)
  refine kr_zne (tgt := 339) hx hcd (by omega) dL_law_188 (by decide) (fun (c_188 : 0 < g_low wx 3) => ?_) (fun (c_188 : g_low wx 3 = 0) => ?_)
  · exact law_end C hE hO.1 (by omega) (by omega) H locs ls hP hD hS (lv_sub hl [0, 1, 2] rfl)
  · refine lv_iconst (v := nI 1) hx hcd dL_law_191 (by decide) ?_
    refine lv_istore_n (lv' := [(3, .int (nI 1)), (0, .ref bb), (1, .ref (u 0)), (2, .ref (u2 0))]) hx hcd dL_law_192 rfl hl (by decide) rfl (fun ls hl => ?_)
    exact law_gr C hE (Bq := 24216) (Dq := 24000) (by omega) (by omega) 5 0 rfl _ _ _ _ _ _ _ _ _ _ _ _ (d := d) (ox_mono (by omega) hO2) (Or.inl hm2) (fun j h1 h2 => absurd h1 (by omega)) hd2 (by omega) hn2 hr2 hO.1 (by omega) (by omega) H locs ls hP hD hS (lv_sub hl [1, 2, 3, 0] rfl)
set_option maxHeartbeats 4000000 in
set_option maxRecDepth 100000 in
theorem law_half (C : LFix pp l ss mm cc bb Ls xs D cI cB cW cL) {M N : kM} {S : Nat → kM} {n r : Nat} {M2 N2 : kM} {S2 : Nat → kM} {n2 r2 : Nat} {cells slots : Nat} {k : Nat} {wx wy : Int32} (hk : k < 24) (hV : QInv k M2 n2 r2) (kk : ∀ (M2 N2 : kM) (S2 : Nat → kM) (n2 r2 : Nat), QInv (k + 1) M2 n2 r2 → LAt pp l ee ss mm below meth cc bb D cI cB cW u u2 Q 55 [(0, .ref bb), (1, .ref (u 0)), (2, .ref (u2 0)), (3, .int (nI (k + 1)))] [] (cells + 1) (slots + 6) M N S n r M2 N2 S2 n2 r2) (hc : cells + 1 ≤ 600104) (hs : slots + 6 ≤ 7301314) : LAt pp l ee ss mm below meth cc bb D cI cB cW u u2 Q 134 [(0, .ref bb), (1, .ref (u 0)), (2, .ref (u2 0)), (3, .int (nI k)), (4, .int wx), (5, .int wy)] [] cells slots M N S n r M2 N2 S2 n2 r2 := by
  obtain ⟨hx, hcd, hml, hown, hts, hX, hbl, hst, hZ, hN, hK, hL9⟩ := id C
  have hown : ss.vm.findClass RL = some mm.cls := hown
  have hA : ∀ q : Nat, ss.heap.size ≤ q → (fun q : Nat => ss.heap.size ≤ q) q := fun _ h => h
  have hbA : ¬ (fun q : Nat => ss.heap.size ≤ q) bb := Nat.not_le.mpr hbl
  obtain ⟨hO2, hm2, hn2, hr2, d, hdk, hd2⟩ := hV
  intro H locs ls hP hD hS hl
  refine lv_aload_n hx hcd dL_law_134 rfl (lv_at hl 2 rfl) ?_
  refine lv_iload hx hcd dL_law_135 (lv_at hl 5 rfl) ?_
  refine lv_iload hx hcd dL_law_137 (lv_at hl 4 rfl) ?_
  refine lv_iconst (v := nI 1) hx hcd dL_law_139 (by decide) ?_
  refine kr_top (w := kI true) rfl ?_
  refine kl_E (As := [.ref (u2 0), .int wy, .int wx, .int (kI true)]) (rest := []) ⟨hx, hcd, hml, hown, hts⟩ (c_L_act l hst D cI cB cW cL (fun i => u2 i) (fun i => u2 (100 + i)) (fun i => u2 (200 + i)) (fun j i => u2 (300 + 100 * j + i)) (fun i => u2 (800 + i)) (g_rot (fun j i => u2 (300 + 100 * j + i)) r2) N2 S2 n2 0 (fun _ => 0) _ M2 wy wx true _ r2 hO2 (by omega) hn2 hr2) (va_cwS 4 hts gL_law_L_act rfl rfl rfl (by decide +kernel) ⟨Nat.le_of_ble_eq_true rfl, Nat.le_of_ble_eq_true rfl⟩) hZ hN hK hP hD hS hA [94, 95, 96, 97, 98, 99, 100, 101, 102, 103, 104, 105, 106, 107, 108, 109, 110, 111, 112, 113, 114, 115, 116, 117, 118, 119, 120, 121, 122, 123, 124, 125, 126, 127, 128, 129, 130, 131, 132, 133, 134, 135, 136, 137, 138, 139, 140, 141, 142, 143, 144, 145, 146, 147, 148, 149, 150, 151, 152, 153, 154, 155, 156, 157, 158, 159, 160, 161, 162, 163, 164, 165, 166, 167, 168, 169, 170, 171, 172, 173, 174, 175, 176, 177, 178, 179, 180, 181, 182, 183, 184, 185, 186, 187] (w2_getB len_wX len_wX) ndo_2 (fun w1 v1 hF => by obtain ⟨_, _, _, _, rfl, _⟩ := hF; exact wX_adr) rfl hl.1 rfl (Nat.le_of_ble_eq_true rfl) dL_law_140 ⟨by show _ ≤ 600104; omega, by show _ ≤ 7301314; omega⟩ (fun w1 v1 hF H locs hP hD hS => ?_)
  obtain ⟨MB, SB, nB, rB, rfl, hnB, hrB, hvB, hOB, hcB⟩ := hF
  have hP : va_P D vwCl (wO cI cB cW u M N S n r ++ wO cI cB cW u2 MB N2 SB nB rB) H := by rw [(w2_setB len_wX len_wX len_wX)] at hP; exact hP
  have hD : va_D (fun q : Nat => ss.heap.size ≤ q) (wO cI cB cW u M N S n r ++ wO cI cB cW u2 MB N2 SB nB rB) := by rw [(w2_setB len_wX len_wX len_wX)] at hD; exact hD
  obtain ⟨hm4, h579⟩ := hcB rfl hm2
  have bd := delC_le 1000 MB
  have hO4 := ox_del 1000 hOB
  have hw0 := rest_ok hOB.1
  have hV2 : QInv (k + 1) (g_del 1000 MB) (g_kn nB) (rj nB rB) := ⟨ox_mono (by omega) hO4, hm4, (kn_le hnB).2, rj_lt hrB, d + g_delC 1000 MB, by omega, by rw [del_579 1000 hOB.1, h579, hd2, nI_add]⟩
  refine lv_if_lt (tgt := 170) hx hcd dL_law_143 (by decide) (fun (c_143 : v1 < 0) => absurd c_143 hvB) (fun (c_143 : ¬ v1 < 0) => ?_)
  refine lv_aload_n hx hcd dL_law_146 rfl (lv_at hl 2 rfl) ?_
  refine lv_sipush (v := nI 1000) hx hcd dL_law_147 (by decide) ?_
  refine kl_S (As := [.ref (u2 0), .int (nI 1000)]) (rest := []) (ws2 := wO cI cB cW u M N S n r ++ wO cI cB cW u2 (g_del 1000 MB) N2 (sset SB (pj nB rB) MB) (g_kn nB) (rj nB rB)) ⟨hx, hcd, hml, hown, hts⟩ (c_L_deliver__ok l hst D cI cB cW cL (fun i => u2 i) (fun i => u2 (100 + i)) (fun i => u2 (200 + i)) (fun j i => u2 (300 + 100 * j + i)) (fun i => u2 (800 + i)) (g_rot (fun j i => u2 (300 + 100 * j + i)) rB) N2 SB nB 0 (fun _ => 0) _ MB 1000 rB hOB.1 (by omega) hnB hrB) (vx_cwSW 2 hts gL_law_L_deliver rfl rfl rfl (by decide +kernel) ⟨Nat.le_of_ble_eq_true rfl, Nat.le_of_ble_eq_true rfl⟩) hZ hN hK hP hD hS hA [94, 95, 96, 97, 98, 99, 100, 101, 102, 103, 104, 105, 106, 107, 108, 109, 110, 111, 112, 113, 114, 115, 116, 117, 118, 119, 120, 121, 122, 123, 124, 125, 126, 127, 128, 129, 130, 131, 132, 133, 134, 135, 136, 137, 138, 139, 140, 141, 142, 143, 144, 145, 146, 147, 148, 149, 150, 151, 152, 153, 154, 155, 156, 157, 158, 159, 160, 161, 162, 163, 164, 165, 166, 167, 168, 169, 170, 171, 172, 173, 174, 175, 176, 177, 178, 179, 180, 181, 182, 183, 184, 185, 186, 187] (w2_getB len_wX len_wX) ndo_2 wX_adr (w2_setB len_wX len_wX len_wX) rfl hl.1 rfl (Nat.le_of_ble_eq_true rfl) dL_law_150 ⟨by show _ ≤ 600104; omega, by show _ ≤ 7301314; omega⟩ (fun H locs hP hD hS => ?_)
  refine kr_zlt (tgt := 170) hx hcd (by omega) dL_law_153 (by decide) ?_
  refine lv_aload_n hx hcd dL_law_156 rfl (lv_at hl 2 rfl) ?_
  refine kr_Vi (As := []) (rest := []) (ws2 := wO cI cB cW u M N S n r ++ wO cI cB cW u2 (g_del 1000 MB) N2 (sset SB (pj nB rB) MB) (g_kn nB) (rj nB rB)) (q := (RX6, TX6, 5)) ⟨hx, hcd, hml, hown, hts⟩ (c_X6_underWay__ok l D cI cB cW cL (fun i => u2 i) (fun i => u2 (100 + i)) (fun i => u2 (200 + i)) (fun j i => u2 (300 + 100 * j + i)) (fun i => u2 (800 + i)) (g_rot (fun j i => u2 (300 + 100 * j + i)) (rj nB rB)) N2 (sset SB (pj nB rB) MB) (g_kn nB) 0 (fun _ => 0) _ (g_del 1000 MB) hO4.1) (cwV 0 hts gL_law_X6_underWay rfl rfl rfl (by decide +kernel) ⟨Nat.le_of_ble_eq_true rfl, Nat.le_of_ble_eq_true rfl⟩) hK hP hD hS hA [94, 95, 96, 97, 98, 99, 100, 101, 102, 103, 104, 105, 106, 107, 108, 109, 110, 111, 112, 113, 114, 115, 116, 117, 118, 119, 120, 121, 122, 123, 124, 125, 126, 127, 128, 129, 130, 131, 132, 133, 134, 135, 136, 137, 138, 139, 140, 141, 142, 143, 144, 145, 146, 147, 148, 149, 150, 151, 152, 153, 154, 155, 156, 157, 158, 159, 160, 161, 162, 163, 164, 165, 166, 167, 168, 169, 170, 171, 172, 173, 174, 175, 176, 177, 178, 179, 180, 181, 182, 183, 184, 185, 186, 187] (w2_getB len_wX len_wX) ndo_2 wX_adr (w2_setB len_wX len_wX len_wX) 94 rfl rfl rfl hl.1 rfl (Nat.le_of_ble_eq_true rfl) dL_law_157 ⟨by show _ ≤ 600104; omega, by show _ ≤ 7301314; omega⟩ (fun H locs hP hD hS => ?_)
  refine kr_zne (tgt := 170) hx hcd (by omega) dL_law_160 (by decide) (fun (c_160 : 0 < wyN (g_del 1000 MB)) => absurd c_160 (by omega)) (fun (c_160 : wyN (g_del 1000 MB) = 0) => ?_)
  refine lv_aload_n hx hcd dL_law_163 rfl (lv_at hl 2 rfl) ?_
  refine kl_P (As := [.ref (u2 0)]) (rest := []) (ws2 := wO cI cB cW u M N S n r ++ wO cI cB cW u2 (g_del 1000 MB) N2 (sset SB (pj nB rB) MB) (g_kn nB) (rj nB rB)) ⟨hx, hcd, hml, hown, hts⟩ (c_L_calm l hst D cI cB cW cL (fun i => u2 i) (fun i => u2 (100 + i)) (fun i => u2 (200 + i)) (fun j i => u2 (300 + 100 * j + i)) (fun i => u2 (800 + i)) (g_rot (fun j i => u2 (300 + 100 * j + i)) (rj nB rB)) N2 (sset SB (pj nB rB) MB) (g_kn nB) 0 (fun _ => 0) _ (g_del 1000 MB) hO4.1 (fun a ha => cm_wr hO4.1 hm4 ha) (cm_pairs hm4)) (va_cwS 1 hts gL_law_L_calm rfl rfl rfl (by decide +kernel) ⟨Nat.le_of_ble_eq_true rfl, Nat.le_of_ble_eq_true rfl⟩) hZ hN hK hP hD hS hA [94, 95, 96, 97, 98, 99, 100, 101, 102, 103, 104, 105, 106, 107, 108, 109, 110, 111, 112, 113, 114, 115, 116, 117, 118, 119, 120, 121, 122, 123, 124, 125, 126, 127, 128, 129, 130, 131, 132, 133, 134, 135, 136, 137, 138, 139, 140, 141, 142, 143, 144, 145, 146, 147, 148, 149, 150, 151, 152, 153, 154, 155, 156, 157, 158, 159, 160, 161, 162, 163, 164, 165, 166, 167, 168, 169, 170, 171, 172, 173, 174, 175, 176, 177, 178, 179, 180, 181, 182, 183, 184, 185, 186, 187] (w2_getB len_wX len_wX) ndo_2 wX_adr (w2_setB len_wX len_wX len_wX) rfl hl.1 rfl (Nat.le_of_ble_eq_true rfl) dL_law_164 ⟨by show _ ≤ 600104; omega, by show _ ≤ 7301314; omega⟩ (fun H locs hP hD hS => ?_)
  refine kr_top (w := nI 1) rfl ?_
  refine kr_zne (tgt := 172) hx hcd (by omega) dL_law_167 (by decide) (fun (c_167 : 0 < 1) => ?_) (fun (c_167 : 1 = 0) => absurd c_167 (by omega))
  refine kr_iinc (lv' := [(3, .int (nI (k + 1))), (0, .ref bb), (1, .ref (u 0)), (2, .ref (u2 0)), (4, .int wx), (5, .int wy)]) hx hcd dL_law_172 hl (k := 3) rfl (by decide) rfl (fun ls hl => ?_)
  refine lv_goto (tgt := 55) hx hcd dL_law_175 (by decide) ?_
  exact kk _ _ _ _ _ hV2 H locs ls hP hD hS (lv_sub hl [1, 2, 3, 0] rfl)
set_option maxHeartbeats 4000000 in
set_option maxRecDepth 100000 in
theorem law_first (C : LFix pp l ss mm cc bb Ls xs D cI cB cW cL) {M N : kM} {S : Nat → kM} {n r : Nat} {M2 N2 : kM} {S2 : Nat → kM} {n2 r2 : Nat} {cells slots : Nat} {k : Nat} (hk : k < 24) (hV : OInv k M n r) (kk : ∀ (wx wy : Int32) (M N : kM) (S : Nat → kM) (n r : Nat), OInv (k + 1) M n r → ∀ (c9 s9 : Nat), c9 ≤ cells + 2 → s9 ≤ slots + 12 → LAt pp l ee ss mm below meth cc bb D cI cB cW u u2 Q 134 [(0, .ref bb), (1, .ref (u 0)), (2, .ref (u2 0)), (3, .int (nI k)), (4, .int wx), (5, .int wy)] [] c9 s9 M N S n r M2 N2 S2 n2 r2) (hc : cells + 2 ≤ 600104) (hs : slots + 12 ≤ 7301314) : LAt pp l ee ss mm below meth cc bb D cI cB cW u u2 Q 61 [(0, .ref bb), (1, .ref (u 0)), (2, .ref (u2 0)), (3, .int (nI k))] [] cells slots M N S n r M2 N2 S2 n2 r2 := by
  obtain ⟨hx, hcd, hml, hown, hts, hX, hbl, hst, hZ, hN, hK, hL9⟩ := id C
  have hown : ss.vm.findClass RL = some mm.cls := hown
  have hA : ∀ q : Nat, ss.heap.size ≤ q → (fun q : Nat => ss.heap.size ≤ q) q := fun _ h => h
  have hbA : ¬ (fun q : Nat => ss.heap.size ≤ q) bb := Nat.not_le.mpr hbl
  obtain ⟨hO, hn, hr⟩ := hV
  intro H locs ls hP hD hS hl
  refine lv_aload_n hx hcd dL_law_61 rfl (lv_at hl 0 rfl) ?_
  refine lv_iconst (v := nI 2) hx hcd dL_law_62 (by decide) ?_
  refine lv_iload_n hx hcd dL_law_63 rfl (lv_at hl 3 rfl) ?_
  refine kr_mul hx hcd dL_law_64 ?_
  refine kl_C (As := [.ref bb, .int (nI (2 * k))]) (rest := []) ⟨hx, hcd, hml, hown, hts⟩ (c_L_cell l bb Ls xs (2 * k) (by omega) hL9) (va_cwS 2 hts gL_law_L_cell rfl rfl rfl (by decide +kernel) ⟨Nat.le_of_ble_eq_true rfl, Nat.le_of_ble_eq_true rfl⟩) hX hbl hbA hP hS rfl hl.1 rfl (Nat.le_of_ble_eq_true rfl) dL_law_65 ⟨by show _ ≤ 600104; omega, by show _ ≤ 7301314; omega⟩ (fun H locs hP hS => ?_)
  obtain ⟨wx, ex⟩ : ∃ wx, g_cell xs Ls (2 * k) = wx := ⟨_, rfl⟩
  refine kr_top (w := wx) ex ?_
  refine lv_istore (lv' := [(4, .int wx), (0, .ref bb), (1, .ref (u 0)), (2, .ref (u2 0)), (3, .int (nI k))]) hx hcd dL_law_68 hl (by decide) rfl (fun ls hl => ?_)
  refine lv_aload_n hx hcd dL_law_70 rfl (lv_at hl 1 rfl) ?_
  refine lv_iconst (v := nI 2) hx hcd dL_law_71 (by decide) ?_
  refine lv_iload_n hx hcd dL_law_72 rfl (lv_at hl 4 rfl) ?_
  refine kr_mul hx hcd dL_law_73 ?_
  refine lv_iconst (v := nI 1) hx hcd dL_law_74 (by decide) ?_
  refine kr_add hx hcd dL_law_75 ?_
  refine kl_C (As := [.ref bb, .int (nI ((2 * k) + 1))]) (rest := []) ⟨hx, hcd, hml, hown, hts⟩ (c_L_cell l bb Ls xs ((2 * k) + 1) (by omega) hL9) (va_cwS 2 hts gL_law_L_cell rfl rfl rfl (by decide +kernel) ⟨Nat.le_of_ble_eq_true rfl, Nat.le_of_ble_eq_true rfl⟩) hX hbl hbA hP hS rfl hl.1 rfl (Nat.le_of_ble_eq_true rfl) dL_law_76 ⟨by show _ ≤ 600104; omega, by show _ ≤ 7301314; omega⟩ (fun H locs hP hS => ?_)
  obtain ⟨wy, ey⟩ : ∃ wy, g_cell xs Ls ((2 * k) + 1) = wy := ⟨_, rfl⟩
  refine kr_top (w := wy) ey ?_
  refine lv_istore (lv' := [(5, .int wy), (4, .int wx), (0, .ref bb), (1, .ref (u 0)), (2, .ref (u2 0)), (3, .int (nI k))]) hx hcd dL_law_79 hl (by decide) rfl (fun ls hl => ?_)
  refine lv_aload_n hx hcd dL_law_81 rfl (lv_at hl 3 rfl) ?_
  refine lv_iload hx hcd dL_law_82 (lv_at hl 1 rfl) ?_
  refine lv_iload hx hcd dL_law_84 (lv_at hl 0 rfl) ?_
  refine lv_iconst (v := nI 0) hx hcd dL_law_86 (by decide) ?_
  refine kr_top (w := kI false) rfl ?_
  refine kl_E (As := [.ref (u 0), .int wx, .int wy, .int (kI false)]) (rest := []) ⟨hx, hcd, hml, hown, hts⟩ (c_L_act l hst D cI cB cW cL (fun i => u i) (fun i => u (100 + i)) (fun i => u (200 + i)) (fun j i => u (300 + 100 * j + i)) (fun i => u (800 + i)) (g_rot (fun j i => u (300 + 100 * j + i)) r) N S n 0 (fun _ => 0) _ M wx wy false _ r hO (by omega) hn hr) (va_cwS 4 hts gL_law_L_act rfl rfl rfl (by decide +kernel) ⟨Nat.le_of_ble_eq_true rfl, Nat.le_of_ble_eq_true rfl⟩) hZ hN hK hP hD hS hA [0, 1, 2, 3, 4, 5, 6, 7, 8, 9, 10, 11, 12, 13, 14, 15, 16, 17, 18, 19, 20, 21, 22, 23, 24, 25, 26, 27, 28, 29, 30, 31, 32, 33, 34, 35, 36, 37, 38, 39, 40, 41, 42, 43, 44, 45, 46, 47, 48, 49, 50, 51, 52, 53, 54, 55, 56, 57, 58, 59, 60, 61, 62, 63, 64, 65, 66, 67, 68, 69, 70, 71, 72, 73, 74, 75, 76, 77, 78, 79, 80, 81, 82, 83, 84, 85, 86, 87, 88, 89, 90, 91, 92, 93] (w2_getA len_wX) ndo_1 (fun w1 v1 hF => by obtain ⟨_, _, _, _, rfl, _⟩ := hF; exact wX_adr) rfl hl.1 rfl (Nat.le_of_ble_eq_true rfl) dL_law_87 ⟨by show _ ≤ 600104; omega, by show _ ≤ 7301314; omega⟩ (fun w1 v1 hF H locs hP hD hS => ?_)
  obtain ⟨MA, SA, nA, rA, rfl, hnA, hrA, hvA, hOA, hcA⟩ := hF
  have hP : va_P D vwCl (wO cI cB cW u MA N SA nA rA ++ wO cI cB cW u2 M2 N2 S2 n2 r2) H := by rw [(w2_setA len_wX len_wX)] at hP; exact hP
  have hD : va_D (fun q : Nat => ss.heap.size ≤ q) (wO cI cB cW u MA N SA nA rA ++ wO cI cB cW u2 M2 N2 S2 n2 r2) := by rw [(w2_setA len_wX len_wX)] at hD; exact hD
  have hV2 : OInv (k + 1) MA nA rA := ⟨ox_mono (by omega) hOA, hnA, hrA⟩
  refine lv_if_lt (tgt := 132) hx hcd dL_law_90 (by decide) (fun (c_90 : v1 < 0) => absurd c_90 hvA) (fun (c_90 : ¬ v1 < 0) => ?_)
  refine lv_aload_n hx hcd dL_law_93 rfl (lv_at hl 3 rfl) ?_
  refine lv_iload hx hcd dL_law_94 (lv_at hl 0 rfl) ?_
  refine lv_iconst (v := nI 3) hx hcd dL_law_96 (by decide) ?_
  refine lv_ishr hx hcd dL_law_97 ?_
  refine kl_P (As := [.ref (u 0), .int (wy >>> (3 &&& 31))]) (rest := []) (ws2 := wO cI cB cW u MA N SA nA rA ++ wO cI cB cW u2 M2 N2 S2 n2 r2) ⟨hx, hcd, hml, hown, hts⟩ (c_L_rosters l hst D cI cB cW cL (fun i => u i) (fun i => u (100 + i)) (fun i => u (200 + i)) (fun j i => u (300 + 100 * j + i)) (fun i => u (800 + i)) (g_rot (fun j i => u (300 + 100 * j + i)) rA) N SA nA 0 (fun _ => 0) _ MA (wy >>> (3 &&& 31)) _ hOA.1 hOA (by omega)) (va_cwS 2 hts gL_law_L_rosters rfl rfl rfl (by decide +kernel) ⟨Nat.le_of_ble_eq_true rfl, Nat.le_of_ble_eq_true rfl⟩) hZ hN hK hP hD hS hA [0, 1, 2, 3, 4, 5, 6, 7, 8, 9, 10, 11, 12, 13, 14, 15, 16, 17, 18, 19, 20, 21, 22, 23, 24, 25, 26, 27, 28, 29, 30, 31, 32, 33, 34, 35, 36, 37, 38, 39, 40, 41, 42, 43, 44, 45, 46, 47, 48, 49, 50, 51, 52, 53, 54, 55, 56, 57, 58, 59, 60, 61, 62, 63, 64, 65, 66, 67, 68, 69, 70, 71, 72, 73, 74, 75, 76, 77, 78, 79, 80, 81, 82, 83, 84, 85, 86, 87, 88, 89, 90, 91, 92, 93] (w2_getA len_wX) ndo_1 wX_adr (w2_setA len_wX len_wX) rfl hl.1 rfl (Nat.le_of_ble_eq_true rfl) dL_law_98 ⟨by show _ ≤ 600104; omega, by show _ ≤ 7301314; omega⟩ (fun H locs hP hD hS => ?_)
  refine kr_top (w := nI 1) rfl ?_
  refine kr_zeq (tgt := 132) hx hcd (by omega) dL_law_101 (by decide) (fun (c_101 : 1 = 0) => absurd c_101 (by omega)) (fun (c_101 : 0 < 1) => ?_)
  refine lv_aload_n hx hcd dL_law_104 rfl (lv_at hl 3 rfl) ?_
  refine kl_P (As := [.ref (u 0)]) (rest := []) (ws2 := wO cI cB cW u MA N SA nA rA ++ wO cI cB cW u2 M2 N2 S2 n2 r2) ⟨hx, hcd, hml, hown, hts⟩ (c_L_views l hst D cI cB cW cL (fun i => u i) (fun i => u (100 + i)) (fun i => u (200 + i)) (fun j i => u (300 + 100 * j + i)) (fun i => u (800 + i)) (g_rot (fun j i => u (300 + 100 * j + i)) rA) N SA nA 0 (fun _ => 0) _ MA _ hOA.1 hOA) (va_cwS 1 hts gL_law_L_views rfl rfl rfl (by decide +kernel) ⟨Nat.le_of_ble_eq_true rfl, Nat.le_of_ble_eq_true rfl⟩) hZ hN hK hP hD hS hA [0, 1, 2, 3, 4, 5, 6, 7, 8, 9, 10, 11, 12, 13, 14, 15, 16, 17, 18, 19, 20, 21, 22, 23, 24, 25, 26, 27, 28, 29, 30, 31, 32, 33, 34, 35, 36, 37, 38, 39, 40, 41, 42, 43, 44, 45, 46, 47, 48, 49, 50, 51, 52, 53, 54, 55, 56, 57, 58, 59, 60, 61, 62, 63, 64, 65, 66, 67, 68, 69, 70, 71, 72, 73, 74, 75, 76, 77, 78, 79, 80, 81, 82, 83, 84, 85, 86, 87, 88, 89, 90, 91, 92, 93] (w2_getA len_wX) ndo_1 wX_adr (w2_setA len_wX len_wX) rfl hl.1 rfl (Nat.le_of_ble_eq_true rfl) dL_law_105 ⟨by show _ ≤ 600104; omega, by show _ ≤ 7301314; omega⟩ (fun H locs hP hD hS => ?_)
  refine kr_top (w := nI 1) rfl ?_
  refine kr_zeq (tgt := 132) hx hcd (by omega) dL_law_108 (by decide) (fun (c_108 : 1 = 0) => absurd c_108 (by omega)) (fun (c_108 : 0 < 1) => ?_)
  refine lv_aload_n hx hcd dL_law_111 rfl (lv_at hl 3 rfl) ?_
  refine kl_P (As := [.ref (u 0)]) (rest := []) (ws2 := wO cI cB cW u MA (if 40 < wyN MA then g_del 1000 MA else g_ndT MA (wyN MA)) SA nA rA ++ wO cI cB cW u2 M2 N2 S2 n2 r2) ⟨hx, hcd, hml, hown, hts⟩ (c_L_messages l hst D cI cB cW cL (fun i => u i) (fun i => u (100 + i)) (fun i => u (200 + i)) (fun j i => u (300 + 100 * j + i)) (fun i => u (800 + i)) (g_rot (fun j i => u (300 + 100 * j + i)) rA) N SA nA 0 (fun _ => 0) _ MA _ hOA.1 hOA) (va_cwS 1 hts gL_law_L_messages rfl rfl rfl (by decide +kernel) ⟨Nat.le_of_ble_eq_true rfl, Nat.le_of_ble_eq_true rfl⟩) hZ hN hK hP hD hS hA [0, 1, 2, 3, 4, 5, 6, 7, 8, 9, 10, 11, 12, 13, 14, 15, 16, 17, 18, 19, 20, 21, 22, 23, 24, 25, 26, 27, 28, 29, 30, 31, 32, 33, 34, 35, 36, 37, 38, 39, 40, 41, 42, 43, 44, 45, 46, 47, 48, 49, 50, 51, 52, 53, 54, 55, 56, 57, 58, 59, 60, 61, 62, 63, 64, 65, 66, 67, 68, 69, 70, 71, 72, 73, 74, 75, 76, 77, 78, 79, 80, 81, 82, 83, 84, 85, 86, 87, 88, 89, 90, 91, 92, 93] (w2_getA len_wX) ndo_1 wX_adr (w2_setA len_wX len_wX) rfl hl.1 rfl (Nat.le_of_ble_eq_true rfl) dL_law_112 ⟨by show _ ≤ 600104; omega, by show _ ≤ 7301314; omega⟩ (fun H locs hP hD hS => ?_)
  refine kr_top (w := nI 1) rfl ?_
  refine kr_zeq (tgt := 132) hx hcd (by omega) dL_law_115 (by decide) (fun (c_115 : 1 = 0) => absurd c_115 (by omega)) (fun (c_115 : 0 < 1) => ?_)
  refine lv_iload_n hx hcd dL_law_118 rfl (lv_at hl 5 rfl) ?_
  refine lv_iconst (v := nI 4) hx hcd dL_law_119 (by decide) ?_
  refine kr_rem hx hcd (by omega) (by decide) (by decide) dL_law_120 ?_
  refine lv_iconst (v := nI 3) hx hcd dL_law_121 (by decide) ?_
  refine kr_cne (tgt := 134) hx hcd (by omega) (by omega) dL_law_122 (by decide) (fun (c_122 : ¬ k % 4 = 3) => ?_) (fun (c_122 : k % 4 = 3) => ?_)
  · exact kk _ _ _ _ _ _ _ hV2 _ _ (by omega) (by omega) H locs ls hP hD hS (lv_sub hl [2, 3, 4, 5, 1, 0] rfl)
  · refine lv_aload_n hx hcd dL_law_125 rfl (lv_at hl 3 rfl) ?_
    refine kl_P (As := [.ref (u 0)]) (rest := []) (ws2 := wO cI cB cW u MA (g_del 1000 MA) (sset SA (pj nA rA) MA) (g_kn nA - 1) (rj nA rA) ++ wO cI cB cW u2 M2 N2 S2 n2 r2) ⟨hx, hcd, hml, hown, hts⟩ (c_L_rests l hst D cI cB cW cL (fun i => u i) (fun i => u (100 + i)) (fun i => u (200 + i)) (fun j i => u (300 + 100 * j + i)) (fun i => u (800 + i)) (g_rot (fun j i => u (300 + 100 * j + i)) rA) (if 40 < wyN MA then g_del 1000 MA else g_ndT MA (wyN MA)) SA nA 0 (fun _ => 0) _ MA rA hOA.1 hnA hrA) (va_cwS 1 hts gL_law_L_rests rfl rfl rfl (by decide +kernel) ⟨Nat.le_of_ble_eq_true rfl, Nat.le_of_ble_eq_true rfl⟩) hZ hN hK hP hD hS hA [0, 1, 2, 3, 4, 5, 6, 7, 8, 9, 10, 11, 12, 13, 14, 15, 16, 17, 18, 19, 20, 21, 22, 23, 24, 25, 26, 27, 28, 29, 30, 31, 32, 33, 34, 35, 36, 37, 38, 39, 40, 41, 42, 43, 44, 45, 46, 47, 48, 49, 50, 51, 52, 53, 54, 55, 56, 57, 58, 59, 60, 61, 62, 63, 64, 65, 66, 67, 68, 69, 70, 71, 72, 73, 74, 75, 76, 77, 78, 79, 80, 81, 82, 83, 84, 85, 86, 87, 88, 89, 90, 91, 92, 93] (w2_getA len_wX) ndo_1 wX_adr (w2_setA len_wX len_wX) rfl hl.1 rfl (Nat.le_of_ble_eq_true rfl) dL_law_126 ⟨by show _ ≤ 600104; omega, by show _ ≤ 7301314; omega⟩ (fun H locs hP hD hS => ?_)
    refine kr_top (w := nI 1) rfl ?_
    have hV2 : OInv (k + 1) MA (g_kn nA - 1) (rj nA rA) := ⟨ox_mono (by omega) hOA, by have := kn_le hnA; omega, rj_lt hrA⟩
    refine kr_zne (tgt := 134) hx hcd (by omega) dL_law_129 (by decide) (fun (c_129 : 0 < 1) => ?_) (fun (c_129 : 1 = 0) => absurd c_129 (by omega))
    exact kk _ _ _ _ _ _ _ hV2 _ _ (by omega) (by omega) H locs ls hP hD hS (lv_sub hl [2, 3, 4, 5, 1, 0] rfl)
set_option maxHeartbeats 4000000 in
set_option maxRecDepth 100000 in
theorem law_loop (C : LFix pp l ss mm cc bb Ls xs D cI cB cW cL) (hE : LEnd pp l ee ss mm below meth cc bb Q) : ∀ (f k : Nat), k + f = 24 → ∀ (M N : kM) (S : Nat → kM) (n r : Nat) (M2 N2 : kM) (S2 : Nat → kM) (n2 r2 : Nat) (cells slots : Nat), OInv k M n r → QInv k M2 n2 r2 → cells ≤ 300 + 3 * k → slots ≤ 10000 + 18 * k → LAt pp l ee ss mm below meth cc bb D cI cB cW u u2 Q 55 [(0, .ref bb), (1, .ref (u 0)), (2, .ref (u2 0)), (3, .int (nI k))] [] cells slots M N S n r M2 N2 S2 n2 r2
  | 0, k, hk => by
    obtain ⟨hx, hcd, hml, hown, hts, hX, hbl, hst, hZ, hN, hK, hL9⟩ := id C
    have hown : ss.vm.findClass RL = some mm.cls := hown
    have hA : ∀ q : Nat, ss.heap.size ≤ q → (fun q : Nat => ss.heap.size ≤ q) q := fun _ h => h
    have hbA : ¬ (fun q : Nat => ss.heap.size ≤ q) bb := Nat.not_le.mpr hbl
    intro M N S n r M2 N2 S2 n2 r2 cells slots hV hV2 hc hs H locs ls hP hD hS hl
    obtain rfl : k = 24 := by omega
    refine lv_iload_n hx hcd dL_law_55 rfl (lv_at hl 3 rfl) ?_
    refine lv_bipush (v := nI 24) hx hcd dL_law_56 (by decide) ?_
    refine kr_cge (tgt := 178) hx hcd (by omega) (by omega) dL_law_58 (by decide) (fun (c_58 : 24 ≤ 24) => ?_) (fun (c_58 : 24 < 24) => absurd c_58 (by omega))
    exact law_tail C hE hV.1 hV2 (by omega) (by omega) H locs ls hP hD hS (lv_sub hl [0, 1, 2, 3] rfl)
  | f + 1, k, hk => by
    obtain ⟨hx, hcd, hml, hown, hts, hX, hbl, hst, hZ, hN, hK, hL9⟩ := id C
    have hown : ss.vm.findClass RL = some mm.cls := hown
    have hA : ∀ q : Nat, ss.heap.size ≤ q → (fun q : Nat => ss.heap.size ≤ q) q := fun _ h => h
    have hbA : ¬ (fun q : Nat => ss.heap.size ≤ q) bb := Nat.not_le.mpr hbl
    intro M N S n r M2 N2 S2 n2 r2 cells slots hV hV2 hc hs H locs ls hP hD hS hl
    have hk24 : k < 24 := by omega
    refine lv_iload_n hx hcd dL_law_55 rfl (lv_at hl 3 rfl) ?_
    refine lv_bipush (v := nI 24) hx hcd dL_law_56 (by decide) ?_
    refine kr_cge (tgt := 178) hx hcd (by omega) (by omega) dL_law_58 (by decide) (fun (c_58 : 24 ≤ k) => absurd c_58 (by omega)) (fun (c_58 : k < 24) => ?_)
    exact law_first C hk24 hV (fun wx wy M N S n r hV3 c9 s9 hc9 hs9 => law_half C hk24 hV2 (fun M2 N2 S2 n2 r2 hV4 => law_loop C hE f (k + 1) (by omega) M N S n r M2 N2 S2 n2 r2 (c9 + 1) (s9 + 6) hV3 hV4 (by omega) (by omega)) (by omega) (by omega)) (by omega) (by omega) H locs ls hP hD hS (lv_sub hl [0, 1, 2, 3] rfl)
end LSEG
