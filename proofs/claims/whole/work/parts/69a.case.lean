def LNext (pp : Program) (l : Launch) (ee : Env) (ss : State) (mm : MethodId) (below : List Frame) (meth : Method) (cc : Code) (bb : Nat) (D : va_G) (cI cB cW cL : ClassId) (o : Nat) (ob nw tr : Nat → Nat) (qs : Nat → Nat → Nat) (sc z : Nat → Nat) (i cells slots : Nat) (Q : State → Prop) : Prop :=
  ∀ (F : Nat → Int64) (N M : kM) (S : Nat → kM) (n r L : Nat) (T x : Nat → Int32) (hh : Int64) (Sp Ot Sv : Nat → Int32), LInv M S n r L T Sv x → ∀ (H : Heap) (locs : List Loc) (ls : Array Slot), va_P D vwCl (wLaw cI cB cW cL o F ob nw tr qs sc (g_rot qs r) M N S n L T z x hh M Sp Ot Sv T) H → va_D (fun q : Nat => ss.heap.size ≤ q) (wLaw cI cB cW cL o F ob nw tr qs sc (g_rot qs r) M N S n L T z x hh M Sp Ot Sv T) → va_S (fun q : Nat => ss.heap.size ≤ q) ss.heap H locs → lv_has ls 9 [(0, .ref bb), (1, .ref (ob 0)), (2, .ref (z 0)), (3, .ref o), (4, .int (nI i))] → W pp l ee room_1 ss mm #[Value.ref bb] below meth cc H locs (cells + 1) (slots + 6) Q (F0 mm 1812 ls [])
set_option maxHeartbeats 4000000 in
set_option maxRecDepth 100000 in
theorem law_ask__ok {pp : Program} {l : Launch} {ee : Env} {ss : State} {mm : MethodId} {below : List Frame} {meth : Method} {cc : Code} {bb Ls : Nat} {xs : Nat → Int32} {D : va_G} {cI cB cW cL : ClassId} (C : LFix pp l ss mm cc bb Ls xs D cI cB cW cL) {o : Nat} {F : Nat → Int64} {ob nw tr : Nat → Nat} {qs : Nat → Nat → Nat} {sc : Nat → Nat} {N : kM} {S : Nat → kM} {n r L : Nat} {T : Nat → Int32} {z : Nat → Nat} {x : Nat → Int32} {hh : Int64} {Sp Ot Sv : Nat → Int32} {M : kM} (hV : LInv M S n r L T Sv x) {i : Nat} (hi : i + 5 ≤ Ls) {a b : Nat} (h1 : xs (i + 1) = nI a) (h2 : xs (i + 2) = nI b) (ha : a < 6) (hb : b < 6) (hne : a ≠ b)  {H : Heap} {locs : List Loc} {ls : Array Slot} {cells slots : Nat} {Q : State → Prop} (hc : cells + 1 ≤ 601024) (hs : slots + 6 ≤ 7293034) (hP : va_P D vwCl (wLaw cI cB cW cL o F ob nw tr qs sc (g_rot qs r) M N S n L T z x hh M Sp Ot Sv T) H) (hD : va_D (fun q : Nat => ss.heap.size ≤ q) (wLaw cI cB cW cL o F ob nw tr qs sc (g_rot qs r) M N S n L T z x hh M Sp Ot Sv T)) (hS : va_S (fun q : Nat => ss.heap.size ≤ q) ss.heap H locs) (hl : lv_has ls 9 [(0, .ref bb), (1, .ref (ob 0)), (2, .ref (z 0)), (3, .ref o), (4, .int (nI i))]) (kk : LNext pp l ee ss mm below meth cc bb D cI cB cW cL o ob nw tr qs sc z i cells slots Q) : W pp l ee room_1 ss mm #[Value.ref bb] below meth cc H locs cells slots Q (F0 mm 176 ls []) := by
  obtain ⟨hx, hcd, hml, hown, hts, hX, hbl, hst, hZ, hN, hK, hL9⟩ := C
  obtain ⟨hI, hn, hr, hL, hT, hx4, hx6, hsv⟩ := id hV
  have hA : ∀ q : Nat, ss.heap.size ≤ q → (fun q : Nat => ss.heap.size ≤ q) q := fun _ h => h
  have hbA : ¬ (fun q : Nat => ss.heap.size ≤ q) bb := Nat.not_le.mpr hbl
  refine lv_aload_n hx hcd dL_law_176 rfl (lv_at hl 1 rfl) ?_
  refine lv_aload_n hx hcd dL_law_177 rfl (lv_at hl 0 rfl) ?_
  refine lv_iload hx hcd dL_law_178 (lv_at hl 4 rfl) ?_
  refine lv_iconst (v := nI 1) hx hcd dL_law_180 (by decide) ?_
  refine kr_add hx hcd dL_law_181 ?_
  refine kl_sld hx hcd hX hbl hbA hS (k := i + 1) (by omega) hL9 dL_law_182 ?_
  refine kr_top (w := nI a) h1 ?_
  refine lv_aload_n hx hcd dL_law_183 rfl (lv_at hl 0 rfl) ?_
  refine lv_iload hx hcd dL_law_184 (lv_at hl 4 rfl) ?_
  refine lv_iconst (v := nI 2) hx hcd dL_law_186 (by decide) ?_
  refine kr_add hx hcd dL_law_187 ?_
  refine kl_sld hx hcd hX hbl hbA hS (k := i + 2) (by omega) hL9 dL_law_188 ?_
  refine kr_top (w := nI b) h2 ?_
  refine lv_aload_n hx hcd dL_law_189 rfl (lv_at hl 3 rfl) ?_
  refine kl_S (As := [.ref (ob 0), .int (nI a), .int (nI b), .ref o]) (rest := []) (ws2 := wLaw cI cB cW cL o (vp_updL F 0 (((if g_has M a b 5 = true then 0 else 1) : Int32).toInt64)) ob nw tr qs sc (g_rot qs (rj n r)) (g_ask M a b) N (sset S (pj n r) M) (g_kn n) L T z x hh M Sp Ot Sv T) ⟨hx, hcd, hml, hown, hts⟩ (c_L_ask__ok l hst D cI cB cW cL o F ob nw tr qs sc (g_rot qs r) N S n L T _ M a b r hI ha hb hne hn hr) (vx_cwSW 4 hts gL_law_L_ask rfl rfl rfl (by decide +kernel) ⟨Nat.le_of_ble_eq_true rfl, Nat.le_of_ble_eq_true rfl⟩) hZ hN hK hP hD hS hA [0, 1, 2, 3, 4, 5, 6, 7, 8, 9, 10, 11, 12, 13, 14, 15, 16, 17, 18, 19, 20, 21, 22, 23, 24, 25, 26, 27, 28, 29, 30, 31, 32, 33, 34, 35, 36, 37, 38, 39, 40, 41, 42, 43, 44, 45, 46, 47, 48, 49, 50, 51, 52, 53, 54, 55, 56, 57, 58, 59, 60, 61, 62, 63, 64, 65, 66, 67, 68, 69, 70, 71, 72, 73, 74, 75, 76, 77, 78, 79, 80, 81, 82, 83, 84, 85, 86, 87, 88, 89, 90, 91, 92, 93, 94] wLaw_LXC nd_LX wLX_adr wLaw_LX rfl hl.1 rfl (Nat.le_of_ble_eq_true rfl) dL_law_190 ⟨hc, hs⟩ (fun H locs hP hD hS => ?_)
  refine lv_istore (lv' := [(5, .int (nI 0)), (0, .ref bb), (1, .ref (ob 0)), (2, .ref (z 0)), (3, .ref o), (4, .int (nI i))]) hx hcd dL_law_193 hl (by decide) rfl (fun ls hl => ?_)
  refine lv_aload_n hx hcd dL_law_195 rfl (lv_at hl 3 rfl) ?_
  refine lv_aload_n hx hcd dL_law_196 rfl (lv_at hl 1 rfl) ?_
  refine lv_iload hx hcd dL_law_197 (lv_at hl 5 rfl) ?_
  refine lv_iconst (v := nI 1) hx hcd dL_law_199 (by decide) ?_
  refine kr_add hx hcd dL_law_200 ?_
  refine kl_sld hx hcd hX hbl hbA hS (k := i + 1) (by omega) hL9 dL_law_201 ?_
  refine kr_top (w := nI a) h1 ?_
  refine lv_aload_n hx hcd dL_law_202 rfl (lv_at hl 1 rfl) ?_
  refine lv_iload hx hcd dL_law_203 (lv_at hl 5 rfl) ?_
  refine lv_iconst (v := nI 2) hx hcd dL_law_205 (by decide) ?_
  refine kr_add hx hcd dL_law_206 ?_
  refine kl_sld hx hcd hX hbl hbA hS (k := i + 2) (by omega) hL9 dL_law_207 ?_
  refine kr_top (w := nI b) h2 ?_
  refine kr_Vi (As := [.int (nI a), .int (nI b)]) (rest := []) (ws2 := wLaw cI cB cW cL o (vp_updL F 0 (((if g_has M a b 5 = true then 0 else 1) : Int32).toInt64)) ob nw tr qs sc (g_rot qs (rj n r)) (g_ask M a b) N (sset S (pj n r) M) (g_kn n) L T z (xu (xu x 7 0) 4 (nI (g_kn n))) hh (g_ask M a b) Sp Ot (g_keep Sv M n) T) (q := (RX7, TX7, 10)) ⟨hx, hcd, hml, hown, hts⟩ (c_X7_ask__ok l D cI cB cW cL z x hh Sp Ot Sv T _ M a b n hI ha hb hne hx4 hn) (cwV 2 hts gL_law_X7_ask rfl rfl rfl (by decide +kernel) ⟨Nat.le_of_ble_eq_true rfl, Nat.le_of_ble_eq_true rfl⟩) hK hP hD hS hA [95, 96, 97, 98, 99, 100] wLaw_MAC (by decide) wMA_adr wLaw_MA 95 rfl rfl rfl hl.1 rfl (Nat.le_of_ble_eq_true rfl) dL_law_208 ⟨hc, hs⟩ (fun H locs hP hD hS => ?_)
  refine lv_istore (lv' := [(6, .int (if g_has M a b 5 = true then 0 else 1)), (5, .int (nI 0)), (0, .ref bb), (1, .ref (ob 0)), (2, .ref (z 0)), (3, .ref o), (4, .int (nI i))]) hx hcd dL_law_211 hl (by decide) rfl (fun ls hl => ?_)
  refine lv_aload_n hx hcd dL_law_213 rfl (lv_at hl 4 rfl) ?_
  refine kr_Vi (As := []) (rest := []) (ws2 := wLaw cI cB cW cL o (vp_updL F 0 (((if g_has M a b 5 = true then 0 else 1) : Int32).toInt64)) ob nw tr qs sc (g_rot qs (rj n r)) (g_ask M a b) N (sset S (pj n r) M) (g_kn n) L T z (xu (xu x 7 0) 4 (nI (g_kn n))) hh (g_ask M a b) Sp Ot (g_keep Sv M n) T) (q := (RX7, TX7, 10)) ⟨hx, hcd, hml, hown, hts⟩ (c_X7_thrown l D cI cB cW cL z (xu (xu x 7 0) 4 (nI (g_kn n))) hh _ (g_ask M a b) ) (cwV 0 hts gL_law_X7_thrown rfl rfl rfl (by decide +kernel) ⟨Nat.le_of_ble_eq_true rfl, Nat.le_of_ble_eq_true rfl⟩) hK hP hD hS hA [95, 96] wLaw_MoC (by decide) wMo_adr2 wLaw_Mo 95 rfl rfl rfl hl.1 rfl (Nat.le_of_ble_eq_true rfl) dL_law_214 ⟨hc, hs⟩ (fun H locs hP hD hS => ?_)
  refine kr_top (w := 0) rfl ?_
  refine kr_top (w := nI 0) rfl ?_
  refine lv_iload hx hcd dL_law_217 (lv_at hl 1 rfl) ?_
  refine kr_ceq (tgt := 224) hx hcd (by omega) (by omega) dL_law_219 (by decide) (fun (c_219 : 0 = 0) => ?_) (fun (c_219 : ¬ 0 = 0) => absurd c_219 (by omega))
  refine lv_iload hx hcd dL_law_224 (lv_at hl 1 rfl) ?_
  refine kr_zne (tgt := 241) hx hcd (by omega) dL_law_226 (by decide) (fun (c_226 : 0 < 0) => absurd c_226 (by omega)) (fun (c_226 : 0 = 0) => ?_)
  refine lv_aload_n hx hcd dL_law_229 rfl (lv_at hl 5 rfl) ?_
  refine lv_iconst (v := nI 0) hx hcd dL_law_230 (by decide) ?_
  refine kl_lald hx hcd hK hP 0 3 rfl rfl (v := ((if g_has M a b 5 = true then 0 else 1) : Int32).toInt64) (by omega) (by decide) updL_0 dL_law_231 ?_
  refine lv_iload hx hcd dL_law_232 (lv_at hl 0 rfl) ?_
  refine lv_i2l hx hcd dL_law_234 rfl ?_
  refine kl_lcmp hx hcd (rfl) dL_law_235 ?_
  refine kr_zeq (tgt := 241) hx hcd (by omega) dL_law_236 (by decide) (fun (c_236 : 0 = 0) => ?_) (fun (c_236 : 0 < 0) => absurd c_236 (by omega))
  refine lv_goto (tgt := 1812) hx hcd dL_law_241 (by decide) ?_
  exact kk (vp_updL F 0 (((if g_has M a b 5 = true then 0 else 1) : Int32).toInt64)) N (g_ask M a b) (sset S (pj n r) M) (g_kn n) (rj n r) L T (xu (xu x 7 0) 4 (nI (g_kn n))) hh Sp Ot (g_keep Sv M n) (linv_keep hV (i_ask hI ha hb) rfl rfl) H locs ls hP hD hS (lv_sub hl [2, 3, 4, 5, 6] rfl)

set_option maxHeartbeats 4000000 in
set_option maxRecDepth 100000 in
theorem law_grant__ok {pp : Program} {l : Launch} {ee : Env} {ss : State} {mm : MethodId} {below : List Frame} {meth : Method} {cc : Code} {bb Ls : Nat} {xs : Nat → Int32} {D : va_G} {cI cB cW cL : ClassId} (C : LFix pp l ss mm cc bb Ls xs D cI cB cW cL) {o : Nat} {F : Nat → Int64} {ob nw tr : Nat → Nat} {qs : Nat → Nat → Nat} {sc : Nat → Nat} {N : kM} {S : Nat → kM} {n r L : Nat} {T : Nat → Int32} {z : Nat → Nat} {x : Nat → Int32} {hh : Int64} {Sp Ot Sv : Nat → Int32} {M : kM} (hV : LInv M S n r L T Sv x) {i : Nat} (hi : i + 5 ≤ Ls) {a b : Nat} (h1 : xs (i + 1) = nI a) (h2 : xs (i + 2) = nI b) (ha : a < 6) (hb : b < 6) (hne : a ≠ b)  {H : Heap} {locs : List Loc} {ls : Array Slot} {cells slots : Nat} {Q : State → Prop} (hc : cells + 1 ≤ 601024) (hs : slots + 6 ≤ 7293034) (hP : va_P D vwCl (wLaw cI cB cW cL o F ob nw tr qs sc (g_rot qs r) M N S n L T z x hh M Sp Ot Sv T) H) (hD : va_D (fun q : Nat => ss.heap.size ≤ q) (wLaw cI cB cW cL o F ob nw tr qs sc (g_rot qs r) M N S n L T z x hh M Sp Ot Sv T)) (hS : va_S (fun q : Nat => ss.heap.size ≤ q) ss.heap H locs) (hl : lv_has ls 9 [(0, .ref bb), (1, .ref (ob 0)), (2, .ref (z 0)), (3, .ref o), (4, .int (nI i))]) (kk : LNext pp l ee ss mm below meth cc bb D cI cB cW cL o ob nw tr qs sc z i cells slots Q) : W pp l ee room_1 ss mm #[Value.ref bb] below meth cc H locs cells slots Q (F0 mm 244 ls []) := by
  obtain ⟨hx, hcd, hml, hown, hts, hX, hbl, hst, hZ, hN, hK, hL9⟩ := C
  obtain ⟨hI, hn, hr, hL, hT, hx4, hx6, hsv⟩ := id hV
  have hA : ∀ q : Nat, ss.heap.size ≤ q → (fun q : Nat => ss.heap.size ≤ q) q := fun _ h => h
  have hbA : ¬ (fun q : Nat => ss.heap.size ≤ q) bb := Nat.not_le.mpr hbl
  refine lv_aload_n hx hcd dL_law_244 rfl (lv_at hl 1 rfl) ?_
  refine lv_aload_n hx hcd dL_law_245 rfl (lv_at hl 0 rfl) ?_
  refine lv_iload hx hcd dL_law_246 (lv_at hl 4 rfl) ?_
  refine lv_iconst (v := nI 1) hx hcd dL_law_248 (by decide) ?_
  refine kr_add hx hcd dL_law_249 ?_
  refine kl_sld hx hcd hX hbl hbA hS (k := i + 1) (by omega) hL9 dL_law_250 ?_
  refine kr_top (w := nI a) h1 ?_
  refine lv_aload_n hx hcd dL_law_251 rfl (lv_at hl 0 rfl) ?_
  refine lv_iload hx hcd dL_law_252 (lv_at hl 4 rfl) ?_
  refine lv_iconst (v := nI 2) hx hcd dL_law_254 (by decide) ?_
  refine kr_add hx hcd dL_law_255 ?_
  refine kl_sld hx hcd hX hbl hbA hS (k := i + 2) (by omega) hL9 dL_law_256 ?_
  refine kr_top (w := nI b) h2 ?_
  refine lv_aload_n hx hcd dL_law_257 rfl (lv_at hl 3 rfl) ?_
  refine kl_S (As := [.ref (ob 0), .int (nI a), .int (nI b), .ref o]) (rest := []) (ws2 := wLaw cI cB cW cL o (vp_updL F 0 (((if g_has M a b 8 = true then 1 else 0) : Int32).toInt64)) ob nw tr qs sc (g_rot qs (rj n r)) (g_grant M a b) N (sset S (pj n r) M) (g_kn n) L T z x hh M Sp Ot Sv T) ⟨hx, hcd, hml, hown, hts⟩ (c_L_grant__ok l hst D cI cB cW cL o F ob nw tr qs sc (g_rot qs r) N S n L T _ M a b r hI ha hb hne hn hr) (vx_cwSW 4 hts gL_law_L_grant rfl rfl rfl (by decide +kernel) ⟨Nat.le_of_ble_eq_true rfl, Nat.le_of_ble_eq_true rfl⟩) hZ hN hK hP hD hS hA [0, 1, 2, 3, 4, 5, 6, 7, 8, 9, 10, 11, 12, 13, 14, 15, 16, 17, 18, 19, 20, 21, 22, 23, 24, 25, 26, 27, 28, 29, 30, 31, 32, 33, 34, 35, 36, 37, 38, 39, 40, 41, 42, 43, 44, 45, 46, 47, 48, 49, 50, 51, 52, 53, 54, 55, 56, 57, 58, 59, 60, 61, 62, 63, 64, 65, 66, 67, 68, 69, 70, 71, 72, 73, 74, 75, 76, 77, 78, 79, 80, 81, 82, 83, 84, 85, 86, 87, 88, 89, 90, 91, 92, 93, 94] wLaw_LXC nd_LX wLX_adr wLaw_LX rfl hl.1 rfl (Nat.le_of_ble_eq_true rfl) dL_law_258 ⟨hc, hs⟩ (fun H locs hP hD hS => ?_)
  refine lv_istore (lv' := [(5, .int (nI 0)), (0, .ref bb), (1, .ref (ob 0)), (2, .ref (z 0)), (3, .ref o), (4, .int (nI i))]) hx hcd dL_law_261 hl (by decide) rfl (fun ls hl => ?_)
  refine lv_aload_n hx hcd dL_law_263 rfl (lv_at hl 3 rfl) ?_
  refine lv_aload_n hx hcd dL_law_264 rfl (lv_at hl 1 rfl) ?_
  refine lv_iload hx hcd dL_law_265 (lv_at hl 5 rfl) ?_
  refine lv_iconst (v := nI 1) hx hcd dL_law_267 (by decide) ?_
  refine kr_add hx hcd dL_law_268 ?_
  refine kl_sld hx hcd hX hbl hbA hS (k := i + 1) (by omega) hL9 dL_law_269 ?_
  refine kr_top (w := nI a) h1 ?_
  refine lv_aload_n hx hcd dL_law_270 rfl (lv_at hl 1 rfl) ?_
  refine lv_iload hx hcd dL_law_271 (lv_at hl 5 rfl) ?_
  refine lv_iconst (v := nI 2) hx hcd dL_law_273 (by decide) ?_
  refine kr_add hx hcd dL_law_274 ?_
  refine kl_sld hx hcd hX hbl hbA hS (k := i + 2) (by omega) hL9 dL_law_275 ?_
  refine kr_top (w := nI b) h2 ?_
  refine kr_Vi (As := [.int (nI a), .int (nI b)]) (rest := []) (ws2 := wLaw cI cB cW cL o (vp_updL F 0 (((if g_has M a b 8 = true then 1 else 0) : Int32).toInt64)) ob nw tr qs sc (g_rot qs (rj n r)) (g_grant M a b) N (sset S (pj n r) M) (g_kn n) L T z (xu (xu x 7 0) 4 (nI (g_kn n))) hh (g_grant M a b) Sp Ot (g_keep Sv M n) T) (q := (RX7, TX7, 10)) ⟨hx, hcd, hml, hown, hts⟩ (c_X7_grant__ok l D cI cB cW cL z x hh Sp Ot Sv T _ M a b n hI ha hb hne hx4 hn) (cwV 2 hts gL_law_X7_grant rfl rfl rfl (by decide +kernel) ⟨Nat.le_of_ble_eq_true rfl, Nat.le_of_ble_eq_true rfl⟩) hK hP hD hS hA [95, 96, 97, 98, 99, 100] wLaw_MAC (by decide) wMA_adr wLaw_MA 95 rfl rfl rfl hl.1 rfl (Nat.le_of_ble_eq_true rfl) dL_law_276 ⟨hc, hs⟩ (fun H locs hP hD hS => ?_)
  refine lv_istore (lv' := [(6, .int (if g_has M a b 8 = true then 1 else 0)), (5, .int (nI 0)), (0, .ref bb), (1, .ref (ob 0)), (2, .ref (z 0)), (3, .ref o), (4, .int (nI i))]) hx hcd dL_law_279 hl (by decide) rfl (fun ls hl => ?_)
  refine lv_aload_n hx hcd dL_law_281 rfl (lv_at hl 4 rfl) ?_
  refine kr_Vi (As := []) (rest := []) (ws2 := wLaw cI cB cW cL o (vp_updL F 0 (((if g_has M a b 8 = true then 1 else 0) : Int32).toInt64)) ob nw tr qs sc (g_rot qs (rj n r)) (g_grant M a b) N (sset S (pj n r) M) (g_kn n) L T z (xu (xu x 7 0) 4 (nI (g_kn n))) hh (g_grant M a b) Sp Ot (g_keep Sv M n) T) (q := (RX7, TX7, 10)) ⟨hx, hcd, hml, hown, hts⟩ (c_X7_thrown l D cI cB cW cL z (xu (xu x 7 0) 4 (nI (g_kn n))) hh _ (g_grant M a b) ) (cwV 0 hts gL_law_X7_thrown rfl rfl rfl (by decide +kernel) ⟨Nat.le_of_ble_eq_true rfl, Nat.le_of_ble_eq_true rfl⟩) hK hP hD hS hA [95, 96] wLaw_MoC (by decide) wMo_adr2 wLaw_Mo 95 rfl rfl rfl hl.1 rfl (Nat.le_of_ble_eq_true rfl) dL_law_282 ⟨hc, hs⟩ (fun H locs hP hD hS => ?_)
  refine kr_top (w := 0) rfl ?_
  refine kr_top (w := nI 0) rfl ?_
  refine lv_iload hx hcd dL_law_285 (lv_at hl 1 rfl) ?_
  refine kr_ceq (tgt := 292) hx hcd (by omega) (by omega) dL_law_287 (by decide) (fun (c_287 : 0 = 0) => ?_) (fun (c_287 : ¬ 0 = 0) => absurd c_287 (by omega))
  refine lv_iload hx hcd dL_law_292 (lv_at hl 1 rfl) ?_
  refine kr_zne (tgt := 309) hx hcd (by omega) dL_law_294 (by decide) (fun (c_294 : 0 < 0) => absurd c_294 (by omega)) (fun (c_294 : 0 = 0) => ?_)
  refine lv_aload_n hx hcd dL_law_297 rfl (lv_at hl 5 rfl) ?_
  refine lv_iconst (v := nI 0) hx hcd dL_law_298 (by decide) ?_
  refine kl_lald hx hcd hK hP 0 3 rfl rfl (v := ((if g_has M a b 8 = true then 1 else 0) : Int32).toInt64) (by omega) (by decide) updL_0 dL_law_299 ?_
  refine lv_iload hx hcd dL_law_300 (lv_at hl 0 rfl) ?_
  refine lv_i2l hx hcd dL_law_302 rfl ?_
  refine kl_lcmp hx hcd (rfl) dL_law_303 ?_
  refine kr_zeq (tgt := 309) hx hcd (by omega) dL_law_304 (by decide) (fun (c_304 : 0 = 0) => ?_) (fun (c_304 : 0 < 0) => absurd c_304 (by omega))
  refine lv_goto (tgt := 1812) hx hcd dL_law_309 (by decide) ?_
  exact kk (vp_updL F 0 (((if g_has M a b 8 = true then 1 else 0) : Int32).toInt64)) N (g_grant M a b) (sset S (pj n r) M) (g_kn n) (rj n r) L T (xu (xu x 7 0) 4 (nI (g_kn n))) hh Sp Ot (g_keep Sv M n) (linv_keep hV (i_grant hI ha hb) rfl rfl) H locs ls hP hD hS (lv_sub hl [2, 3, 4, 5, 6] rfl)

set_option maxHeartbeats 4000000 in
set_option maxRecDepth 100000 in
theorem law_refuse__ok {pp : Program} {l : Launch} {ee : Env} {ss : State} {mm : MethodId} {below : List Frame} {meth : Method} {cc : Code} {bb Ls : Nat} {xs : Nat → Int32} {D : va_G} {cI cB cW cL : ClassId} (C : LFix pp l ss mm cc bb Ls xs D cI cB cW cL) {o : Nat} {F : Nat → Int64} {ob nw tr : Nat → Nat} {qs : Nat → Nat → Nat} {sc : Nat → Nat} {N : kM} {S : Nat → kM} {n r L : Nat} {T : Nat → Int32} {z : Nat → Nat} {x : Nat → Int32} {hh : Int64} {Sp Ot Sv : Nat → Int32} {M : kM} (hV : LInv M S n r L T Sv x) {i : Nat} (hi : i + 5 ≤ Ls) {a b : Nat} (h1 : xs (i + 1) = nI a) (h2 : xs (i + 2) = nI b) (ha : a < 6) (hb : b < 6) (hne : a ≠ b)  {H : Heap} {locs : List Loc} {ls : Array Slot} {cells slots : Nat} {Q : State → Prop} (hc : cells + 1 ≤ 601024) (hs : slots + 6 ≤ 7293034) (hP : va_P D vwCl (wLaw cI cB cW cL o F ob nw tr qs sc (g_rot qs r) M N S n L T z x hh M Sp Ot Sv T) H) (hD : va_D (fun q : Nat => ss.heap.size ≤ q) (wLaw cI cB cW cL o F ob nw tr qs sc (g_rot qs r) M N S n L T z x hh M Sp Ot Sv T)) (hS : va_S (fun q : Nat => ss.heap.size ≤ q) ss.heap H locs) (hl : lv_has ls 9 [(0, .ref bb), (1, .ref (ob 0)), (2, .ref (z 0)), (3, .ref o), (4, .int (nI i))]) (kk : LNext pp l ee ss mm below meth cc bb D cI cB cW cL o ob nw tr qs sc z i cells slots Q) : W pp l ee room_1 ss mm #[Value.ref bb] below meth cc H locs cells slots Q (F0 mm 312 ls []) := by
  obtain ⟨hx, hcd, hml, hown, hts, hX, hbl, hst, hZ, hN, hK, hL9⟩ := C
  obtain ⟨hI, hn, hr, hL, hT, hx4, hx6, hsv⟩ := id hV
  have hA : ∀ q : Nat, ss.heap.size ≤ q → (fun q : Nat => ss.heap.size ≤ q) q := fun _ h => h
  have hbA : ¬ (fun q : Nat => ss.heap.size ≤ q) bb := Nat.not_le.mpr hbl
  refine lv_aload_n hx hcd dL_law_312 rfl (lv_at hl 1 rfl) ?_
  refine lv_aload_n hx hcd dL_law_313 rfl (lv_at hl 0 rfl) ?_
  refine lv_iload hx hcd dL_law_314 (lv_at hl 4 rfl) ?_
  refine lv_iconst (v := nI 1) hx hcd dL_law_316 (by decide) ?_
  refine kr_add hx hcd dL_law_317 ?_
  refine kl_sld hx hcd hX hbl hbA hS (k := i + 1) (by omega) hL9 dL_law_318 ?_
  refine kr_top (w := nI a) h1 ?_
  refine lv_aload_n hx hcd dL_law_319 rfl (lv_at hl 0 rfl) ?_
  refine lv_iload hx hcd dL_law_320 (lv_at hl 4 rfl) ?_
  refine lv_iconst (v := nI 2) hx hcd dL_law_322 (by decide) ?_
  refine kr_add hx hcd dL_law_323 ?_
  refine kl_sld hx hcd hX hbl hbA hS (k := i + 2) (by omega) hL9 dL_law_324 ?_
  refine kr_top (w := nI b) h2 ?_
  refine lv_aload_n hx hcd dL_law_325 rfl (lv_at hl 3 rfl) ?_
  refine kl_S (As := [.ref (ob 0), .int (nI a), .int (nI b), .ref o]) (rest := []) (ws2 := wLaw cI cB cW cL o (vp_updL F 0 (((if g_has M a b 10 = true then 1 else 0) : Int32).toInt64)) ob nw tr qs sc (g_rot qs (rj n r)) (g_refuse M a b) N (sset S (pj n r) M) (g_kn n) L T z x hh M Sp Ot Sv T) ⟨hx, hcd, hml, hown, hts⟩ (c_L_refuse__ok l hst D cI cB cW cL o F ob nw tr qs sc (g_rot qs r) N S n L T _ M a b r hI ha hb hne hn hr) (vx_cwSW 4 hts gL_law_L_refuse rfl rfl rfl (by decide +kernel) ⟨Nat.le_of_ble_eq_true rfl, Nat.le_of_ble_eq_true rfl⟩) hZ hN hK hP hD hS hA [0, 1, 2, 3, 4, 5, 6, 7, 8, 9, 10, 11, 12, 13, 14, 15, 16, 17, 18, 19, 20, 21, 22, 23, 24, 25, 26, 27, 28, 29, 30, 31, 32, 33, 34, 35, 36, 37, 38, 39, 40, 41, 42, 43, 44, 45, 46, 47, 48, 49, 50, 51, 52, 53, 54, 55, 56, 57, 58, 59, 60, 61, 62, 63, 64, 65, 66, 67, 68, 69, 70, 71, 72, 73, 74, 75, 76, 77, 78, 79, 80, 81, 82, 83, 84, 85, 86, 87, 88, 89, 90, 91, 92, 93, 94] wLaw_LXC nd_LX wLX_adr wLaw_LX rfl hl.1 rfl (Nat.le_of_ble_eq_true rfl) dL_law_326 ⟨hc, hs⟩ (fun H locs hP hD hS => ?_)
  refine lv_istore (lv' := [(5, .int (nI 0)), (0, .ref bb), (1, .ref (ob 0)), (2, .ref (z 0)), (3, .ref o), (4, .int (nI i))]) hx hcd dL_law_329 hl (by decide) rfl (fun ls hl => ?_)
  refine lv_aload_n hx hcd dL_law_331 rfl (lv_at hl 3 rfl) ?_
  refine lv_aload_n hx hcd dL_law_332 rfl (lv_at hl 1 rfl) ?_
  refine lv_iload hx hcd dL_law_333 (lv_at hl 5 rfl) ?_
  refine lv_iconst (v := nI 1) hx hcd dL_law_335 (by decide) ?_
  refine kr_add hx hcd dL_law_336 ?_
  refine kl_sld hx hcd hX hbl hbA hS (k := i + 1) (by omega) hL9 dL_law_337 ?_
  refine kr_top (w := nI a) h1 ?_
  refine lv_aload_n hx hcd dL_law_338 rfl (lv_at hl 1 rfl) ?_
  refine lv_iload hx hcd dL_law_339 (lv_at hl 5 rfl) ?_
  refine lv_iconst (v := nI 2) hx hcd dL_law_341 (by decide) ?_
  refine kr_add hx hcd dL_law_342 ?_
  refine kl_sld hx hcd hX hbl hbA hS (k := i + 2) (by omega) hL9 dL_law_343 ?_
  refine kr_top (w := nI b) h2 ?_
  refine kr_Vi (As := [.int (nI a), .int (nI b)]) (rest := []) (ws2 := wLaw cI cB cW cL o (vp_updL F 0 (((if g_has M a b 10 = true then 1 else 0) : Int32).toInt64)) ob nw tr qs sc (g_rot qs (rj n r)) (g_refuse M a b) N (sset S (pj n r) M) (g_kn n) L T z (xu (xu x 7 0) 4 (nI (g_kn n))) hh (g_refuse M a b) Sp Ot (g_keep Sv M n) T) (q := (RX7, TX7, 10)) ⟨hx, hcd, hml, hown, hts⟩ (c_X7_refuse__ok l D cI cB cW cL z x hh Sp Ot Sv T _ M a b n hI ha hb hne hx4 hn) (cwV 2 hts gL_law_X7_refuse rfl rfl rfl (by decide +kernel) ⟨Nat.le_of_ble_eq_true rfl, Nat.le_of_ble_eq_true rfl⟩) hK hP hD hS hA [95, 96, 97, 98, 99, 100] wLaw_MAC (by decide) wMA_adr wLaw_MA 95 rfl rfl rfl hl.1 rfl (Nat.le_of_ble_eq_true rfl) dL_law_344 ⟨hc, hs⟩ (fun H locs hP hD hS => ?_)
  refine lv_istore (lv' := [(6, .int (if g_has M a b 10 = true then 1 else 0)), (5, .int (nI 0)), (0, .ref bb), (1, .ref (ob 0)), (2, .ref (z 0)), (3, .ref o), (4, .int (nI i))]) hx hcd dL_law_347 hl (by decide) rfl (fun ls hl => ?_)
  refine lv_aload_n hx hcd dL_law_349 rfl (lv_at hl 4 rfl) ?_
  refine kr_Vi (As := []) (rest := []) (ws2 := wLaw cI cB cW cL o (vp_updL F 0 (((if g_has M a b 10 = true then 1 else 0) : Int32).toInt64)) ob nw tr qs sc (g_rot qs (rj n r)) (g_refuse M a b) N (sset S (pj n r) M) (g_kn n) L T z (xu (xu x 7 0) 4 (nI (g_kn n))) hh (g_refuse M a b) Sp Ot (g_keep Sv M n) T) (q := (RX7, TX7, 10)) ⟨hx, hcd, hml, hown, hts⟩ (c_X7_thrown l D cI cB cW cL z (xu (xu x 7 0) 4 (nI (g_kn n))) hh _ (g_refuse M a b) ) (cwV 0 hts gL_law_X7_thrown rfl rfl rfl (by decide +kernel) ⟨Nat.le_of_ble_eq_true rfl, Nat.le_of_ble_eq_true rfl⟩) hK hP hD hS hA [95, 96] wLaw_MoC (by decide) wMo_adr2 wLaw_Mo 95 rfl rfl rfl hl.1 rfl (Nat.le_of_ble_eq_true rfl) dL_law_350 ⟨hc, hs⟩ (fun H locs hP hD hS => ?_)
  refine kr_top (w := 0) rfl ?_
  refine kr_top (w := nI 0) rfl ?_
  refine lv_iload hx hcd dL_law_353 (lv_at hl 1 rfl) ?_
  refine kr_ceq (tgt := 360) hx hcd (by omega) (by omega) dL_law_355 (by decide) (fun (c_355 : 0 = 0) => ?_) (fun (c_355 : ¬ 0 = 0) => absurd c_355 (by omega))
  refine lv_iload hx hcd dL_law_360 (lv_at hl 1 rfl) ?_
  refine kr_zne (tgt := 377) hx hcd (by omega) dL_law_362 (by decide) (fun (c_362 : 0 < 0) => absurd c_362 (by omega)) (fun (c_362 : 0 = 0) => ?_)
  refine lv_aload_n hx hcd dL_law_365 rfl (lv_at hl 5 rfl) ?_
  refine lv_iconst (v := nI 0) hx hcd dL_law_366 (by decide) ?_
  refine kl_lald hx hcd hK hP 0 3 rfl rfl (v := ((if g_has M a b 10 = true then 1 else 0) : Int32).toInt64) (by omega) (by decide) updL_0 dL_law_367 ?_
  refine lv_iload hx hcd dL_law_368 (lv_at hl 0 rfl) ?_
  refine lv_i2l hx hcd dL_law_370 rfl ?_
  refine kl_lcmp hx hcd (rfl) dL_law_371 ?_
  refine kr_zeq (tgt := 377) hx hcd (by omega) dL_law_372 (by decide) (fun (c_372 : 0 = 0) => ?_) (fun (c_372 : 0 < 0) => absurd c_372 (by omega))
  refine lv_goto (tgt := 1812) hx hcd dL_law_377 (by decide) ?_
  exact kk (vp_updL F 0 (((if g_has M a b 10 = true then 1 else 0) : Int32).toInt64)) N (g_refuse M a b) (sset S (pj n r) M) (g_kn n) (rj n r) L T (xu (xu x 7 0) 4 (nI (g_kn n))) hh Sp Ot (g_keep Sv M n) (linv_keep hV (i_refuse hI ha hb) rfl rfl) H locs ls hP hD hS (lv_sub hl [2, 3, 4, 5, 6] rfl)

set_option maxHeartbeats 4000000 in
set_option maxRecDepth 100000 in
theorem law_stop__ok {pp : Program} {l : Launch} {ee : Env} {ss : State} {mm : MethodId} {below : List Frame} {meth : Method} {cc : Code} {bb Ls : Nat} {xs : Nat → Int32} {D : va_G} {cI cB cW cL : ClassId} (C : LFix pp l ss mm cc bb Ls xs D cI cB cW cL) {o : Nat} {F : Nat → Int64} {ob nw tr : Nat → Nat} {qs : Nat → Nat → Nat} {sc : Nat → Nat} {N : kM} {S : Nat → kM} {n r L : Nat} {T : Nat → Int32} {z : Nat → Nat} {x : Nat → Int32} {hh : Int64} {Sp Ot Sv : Nat → Int32} {M : kM} (hV : LInv M S n r L T Sv x) {i : Nat} (hi : i + 5 ≤ Ls) {a b : Nat} (h1 : xs (i + 1) = nI a) (h2 : xs (i + 2) = nI b) (ha : a < 6) (hb : b < 6) (hne : a ≠ b)  {H : Heap} {locs : List Loc} {ls : Array Slot} {cells slots : Nat} {Q : State → Prop} (hc : cells + 1 ≤ 601024) (hs : slots + 6 ≤ 7293034) (hP : va_P D vwCl (wLaw cI cB cW cL o F ob nw tr qs sc (g_rot qs r) M N S n L T z x hh M Sp Ot Sv T) H) (hD : va_D (fun q : Nat => ss.heap.size ≤ q) (wLaw cI cB cW cL o F ob nw tr qs sc (g_rot qs r) M N S n L T z x hh M Sp Ot Sv T)) (hS : va_S (fun q : Nat => ss.heap.size ≤ q) ss.heap H locs) (hl : lv_has ls 9 [(0, .ref bb), (1, .ref (ob 0)), (2, .ref (z 0)), (3, .ref o), (4, .int (nI i))]) (kk : LNext pp l ee ss mm below meth cc bb D cI cB cW cL o ob nw tr qs sc z i cells slots Q) : W pp l ee room_1 ss mm #[Value.ref bb] below meth cc H locs cells slots Q (F0 mm 380 ls []) := by
  obtain ⟨hx, hcd, hml, hown, hts, hX, hbl, hst, hZ, hN, hK, hL9⟩ := C
  obtain ⟨hI, hn, hr, hL, hT, hx4, hx6, hsv⟩ := id hV
  have hA : ∀ q : Nat, ss.heap.size ≤ q → (fun q : Nat => ss.heap.size ≤ q) q := fun _ h => h
  have hbA : ¬ (fun q : Nat => ss.heap.size ≤ q) bb := Nat.not_le.mpr hbl
  refine lv_aload_n hx hcd dL_law_380 rfl (lv_at hl 1 rfl) ?_
  refine lv_aload_n hx hcd dL_law_381 rfl (lv_at hl 0 rfl) ?_
  refine lv_iload hx hcd dL_law_382 (lv_at hl 4 rfl) ?_
  refine lv_iconst (v := nI 1) hx hcd dL_law_384 (by decide) ?_
  refine kr_add hx hcd dL_law_385 ?_
  refine kl_sld hx hcd hX hbl hbA hS (k := i + 1) (by omega) hL9 dL_law_386 ?_
  refine kr_top (w := nI a) h1 ?_
  refine lv_aload_n hx hcd dL_law_387 rfl (lv_at hl 0 rfl) ?_
  refine lv_iload hx hcd dL_law_388 (lv_at hl 4 rfl) ?_
  refine lv_iconst (v := nI 2) hx hcd dL_law_390 (by decide) ?_
  refine kr_add hx hcd dL_law_391 ?_
  refine kl_sld hx hcd hX hbl hbA hS (k := i + 2) (by omega) hL9 dL_law_392 ?_
  refine kr_top (w := nI b) h2 ?_
  refine lv_aload_n hx hcd dL_law_393 rfl (lv_at hl 3 rfl) ?_
  refine kl_S (As := [.ref (ob 0), .int (nI a), .int (nI b), .ref o]) (rest := []) (ws2 := wLaw cI cB cW cL o (vp_updL F 0 (((if g_has M a b 5 = true then 1 else 0) : Int32).toInt64)) ob nw tr qs sc (g_rot qs (rj n r)) (g_stop M a b) N (sset S (pj n r) M) (g_kn n) L T z x hh M Sp Ot Sv T) ⟨hx, hcd, hml, hown, hts⟩ (c_L_stop__ok l hst D cI cB cW cL o F ob nw tr qs sc (g_rot qs r) N S n L T _ M a b r hI ha hb hne hn hr) (vx_cwSW 4 hts gL_law_L_stop rfl rfl rfl (by decide +kernel) ⟨Nat.le_of_ble_eq_true rfl, Nat.le_of_ble_eq_true rfl⟩) hZ hN hK hP hD hS hA [0, 1, 2, 3, 4, 5, 6, 7, 8, 9, 10, 11, 12, 13, 14, 15, 16, 17, 18, 19, 20, 21, 22, 23, 24, 25, 26, 27, 28, 29, 30, 31, 32, 33, 34, 35, 36, 37, 38, 39, 40, 41, 42, 43, 44, 45, 46, 47, 48, 49, 50, 51, 52, 53, 54, 55, 56, 57, 58, 59, 60, 61, 62, 63, 64, 65, 66, 67, 68, 69, 70, 71, 72, 73, 74, 75, 76, 77, 78, 79, 80, 81, 82, 83, 84, 85, 86, 87, 88, 89, 90, 91, 92, 93, 94] wLaw_LXC nd_LX wLX_adr wLaw_LX rfl hl.1 rfl (Nat.le_of_ble_eq_true rfl) dL_law_394 ⟨hc, hs⟩ (fun H locs hP hD hS => ?_)
  refine lv_istore (lv' := [(5, .int (nI 0)), (0, .ref bb), (1, .ref (ob 0)), (2, .ref (z 0)), (3, .ref o), (4, .int (nI i))]) hx hcd dL_law_397 hl (by decide) rfl (fun ls hl => ?_)
  refine lv_aload_n hx hcd dL_law_399 rfl (lv_at hl 3 rfl) ?_
  refine lv_aload_n hx hcd dL_law_400 rfl (lv_at hl 1 rfl) ?_
  refine lv_iload hx hcd dL_law_401 (lv_at hl 5 rfl) ?_
  refine lv_iconst (v := nI 1) hx hcd dL_law_403 (by decide) ?_
  refine kr_add hx hcd dL_law_404 ?_
  refine kl_sld hx hcd hX hbl hbA hS (k := i + 1) (by omega) hL9 dL_law_405 ?_
  refine kr_top (w := nI a) h1 ?_
  refine lv_aload_n hx hcd dL_law_406 rfl (lv_at hl 1 rfl) ?_
  refine lv_iload hx hcd dL_law_407 (lv_at hl 5 rfl) ?_
  refine lv_iconst (v := nI 2) hx hcd dL_law_409 (by decide) ?_
  refine kr_add hx hcd dL_law_410 ?_
  refine kl_sld hx hcd hX hbl hbA hS (k := i + 2) (by omega) hL9 dL_law_411 ?_
  refine kr_top (w := nI b) h2 ?_
  refine kr_Vi (As := [.int (nI a), .int (nI b)]) (rest := []) (ws2 := wLaw cI cB cW cL o (vp_updL F 0 (((if g_has M a b 5 = true then 1 else 0) : Int32).toInt64)) ob nw tr qs sc (g_rot qs (rj n r)) (g_stop M a b) N (sset S (pj n r) M) (g_kn n) L T z (xu (xu x 7 0) 4 (nI (g_kn n))) hh (g_stop M a b) Sp Ot (g_keep Sv M n) T) (q := (RX7, TX7, 10)) ⟨hx, hcd, hml, hown, hts⟩ (c_X7_stop__ok l D cI cB cW cL z x hh Sp Ot Sv T _ M a b n hI ha hb hne hx4 hn) (cwV 2 hts gL_law_X7_stop rfl rfl rfl (by decide +kernel) ⟨Nat.le_of_ble_eq_true rfl, Nat.le_of_ble_eq_true rfl⟩) hK hP hD hS hA [95, 96, 97, 98, 99, 100] wLaw_MAC (by decide) wMA_adr wLaw_MA 95 rfl rfl rfl hl.1 rfl (Nat.le_of_ble_eq_true rfl) dL_law_412 ⟨hc, hs⟩ (fun H locs hP hD hS => ?_)
  refine lv_istore (lv' := [(6, .int (if g_has M a b 5 = true then 1 else 0)), (5, .int (nI 0)), (0, .ref bb), (1, .ref (ob 0)), (2, .ref (z 0)), (3, .ref o), (4, .int (nI i))]) hx hcd dL_law_415 hl (by decide) rfl (fun ls hl => ?_)
  refine lv_aload_n hx hcd dL_law_417 rfl (lv_at hl 4 rfl) ?_
  refine kr_Vi (As := []) (rest := []) (ws2 := wLaw cI cB cW cL o (vp_updL F 0 (((if g_has M a b 5 = true then 1 else 0) : Int32).toInt64)) ob nw tr qs sc (g_rot qs (rj n r)) (g_stop M a b) N (sset S (pj n r) M) (g_kn n) L T z (xu (xu x 7 0) 4 (nI (g_kn n))) hh (g_stop M a b) Sp Ot (g_keep Sv M n) T) (q := (RX7, TX7, 10)) ⟨hx, hcd, hml, hown, hts⟩ (c_X7_thrown l D cI cB cW cL z (xu (xu x 7 0) 4 (nI (g_kn n))) hh _ (g_stop M a b) ) (cwV 0 hts gL_law_X7_thrown rfl rfl rfl (by decide +kernel) ⟨Nat.le_of_ble_eq_true rfl, Nat.le_of_ble_eq_true rfl⟩) hK hP hD hS hA [95, 96] wLaw_MoC (by decide) wMo_adr2 wLaw_Mo 95 rfl rfl rfl hl.1 rfl (Nat.le_of_ble_eq_true rfl) dL_law_418 ⟨hc, hs⟩ (fun H locs hP hD hS => ?_)
  refine kr_top (w := 0) rfl ?_
  refine kr_top (w := nI 0) rfl ?_
  refine lv_iload hx hcd dL_law_421 (lv_at hl 1 rfl) ?_
  refine kr_ceq (tgt := 428) hx hcd (by omega) (by omega) dL_law_423 (by decide) (fun (c_423 : 0 = 0) => ?_) (fun (c_423 : ¬ 0 = 0) => absurd c_423 (by omega))
  refine lv_iload hx hcd dL_law_428 (lv_at hl 1 rfl) ?_
  refine kr_zne (tgt := 445) hx hcd (by omega) dL_law_430 (by decide) (fun (c_430 : 0 < 0) => absurd c_430 (by omega)) (fun (c_430 : 0 = 0) => ?_)
  refine lv_aload_n hx hcd dL_law_433 rfl (lv_at hl 5 rfl) ?_
  refine lv_iconst (v := nI 0) hx hcd dL_law_434 (by decide) ?_
  refine kl_lald hx hcd hK hP 0 3 rfl rfl (v := ((if g_has M a b 5 = true then 1 else 0) : Int32).toInt64) (by omega) (by decide) updL_0 dL_law_435 ?_
  refine lv_iload hx hcd dL_law_436 (lv_at hl 0 rfl) ?_
  refine lv_i2l hx hcd dL_law_438 rfl ?_
  refine kl_lcmp hx hcd (rfl) dL_law_439 ?_
  refine kr_zeq (tgt := 445) hx hcd (by omega) dL_law_440 (by decide) (fun (c_440 : 0 = 0) => ?_) (fun (c_440 : 0 < 0) => absurd c_440 (by omega))
  refine lv_goto (tgt := 1812) hx hcd dL_law_445 (by decide) ?_
  exact kk (vp_updL F 0 (((if g_has M a b 5 = true then 1 else 0) : Int32).toInt64)) N (g_stop M a b) (sset S (pj n r) M) (g_kn n) (rj n r) L T (xu (xu x 7 0) 4 (nI (g_kn n))) hh Sp Ot (g_keep Sv M n) (linv_keep hV (i_stop hI ha hb) rfl rfl) H locs ls hP hD hS (lv_sub hl [2, 3, 4, 5, 6] rfl)

set_option maxHeartbeats 4000000 in
set_option maxRecDepth 100000 in
theorem law_entry__ok {pp : Program} {l : Launch} {ee : Env} {ss : State} {mm : MethodId} {below : List Frame} {meth : Method} {cc : Code} {bb Ls : Nat} {xs : Nat → Int32} {D : va_G} {cI cB cW cL : ClassId} (C : LFix pp l ss mm cc bb Ls xs D cI cB cW cL) {o : Nat} {F : Nat → Int64} {ob nw tr : Nat → Nat} {qs : Nat → Nat → Nat} {sc : Nat → Nat} {N : kM} {S : Nat → kM} {n r L : Nat} {T : Nat → Int32} {z : Nat → Nat} {x : Nat → Int32} {hh : Int64} {Sp Ot Sv : Nat → Int32} {M : kM} (hV : LInv M S n r L T Sv x) {i : Nat} (hi : i + 5 ≤ Ls) {a b : Nat} (h1 : xs (i + 1) = nI a) (h2 : xs (i + 2) = nI b) (ha : a < 6) (hb : b < 6) (hne : a ≠ b)  {H : Heap} {locs : List Loc} {ls : Array Slot} {cells slots : Nat} {Q : State → Prop} (hc : cells + 1 ≤ 601024) (hs : slots + 6 ≤ 7293034) (hP : va_P D vwCl (wLaw cI cB cW cL o F ob nw tr qs sc (g_rot qs r) M N S n L T z x hh M Sp Ot Sv T) H) (hD : va_D (fun q : Nat => ss.heap.size ≤ q) (wLaw cI cB cW cL o F ob nw tr qs sc (g_rot qs r) M N S n L T z x hh M Sp Ot Sv T)) (hS : va_S (fun q : Nat => ss.heap.size ≤ q) ss.heap H locs) (hl : lv_has ls 9 [(0, .ref bb), (1, .ref (ob 0)), (2, .ref (z 0)), (3, .ref o), (4, .int (nI i))]) (kk : LNext pp l ee ss mm below meth cc bb D cI cB cW cL o ob nw tr qs sc z i cells slots Q) : W pp l ee room_1 ss mm #[Value.ref bb] below meth cc H locs cells slots Q (F0 mm 1089 ls []) := by
  obtain ⟨hx, hcd, hml, hown, hts, hX, hbl, hst, hZ, hN, hK, hL9⟩ := C
  obtain ⟨hI, hn, hr, hL, hT, hx4, hx6, hsv⟩ := id hV
  have hA : ∀ q : Nat, ss.heap.size ≤ q → (fun q : Nat => ss.heap.size ≤ q) q := fun _ h => h
  have hbA : ¬ (fun q : Nat => ss.heap.size ≤ q) bb := Nat.not_le.mpr hbl
  refine lv_aload_n hx hcd dL_law_1089 rfl (lv_at hl 1 rfl) ?_
  refine lv_aload_n hx hcd dL_law_1090 rfl (lv_at hl 0 rfl) ?_
  refine lv_iload hx hcd dL_law_1091 (lv_at hl 4 rfl) ?_
  refine lv_iconst (v := nI 1) hx hcd dL_law_1093 (by decide) ?_
  refine kr_add hx hcd dL_law_1094 ?_
  refine kl_sld hx hcd hX hbl hbA hS (k := i + 1) (by omega) hL9 dL_law_1095 ?_
  refine kr_top (w := nI a) h1 ?_
  refine lv_aload_n hx hcd dL_law_1096 rfl (lv_at hl 0 rfl) ?_
  refine lv_iload hx hcd dL_law_1097 (lv_at hl 4 rfl) ?_
  refine lv_iconst (v := nI 2) hx hcd dL_law_1099 (by decide) ?_
  refine kr_add hx hcd dL_law_1100 ?_
  refine kl_sld hx hcd hX hbl hbA hS (k := i + 2) (by omega) hL9 dL_law_1101 ?_
  refine kr_top (w := nI b) h2 ?_
  refine lv_aload_n hx hcd dL_law_1102 rfl (lv_at hl 3 rfl) ?_
  refine kl_S (As := [.ref (ob 0), .int (nI a), .int (nI b), .ref o]) (rest := []) (ws2 := wLaw cI cB cW cL o (vp_updL F 0 (((g_st M a b) : Int32).toInt64)) ob nw tr qs sc (g_rot qs r) M N S n L T z x hh M Sp Ot Sv T) ⟨hx, hcd, hml, hown, hts⟩ (c_L_entry__ok l hst D cI cB cW cL o F ob nw tr qs sc (g_rot qs r) N S n L T _ M a b ha hb hne) (vx_cwSW 4 hts gL_law_L_entry rfl rfl rfl (by decide +kernel) ⟨Nat.le_of_ble_eq_true rfl, Nat.le_of_ble_eq_true rfl⟩) hZ hN hK hP hD hS hA [0, 1, 2, 3, 4, 5, 6, 7, 8, 9, 10, 11, 12, 13, 14, 15, 16, 17, 18, 19, 20, 21, 22, 23, 24, 25, 26, 27, 28, 29, 30, 31, 32, 33, 34, 35, 36, 37, 38, 39, 40, 41, 42, 43, 44, 45, 46, 47, 48, 49, 50, 51, 52, 53, 54, 55, 56, 57, 58, 59, 60, 61, 62, 63, 64, 65, 66, 67, 68, 69, 70, 71, 72, 73, 74, 75, 76, 77, 78, 79, 80, 81, 82, 83, 84, 85, 86, 87, 88, 89, 90, 91, 92, 93, 94] wLaw_LXC nd_LX wLX_adr wLaw_LX rfl hl.1 rfl (Nat.le_of_ble_eq_true rfl) dL_law_1103 ⟨hc, hs⟩ (fun H locs hP hD hS => ?_)
  refine lv_istore (lv' := [(5, .int (nI 0)), (0, .ref bb), (1, .ref (ob 0)), (2, .ref (z 0)), (3, .ref o), (4, .int (nI i))]) hx hcd dL_law_1106 hl (by decide) rfl (fun ls hl => ?_)
  refine lv_aload_n hx hcd dL_law_1108 rfl (lv_at hl 3 rfl) ?_
  refine lv_aload_n hx hcd dL_law_1109 rfl (lv_at hl 1 rfl) ?_
  refine lv_iload hx hcd dL_law_1110 (lv_at hl 5 rfl) ?_
  refine lv_iconst (v := nI 1) hx hcd dL_law_1112 (by decide) ?_
  refine kr_add hx hcd dL_law_1113 ?_
  refine kl_sld hx hcd hX hbl hbA hS (k := i + 1) (by omega) hL9 dL_law_1114 ?_
  refine kr_top (w := nI a) h1 ?_
  refine lv_aload_n hx hcd dL_law_1115 rfl (lv_at hl 1 rfl) ?_
  refine lv_iload hx hcd dL_law_1116 (lv_at hl 5 rfl) ?_
  refine lv_iconst (v := nI 2) hx hcd dL_law_1118 (by decide) ?_
  refine kr_add hx hcd dL_law_1119 ?_
  refine kl_sld hx hcd hX hbl hbA hS (k := i + 2) (by omega) hL9 dL_law_1120 ?_
  refine kr_top (w := nI b) h2 ?_
  refine kr_Vi (As := [.int (nI a), .int (nI b)]) (rest := []) (ws2 := wLaw cI cB cW cL o (vp_updL F 0 (((g_st M a b) : Int32).toInt64)) ob nw tr qs sc (g_rot qs r) M N S n L T z (xu x 7 0) hh M Sp Ot Sv T) (q := (RX7, TX7, 10)) ⟨hx, hcd, hml, hown, hts⟩ (c_X7_entry__ok l D cI cB cW cL z x hh _ M a b ha hb hne) (cwV 2 hts gL_law_X7_entry rfl rfl rfl (by decide +kernel) ⟨Nat.le_of_ble_eq_true rfl, Nat.le_of_ble_eq_true rfl⟩) hK hP hD hS hA [95, 96] wLaw_MoC (by decide) wMo_adr2 wLaw_Mo 95 rfl rfl rfl hl.1 rfl (Nat.le_of_ble_eq_true rfl) dL_law_1121 ⟨hc, hs⟩ (fun H locs hP hD hS => ?_)
  refine lv_istore (lv' := [(6, .int (g_st M a b)), (5, .int (nI 0)), (0, .ref bb), (1, .ref (ob 0)), (2, .ref (z 0)), (3, .ref o), (4, .int (nI i))]) hx hcd dL_law_1124 hl (by decide) rfl (fun ls hl => ?_)
  refine lv_aload_n hx hcd dL_law_1126 rfl (lv_at hl 4 rfl) ?_
  refine kr_Vi (As := []) (rest := []) (ws2 := wLaw cI cB cW cL o (vp_updL F 0 (((g_st M a b) : Int32).toInt64)) ob nw tr qs sc (g_rot qs r) M N S n L T z (xu x 7 0) hh M Sp Ot Sv T) (q := (RX7, TX7, 10)) ⟨hx, hcd, hml, hown, hts⟩ (c_X7_thrown l D cI cB cW cL z (xu x 7 0) hh _ M ) (cwV 0 hts gL_law_X7_thrown rfl rfl rfl (by decide +kernel) ⟨Nat.le_of_ble_eq_true rfl, Nat.le_of_ble_eq_true rfl⟩) hK hP hD hS hA [95, 96] wLaw_MoC (by decide) wMo_adr2 wLaw_Mo 95 rfl rfl rfl hl.1 rfl (Nat.le_of_ble_eq_true rfl) dL_law_1127 ⟨hc, hs⟩ (fun H locs hP hD hS => ?_)
  refine kr_top (w := 0) rfl ?_
  refine kr_top (w := nI 0) rfl ?_
  refine lv_iload hx hcd dL_law_1130 (lv_at hl 1 rfl) ?_
  refine kr_ceq (tgt := 1137) hx hcd (by omega) (by omega) dL_law_1132 (by decide) (fun (c_1132 : 0 = 0) => ?_) (fun (c_1132 : ¬ 0 = 0) => absurd c_1132 (by omega))
  refine lv_iload hx hcd dL_law_1137 (lv_at hl 1 rfl) ?_
  refine kr_zne (tgt := 1154) hx hcd (by omega) dL_law_1139 (by decide) (fun (c_1139 : 0 < 0) => absurd c_1139 (by omega)) (fun (c_1139 : 0 = 0) => ?_)
  refine lv_aload_n hx hcd dL_law_1142 rfl (lv_at hl 5 rfl) ?_
  refine lv_iconst (v := nI 0) hx hcd dL_law_1143 (by decide) ?_
  refine kl_lald hx hcd hK hP 0 3 rfl rfl (v := ((g_st M a b) : Int32).toInt64) (by omega) (by decide) updL_0 dL_law_1144 ?_
  refine lv_iload hx hcd dL_law_1145 (lv_at hl 0 rfl) ?_
  refine lv_i2l hx hcd dL_law_1147 rfl ?_
  refine kl_lcmp hx hcd (rfl) dL_law_1148 ?_
  refine kr_zeq (tgt := 1154) hx hcd (by omega) dL_law_1149 (by decide) (fun (c_1149 : 0 = 0) => ?_) (fun (c_1149 : 0 < 0) => absurd c_1149 (by omega))
  refine lv_goto (tgt := 1812) hx hcd dL_law_1154 (by decide) ?_
  exact kk (vp_updL F 0 (((g_st M a b) : Int32).toInt64)) N M S n r L T (xu x 7 0) hh Sp Ot Sv (linv_x hV rfl rfl) H locs ls hP hD hS (lv_sub hl [2, 3, 4, 5, 6] rfl)

set_option maxHeartbeats 4000000 in
set_option maxRecDepth 100000 in
theorem law_areApart__ok {pp : Program} {l : Launch} {ee : Env} {ss : State} {mm : MethodId} {below : List Frame} {meth : Method} {cc : Code} {bb Ls : Nat} {xs : Nat → Int32} {D : va_G} {cI cB cW cL : ClassId} (C : LFix pp l ss mm cc bb Ls xs D cI cB cW cL) {o : Nat} {F : Nat → Int64} {ob nw tr : Nat → Nat} {qs : Nat → Nat → Nat} {sc : Nat → Nat} {N : kM} {S : Nat → kM} {n r L : Nat} {T : Nat → Int32} {z : Nat → Nat} {x : Nat → Int32} {hh : Int64} {Sp Ot Sv : Nat → Int32} {M : kM} (hV : LInv M S n r L T Sv x) {i : Nat} (hi : i + 5 ≤ Ls) {a b : Nat} (h1 : xs (i + 1) = nI a) (h2 : xs (i + 2) = nI b) (ha : a < 6) (hb : b < 6) (hne : a ≠ b)  {H : Heap} {locs : List Loc} {ls : Array Slot} {cells slots : Nat} {Q : State → Prop} (hc : cells + 1 ≤ 601024) (hs : slots + 6 ≤ 7293034) (hP : va_P D vwCl (wLaw cI cB cW cL o F ob nw tr qs sc (g_rot qs r) M N S n L T z x hh M Sp Ot Sv T) H) (hD : va_D (fun q : Nat => ss.heap.size ≤ q) (wLaw cI cB cW cL o F ob nw tr qs sc (g_rot qs r) M N S n L T z x hh M Sp Ot Sv T)) (hS : va_S (fun q : Nat => ss.heap.size ≤ q) ss.heap H locs) (hl : lv_has ls 9 [(0, .ref bb), (1, .ref (ob 0)), (2, .ref (z 0)), (3, .ref o), (4, .int (nI i))]) (kk : LNext pp l ee ss mm below meth cc bb D cI cB cW cL o ob nw tr qs sc z i cells slots Q) : W pp l ee room_1 ss mm #[Value.ref bb] below meth cc H locs cells slots Q (F0 mm 1373 ls []) := by
  obtain ⟨hx, hcd, hml, hown, hts, hX, hbl, hst, hZ, hN, hK, hL9⟩ := C
  obtain ⟨hI, hn, hr, hL, hT, hx4, hx6, hsv⟩ := id hV
  have hA : ∀ q : Nat, ss.heap.size ≤ q → (fun q : Nat => ss.heap.size ≤ q) q := fun _ h => h
  have hbA : ¬ (fun q : Nat => ss.heap.size ≤ q) bb := Nat.not_le.mpr hbl
  refine lv_aload_n hx hcd dL_law_1373 rfl (lv_at hl 1 rfl) ?_
  refine lv_aload_n hx hcd dL_law_1374 rfl (lv_at hl 0 rfl) ?_
  refine lv_iload hx hcd dL_law_1375 (lv_at hl 4 rfl) ?_
  refine lv_iconst (v := nI 1) hx hcd dL_law_1377 (by decide) ?_
  refine kr_add hx hcd dL_law_1378 ?_
  refine kl_sld hx hcd hX hbl hbA hS (k := i + 1) (by omega) hL9 dL_law_1379 ?_
  refine kr_top (w := nI a) h1 ?_
  refine lv_aload_n hx hcd dL_law_1380 rfl (lv_at hl 0 rfl) ?_
  refine lv_iload hx hcd dL_law_1381 (lv_at hl 4 rfl) ?_
  refine lv_iconst (v := nI 2) hx hcd dL_law_1383 (by decide) ?_
  refine kr_add hx hcd dL_law_1384 ?_
  refine kl_sld hx hcd hX hbl hbA hS (k := i + 2) (by omega) hL9 dL_law_1385 ?_
  refine kr_top (w := nI b) h2 ?_
  refine lv_aload_n hx hcd dL_law_1386 rfl (lv_at hl 3 rfl) ?_
  refine kl_S (As := [.ref (ob 0), .int (nI a), .int (nI b), .ref o]) (rest := []) (ws2 := wLaw cI cB cW cL o (vp_updL F 0 ((if (g_apart M a b) = true then (1 : Int64) else 0))) ob nw tr qs sc (g_rot qs r) M N S n L T z x hh M Sp Ot Sv T) ⟨hx, hcd, hml, hown, hts⟩ (c_L_areApart__ok l hst D cI cB cW cL o F ob nw tr qs sc (g_rot qs r) N S n L T _ M a b ha hb hne) (vx_cwSW 4 hts gL_law_L_areApart rfl rfl rfl (by decide +kernel) ⟨Nat.le_of_ble_eq_true rfl, Nat.le_of_ble_eq_true rfl⟩) hZ hN hK hP hD hS hA [0, 1, 2, 3, 4, 5, 6, 7, 8, 9, 10, 11, 12, 13, 14, 15, 16, 17, 18, 19, 20, 21, 22, 23, 24, 25, 26, 27, 28, 29, 30, 31, 32, 33, 34, 35, 36, 37, 38, 39, 40, 41, 42, 43, 44, 45, 46, 47, 48, 49, 50, 51, 52, 53, 54, 55, 56, 57, 58, 59, 60, 61, 62, 63, 64, 65, 66, 67, 68, 69, 70, 71, 72, 73, 74, 75, 76, 77, 78, 79, 80, 81, 82, 83, 84, 85, 86, 87, 88, 89, 90, 91, 92, 93, 94] wLaw_LXC nd_LX wLX_adr wLaw_LX rfl hl.1 rfl (Nat.le_of_ble_eq_true rfl) dL_law_1387 ⟨hc, hs⟩ (fun H locs hP hD hS => ?_)
  refine lv_istore (lv' := [(5, .int (nI 0)), (0, .ref bb), (1, .ref (ob 0)), (2, .ref (z 0)), (3, .ref o), (4, .int (nI i))]) hx hcd dL_law_1390 hl (by decide) rfl (fun ls hl => ?_)
  refine lv_aload_n hx hcd dL_law_1392 rfl (lv_at hl 3 rfl) ?_
  refine lv_aload_n hx hcd dL_law_1393 rfl (lv_at hl 1 rfl) ?_
  refine lv_iload hx hcd dL_law_1394 (lv_at hl 5 rfl) ?_
  refine lv_iconst (v := nI 1) hx hcd dL_law_1396 (by decide) ?_
  refine kr_add hx hcd dL_law_1397 ?_
  refine kl_sld hx hcd hX hbl hbA hS (k := i + 1) (by omega) hL9 dL_law_1398 ?_
  refine kr_top (w := nI a) h1 ?_
  refine lv_aload_n hx hcd dL_law_1399 rfl (lv_at hl 1 rfl) ?_
  refine lv_iload hx hcd dL_law_1400 (lv_at hl 5 rfl) ?_
  refine lv_iconst (v := nI 2) hx hcd dL_law_1402 (by decide) ?_
  refine kr_add hx hcd dL_law_1403 ?_
  refine kl_sld hx hcd hX hbl hbA hS (k := i + 2) (by omega) hL9 dL_law_1404 ?_
  refine kr_top (w := nI b) h2 ?_
  refine kr_Vi (As := [.int (nI a), .int (nI b)]) (rest := []) (ws2 := wLaw cI cB cW cL o (vp_updL F 0 ((if (g_apart M a b) = true then (1 : Int64) else 0))) ob nw tr qs sc (g_rot qs r) M N S n L T z (xu x 7 0) hh M Sp Ot Sv T) (q := (RX7, TX7, 10)) ⟨hx, hcd, hml, hown, hts⟩ (c_X7_areApart__ok l D cI cB cW cL z x hh _ M a b ha hb hne) (cwV 2 hts gL_law_X7_areApart rfl rfl rfl (by decide +kernel) ⟨Nat.le_of_ble_eq_true rfl, Nat.le_of_ble_eq_true rfl⟩) hK hP hD hS hA [95, 96] wLaw_MoC (by decide) wMo_adr2 wLaw_Mo 95 rfl rfl rfl hl.1 rfl (Nat.le_of_ble_eq_true rfl) dL_law_1405 ⟨hc, hs⟩ (fun H locs hP hD hS => ?_)
  refine lv_istore (lv' := [(6, .int (kI (g_apart M a b))), (5, .int (nI 0)), (0, .ref bb), (1, .ref (ob 0)), (2, .ref (z 0)), (3, .ref o), (4, .int (nI i))]) hx hcd dL_law_1408 hl (by decide) rfl (fun ls hl => ?_)
  refine lv_aload_n hx hcd dL_law_1410 rfl (lv_at hl 4 rfl) ?_
  refine kr_Vi (As := []) (rest := []) (ws2 := wLaw cI cB cW cL o (vp_updL F 0 ((if (g_apart M a b) = true then (1 : Int64) else 0))) ob nw tr qs sc (g_rot qs r) M N S n L T z (xu x 7 0) hh M Sp Ot Sv T) (q := (RX7, TX7, 10)) ⟨hx, hcd, hml, hown, hts⟩ (c_X7_thrown l D cI cB cW cL z (xu x 7 0) hh _ M ) (cwV 0 hts gL_law_X7_thrown rfl rfl rfl (by decide +kernel) ⟨Nat.le_of_ble_eq_true rfl, Nat.le_of_ble_eq_true rfl⟩) hK hP hD hS hA [95, 96] wLaw_MoC (by decide) wMo_adr2 wLaw_Mo 95 rfl rfl rfl hl.1 rfl (Nat.le_of_ble_eq_true rfl) dL_law_1411 ⟨hc, hs⟩ (fun H locs hP hD hS => ?_)
  refine kr_top (w := 0) rfl ?_
  refine kr_top (w := nI 0) rfl ?_
  refine lv_iload hx hcd dL_law_1414 (lv_at hl 1 rfl) ?_
  refine kr_ceq (tgt := 1421) hx hcd (by omega) (by omega) dL_law_1416 (by decide) (fun (c_1416 : 0 = 0) => ?_) (fun (c_1416 : ¬ 0 = 0) => absurd c_1416 (by omega))
  refine lv_iload hx hcd dL_law_1421 (lv_at hl 1 rfl) ?_
  refine kr_zne (tgt := 1445) hx hcd (by omega) dL_law_1423 (by decide) (fun (c_1423 : 0 < 0) => absurd c_1423 (by omega)) (fun (c_1423 : 0 = 0) => ?_)
  refine lv_aload_n hx hcd dL_law_1426 rfl (lv_at hl 5 rfl) ?_
  refine lv_iconst (v := nI 0) hx hcd dL_law_1427 (by decide) ?_
  refine kl_lald hx hcd hK hP 0 3 rfl rfl (v := if (g_apart M a b) = true then (1 : Int64) else 0) (by omega) (by decide) updL_0 dL_law_1428 ?_
  refine lv_iload hx hcd dL_law_1429 (lv_at hl 0 rfl) ?_
  refine kr_beq (tgt := 1438) hx hcd dL_law_1431 (by decide) (fun (c_1431 : g_apart M a b = false) => ?_) (fun (c_1431 : g_apart M a b = true) => ?_)
  · refine lv_lconst (v := 0) hx hcd dL_law_1438 (by decide) ?_
    refine kl_lcmp hx hcd (by simp [c_1431]) dL_law_1439 ?_
    refine kr_zeq (tgt := 1445) hx hcd (by omega) dL_law_1440 (by decide) (fun (c_1440 : 0 = 0) => ?_) (fun (c_1440 : 0 < 0) => absurd c_1440 (by omega))
    refine lv_goto (tgt := 1812) hx hcd dL_law_1445 (by decide) ?_
    exact kk (vp_updL F 0 ((if (g_apart M a b) = true then (1 : Int64) else 0))) N M S n r L T (xu x 7 0) hh Sp Ot Sv (linv_x hV rfl rfl) H locs ls hP hD hS (lv_sub hl [2, 3, 4, 5, 6] rfl)
  · refine lv_lconst (v := 1) hx hcd dL_law_1434 (by decide) ?_
    refine lv_goto (tgt := 1439) hx hcd dL_law_1435 (by decide) ?_
    refine kl_lcmp hx hcd (by simp [c_1431]) dL_law_1439 ?_
    refine kr_zeq (tgt := 1445) hx hcd (by omega) dL_law_1440 (by decide) (fun (c_1440 : 0 = 0) => ?_) (fun (c_1440 : 0 < 0) => absurd c_1440 (by omega))
    refine lv_goto (tgt := 1812) hx hcd dL_law_1445 (by decide) ?_
    exact kk (vp_updL F 0 ((if (g_apart M a b) = true then (1 : Int64) else 0))) N M S n r L T (xu x 7 0) hh Sp Ot Sv (linv_x hV rfl rfl) H locs ls hP hD hS (lv_sub hl [2, 3, 4, 5, 6] rfl)

set_option maxHeartbeats 4000000 in
set_option maxRecDepth 100000 in
theorem law_agree__ok {pp : Program} {l : Launch} {ee : Env} {ss : State} {mm : MethodId} {below : List Frame} {meth : Method} {cc : Code} {bb Ls : Nat} {xs : Nat → Int32} {D : va_G} {cI cB cW cL : ClassId} (C : LFix pp l ss mm cc bb Ls xs D cI cB cW cL) {o : Nat} {F : Nat → Int64} {ob nw tr : Nat → Nat} {qs : Nat → Nat → Nat} {sc : Nat → Nat} {N : kM} {S : Nat → kM} {n r L : Nat} {T : Nat → Int32} {z : Nat → Nat} {x : Nat → Int32} {hh : Int64} {Sp Ot Sv : Nat → Int32} {M : kM} (hV : LInv M S n r L T Sv x) {i : Nat} (hi : i + 5 ≤ Ls) {a b : Nat} (h1 : xs (i + 1) = nI a) (h2 : xs (i + 2) = nI b) (ha : a < 6) (hb : b < 6) (hne : a ≠ b)  {H : Heap} {locs : List Loc} {ls : Array Slot} {cells slots : Nat} {Q : State → Prop} (hc : cells + 1 ≤ 601024) (hs : slots + 6 ≤ 7293034) (hP : va_P D vwCl (wLaw cI cB cW cL o F ob nw tr qs sc (g_rot qs r) M N S n L T z x hh M Sp Ot Sv T) H) (hD : va_D (fun q : Nat => ss.heap.size ≤ q) (wLaw cI cB cW cL o F ob nw tr qs sc (g_rot qs r) M N S n L T z x hh M Sp Ot Sv T)) (hS : va_S (fun q : Nat => ss.heap.size ≤ q) ss.heap H locs) (hl : lv_has ls 9 [(0, .ref bb), (1, .ref (ob 0)), (2, .ref (z 0)), (3, .ref o), (4, .int (nI i))]) (kk : LNext pp l ee ss mm below meth cc bb D cI cB cW cL o ob nw tr qs sc z i cells slots Q) : W pp l ee room_1 ss mm #[Value.ref bb] below meth cc H locs cells slots Q (F0 mm 1448 ls []) := by
  obtain ⟨hx, hcd, hml, hown, hts, hX, hbl, hst, hZ, hN, hK, hL9⟩ := C
  obtain ⟨hI, hn, hr, hL, hT, hx4, hx6, hsv⟩ := id hV
  have hA : ∀ q : Nat, ss.heap.size ≤ q → (fun q : Nat => ss.heap.size ≤ q) q := fun _ h => h
  have hbA : ¬ (fun q : Nat => ss.heap.size ≤ q) bb := Nat.not_le.mpr hbl
  refine lv_aload_n hx hcd dL_law_1448 rfl (lv_at hl 1 rfl) ?_
  refine lv_aload_n hx hcd dL_law_1449 rfl (lv_at hl 0 rfl) ?_
  refine lv_iload hx hcd dL_law_1450 (lv_at hl 4 rfl) ?_
  refine lv_iconst (v := nI 1) hx hcd dL_law_1452 (by decide) ?_
  refine kr_add hx hcd dL_law_1453 ?_
  refine kl_sld hx hcd hX hbl hbA hS (k := i + 1) (by omega) hL9 dL_law_1454 ?_
  refine kr_top (w := nI a) h1 ?_
  refine lv_aload_n hx hcd dL_law_1455 rfl (lv_at hl 0 rfl) ?_
  refine lv_iload hx hcd dL_law_1456 (lv_at hl 4 rfl) ?_
  refine lv_iconst (v := nI 2) hx hcd dL_law_1458 (by decide) ?_
  refine kr_add hx hcd dL_law_1459 ?_
  refine kl_sld hx hcd hX hbl hbA hS (k := i + 2) (by omega) hL9 dL_law_1460 ?_
  refine kr_top (w := nI b) h2 ?_
  refine lv_aload_n hx hcd dL_law_1461 rfl (lv_at hl 3 rfl) ?_
  refine kl_S (As := [.ref (ob 0), .int (nI a), .int (nI b), .ref o]) (rest := []) (ws2 := wLaw cI cB cW cL o (vp_updL F 0 ((if (g_agr M a b) = true then (1 : Int64) else 0))) ob nw tr qs sc (g_rot qs r) M N S n L T z x hh M Sp Ot Sv T) ⟨hx, hcd, hml, hown, hts⟩ (c_L_agree__ok l hst D cI cB cW cL o F ob nw tr qs sc (g_rot qs r) N S n L T _ M a b hI ha hb hne) (vx_cwSW 4 hts gL_law_L_agree rfl rfl rfl (by decide +kernel) ⟨Nat.le_of_ble_eq_true rfl, Nat.le_of_ble_eq_true rfl⟩) hZ hN hK hP hD hS hA [0, 1, 2, 3, 4, 5, 6, 7, 8, 9, 10, 11, 12, 13, 14, 15, 16, 17, 18, 19, 20, 21, 22, 23, 24, 25, 26, 27, 28, 29, 30, 31, 32, 33, 34, 35, 36, 37, 38, 39, 40, 41, 42, 43, 44, 45, 46, 47, 48, 49, 50, 51, 52, 53, 54, 55, 56, 57, 58, 59, 60, 61, 62, 63, 64, 65, 66, 67, 68, 69, 70, 71, 72, 73, 74, 75, 76, 77, 78, 79, 80, 81, 82, 83, 84, 85, 86, 87, 88, 89, 90, 91, 92, 93, 94] wLaw_LXC nd_LX wLX_adr wLaw_LX rfl hl.1 rfl (Nat.le_of_ble_eq_true rfl) dL_law_1462 ⟨hc, hs⟩ (fun H locs hP hD hS => ?_)
  refine lv_istore (lv' := [(5, .int (nI 0)), (0, .ref bb), (1, .ref (ob 0)), (2, .ref (z 0)), (3, .ref o), (4, .int (nI i))]) hx hcd dL_law_1465 hl (by decide) rfl (fun ls hl => ?_)
  refine lv_aload_n hx hcd dL_law_1467 rfl (lv_at hl 3 rfl) ?_
  refine lv_aload_n hx hcd dL_law_1468 rfl (lv_at hl 1 rfl) ?_
  refine lv_iload hx hcd dL_law_1469 (lv_at hl 5 rfl) ?_
  refine lv_iconst (v := nI 1) hx hcd dL_law_1471 (by decide) ?_
  refine kr_add hx hcd dL_law_1472 ?_
  refine kl_sld hx hcd hX hbl hbA hS (k := i + 1) (by omega) hL9 dL_law_1473 ?_
  refine kr_top (w := nI a) h1 ?_
  refine lv_aload_n hx hcd dL_law_1474 rfl (lv_at hl 1 rfl) ?_
  refine lv_iload hx hcd dL_law_1475 (lv_at hl 5 rfl) ?_
  refine lv_iconst (v := nI 2) hx hcd dL_law_1477 (by decide) ?_
  refine kr_add hx hcd dL_law_1478 ?_
  refine kl_sld hx hcd hX hbl hbA hS (k := i + 2) (by omega) hL9 dL_law_1479 ?_
  refine kr_top (w := nI b) h2 ?_
  refine kr_Vi (As := [.int (nI a), .int (nI b)]) (rest := []) (ws2 := wLaw cI cB cW cL o (vp_updL F 0 ((if (g_agr M a b) = true then (1 : Int64) else 0))) ob nw tr qs sc (g_rot qs r) M N S n L T z (xu x 7 0) hh M Sp Ot Sv T) (q := (RX7, TX7, 10)) ⟨hx, hcd, hml, hown, hts⟩ (c_X7_agree__ok l D cI cB cW cL z x hh _ M a b ha hb hne) (cwV 2 hts gL_law_X7_agree rfl rfl rfl (by decide +kernel) ⟨Nat.le_of_ble_eq_true rfl, Nat.le_of_ble_eq_true rfl⟩) hK hP hD hS hA [95, 96] wLaw_MoC (by decide) wMo_adr2 wLaw_Mo 95 rfl rfl rfl hl.1 rfl (Nat.le_of_ble_eq_true rfl) dL_law_1480 ⟨hc, hs⟩ (fun H locs hP hD hS => ?_)
  refine lv_istore (lv' := [(6, .int (kI (g_agr M a b))), (5, .int (nI 0)), (0, .ref bb), (1, .ref (ob 0)), (2, .ref (z 0)), (3, .ref o), (4, .int (nI i))]) hx hcd dL_law_1483 hl (by decide) rfl (fun ls hl => ?_)
  refine lv_aload_n hx hcd dL_law_1485 rfl (lv_at hl 4 rfl) ?_
  refine kr_Vi (As := []) (rest := []) (ws2 := wLaw cI cB cW cL o (vp_updL F 0 ((if (g_agr M a b) = true then (1 : Int64) else 0))) ob nw tr qs sc (g_rot qs r) M N S n L T z (xu x 7 0) hh M Sp Ot Sv T) (q := (RX7, TX7, 10)) ⟨hx, hcd, hml, hown, hts⟩ (c_X7_thrown l D cI cB cW cL z (xu x 7 0) hh _ M ) (cwV 0 hts gL_law_X7_thrown rfl rfl rfl (by decide +kernel) ⟨Nat.le_of_ble_eq_true rfl, Nat.le_of_ble_eq_true rfl⟩) hK hP hD hS hA [95, 96] wLaw_MoC (by decide) wMo_adr2 wLaw_Mo 95 rfl rfl rfl hl.1 rfl (Nat.le_of_ble_eq_true rfl) dL_law_1486 ⟨hc, hs⟩ (fun H locs hP hD hS => ?_)
  refine kr_top (w := 0) rfl ?_
  refine kr_top (w := nI 0) rfl ?_
  refine lv_iload hx hcd dL_law_1489 (lv_at hl 1 rfl) ?_
  refine kr_ceq (tgt := 1496) hx hcd (by omega) (by omega) dL_law_1491 (by decide) (fun (c_1491 : 0 = 0) => ?_) (fun (c_1491 : ¬ 0 = 0) => absurd c_1491 (by omega))
  refine lv_iload hx hcd dL_law_1496 (lv_at hl 1 rfl) ?_
  refine kr_zne (tgt := 1520) hx hcd (by omega) dL_law_1498 (by decide) (fun (c_1498 : 0 < 0) => absurd c_1498 (by omega)) (fun (c_1498 : 0 = 0) => ?_)
  refine lv_aload_n hx hcd dL_law_1501 rfl (lv_at hl 5 rfl) ?_
  refine lv_iconst (v := nI 0) hx hcd dL_law_1502 (by decide) ?_
  refine kl_lald hx hcd hK hP 0 3 rfl rfl (v := if (g_agr M a b) = true then (1 : Int64) else 0) (by omega) (by decide) updL_0 dL_law_1503 ?_
  refine lv_iload hx hcd dL_law_1504 (lv_at hl 0 rfl) ?_
  refine kr_beq (tgt := 1513) hx hcd dL_law_1506 (by decide) (fun (c_1506 : g_agr M a b = false) => ?_) (fun (c_1506 : g_agr M a b = true) => ?_)
  · refine lv_lconst (v := 0) hx hcd dL_law_1513 (by decide) ?_
    refine kl_lcmp hx hcd (by simp [c_1506]) dL_law_1514 ?_
    refine kr_zeq (tgt := 1520) hx hcd (by omega) dL_law_1515 (by decide) (fun (c_1515 : 0 = 0) => ?_) (fun (c_1515 : 0 < 0) => absurd c_1515 (by omega))
    refine lv_goto (tgt := 1812) hx hcd dL_law_1520 (by decide) ?_
    exact kk (vp_updL F 0 ((if (g_agr M a b) = true then (1 : Int64) else 0))) N M S n r L T (xu x 7 0) hh Sp Ot Sv (linv_x hV rfl rfl) H locs ls hP hD hS (lv_sub hl [2, 3, 4, 5, 6] rfl)
  · refine lv_lconst (v := 1) hx hcd dL_law_1509 (by decide) ?_
    refine lv_goto (tgt := 1514) hx hcd dL_law_1510 (by decide) ?_
    refine kl_lcmp hx hcd (by simp [c_1506]) dL_law_1514 ?_
    refine kr_zeq (tgt := 1520) hx hcd (by omega) dL_law_1515 (by decide) (fun (c_1515 : 0 = 0) => ?_) (fun (c_1515 : 0 < 0) => absurd c_1515 (by omega))
    refine lv_goto (tgt := 1812) hx hcd dL_law_1520 (by decide) ?_
    exact kk (vp_updL F 0 ((if (g_agr M a b) = true then (1 : Int64) else 0))) N M S n r L T (xu x 7 0) hh Sp Ot Sv (linv_x hV rfl rfl) H locs ls hP hD hS (lv_sub hl [2, 3, 4, 5, 6] rfl)

set_option maxHeartbeats 4000000 in
set_option maxRecDepth 100000 in
theorem law_ask__e1 {pp : Program} {l : Launch} {ee : Env} {ss : State} {mm : MethodId} {below : List Frame} {meth : Method} {cc : Code} {bb Ls : Nat} {xs : Nat → Int32} {D : va_G} {cI cB cW cL : ClassId} (C : LFix pp l ss mm cc bb Ls xs D cI cB cW cL) {o : Nat} {F : Nat → Int64} {ob nw tr : Nat → Nat} {qs : Nat → Nat → Nat} {sc : Nat → Nat} {N : kM} {S : Nat → kM} {n r L : Nat} {T : Nat → Int32} {z : Nat → Nat} {x : Nat → Int32} {hh : Int64} {Sp Ot Sv : Nat → Int32} {M : kM} (hV : LInv M S n r L T Sv x) {i : Nat} (hi : i + 5 ≤ Ls)  (hg : g_why (xs (i + 1)) (xs (i + 2)) = nI 1) {H : Heap} {locs : List Loc} {ls : Array Slot} {cells slots : Nat} {Q : State → Prop} (hc : cells + 1 ≤ 601024) (hs : slots + 6 ≤ 7293034) (hP : va_P D vwCl (wLaw cI cB cW cL o F ob nw tr qs sc (g_rot qs r) M N S n L T z x hh M Sp Ot Sv T) H) (hD : va_D (fun q : Nat => ss.heap.size ≤ q) (wLaw cI cB cW cL o F ob nw tr qs sc (g_rot qs r) M N S n L T z x hh M Sp Ot Sv T)) (hS : va_S (fun q : Nat => ss.heap.size ≤ q) ss.heap H locs) (hl : lv_has ls 9 [(0, .ref bb), (1, .ref (ob 0)), (2, .ref (z 0)), (3, .ref o), (4, .int (nI i))]) (kk : LNext pp l ee ss mm below meth cc bb D cI cB cW cL o ob nw tr qs sc z i cells slots Q) : W pp l ee room_1 ss mm #[Value.ref bb] below meth cc H locs cells slots Q (F0 mm 176 ls []) := by
  obtain ⟨hx, hcd, hml, hown, hts, hX, hbl, hst, hZ, hN, hK, hL9⟩ := C
  obtain ⟨hI, hn, hr, hL, hT, hx4, hx6, hsv⟩ := id hV
  have hA : ∀ q : Nat, ss.heap.size ≤ q → (fun q : Nat => ss.heap.size ≤ q) q := fun _ h => h
  have hbA : ¬ (fun q : Nat => ss.heap.size ≤ q) bb := Nat.not_le.mpr hbl
  refine lv_aload_n hx hcd dL_law_176 rfl (lv_at hl 1 rfl) ?_
  refine lv_aload_n hx hcd dL_law_177 rfl (lv_at hl 0 rfl) ?_
  refine lv_iload hx hcd dL_law_178 (lv_at hl 4 rfl) ?_
  refine lv_iconst (v := nI 1) hx hcd dL_law_180 (by decide) ?_
  refine kr_add hx hcd dL_law_181 ?_
  refine kl_sld hx hcd hX hbl hbA hS (k := i + 1) (by omega) hL9 dL_law_182 ?_
  refine lv_aload_n hx hcd dL_law_183 rfl (lv_at hl 0 rfl) ?_
  refine lv_iload hx hcd dL_law_184 (lv_at hl 4 rfl) ?_
  refine lv_iconst (v := nI 2) hx hcd dL_law_186 (by decide) ?_
  refine kr_add hx hcd dL_law_187 ?_
  refine kl_sld hx hcd hX hbl hbA hS (k := i + 2) (by omega) hL9 dL_law_188 ?_
  refine lv_aload_n hx hcd dL_law_189 rfl (lv_at hl 3 rfl) ?_
  refine kl_S (As := [.ref (ob 0), .int (xs (i + 1)), .int (xs (i + 2)), .ref o]) (rest := []) (ws2 := wLaw cI cB cW cL o F ob nw tr qs sc (g_rot qs r) M N S n L T z x hh M Sp Ot Sv T) ⟨hx, hcd, hml, hown, hts⟩ (c_L_ask__e1 l hst D cI cB cW cL o F ob nw tr qs sc (g_rot qs r) N S n L T _ M (xs (i + 1)) (xs (i + 2)) hg) (vx_cwSW 4 hts gL_law_L_ask rfl rfl rfl (by decide +kernel) ⟨Nat.le_of_ble_eq_true rfl, Nat.le_of_ble_eq_true rfl⟩) hZ hN hK hP hD hS hA [0, 1, 2, 3, 4, 5, 6, 7, 8, 9, 10, 11, 12, 13, 14, 15, 16, 17, 18, 19, 20, 21, 22, 23, 24, 25, 26, 27, 28, 29, 30, 31, 32, 33, 34, 35, 36, 37, 38, 39, 40, 41, 42, 43, 44, 45, 46, 47, 48, 49, 50, 51, 52, 53, 54, 55, 56, 57, 58, 59, 60, 61, 62, 63, 64, 65, 66, 67, 68, 69, 70, 71, 72, 73, 74, 75, 76, 77, 78, 79, 80, 81, 82, 83, 84, 85, 86, 87, 88, 89, 90, 91, 92, 93, 94] wLaw_LXC nd_LX wLX_adr wLaw_LX rfl hl.1 rfl (Nat.le_of_ble_eq_true rfl) dL_law_190 ⟨hc, hs⟩ (fun H locs hP hD hS => ?_)
  refine lv_istore (lv' := [(5, .int (nI 1)), (0, .ref bb), (1, .ref (ob 0)), (2, .ref (z 0)), (3, .ref o), (4, .int (nI i))]) hx hcd dL_law_193 hl (by decide) rfl (fun ls hl => ?_)
  refine lv_aload_n hx hcd dL_law_195 rfl (lv_at hl 3 rfl) ?_
  refine lv_aload_n hx hcd dL_law_196 rfl (lv_at hl 1 rfl) ?_
  refine lv_iload hx hcd dL_law_197 (lv_at hl 5 rfl) ?_
  refine lv_iconst (v := nI 1) hx hcd dL_law_199 (by decide) ?_
  refine kr_add hx hcd dL_law_200 ?_
  refine kl_sld hx hcd hX hbl hbA hS (k := i + 1) (by omega) hL9 dL_law_201 ?_
  refine lv_aload_n hx hcd dL_law_202 rfl (lv_at hl 1 rfl) ?_
  refine lv_iload hx hcd dL_law_203 (lv_at hl 5 rfl) ?_
  refine lv_iconst (v := nI 2) hx hcd dL_law_205 (by decide) ?_
  refine kr_add hx hcd dL_law_206 ?_
  refine kl_sld hx hcd hX hbl hbA hS (k := i + 2) (by omega) hL9 dL_law_207 ?_
  refine kr_Vi (As := [.int (xs (i + 1)), .int (xs (i + 2))]) (rest := []) (ws2 := wLaw cI cB cW cL o F ob nw tr qs sc (g_rot qs r) M N S n L T z (xu x 7 (nI 1)) hh M Sp Ot Sv T) (q := (RX7, TX7, 10)) ⟨hx, hcd, hml, hown, hts⟩ (c_X7_ask__bad l D cI cB cW cL z x hh Sp Ot Sv T _ M (xs (i + 1)) (xs (i + 2)) 1 hg (by omega)) (cwV 2 hts gL_law_X7_ask rfl rfl rfl (by decide +kernel) ⟨Nat.le_of_ble_eq_true rfl, Nat.le_of_ble_eq_true rfl⟩) hK hP hD hS hA [95, 96, 97, 98, 99, 100] wLaw_MAC (by decide) wMA_adr wLaw_MA 95 rfl rfl rfl hl.1 rfl (Nat.le_of_ble_eq_true rfl) dL_law_208 ⟨hc, hs⟩ (fun H locs hP hD hS => ?_)
  refine lv_istore (lv' := [(6, .int (nI 0)), (5, .int (nI 1)), (0, .ref bb), (1, .ref (ob 0)), (2, .ref (z 0)), (3, .ref o), (4, .int (nI i))]) hx hcd dL_law_211 hl (by decide) rfl (fun ls hl => ?_)
  refine lv_aload_n hx hcd dL_law_213 rfl (lv_at hl 4 rfl) ?_
  refine kr_Vi (As := []) (rest := []) (ws2 := wLaw cI cB cW cL o F ob nw tr qs sc (g_rot qs r) M N S n L T z (xu x 7 (nI 1)) hh M Sp Ot Sv T) (q := (RX7, TX7, 10)) ⟨hx, hcd, hml, hown, hts⟩ (c_X7_thrown l D cI cB cW cL z (xu x 7 (nI 1)) hh _ M ) (cwV 0 hts gL_law_X7_thrown rfl rfl rfl (by decide +kernel) ⟨Nat.le_of_ble_eq_true rfl, Nat.le_of_ble_eq_true rfl⟩) hK hP hD hS hA [95, 96] wLaw_MoC (by decide) wMo_adr2 wLaw_Mo 95 rfl rfl rfl hl.1 rfl (Nat.le_of_ble_eq_true rfl) dL_law_214 ⟨hc, hs⟩ (fun H locs hP hD hS => ?_)
  refine kr_top (w := nI 1) rfl ?_
  refine lv_iload hx hcd dL_law_217 (lv_at hl 1 rfl) ?_
  refine kr_ceq (tgt := 224) hx hcd (by omega) (by omega) dL_law_219 (by decide) (fun (c_219 : 1 = 1) => ?_) (fun (c_219 : ¬ 1 = 1) => absurd c_219 (by omega))
  refine lv_iload hx hcd dL_law_224 (lv_at hl 1 rfl) ?_
  refine kr_zne (tgt := 241) hx hcd (by omega) dL_law_226 (by decide) (fun (c_226 : 0 < 1) => ?_) (fun (c_226 : 1 = 0) => absurd c_226 (by omega))
  refine lv_goto (tgt := 1812) hx hcd dL_law_241 (by decide) ?_
  exact kk F N M S n r L T (xu x 7 (nI 1)) hh Sp Ot Sv (linv_x hV rfl rfl) H locs ls hP hD hS (lv_sub hl [2, 3, 4, 5, 6] rfl)

set_option maxHeartbeats 4000000 in
set_option maxRecDepth 100000 in
theorem law_ask__e2 {pp : Program} {l : Launch} {ee : Env} {ss : State} {mm : MethodId} {below : List Frame} {meth : Method} {cc : Code} {bb Ls : Nat} {xs : Nat → Int32} {D : va_G} {cI cB cW cL : ClassId} (C : LFix pp l ss mm cc bb Ls xs D cI cB cW cL) {o : Nat} {F : Nat → Int64} {ob nw tr : Nat → Nat} {qs : Nat → Nat → Nat} {sc : Nat → Nat} {N : kM} {S : Nat → kM} {n r L : Nat} {T : Nat → Int32} {z : Nat → Nat} {x : Nat → Int32} {hh : Int64} {Sp Ot Sv : Nat → Int32} {M : kM} (hV : LInv M S n r L T Sv x) {i : Nat} (hi : i + 5 ≤ Ls)  (hg : g_why (xs (i + 1)) (xs (i + 2)) = nI 2) {H : Heap} {locs : List Loc} {ls : Array Slot} {cells slots : Nat} {Q : State → Prop} (hc : cells + 1 ≤ 601024) (hs : slots + 6 ≤ 7293034) (hP : va_P D vwCl (wLaw cI cB cW cL o F ob nw tr qs sc (g_rot qs r) M N S n L T z x hh M Sp Ot Sv T) H) (hD : va_D (fun q : Nat => ss.heap.size ≤ q) (wLaw cI cB cW cL o F ob nw tr qs sc (g_rot qs r) M N S n L T z x hh M Sp Ot Sv T)) (hS : va_S (fun q : Nat => ss.heap.size ≤ q) ss.heap H locs) (hl : lv_has ls 9 [(0, .ref bb), (1, .ref (ob 0)), (2, .ref (z 0)), (3, .ref o), (4, .int (nI i))]) (kk : LNext pp l ee ss mm below meth cc bb D cI cB cW cL o ob nw tr qs sc z i cells slots Q) : W pp l ee room_1 ss mm #[Value.ref bb] below meth cc H locs cells slots Q (F0 mm 176 ls []) := by
  obtain ⟨hx, hcd, hml, hown, hts, hX, hbl, hst, hZ, hN, hK, hL9⟩ := C
  obtain ⟨hI, hn, hr, hL, hT, hx4, hx6, hsv⟩ := id hV
  have hA : ∀ q : Nat, ss.heap.size ≤ q → (fun q : Nat => ss.heap.size ≤ q) q := fun _ h => h
  have hbA : ¬ (fun q : Nat => ss.heap.size ≤ q) bb := Nat.not_le.mpr hbl
  refine lv_aload_n hx hcd dL_law_176 rfl (lv_at hl 1 rfl) ?_
  refine lv_aload_n hx hcd dL_law_177 rfl (lv_at hl 0 rfl) ?_
  refine lv_iload hx hcd dL_law_178 (lv_at hl 4 rfl) ?_
  refine lv_iconst (v := nI 1) hx hcd dL_law_180 (by decide) ?_
  refine kr_add hx hcd dL_law_181 ?_
  refine kl_sld hx hcd hX hbl hbA hS (k := i + 1) (by omega) hL9 dL_law_182 ?_
  refine lv_aload_n hx hcd dL_law_183 rfl (lv_at hl 0 rfl) ?_
  refine lv_iload hx hcd dL_law_184 (lv_at hl 4 rfl) ?_
  refine lv_iconst (v := nI 2) hx hcd dL_law_186 (by decide) ?_
  refine kr_add hx hcd dL_law_187 ?_
  refine kl_sld hx hcd hX hbl hbA hS (k := i + 2) (by omega) hL9 dL_law_188 ?_
  refine lv_aload_n hx hcd dL_law_189 rfl (lv_at hl 3 rfl) ?_
  refine kl_S (As := [.ref (ob 0), .int (xs (i + 1)), .int (xs (i + 2)), .ref o]) (rest := []) (ws2 := wLaw cI cB cW cL o F ob nw tr qs sc (g_rot qs r) M N S n L T z x hh M Sp Ot Sv T) ⟨hx, hcd, hml, hown, hts⟩ (c_L_ask__e2 l hst D cI cB cW cL o F ob nw tr qs sc (g_rot qs r) N S n L T _ M (xs (i + 1)) (xs (i + 2)) hg) (vx_cwSW 4 hts gL_law_L_ask rfl rfl rfl (by decide +kernel) ⟨Nat.le_of_ble_eq_true rfl, Nat.le_of_ble_eq_true rfl⟩) hZ hN hK hP hD hS hA [0, 1, 2, 3, 4, 5, 6, 7, 8, 9, 10, 11, 12, 13, 14, 15, 16, 17, 18, 19, 20, 21, 22, 23, 24, 25, 26, 27, 28, 29, 30, 31, 32, 33, 34, 35, 36, 37, 38, 39, 40, 41, 42, 43, 44, 45, 46, 47, 48, 49, 50, 51, 52, 53, 54, 55, 56, 57, 58, 59, 60, 61, 62, 63, 64, 65, 66, 67, 68, 69, 70, 71, 72, 73, 74, 75, 76, 77, 78, 79, 80, 81, 82, 83, 84, 85, 86, 87, 88, 89, 90, 91, 92, 93, 94] wLaw_LXC nd_LX wLX_adr wLaw_LX rfl hl.1 rfl (Nat.le_of_ble_eq_true rfl) dL_law_190 ⟨hc, hs⟩ (fun H locs hP hD hS => ?_)
  refine lv_istore (lv' := [(5, .int (nI 2)), (0, .ref bb), (1, .ref (ob 0)), (2, .ref (z 0)), (3, .ref o), (4, .int (nI i))]) hx hcd dL_law_193 hl (by decide) rfl (fun ls hl => ?_)
  refine lv_aload_n hx hcd dL_law_195 rfl (lv_at hl 3 rfl) ?_
  refine lv_aload_n hx hcd dL_law_196 rfl (lv_at hl 1 rfl) ?_
  refine lv_iload hx hcd dL_law_197 (lv_at hl 5 rfl) ?_
  refine lv_iconst (v := nI 1) hx hcd dL_law_199 (by decide) ?_
  refine kr_add hx hcd dL_law_200 ?_
  refine kl_sld hx hcd hX hbl hbA hS (k := i + 1) (by omega) hL9 dL_law_201 ?_
  refine lv_aload_n hx hcd dL_law_202 rfl (lv_at hl 1 rfl) ?_
  refine lv_iload hx hcd dL_law_203 (lv_at hl 5 rfl) ?_
  refine lv_iconst (v := nI 2) hx hcd dL_law_205 (by decide) ?_
  refine kr_add hx hcd dL_law_206 ?_
  refine kl_sld hx hcd hX hbl hbA hS (k := i + 2) (by omega) hL9 dL_law_207 ?_
  refine kr_Vi (As := [.int (xs (i + 1)), .int (xs (i + 2))]) (rest := []) (ws2 := wLaw cI cB cW cL o F ob nw tr qs sc (g_rot qs r) M N S n L T z (xu x 7 (nI 2)) hh M Sp Ot Sv T) (q := (RX7, TX7, 10)) ⟨hx, hcd, hml, hown, hts⟩ (c_X7_ask__bad l D cI cB cW cL z x hh Sp Ot Sv T _ M (xs (i + 1)) (xs (i + 2)) 2 hg (by omega)) (cwV 2 hts gL_law_X7_ask rfl rfl rfl (by decide +kernel) ⟨Nat.le_of_ble_eq_true rfl, Nat.le_of_ble_eq_true rfl⟩) hK hP hD hS hA [95, 96, 97, 98, 99, 100] wLaw_MAC (by decide) wMA_adr wLaw_MA 95 rfl rfl rfl hl.1 rfl (Nat.le_of_ble_eq_true rfl) dL_law_208 ⟨hc, hs⟩ (fun H locs hP hD hS => ?_)
  refine lv_istore (lv' := [(6, .int (nI 0)), (5, .int (nI 2)), (0, .ref bb), (1, .ref (ob 0)), (2, .ref (z 0)), (3, .ref o), (4, .int (nI i))]) hx hcd dL_law_211 hl (by decide) rfl (fun ls hl => ?_)
  refine lv_aload_n hx hcd dL_law_213 rfl (lv_at hl 4 rfl) ?_
  refine kr_Vi (As := []) (rest := []) (ws2 := wLaw cI cB cW cL o F ob nw tr qs sc (g_rot qs r) M N S n L T z (xu x 7 (nI 2)) hh M Sp Ot Sv T) (q := (RX7, TX7, 10)) ⟨hx, hcd, hml, hown, hts⟩ (c_X7_thrown l D cI cB cW cL z (xu x 7 (nI 2)) hh _ M ) (cwV 0 hts gL_law_X7_thrown rfl rfl rfl (by decide +kernel) ⟨Nat.le_of_ble_eq_true rfl, Nat.le_of_ble_eq_true rfl⟩) hK hP hD hS hA [95, 96] wLaw_MoC (by decide) wMo_adr2 wLaw_Mo 95 rfl rfl rfl hl.1 rfl (Nat.le_of_ble_eq_true rfl) dL_law_214 ⟨hc, hs⟩ (fun H locs hP hD hS => ?_)
  refine kr_top (w := nI 2) rfl ?_
  refine lv_iload hx hcd dL_law_217 (lv_at hl 1 rfl) ?_
  refine kr_ceq (tgt := 224) hx hcd (by omega) (by omega) dL_law_219 (by decide) (fun (c_219 : 2 = 2) => ?_) (fun (c_219 : ¬ 2 = 2) => absurd c_219 (by omega))
  refine lv_iload hx hcd dL_law_224 (lv_at hl 1 rfl) ?_
  refine kr_zne (tgt := 241) hx hcd (by omega) dL_law_226 (by decide) (fun (c_226 : 0 < 2) => ?_) (fun (c_226 : 2 = 0) => absurd c_226 (by omega))
  refine lv_goto (tgt := 1812) hx hcd dL_law_241 (by decide) ?_
  exact kk F N M S n r L T (xu x 7 (nI 2)) hh Sp Ot Sv (linv_x hV rfl rfl) H locs ls hP hD hS (lv_sub hl [2, 3, 4, 5, 6] rfl)

set_option maxHeartbeats 4000000 in
set_option maxRecDepth 100000 in
theorem law_grant__e1 {pp : Program} {l : Launch} {ee : Env} {ss : State} {mm : MethodId} {below : List Frame} {meth : Method} {cc : Code} {bb Ls : Nat} {xs : Nat → Int32} {D : va_G} {cI cB cW cL : ClassId} (C : LFix pp l ss mm cc bb Ls xs D cI cB cW cL) {o : Nat} {F : Nat → Int64} {ob nw tr : Nat → Nat} {qs : Nat → Nat → Nat} {sc : Nat → Nat} {N : kM} {S : Nat → kM} {n r L : Nat} {T : Nat → Int32} {z : Nat → Nat} {x : Nat → Int32} {hh : Int64} {Sp Ot Sv : Nat → Int32} {M : kM} (hV : LInv M S n r L T Sv x) {i : Nat} (hi : i + 5 ≤ Ls)  (hg : g_why (xs (i + 1)) (xs (i + 2)) = nI 1) {H : Heap} {locs : List Loc} {ls : Array Slot} {cells slots : Nat} {Q : State → Prop} (hc : cells + 1 ≤ 601024) (hs : slots + 6 ≤ 7293034) (hP : va_P D vwCl (wLaw cI cB cW cL o F ob nw tr qs sc (g_rot qs r) M N S n L T z x hh M Sp Ot Sv T) H) (hD : va_D (fun q : Nat => ss.heap.size ≤ q) (wLaw cI cB cW cL o F ob nw tr qs sc (g_rot qs r) M N S n L T z x hh M Sp Ot Sv T)) (hS : va_S (fun q : Nat => ss.heap.size ≤ q) ss.heap H locs) (hl : lv_has ls 9 [(0, .ref bb), (1, .ref (ob 0)), (2, .ref (z 0)), (3, .ref o), (4, .int (nI i))]) (kk : LNext pp l ee ss mm below meth cc bb D cI cB cW cL o ob nw tr qs sc z i cells slots Q) : W pp l ee room_1 ss mm #[Value.ref bb] below meth cc H locs cells slots Q (F0 mm 244 ls []) := by
  obtain ⟨hx, hcd, hml, hown, hts, hX, hbl, hst, hZ, hN, hK, hL9⟩ := C
  obtain ⟨hI, hn, hr, hL, hT, hx4, hx6, hsv⟩ := id hV
  have hA : ∀ q : Nat, ss.heap.size ≤ q → (fun q : Nat => ss.heap.size ≤ q) q := fun _ h => h
  have hbA : ¬ (fun q : Nat => ss.heap.size ≤ q) bb := Nat.not_le.mpr hbl
  refine lv_aload_n hx hcd dL_law_244 rfl (lv_at hl 1 rfl) ?_
  refine lv_aload_n hx hcd dL_law_245 rfl (lv_at hl 0 rfl) ?_
  refine lv_iload hx hcd dL_law_246 (lv_at hl 4 rfl) ?_
  refine lv_iconst (v := nI 1) hx hcd dL_law_248 (by decide) ?_
  refine kr_add hx hcd dL_law_249 ?_
  refine kl_sld hx hcd hX hbl hbA hS (k := i + 1) (by omega) hL9 dL_law_250 ?_
  refine lv_aload_n hx hcd dL_law_251 rfl (lv_at hl 0 rfl) ?_
  refine lv_iload hx hcd dL_law_252 (lv_at hl 4 rfl) ?_
  refine lv_iconst (v := nI 2) hx hcd dL_law_254 (by decide) ?_
  refine kr_add hx hcd dL_law_255 ?_
  refine kl_sld hx hcd hX hbl hbA hS (k := i + 2) (by omega) hL9 dL_law_256 ?_
  refine lv_aload_n hx hcd dL_law_257 rfl (lv_at hl 3 rfl) ?_
  refine kl_S (As := [.ref (ob 0), .int (xs (i + 1)), .int (xs (i + 2)), .ref o]) (rest := []) (ws2 := wLaw cI cB cW cL o F ob nw tr qs sc (g_rot qs r) M N S n L T z x hh M Sp Ot Sv T) ⟨hx, hcd, hml, hown, hts⟩ (c_L_grant__e1 l hst D cI cB cW cL o F ob nw tr qs sc (g_rot qs r) N S n L T _ M (xs (i + 1)) (xs (i + 2)) hg) (vx_cwSW 4 hts gL_law_L_grant rfl rfl rfl (by decide +kernel) ⟨Nat.le_of_ble_eq_true rfl, Nat.le_of_ble_eq_true rfl⟩) hZ hN hK hP hD hS hA [0, 1, 2, 3, 4, 5, 6, 7, 8, 9, 10, 11, 12, 13, 14, 15, 16, 17, 18, 19, 20, 21, 22, 23, 24, 25, 26, 27, 28, 29, 30, 31, 32, 33, 34, 35, 36, 37, 38, 39, 40, 41, 42, 43, 44, 45, 46, 47, 48, 49, 50, 51, 52, 53, 54, 55, 56, 57, 58, 59, 60, 61, 62, 63, 64, 65, 66, 67, 68, 69, 70, 71, 72, 73, 74, 75, 76, 77, 78, 79, 80, 81, 82, 83, 84, 85, 86, 87, 88, 89, 90, 91, 92, 93, 94] wLaw_LXC nd_LX wLX_adr wLaw_LX rfl hl.1 rfl (Nat.le_of_ble_eq_true rfl) dL_law_258 ⟨hc, hs⟩ (fun H locs hP hD hS => ?_)
  refine lv_istore (lv' := [(5, .int (nI 1)), (0, .ref bb), (1, .ref (ob 0)), (2, .ref (z 0)), (3, .ref o), (4, .int (nI i))]) hx hcd dL_law_261 hl (by decide) rfl (fun ls hl => ?_)
  refine lv_aload_n hx hcd dL_law_263 rfl (lv_at hl 3 rfl) ?_
  refine lv_aload_n hx hcd dL_law_264 rfl (lv_at hl 1 rfl) ?_
  refine lv_iload hx hcd dL_law_265 (lv_at hl 5 rfl) ?_
  refine lv_iconst (v := nI 1) hx hcd dL_law_267 (by decide) ?_
  refine kr_add hx hcd dL_law_268 ?_
  refine kl_sld hx hcd hX hbl hbA hS (k := i + 1) (by omega) hL9 dL_law_269 ?_
  refine lv_aload_n hx hcd dL_law_270 rfl (lv_at hl 1 rfl) ?_
  refine lv_iload hx hcd dL_law_271 (lv_at hl 5 rfl) ?_
  refine lv_iconst (v := nI 2) hx hcd dL_law_273 (by decide) ?_
  refine kr_add hx hcd dL_law_274 ?_
  refine kl_sld hx hcd hX hbl hbA hS (k := i + 2) (by omega) hL9 dL_law_275 ?_
  refine kr_Vi (As := [.int (xs (i + 1)), .int (xs (i + 2))]) (rest := []) (ws2 := wLaw cI cB cW cL o F ob nw tr qs sc (g_rot qs r) M N S n L T z (xu x 7 (nI 1)) hh M Sp Ot Sv T) (q := (RX7, TX7, 10)) ⟨hx, hcd, hml, hown, hts⟩ (c_X7_grant__bad l D cI cB cW cL z x hh Sp Ot Sv T _ M (xs (i + 1)) (xs (i + 2)) 1 hg (by omega)) (cwV 2 hts gL_law_X7_grant rfl rfl rfl (by decide +kernel) ⟨Nat.le_of_ble_eq_true rfl, Nat.le_of_ble_eq_true rfl⟩) hK hP hD hS hA [95, 96, 97, 98, 99, 100] wLaw_MAC (by decide) wMA_adr wLaw_MA 95 rfl rfl rfl hl.1 rfl (Nat.le_of_ble_eq_true rfl) dL_law_276 ⟨hc, hs⟩ (fun H locs hP hD hS => ?_)
  refine lv_istore (lv' := [(6, .int (nI 0)), (5, .int (nI 1)), (0, .ref bb), (1, .ref (ob 0)), (2, .ref (z 0)), (3, .ref o), (4, .int (nI i))]) hx hcd dL_law_279 hl (by decide) rfl (fun ls hl => ?_)
  refine lv_aload_n hx hcd dL_law_281 rfl (lv_at hl 4 rfl) ?_
  refine kr_Vi (As := []) (rest := []) (ws2 := wLaw cI cB cW cL o F ob nw tr qs sc (g_rot qs r) M N S n L T z (xu x 7 (nI 1)) hh M Sp Ot Sv T) (q := (RX7, TX7, 10)) ⟨hx, hcd, hml, hown, hts⟩ (c_X7_thrown l D cI cB cW cL z (xu x 7 (nI 1)) hh _ M ) (cwV 0 hts gL_law_X7_thrown rfl rfl rfl (by decide +kernel) ⟨Nat.le_of_ble_eq_true rfl, Nat.le_of_ble_eq_true rfl⟩) hK hP hD hS hA [95, 96] wLaw_MoC (by decide) wMo_adr2 wLaw_Mo 95 rfl rfl rfl hl.1 rfl (Nat.le_of_ble_eq_true rfl) dL_law_282 ⟨hc, hs⟩ (fun H locs hP hD hS => ?_)
  refine kr_top (w := nI 1) rfl ?_
  refine lv_iload hx hcd dL_law_285 (lv_at hl 1 rfl) ?_
  refine kr_ceq (tgt := 292) hx hcd (by omega) (by omega) dL_law_287 (by decide) (fun (c_287 : 1 = 1) => ?_) (fun (c_287 : ¬ 1 = 1) => absurd c_287 (by omega))
  refine lv_iload hx hcd dL_law_292 (lv_at hl 1 rfl) ?_
  refine kr_zne (tgt := 309) hx hcd (by omega) dL_law_294 (by decide) (fun (c_294 : 0 < 1) => ?_) (fun (c_294 : 1 = 0) => absurd c_294 (by omega))
  refine lv_goto (tgt := 1812) hx hcd dL_law_309 (by decide) ?_
  exact kk F N M S n r L T (xu x 7 (nI 1)) hh Sp Ot Sv (linv_x hV rfl rfl) H locs ls hP hD hS (lv_sub hl [2, 3, 4, 5, 6] rfl)

set_option maxHeartbeats 4000000 in
set_option maxRecDepth 100000 in
theorem law_grant__e2 {pp : Program} {l : Launch} {ee : Env} {ss : State} {mm : MethodId} {below : List Frame} {meth : Method} {cc : Code} {bb Ls : Nat} {xs : Nat → Int32} {D : va_G} {cI cB cW cL : ClassId} (C : LFix pp l ss mm cc bb Ls xs D cI cB cW cL) {o : Nat} {F : Nat → Int64} {ob nw tr : Nat → Nat} {qs : Nat → Nat → Nat} {sc : Nat → Nat} {N : kM} {S : Nat → kM} {n r L : Nat} {T : Nat → Int32} {z : Nat → Nat} {x : Nat → Int32} {hh : Int64} {Sp Ot Sv : Nat → Int32} {M : kM} (hV : LInv M S n r L T Sv x) {i : Nat} (hi : i + 5 ≤ Ls)  (hg : g_why (xs (i + 1)) (xs (i + 2)) = nI 2) {H : Heap} {locs : List Loc} {ls : Array Slot} {cells slots : Nat} {Q : State → Prop} (hc : cells + 1 ≤ 601024) (hs : slots + 6 ≤ 7293034) (hP : va_P D vwCl (wLaw cI cB cW cL o F ob nw tr qs sc (g_rot qs r) M N S n L T z x hh M Sp Ot Sv T) H) (hD : va_D (fun q : Nat => ss.heap.size ≤ q) (wLaw cI cB cW cL o F ob nw tr qs sc (g_rot qs r) M N S n L T z x hh M Sp Ot Sv T)) (hS : va_S (fun q : Nat => ss.heap.size ≤ q) ss.heap H locs) (hl : lv_has ls 9 [(0, .ref bb), (1, .ref (ob 0)), (2, .ref (z 0)), (3, .ref o), (4, .int (nI i))]) (kk : LNext pp l ee ss mm below meth cc bb D cI cB cW cL o ob nw tr qs sc z i cells slots Q) : W pp l ee room_1 ss mm #[Value.ref bb] below meth cc H locs cells slots Q (F0 mm 244 ls []) := by
  obtain ⟨hx, hcd, hml, hown, hts, hX, hbl, hst, hZ, hN, hK, hL9⟩ := C
  obtain ⟨hI, hn, hr, hL, hT, hx4, hx6, hsv⟩ := id hV
  have hA : ∀ q : Nat, ss.heap.size ≤ q → (fun q : Nat => ss.heap.size ≤ q) q := fun _ h => h
  have hbA : ¬ (fun q : Nat => ss.heap.size ≤ q) bb := Nat.not_le.mpr hbl
  refine lv_aload_n hx hcd dL_law_244 rfl (lv_at hl 1 rfl) ?_
  refine lv_aload_n hx hcd dL_law_245 rfl (lv_at hl 0 rfl) ?_
  refine lv_iload hx hcd dL_law_246 (lv_at hl 4 rfl) ?_
  refine lv_iconst (v := nI 1) hx hcd dL_law_248 (by decide) ?_
  refine kr_add hx hcd dL_law_249 ?_
  refine kl_sld hx hcd hX hbl hbA hS (k := i + 1) (by omega) hL9 dL_law_250 ?_
  refine lv_aload_n hx hcd dL_law_251 rfl (lv_at hl 0 rfl) ?_
  refine lv_iload hx hcd dL_law_252 (lv_at hl 4 rfl) ?_
  refine lv_iconst (v := nI 2) hx hcd dL_law_254 (by decide) ?_
  refine kr_add hx hcd dL_law_255 ?_
  refine kl_sld hx hcd hX hbl hbA hS (k := i + 2) (by omega) hL9 dL_law_256 ?_
  refine lv_aload_n hx hcd dL_law_257 rfl (lv_at hl 3 rfl) ?_
  refine kl_S (As := [.ref (ob 0), .int (xs (i + 1)), .int (xs (i + 2)), .ref o]) (rest := []) (ws2 := wLaw cI cB cW cL o F ob nw tr qs sc (g_rot qs r) M N S n L T z x hh M Sp Ot Sv T) ⟨hx, hcd, hml, hown, hts⟩ (c_L_grant__e2 l hst D cI cB cW cL o F ob nw tr qs sc (g_rot qs r) N S n L T _ M (xs (i + 1)) (xs (i + 2)) hg) (vx_cwSW 4 hts gL_law_L_grant rfl rfl rfl (by decide +kernel) ⟨Nat.le_of_ble_eq_true rfl, Nat.le_of_ble_eq_true rfl⟩) hZ hN hK hP hD hS hA [0, 1, 2, 3, 4, 5, 6, 7, 8, 9, 10, 11, 12, 13, 14, 15, 16, 17, 18, 19, 20, 21, 22, 23, 24, 25, 26, 27, 28, 29, 30, 31, 32, 33, 34, 35, 36, 37, 38, 39, 40, 41, 42, 43, 44, 45, 46, 47, 48, 49, 50, 51, 52, 53, 54, 55, 56, 57, 58, 59, 60, 61, 62, 63, 64, 65, 66, 67, 68, 69, 70, 71, 72, 73, 74, 75, 76, 77, 78, 79, 80, 81, 82, 83, 84, 85, 86, 87, 88, 89, 90, 91, 92, 93, 94] wLaw_LXC nd_LX wLX_adr wLaw_LX rfl hl.1 rfl (Nat.le_of_ble_eq_true rfl) dL_law_258 ⟨hc, hs⟩ (fun H locs hP hD hS => ?_)
  refine lv_istore (lv' := [(5, .int (nI 2)), (0, .ref bb), (1, .ref (ob 0)), (2, .ref (z 0)), (3, .ref o), (4, .int (nI i))]) hx hcd dL_law_261 hl (by decide) rfl (fun ls hl => ?_)
  refine lv_aload_n hx hcd dL_law_263 rfl (lv_at hl 3 rfl) ?_
  refine lv_aload_n hx hcd dL_law_264 rfl (lv_at hl 1 rfl) ?_
  refine lv_iload hx hcd dL_law_265 (lv_at hl 5 rfl) ?_
  refine lv_iconst (v := nI 1) hx hcd dL_law_267 (by decide) ?_
  refine kr_add hx hcd dL_law_268 ?_
  refine kl_sld hx hcd hX hbl hbA hS (k := i + 1) (by omega) hL9 dL_law_269 ?_
  refine lv_aload_n hx hcd dL_law_270 rfl (lv_at hl 1 rfl) ?_
  refine lv_iload hx hcd dL_law_271 (lv_at hl 5 rfl) ?_
  refine lv_iconst (v := nI 2) hx hcd dL_law_273 (by decide) ?_
  refine kr_add hx hcd dL_law_274 ?_
  refine kl_sld hx hcd hX hbl hbA hS (k := i + 2) (by omega) hL9 dL_law_275 ?_
  refine kr_Vi (As := [.int (xs (i + 1)), .int (xs (i + 2))]) (rest := []) (ws2 := wLaw cI cB cW cL o F ob nw tr qs sc (g_rot qs r) M N S n L T z (xu x 7 (nI 2)) hh M Sp Ot Sv T) (q := (RX7, TX7, 10)) ⟨hx, hcd, hml, hown, hts⟩ (c_X7_grant__bad l D cI cB cW cL z x hh Sp Ot Sv T _ M (xs (i + 1)) (xs (i + 2)) 2 hg (by omega)) (cwV 2 hts gL_law_X7_grant rfl rfl rfl (by decide +kernel) ⟨Nat.le_of_ble_eq_true rfl, Nat.le_of_ble_eq_true rfl⟩) hK hP hD hS hA [95, 96, 97, 98, 99, 100] wLaw_MAC (by decide) wMA_adr wLaw_MA 95 rfl rfl rfl hl.1 rfl (Nat.le_of_ble_eq_true rfl) dL_law_276 ⟨hc, hs⟩ (fun H locs hP hD hS => ?_)
  refine lv_istore (lv' := [(6, .int (nI 0)), (5, .int (nI 2)), (0, .ref bb), (1, .ref (ob 0)), (2, .ref (z 0)), (3, .ref o), (4, .int (nI i))]) hx hcd dL_law_279 hl (by decide) rfl (fun ls hl => ?_)
  refine lv_aload_n hx hcd dL_law_281 rfl (lv_at hl 4 rfl) ?_
  refine kr_Vi (As := []) (rest := []) (ws2 := wLaw cI cB cW cL o F ob nw tr qs sc (g_rot qs r) M N S n L T z (xu x 7 (nI 2)) hh M Sp Ot Sv T) (q := (RX7, TX7, 10)) ⟨hx, hcd, hml, hown, hts⟩ (c_X7_thrown l D cI cB cW cL z (xu x 7 (nI 2)) hh _ M ) (cwV 0 hts gL_law_X7_thrown rfl rfl rfl (by decide +kernel) ⟨Nat.le_of_ble_eq_true rfl, Nat.le_of_ble_eq_true rfl⟩) hK hP hD hS hA [95, 96] wLaw_MoC (by decide) wMo_adr2 wLaw_Mo 95 rfl rfl rfl hl.1 rfl (Nat.le_of_ble_eq_true rfl) dL_law_282 ⟨hc, hs⟩ (fun H locs hP hD hS => ?_)
  refine kr_top (w := nI 2) rfl ?_
  refine lv_iload hx hcd dL_law_285 (lv_at hl 1 rfl) ?_
  refine kr_ceq (tgt := 292) hx hcd (by omega) (by omega) dL_law_287 (by decide) (fun (c_287 : 2 = 2) => ?_) (fun (c_287 : ¬ 2 = 2) => absurd c_287 (by omega))
  refine lv_iload hx hcd dL_law_292 (lv_at hl 1 rfl) ?_
  refine kr_zne (tgt := 309) hx hcd (by omega) dL_law_294 (by decide) (fun (c_294 : 0 < 2) => ?_) (fun (c_294 : 2 = 0) => absurd c_294 (by omega))
  refine lv_goto (tgt := 1812) hx hcd dL_law_309 (by decide) ?_
  exact kk F N M S n r L T (xu x 7 (nI 2)) hh Sp Ot Sv (linv_x hV rfl rfl) H locs ls hP hD hS (lv_sub hl [2, 3, 4, 5, 6] rfl)

set_option maxHeartbeats 4000000 in
set_option maxRecDepth 100000 in
theorem law_refuse__e1 {pp : Program} {l : Launch} {ee : Env} {ss : State} {mm : MethodId} {below : List Frame} {meth : Method} {cc : Code} {bb Ls : Nat} {xs : Nat → Int32} {D : va_G} {cI cB cW cL : ClassId} (C : LFix pp l ss mm cc bb Ls xs D cI cB cW cL) {o : Nat} {F : Nat → Int64} {ob nw tr : Nat → Nat} {qs : Nat → Nat → Nat} {sc : Nat → Nat} {N : kM} {S : Nat → kM} {n r L : Nat} {T : Nat → Int32} {z : Nat → Nat} {x : Nat → Int32} {hh : Int64} {Sp Ot Sv : Nat → Int32} {M : kM} (hV : LInv M S n r L T Sv x) {i : Nat} (hi : i + 5 ≤ Ls)  (hg : g_why (xs (i + 1)) (xs (i + 2)) = nI 1) {H : Heap} {locs : List Loc} {ls : Array Slot} {cells slots : Nat} {Q : State → Prop} (hc : cells + 1 ≤ 601024) (hs : slots + 6 ≤ 7293034) (hP : va_P D vwCl (wLaw cI cB cW cL o F ob nw tr qs sc (g_rot qs r) M N S n L T z x hh M Sp Ot Sv T) H) (hD : va_D (fun q : Nat => ss.heap.size ≤ q) (wLaw cI cB cW cL o F ob nw tr qs sc (g_rot qs r) M N S n L T z x hh M Sp Ot Sv T)) (hS : va_S (fun q : Nat => ss.heap.size ≤ q) ss.heap H locs) (hl : lv_has ls 9 [(0, .ref bb), (1, .ref (ob 0)), (2, .ref (z 0)), (3, .ref o), (4, .int (nI i))]) (kk : LNext pp l ee ss mm below meth cc bb D cI cB cW cL o ob nw tr qs sc z i cells slots Q) : W pp l ee room_1 ss mm #[Value.ref bb] below meth cc H locs cells slots Q (F0 mm 312 ls []) := by
  obtain ⟨hx, hcd, hml, hown, hts, hX, hbl, hst, hZ, hN, hK, hL9⟩ := C
  obtain ⟨hI, hn, hr, hL, hT, hx4, hx6, hsv⟩ := id hV
  have hA : ∀ q : Nat, ss.heap.size ≤ q → (fun q : Nat => ss.heap.size ≤ q) q := fun _ h => h
  have hbA : ¬ (fun q : Nat => ss.heap.size ≤ q) bb := Nat.not_le.mpr hbl
  refine lv_aload_n hx hcd dL_law_312 rfl (lv_at hl 1 rfl) ?_
  refine lv_aload_n hx hcd dL_law_313 rfl (lv_at hl 0 rfl) ?_
  refine lv_iload hx hcd dL_law_314 (lv_at hl 4 rfl) ?_
  refine lv_iconst (v := nI 1) hx hcd dL_law_316 (by decide) ?_
  refine kr_add hx hcd dL_law_317 ?_
  refine kl_sld hx hcd hX hbl hbA hS (k := i + 1) (by omega) hL9 dL_law_318 ?_
  refine lv_aload_n hx hcd dL_law_319 rfl (lv_at hl 0 rfl) ?_
  refine lv_iload hx hcd dL_law_320 (lv_at hl 4 rfl) ?_
  refine lv_iconst (v := nI 2) hx hcd dL_law_322 (by decide) ?_
  refine kr_add hx hcd dL_law_323 ?_
  refine kl_sld hx hcd hX hbl hbA hS (k := i + 2) (by omega) hL9 dL_law_324 ?_
  refine lv_aload_n hx hcd dL_law_325 rfl (lv_at hl 3 rfl) ?_
  refine kl_S (As := [.ref (ob 0), .int (xs (i + 1)), .int (xs (i + 2)), .ref o]) (rest := []) (ws2 := wLaw cI cB cW cL o F ob nw tr qs sc (g_rot qs r) M N S n L T z x hh M Sp Ot Sv T) ⟨hx, hcd, hml, hown, hts⟩ (c_L_refuse__e1 l hst D cI cB cW cL o F ob nw tr qs sc (g_rot qs r) N S n L T _ M (xs (i + 1)) (xs (i + 2)) hg) (vx_cwSW 4 hts gL_law_L_refuse rfl rfl rfl (by decide +kernel) ⟨Nat.le_of_ble_eq_true rfl, Nat.le_of_ble_eq_true rfl⟩) hZ hN hK hP hD hS hA [0, 1, 2, 3, 4, 5, 6, 7, 8, 9, 10, 11, 12, 13, 14, 15, 16, 17, 18, 19, 20, 21, 22, 23, 24, 25, 26, 27, 28, 29, 30, 31, 32, 33, 34, 35, 36, 37, 38, 39, 40, 41, 42, 43, 44, 45, 46, 47, 48, 49, 50, 51, 52, 53, 54, 55, 56, 57, 58, 59, 60, 61, 62, 63, 64, 65, 66, 67, 68, 69, 70, 71, 72, 73, 74, 75, 76, 77, 78, 79, 80, 81, 82, 83, 84, 85, 86, 87, 88, 89, 90, 91, 92, 93, 94] wLaw_LXC nd_LX wLX_adr wLaw_LX rfl hl.1 rfl (Nat.le_of_ble_eq_true rfl) dL_law_326 ⟨hc, hs⟩ (fun H locs hP hD hS => ?_)
  refine lv_istore (lv' := [(5, .int (nI 1)), (0, .ref bb), (1, .ref (ob 0)), (2, .ref (z 0)), (3, .ref o), (4, .int (nI i))]) hx hcd dL_law_329 hl (by decide) rfl (fun ls hl => ?_)
  refine lv_aload_n hx hcd dL_law_331 rfl (lv_at hl 3 rfl) ?_
  refine lv_aload_n hx hcd dL_law_332 rfl (lv_at hl 1 rfl) ?_
  refine lv_iload hx hcd dL_law_333 (lv_at hl 5 rfl) ?_
  refine lv_iconst (v := nI 1) hx hcd dL_law_335 (by decide) ?_
  refine kr_add hx hcd dL_law_336 ?_
  refine kl_sld hx hcd hX hbl hbA hS (k := i + 1) (by omega) hL9 dL_law_337 ?_
  refine lv_aload_n hx hcd dL_law_338 rfl (lv_at hl 1 rfl) ?_
  refine lv_iload hx hcd dL_law_339 (lv_at hl 5 rfl) ?_
  refine lv_iconst (v := nI 2) hx hcd dL_law_341 (by decide) ?_
  refine kr_add hx hcd dL_law_342 ?_
  refine kl_sld hx hcd hX hbl hbA hS (k := i + 2) (by omega) hL9 dL_law_343 ?_
  refine kr_Vi (As := [.int (xs (i + 1)), .int (xs (i + 2))]) (rest := []) (ws2 := wLaw cI cB cW cL o F ob nw tr qs sc (g_rot qs r) M N S n L T z (xu x 7 (nI 1)) hh M Sp Ot Sv T) (q := (RX7, TX7, 10)) ⟨hx, hcd, hml, hown, hts⟩ (c_X7_refuse__bad l D cI cB cW cL z x hh Sp Ot Sv T _ M (xs (i + 1)) (xs (i + 2)) 1 hg (by omega)) (cwV 2 hts gL_law_X7_refuse rfl rfl rfl (by decide +kernel) ⟨Nat.le_of_ble_eq_true rfl, Nat.le_of_ble_eq_true rfl⟩) hK hP hD hS hA [95, 96, 97, 98, 99, 100] wLaw_MAC (by decide) wMA_adr wLaw_MA 95 rfl rfl rfl hl.1 rfl (Nat.le_of_ble_eq_true rfl) dL_law_344 ⟨hc, hs⟩ (fun H locs hP hD hS => ?_)
  refine lv_istore (lv' := [(6, .int (nI 0)), (5, .int (nI 1)), (0, .ref bb), (1, .ref (ob 0)), (2, .ref (z 0)), (3, .ref o), (4, .int (nI i))]) hx hcd dL_law_347 hl (by decide) rfl (fun ls hl => ?_)
  refine lv_aload_n hx hcd dL_law_349 rfl (lv_at hl 4 rfl) ?_
  refine kr_Vi (As := []) (rest := []) (ws2 := wLaw cI cB cW cL o F ob nw tr qs sc (g_rot qs r) M N S n L T z (xu x 7 (nI 1)) hh M Sp Ot Sv T) (q := (RX7, TX7, 10)) ⟨hx, hcd, hml, hown, hts⟩ (c_X7_thrown l D cI cB cW cL z (xu x 7 (nI 1)) hh _ M ) (cwV 0 hts gL_law_X7_thrown rfl rfl rfl (by decide +kernel) ⟨Nat.le_of_ble_eq_true rfl, Nat.le_of_ble_eq_true rfl⟩) hK hP hD hS hA [95, 96] wLaw_MoC (by decide) wMo_adr2 wLaw_Mo 95 rfl rfl rfl hl.1 rfl (Nat.le_of_ble_eq_true rfl) dL_law_350 ⟨hc, hs⟩ (fun H locs hP hD hS => ?_)
  refine kr_top (w := nI 1) rfl ?_
  refine lv_iload hx hcd dL_law_353 (lv_at hl 1 rfl) ?_
  refine kr_ceq (tgt := 360) hx hcd (by omega) (by omega) dL_law_355 (by decide) (fun (c_355 : 1 = 1) => ?_) (fun (c_355 : ¬ 1 = 1) => absurd c_355 (by omega))
  refine lv_iload hx hcd dL_law_360 (lv_at hl 1 rfl) ?_
  refine kr_zne (tgt := 377) hx hcd (by omega) dL_law_362 (by decide) (fun (c_362 : 0 < 1) => ?_) (fun (c_362 : 1 = 0) => absurd c_362 (by omega))
  refine lv_goto (tgt := 1812) hx hcd dL_law_377 (by decide) ?_
  exact kk F N M S n r L T (xu x 7 (nI 1)) hh Sp Ot Sv (linv_x hV rfl rfl) H locs ls hP hD hS (lv_sub hl [2, 3, 4, 5, 6] rfl)

set_option maxHeartbeats 4000000 in
set_option maxRecDepth 100000 in
theorem law_refuse__e2 {pp : Program} {l : Launch} {ee : Env} {ss : State} {mm : MethodId} {below : List Frame} {meth : Method} {cc : Code} {bb Ls : Nat} {xs : Nat → Int32} {D : va_G} {cI cB cW cL : ClassId} (C : LFix pp l ss mm cc bb Ls xs D cI cB cW cL) {o : Nat} {F : Nat → Int64} {ob nw tr : Nat → Nat} {qs : Nat → Nat → Nat} {sc : Nat → Nat} {N : kM} {S : Nat → kM} {n r L : Nat} {T : Nat → Int32} {z : Nat → Nat} {x : Nat → Int32} {hh : Int64} {Sp Ot Sv : Nat → Int32} {M : kM} (hV : LInv M S n r L T Sv x) {i : Nat} (hi : i + 5 ≤ Ls)  (hg : g_why (xs (i + 1)) (xs (i + 2)) = nI 2) {H : Heap} {locs : List Loc} {ls : Array Slot} {cells slots : Nat} {Q : State → Prop} (hc : cells + 1 ≤ 601024) (hs : slots + 6 ≤ 7293034) (hP : va_P D vwCl (wLaw cI cB cW cL o F ob nw tr qs sc (g_rot qs r) M N S n L T z x hh M Sp Ot Sv T) H) (hD : va_D (fun q : Nat => ss.heap.size ≤ q) (wLaw cI cB cW cL o F ob nw tr qs sc (g_rot qs r) M N S n L T z x hh M Sp Ot Sv T)) (hS : va_S (fun q : Nat => ss.heap.size ≤ q) ss.heap H locs) (hl : lv_has ls 9 [(0, .ref bb), (1, .ref (ob 0)), (2, .ref (z 0)), (3, .ref o), (4, .int (nI i))]) (kk : LNext pp l ee ss mm below meth cc bb D cI cB cW cL o ob nw tr qs sc z i cells slots Q) : W pp l ee room_1 ss mm #[Value.ref bb] below meth cc H locs cells slots Q (F0 mm 312 ls []) := by
  obtain ⟨hx, hcd, hml, hown, hts, hX, hbl, hst, hZ, hN, hK, hL9⟩ := C
  obtain ⟨hI, hn, hr, hL, hT, hx4, hx6, hsv⟩ := id hV
  have hA : ∀ q : Nat, ss.heap.size ≤ q → (fun q : Nat => ss.heap.size ≤ q) q := fun _ h => h
  have hbA : ¬ (fun q : Nat => ss.heap.size ≤ q) bb := Nat.not_le.mpr hbl
  refine lv_aload_n hx hcd dL_law_312 rfl (lv_at hl 1 rfl) ?_
  refine lv_aload_n hx hcd dL_law_313 rfl (lv_at hl 0 rfl) ?_
  refine lv_iload hx hcd dL_law_314 (lv_at hl 4 rfl) ?_
  refine lv_iconst (v := nI 1) hx hcd dL_law_316 (by decide) ?_
  refine kr_add hx hcd dL_law_317 ?_
  refine kl_sld hx hcd hX hbl hbA hS (k := i + 1) (by omega) hL9 dL_law_318 ?_
  refine lv_aload_n hx hcd dL_law_319 rfl (lv_at hl 0 rfl) ?_
  refine lv_iload hx hcd dL_law_320 (lv_at hl 4 rfl) ?_
  refine lv_iconst (v := nI 2) hx hcd dL_law_322 (by decide) ?_
  refine kr_add hx hcd dL_law_323 ?_
  refine kl_sld hx hcd hX hbl hbA hS (k := i + 2) (by omega) hL9 dL_law_324 ?_
  refine lv_aload_n hx hcd dL_law_325 rfl (lv_at hl 3 rfl) ?_
  refine kl_S (As := [.ref (ob 0), .int (xs (i + 1)), .int (xs (i + 2)), .ref o]) (rest := []) (ws2 := wLaw cI cB cW cL o F ob nw tr qs sc (g_rot qs r) M N S n L T z x hh M Sp Ot Sv T) ⟨hx, hcd, hml, hown, hts⟩ (c_L_refuse__e2 l hst D cI cB cW cL o F ob nw tr qs sc (g_rot qs r) N S n L T _ M (xs (i + 1)) (xs (i + 2)) hg) (vx_cwSW 4 hts gL_law_L_refuse rfl rfl rfl (by decide +kernel) ⟨Nat.le_of_ble_eq_true rfl, Nat.le_of_ble_eq_true rfl⟩) hZ hN hK hP hD hS hA [0, 1, 2, 3, 4, 5, 6, 7, 8, 9, 10, 11, 12, 13, 14, 15, 16, 17, 18, 19, 20, 21, 22, 23, 24, 25, 26, 27, 28, 29, 30, 31, 32, 33, 34, 35, 36, 37, 38, 39, 40, 41, 42, 43, 44, 45, 46, 47, 48, 49, 50, 51, 52, 53, 54, 55, 56, 57, 58, 59, 60, 61, 62, 63, 64, 65, 66, 67, 68, 69, 70, 71, 72, 73, 74, 75, 76, 77, 78, 79, 80, 81, 82, 83, 84, 85, 86, 87, 88, 89, 90, 91, 92, 93, 94] wLaw_LXC nd_LX wLX_adr wLaw_LX rfl hl.1 rfl (Nat.le_of_ble_eq_true rfl) dL_law_326 ⟨hc, hs⟩ (fun H locs hP hD hS => ?_)
  refine lv_istore (lv' := [(5, .int (nI 2)), (0, .ref bb), (1, .ref (ob 0)), (2, .ref (z 0)), (3, .ref o), (4, .int (nI i))]) hx hcd dL_law_329 hl (by decide) rfl (fun ls hl => ?_)
  refine lv_aload_n hx hcd dL_law_331 rfl (lv_at hl 3 rfl) ?_
  refine lv_aload_n hx hcd dL_law_332 rfl (lv_at hl 1 rfl) ?_
  refine lv_iload hx hcd dL_law_333 (lv_at hl 5 rfl) ?_
  refine lv_iconst (v := nI 1) hx hcd dL_law_335 (by decide) ?_
  refine kr_add hx hcd dL_law_336 ?_
  refine kl_sld hx hcd hX hbl hbA hS (k := i + 1) (by omega) hL9 dL_law_337 ?_
  refine lv_aload_n hx hcd dL_law_338 rfl (lv_at hl 1 rfl) ?_
  refine lv_iload hx hcd dL_law_339 (lv_at hl 5 rfl) ?_
  refine lv_iconst (v := nI 2) hx hcd dL_law_341 (by decide) ?_
  refine kr_add hx hcd dL_law_342 ?_
  refine kl_sld hx hcd hX hbl hbA hS (k := i + 2) (by omega) hL9 dL_law_343 ?_
  refine kr_Vi (As := [.int (xs (i + 1)), .int (xs (i + 2))]) (rest := []) (ws2 := wLaw cI cB cW cL o F ob nw tr qs sc (g_rot qs r) M N S n L T z (xu x 7 (nI 2)) hh M Sp Ot Sv T) (q := (RX7, TX7, 10)) ⟨hx, hcd, hml, hown, hts⟩ (c_X7_refuse__bad l D cI cB cW cL z x hh Sp Ot Sv T _ M (xs (i + 1)) (xs (i + 2)) 2 hg (by omega)) (cwV 2 hts gL_law_X7_refuse rfl rfl rfl (by decide +kernel) ⟨Nat.le_of_ble_eq_true rfl, Nat.le_of_ble_eq_true rfl⟩) hK hP hD hS hA [95, 96, 97, 98, 99, 100] wLaw_MAC (by decide) wMA_adr wLaw_MA 95 rfl rfl rfl hl.1 rfl (Nat.le_of_ble_eq_true rfl) dL_law_344 ⟨hc, hs⟩ (fun H locs hP hD hS => ?_)
  refine lv_istore (lv' := [(6, .int (nI 0)), (5, .int (nI 2)), (0, .ref bb), (1, .ref (ob 0)), (2, .ref (z 0)), (3, .ref o), (4, .int (nI i))]) hx hcd dL_law_347 hl (by decide) rfl (fun ls hl => ?_)
  refine lv_aload_n hx hcd dL_law_349 rfl (lv_at hl 4 rfl) ?_
  refine kr_Vi (As := []) (rest := []) (ws2 := wLaw cI cB cW cL o F ob nw tr qs sc (g_rot qs r) M N S n L T z (xu x 7 (nI 2)) hh M Sp Ot Sv T) (q := (RX7, TX7, 10)) ⟨hx, hcd, hml, hown, hts⟩ (c_X7_thrown l D cI cB cW cL z (xu x 7 (nI 2)) hh _ M ) (cwV 0 hts gL_law_X7_thrown rfl rfl rfl (by decide +kernel) ⟨Nat.le_of_ble_eq_true rfl, Nat.le_of_ble_eq_true rfl⟩) hK hP hD hS hA [95, 96] wLaw_MoC (by decide) wMo_adr2 wLaw_Mo 95 rfl rfl rfl hl.1 rfl (Nat.le_of_ble_eq_true rfl) dL_law_350 ⟨hc, hs⟩ (fun H locs hP hD hS => ?_)
  refine kr_top (w := nI 2) rfl ?_
  refine lv_iload hx hcd dL_law_353 (lv_at hl 1 rfl) ?_
  refine kr_ceq (tgt := 360) hx hcd (by omega) (by omega) dL_law_355 (by decide) (fun (c_355 : 2 = 2) => ?_) (fun (c_355 : ¬ 2 = 2) => absurd c_355 (by omega))
  refine lv_iload hx hcd dL_law_360 (lv_at hl 1 rfl) ?_
  refine kr_zne (tgt := 377) hx hcd (by omega) dL_law_362 (by decide) (fun (c_362 : 0 < 2) => ?_) (fun (c_362 : 2 = 0) => absurd c_362 (by omega))
  refine lv_goto (tgt := 1812) hx hcd dL_law_377 (by decide) ?_
  exact kk F N M S n r L T (xu x 7 (nI 2)) hh Sp Ot Sv (linv_x hV rfl rfl) H locs ls hP hD hS (lv_sub hl [2, 3, 4, 5, 6] rfl)

set_option maxHeartbeats 4000000 in
set_option maxRecDepth 100000 in
theorem law_stop__e1 {pp : Program} {l : Launch} {ee : Env} {ss : State} {mm : MethodId} {below : List Frame} {meth : Method} {cc : Code} {bb Ls : Nat} {xs : Nat → Int32} {D : va_G} {cI cB cW cL : ClassId} (C : LFix pp l ss mm cc bb Ls xs D cI cB cW cL) {o : Nat} {F : Nat → Int64} {ob nw tr : Nat → Nat} {qs : Nat → Nat → Nat} {sc : Nat → Nat} {N : kM} {S : Nat → kM} {n r L : Nat} {T : Nat → Int32} {z : Nat → Nat} {x : Nat → Int32} {hh : Int64} {Sp Ot Sv : Nat → Int32} {M : kM} (hV : LInv M S n r L T Sv x) {i : Nat} (hi : i + 5 ≤ Ls)  (hg : g_why (xs (i + 1)) (xs (i + 2)) = nI 1) {H : Heap} {locs : List Loc} {ls : Array Slot} {cells slots : Nat} {Q : State → Prop} (hc : cells + 1 ≤ 601024) (hs : slots + 6 ≤ 7293034) (hP : va_P D vwCl (wLaw cI cB cW cL o F ob nw tr qs sc (g_rot qs r) M N S n L T z x hh M Sp Ot Sv T) H) (hD : va_D (fun q : Nat => ss.heap.size ≤ q) (wLaw cI cB cW cL o F ob nw tr qs sc (g_rot qs r) M N S n L T z x hh M Sp Ot Sv T)) (hS : va_S (fun q : Nat => ss.heap.size ≤ q) ss.heap H locs) (hl : lv_has ls 9 [(0, .ref bb), (1, .ref (ob 0)), (2, .ref (z 0)), (3, .ref o), (4, .int (nI i))]) (kk : LNext pp l ee ss mm below meth cc bb D cI cB cW cL o ob nw tr qs sc z i cells slots Q) : W pp l ee room_1 ss mm #[Value.ref bb] below meth cc H locs cells slots Q (F0 mm 380 ls []) := by
  obtain ⟨hx, hcd, hml, hown, hts, hX, hbl, hst, hZ, hN, hK, hL9⟩ := C
  obtain ⟨hI, hn, hr, hL, hT, hx4, hx6, hsv⟩ := id hV
  have hA : ∀ q : Nat, ss.heap.size ≤ q → (fun q : Nat => ss.heap.size ≤ q) q := fun _ h => h
  have hbA : ¬ (fun q : Nat => ss.heap.size ≤ q) bb := Nat.not_le.mpr hbl
  refine lv_aload_n hx hcd dL_law_380 rfl (lv_at hl 1 rfl) ?_
  refine lv_aload_n hx hcd dL_law_381 rfl (lv_at hl 0 rfl) ?_
  refine lv_iload hx hcd dL_law_382 (lv_at hl 4 rfl) ?_
  refine lv_iconst (v := nI 1) hx hcd dL_law_384 (by decide) ?_
  refine kr_add hx hcd dL_law_385 ?_
  refine kl_sld hx hcd hX hbl hbA hS (k := i + 1) (by omega) hL9 dL_law_386 ?_
  refine lv_aload_n hx hcd dL_law_387 rfl (lv_at hl 0 rfl) ?_
  refine lv_iload hx hcd dL_law_388 (lv_at hl 4 rfl) ?_
  refine lv_iconst (v := nI 2) hx hcd dL_law_390 (by decide) ?_
  refine kr_add hx hcd dL_law_391 ?_
  refine kl_sld hx hcd hX hbl hbA hS (k := i + 2) (by omega) hL9 dL_law_392 ?_
  refine lv_aload_n hx hcd dL_law_393 rfl (lv_at hl 3 rfl) ?_
  refine kl_S (As := [.ref (ob 0), .int (xs (i + 1)), .int (xs (i + 2)), .ref o]) (rest := []) (ws2 := wLaw cI cB cW cL o F ob nw tr qs sc (g_rot qs r) M N S n L T z x hh M Sp Ot Sv T) ⟨hx, hcd, hml, hown, hts⟩ (c_L_stop__e1 l hst D cI cB cW cL o F ob nw tr qs sc (g_rot qs r) N S n L T _ M (xs (i + 1)) (xs (i + 2)) hg) (vx_cwSW 4 hts gL_law_L_stop rfl rfl rfl (by decide +kernel) ⟨Nat.le_of_ble_eq_true rfl, Nat.le_of_ble_eq_true rfl⟩) hZ hN hK hP hD hS hA [0, 1, 2, 3, 4, 5, 6, 7, 8, 9, 10, 11, 12, 13, 14, 15, 16, 17, 18, 19, 20, 21, 22, 23, 24, 25, 26, 27, 28, 29, 30, 31, 32, 33, 34, 35, 36, 37, 38, 39, 40, 41, 42, 43, 44, 45, 46, 47, 48, 49, 50, 51, 52, 53, 54, 55, 56, 57, 58, 59, 60, 61, 62, 63, 64, 65, 66, 67, 68, 69, 70, 71, 72, 73, 74, 75, 76, 77, 78, 79, 80, 81, 82, 83, 84, 85, 86, 87, 88, 89, 90, 91, 92, 93, 94] wLaw_LXC nd_LX wLX_adr wLaw_LX rfl hl.1 rfl (Nat.le_of_ble_eq_true rfl) dL_law_394 ⟨hc, hs⟩ (fun H locs hP hD hS => ?_)
  refine lv_istore (lv' := [(5, .int (nI 1)), (0, .ref bb), (1, .ref (ob 0)), (2, .ref (z 0)), (3, .ref o), (4, .int (nI i))]) hx hcd dL_law_397 hl (by decide) rfl (fun ls hl => ?_)
  refine lv_aload_n hx hcd dL_law_399 rfl (lv_at hl 3 rfl) ?_
  refine lv_aload_n hx hcd dL_law_400 rfl (lv_at hl 1 rfl) ?_
  refine lv_iload hx hcd dL_law_401 (lv_at hl 5 rfl) ?_
  refine lv_iconst (v := nI 1) hx hcd dL_law_403 (by decide) ?_
  refine kr_add hx hcd dL_law_404 ?_
  refine kl_sld hx hcd hX hbl hbA hS (k := i + 1) (by omega) hL9 dL_law_405 ?_
  refine lv_aload_n hx hcd dL_law_406 rfl (lv_at hl 1 rfl) ?_
  refine lv_iload hx hcd dL_law_407 (lv_at hl 5 rfl) ?_
  refine lv_iconst (v := nI 2) hx hcd dL_law_409 (by decide) ?_
  refine kr_add hx hcd dL_law_410 ?_
  refine kl_sld hx hcd hX hbl hbA hS (k := i + 2) (by omega) hL9 dL_law_411 ?_
  refine kr_Vi (As := [.int (xs (i + 1)), .int (xs (i + 2))]) (rest := []) (ws2 := wLaw cI cB cW cL o F ob nw tr qs sc (g_rot qs r) M N S n L T z (xu x 7 (nI 1)) hh M Sp Ot Sv T) (q := (RX7, TX7, 10)) ⟨hx, hcd, hml, hown, hts⟩ (c_X7_stop__bad l D cI cB cW cL z x hh Sp Ot Sv T _ M (xs (i + 1)) (xs (i + 2)) 1 hg (by omega)) (cwV 2 hts gL_law_X7_stop rfl rfl rfl (by decide +kernel) ⟨Nat.le_of_ble_eq_true rfl, Nat.le_of_ble_eq_true rfl⟩) hK hP hD hS hA [95, 96, 97, 98, 99, 100] wLaw_MAC (by decide) wMA_adr wLaw_MA 95 rfl rfl rfl hl.1 rfl (Nat.le_of_ble_eq_true rfl) dL_law_412 ⟨hc, hs⟩ (fun H locs hP hD hS => ?_)
  refine lv_istore (lv' := [(6, .int (nI 0)), (5, .int (nI 1)), (0, .ref bb), (1, .ref (ob 0)), (2, .ref (z 0)), (3, .ref o), (4, .int (nI i))]) hx hcd dL_law_415 hl (by decide) rfl (fun ls hl => ?_)
  refine lv_aload_n hx hcd dL_law_417 rfl (lv_at hl 4 rfl) ?_
  refine kr_Vi (As := []) (rest := []) (ws2 := wLaw cI cB cW cL o F ob nw tr qs sc (g_rot qs r) M N S n L T z (xu x 7 (nI 1)) hh M Sp Ot Sv T) (q := (RX7, TX7, 10)) ⟨hx, hcd, hml, hown, hts⟩ (c_X7_thrown l D cI cB cW cL z (xu x 7 (nI 1)) hh _ M ) (cwV 0 hts gL_law_X7_thrown rfl rfl rfl (by decide +kernel) ⟨Nat.le_of_ble_eq_true rfl, Nat.le_of_ble_eq_true rfl⟩) hK hP hD hS hA [95, 96] wLaw_MoC (by decide) wMo_adr2 wLaw_Mo 95 rfl rfl rfl hl.1 rfl (Nat.le_of_ble_eq_true rfl) dL_law_418 ⟨hc, hs⟩ (fun H locs hP hD hS => ?_)
  refine kr_top (w := nI 1) rfl ?_
  refine lv_iload hx hcd dL_law_421 (lv_at hl 1 rfl) ?_
  refine kr_ceq (tgt := 428) hx hcd (by omega) (by omega) dL_law_423 (by decide) (fun (c_423 : 1 = 1) => ?_) (fun (c_423 : ¬ 1 = 1) => absurd c_423 (by omega))
  refine lv_iload hx hcd dL_law_428 (lv_at hl 1 rfl) ?_
  refine kr_zne (tgt := 445) hx hcd (by omega) dL_law_430 (by decide) (fun (c_430 : 0 < 1) => ?_) (fun (c_430 : 1 = 0) => absurd c_430 (by omega))
  refine lv_goto (tgt := 1812) hx hcd dL_law_445 (by decide) ?_
  exact kk F N M S n r L T (xu x 7 (nI 1)) hh Sp Ot Sv (linv_x hV rfl rfl) H locs ls hP hD hS (lv_sub hl [2, 3, 4, 5, 6] rfl)

set_option maxHeartbeats 4000000 in
set_option maxRecDepth 100000 in
theorem law_stop__e2 {pp : Program} {l : Launch} {ee : Env} {ss : State} {mm : MethodId} {below : List Frame} {meth : Method} {cc : Code} {bb Ls : Nat} {xs : Nat → Int32} {D : va_G} {cI cB cW cL : ClassId} (C : LFix pp l ss mm cc bb Ls xs D cI cB cW cL) {o : Nat} {F : Nat → Int64} {ob nw tr : Nat → Nat} {qs : Nat → Nat → Nat} {sc : Nat → Nat} {N : kM} {S : Nat → kM} {n r L : Nat} {T : Nat → Int32} {z : Nat → Nat} {x : Nat → Int32} {hh : Int64} {Sp Ot Sv : Nat → Int32} {M : kM} (hV : LInv M S n r L T Sv x) {i : Nat} (hi : i + 5 ≤ Ls)  (hg : g_why (xs (i + 1)) (xs (i + 2)) = nI 2) {H : Heap} {locs : List Loc} {ls : Array Slot} {cells slots : Nat} {Q : State → Prop} (hc : cells + 1 ≤ 601024) (hs : slots + 6 ≤ 7293034) (hP : va_P D vwCl (wLaw cI cB cW cL o F ob nw tr qs sc (g_rot qs r) M N S n L T z x hh M Sp Ot Sv T) H) (hD : va_D (fun q : Nat => ss.heap.size ≤ q) (wLaw cI cB cW cL o F ob nw tr qs sc (g_rot qs r) M N S n L T z x hh M Sp Ot Sv T)) (hS : va_S (fun q : Nat => ss.heap.size ≤ q) ss.heap H locs) (hl : lv_has ls 9 [(0, .ref bb), (1, .ref (ob 0)), (2, .ref (z 0)), (3, .ref o), (4, .int (nI i))]) (kk : LNext pp l ee ss mm below meth cc bb D cI cB cW cL o ob nw tr qs sc z i cells slots Q) : W pp l ee room_1 ss mm #[Value.ref bb] below meth cc H locs cells slots Q (F0 mm 380 ls []) := by
  obtain ⟨hx, hcd, hml, hown, hts, hX, hbl, hst, hZ, hN, hK, hL9⟩ := C
  obtain ⟨hI, hn, hr, hL, hT, hx4, hx6, hsv⟩ := id hV
  have hA : ∀ q : Nat, ss.heap.size ≤ q → (fun q : Nat => ss.heap.size ≤ q) q := fun _ h => h
  have hbA : ¬ (fun q : Nat => ss.heap.size ≤ q) bb := Nat.not_le.mpr hbl
  refine lv_aload_n hx hcd dL_law_380 rfl (lv_at hl 1 rfl) ?_
  refine lv_aload_n hx hcd dL_law_381 rfl (lv_at hl 0 rfl) ?_
  refine lv_iload hx hcd dL_law_382 (lv_at hl 4 rfl) ?_
  refine lv_iconst (v := nI 1) hx hcd dL_law_384 (by decide) ?_
  refine kr_add hx hcd dL_law_385 ?_
  refine kl_sld hx hcd hX hbl hbA hS (k := i + 1) (by omega) hL9 dL_law_386 ?_
  refine lv_aload_n hx hcd dL_law_387 rfl (lv_at hl 0 rfl) ?_
  refine lv_iload hx hcd dL_law_388 (lv_at hl 4 rfl) ?_
  refine lv_iconst (v := nI 2) hx hcd dL_law_390 (by decide) ?_
  refine kr_add hx hcd dL_law_391 ?_
  refine kl_sld hx hcd hX hbl hbA hS (k := i + 2) (by omega) hL9 dL_law_392 ?_
  refine lv_aload_n hx hcd dL_law_393 rfl (lv_at hl 3 rfl) ?_
  refine kl_S (As := [.ref (ob 0), .int (xs (i + 1)), .int (xs (i + 2)), .ref o]) (rest := []) (ws2 := wLaw cI cB cW cL o F ob nw tr qs sc (g_rot qs r) M N S n L T z x hh M Sp Ot Sv T) ⟨hx, hcd, hml, hown, hts⟩ (c_L_stop__e2 l hst D cI cB cW cL o F ob nw tr qs sc (g_rot qs r) N S n L T _ M (xs (i + 1)) (xs (i + 2)) hg) (vx_cwSW 4 hts gL_law_L_stop rfl rfl rfl (by decide +kernel) ⟨Nat.le_of_ble_eq_true rfl, Nat.le_of_ble_eq_true rfl⟩) hZ hN hK hP hD hS hA [0, 1, 2, 3, 4, 5, 6, 7, 8, 9, 10, 11, 12, 13, 14, 15, 16, 17, 18, 19, 20, 21, 22, 23, 24, 25, 26, 27, 28, 29, 30, 31, 32, 33, 34, 35, 36, 37, 38, 39, 40, 41, 42, 43, 44, 45, 46, 47, 48, 49, 50, 51, 52, 53, 54, 55, 56, 57, 58, 59, 60, 61, 62, 63, 64, 65, 66, 67, 68, 69, 70, 71, 72, 73, 74, 75, 76, 77, 78, 79, 80, 81, 82, 83, 84, 85, 86, 87, 88, 89, 90, 91, 92, 93, 94] wLaw_LXC nd_LX wLX_adr wLaw_LX rfl hl.1 rfl (Nat.le_of_ble_eq_true rfl) dL_law_394 ⟨hc, hs⟩ (fun H locs hP hD hS => ?_)
  refine lv_istore (lv' := [(5, .int (nI 2)), (0, .ref bb), (1, .ref (ob 0)), (2, .ref (z 0)), (3, .ref o), (4, .int (nI i))]) hx hcd dL_law_397 hl (by decide) rfl (fun ls hl => ?_)
  refine lv_aload_n hx hcd dL_law_399 rfl (lv_at hl 3 rfl) ?_
  refine lv_aload_n hx hcd dL_law_400 rfl (lv_at hl 1 rfl) ?_
  refine lv_iload hx hcd dL_law_401 (lv_at hl 5 rfl) ?_
  refine lv_iconst (v := nI 1) hx hcd dL_law_403 (by decide) ?_
  refine kr_add hx hcd dL_law_404 ?_
  refine kl_sld hx hcd hX hbl hbA hS (k := i + 1) (by omega) hL9 dL_law_405 ?_
  refine lv_aload_n hx hcd dL_law_406 rfl (lv_at hl 1 rfl) ?_
  refine lv_iload hx hcd dL_law_407 (lv_at hl 5 rfl) ?_
  refine lv_iconst (v := nI 2) hx hcd dL_law_409 (by decide) ?_
  refine kr_add hx hcd dL_law_410 ?_
  refine kl_sld hx hcd hX hbl hbA hS (k := i + 2) (by omega) hL9 dL_law_411 ?_
  refine kr_Vi (As := [.int (xs (i + 1)), .int (xs (i + 2))]) (rest := []) (ws2 := wLaw cI cB cW cL o F ob nw tr qs sc (g_rot qs r) M N S n L T z (xu x 7 (nI 2)) hh M Sp Ot Sv T) (q := (RX7, TX7, 10)) ⟨hx, hcd, hml, hown, hts⟩ (c_X7_stop__bad l D cI cB cW cL z x hh Sp Ot Sv T _ M (xs (i + 1)) (xs (i + 2)) 2 hg (by omega)) (cwV 2 hts gL_law_X7_stop rfl rfl rfl (by decide +kernel) ⟨Nat.le_of_ble_eq_true rfl, Nat.le_of_ble_eq_true rfl⟩) hK hP hD hS hA [95, 96, 97, 98, 99, 100] wLaw_MAC (by decide) wMA_adr wLaw_MA 95 rfl rfl rfl hl.1 rfl (Nat.le_of_ble_eq_true rfl) dL_law_412 ⟨hc, hs⟩ (fun H locs hP hD hS => ?_)
  refine lv_istore (lv' := [(6, .int (nI 0)), (5, .int (nI 2)), (0, .ref bb), (1, .ref (ob 0)), (2, .ref (z 0)), (3, .ref o), (4, .int (nI i))]) hx hcd dL_law_415 hl (by decide) rfl (fun ls hl => ?_)
  refine lv_aload_n hx hcd dL_law_417 rfl (lv_at hl 4 rfl) ?_
  refine kr_Vi (As := []) (rest := []) (ws2 := wLaw cI cB cW cL o F ob nw tr qs sc (g_rot qs r) M N S n L T z (xu x 7 (nI 2)) hh M Sp Ot Sv T) (q := (RX7, TX7, 10)) ⟨hx, hcd, hml, hown, hts⟩ (c_X7_thrown l D cI cB cW cL z (xu x 7 (nI 2)) hh _ M ) (cwV 0 hts gL_law_X7_thrown rfl rfl rfl (by decide +kernel) ⟨Nat.le_of_ble_eq_true rfl, Nat.le_of_ble_eq_true rfl⟩) hK hP hD hS hA [95, 96] wLaw_MoC (by decide) wMo_adr2 wLaw_Mo 95 rfl rfl rfl hl.1 rfl (Nat.le_of_ble_eq_true rfl) dL_law_418 ⟨hc, hs⟩ (fun H locs hP hD hS => ?_)
  refine kr_top (w := nI 2) rfl ?_
  refine lv_iload hx hcd dL_law_421 (lv_at hl 1 rfl) ?_
  refine kr_ceq (tgt := 428) hx hcd (by omega) (by omega) dL_law_423 (by decide) (fun (c_423 : 2 = 2) => ?_) (fun (c_423 : ¬ 2 = 2) => absurd c_423 (by omega))
  refine lv_iload hx hcd dL_law_428 (lv_at hl 1 rfl) ?_
  refine kr_zne (tgt := 445) hx hcd (by omega) dL_law_430 (by decide) (fun (c_430 : 0 < 2) => ?_) (fun (c_430 : 2 = 0) => absurd c_430 (by omega))
  refine lv_goto (tgt := 1812) hx hcd dL_law_445 (by decide) ?_
  exact kk F N M S n r L T (xu x 7 (nI 2)) hh Sp Ot Sv (linv_x hV rfl rfl) H locs ls hP hD hS (lv_sub hl [2, 3, 4, 5, 6] rfl)

set_option maxHeartbeats 4000000 in
set_option maxRecDepth 100000 in
theorem law_entry__e1 {pp : Program} {l : Launch} {ee : Env} {ss : State} {mm : MethodId} {below : List Frame} {meth : Method} {cc : Code} {bb Ls : Nat} {xs : Nat → Int32} {D : va_G} {cI cB cW cL : ClassId} (C : LFix pp l ss mm cc bb Ls xs D cI cB cW cL) {o : Nat} {F : Nat → Int64} {ob nw tr : Nat → Nat} {qs : Nat → Nat → Nat} {sc : Nat → Nat} {N : kM} {S : Nat → kM} {n r L : Nat} {T : Nat → Int32} {z : Nat → Nat} {x : Nat → Int32} {hh : Int64} {Sp Ot Sv : Nat → Int32} {M : kM} (hV : LInv M S n r L T Sv x) {i : Nat} (hi : i + 5 ≤ Ls)  (hg : g_why (xs (i + 1)) (xs (i + 2)) = nI 1) {H : Heap} {locs : List Loc} {ls : Array Slot} {cells slots : Nat} {Q : State → Prop} (hc : cells + 1 ≤ 601024) (hs : slots + 6 ≤ 7293034) (hP : va_P D vwCl (wLaw cI cB cW cL o F ob nw tr qs sc (g_rot qs r) M N S n L T z x hh M Sp Ot Sv T) H) (hD : va_D (fun q : Nat => ss.heap.size ≤ q) (wLaw cI cB cW cL o F ob nw tr qs sc (g_rot qs r) M N S n L T z x hh M Sp Ot Sv T)) (hS : va_S (fun q : Nat => ss.heap.size ≤ q) ss.heap H locs) (hl : lv_has ls 9 [(0, .ref bb), (1, .ref (ob 0)), (2, .ref (z 0)), (3, .ref o), (4, .int (nI i))]) (kk : LNext pp l ee ss mm below meth cc bb D cI cB cW cL o ob nw tr qs sc z i cells slots Q) : W pp l ee room_1 ss mm #[Value.ref bb] below meth cc H locs cells slots Q (F0 mm 1089 ls []) := by
  obtain ⟨hx, hcd, hml, hown, hts, hX, hbl, hst, hZ, hN, hK, hL9⟩ := C
  obtain ⟨hI, hn, hr, hL, hT, hx4, hx6, hsv⟩ := id hV
  have hA : ∀ q : Nat, ss.heap.size ≤ q → (fun q : Nat => ss.heap.size ≤ q) q := fun _ h => h
  have hbA : ¬ (fun q : Nat => ss.heap.size ≤ q) bb := Nat.not_le.mpr hbl
  refine lv_aload_n hx hcd dL_law_1089 rfl (lv_at hl 1 rfl) ?_
  refine lv_aload_n hx hcd dL_law_1090 rfl (lv_at hl 0 rfl) ?_
  refine lv_iload hx hcd dL_law_1091 (lv_at hl 4 rfl) ?_
  refine lv_iconst (v := nI 1) hx hcd dL_law_1093 (by decide) ?_
  refine kr_add hx hcd dL_law_1094 ?_
  refine kl_sld hx hcd hX hbl hbA hS (k := i + 1) (by omega) hL9 dL_law_1095 ?_
  refine lv_aload_n hx hcd dL_law_1096 rfl (lv_at hl 0 rfl) ?_
  refine lv_iload hx hcd dL_law_1097 (lv_at hl 4 rfl) ?_
  refine lv_iconst (v := nI 2) hx hcd dL_law_1099 (by decide) ?_
  refine kr_add hx hcd dL_law_1100 ?_
  refine kl_sld hx hcd hX hbl hbA hS (k := i + 2) (by omega) hL9 dL_law_1101 ?_
  refine lv_aload_n hx hcd dL_law_1102 rfl (lv_at hl 3 rfl) ?_
  refine kl_S (As := [.ref (ob 0), .int (xs (i + 1)), .int (xs (i + 2)), .ref o]) (rest := []) (ws2 := wLaw cI cB cW cL o F ob nw tr qs sc (g_rot qs r) M N S n L T z x hh M Sp Ot Sv T) ⟨hx, hcd, hml, hown, hts⟩ (c_L_entry__e1 l hst D cI cB cW cL o F ob nw tr qs sc (g_rot qs r) N S n L T _ M (xs (i + 1)) (xs (i + 2)) hg) (vx_cwSW 4 hts gL_law_L_entry rfl rfl rfl (by decide +kernel) ⟨Nat.le_of_ble_eq_true rfl, Nat.le_of_ble_eq_true rfl⟩) hZ hN hK hP hD hS hA [0, 1, 2, 3, 4, 5, 6, 7, 8, 9, 10, 11, 12, 13, 14, 15, 16, 17, 18, 19, 20, 21, 22, 23, 24, 25, 26, 27, 28, 29, 30, 31, 32, 33, 34, 35, 36, 37, 38, 39, 40, 41, 42, 43, 44, 45, 46, 47, 48, 49, 50, 51, 52, 53, 54, 55, 56, 57, 58, 59, 60, 61, 62, 63, 64, 65, 66, 67, 68, 69, 70, 71, 72, 73, 74, 75, 76, 77, 78, 79, 80, 81, 82, 83, 84, 85, 86, 87, 88, 89, 90, 91, 92, 93, 94] wLaw_LXC nd_LX wLX_adr wLaw_LX rfl hl.1 rfl (Nat.le_of_ble_eq_true rfl) dL_law_1103 ⟨hc, hs⟩ (fun H locs hP hD hS => ?_)
  refine lv_istore (lv' := [(5, .int (nI 1)), (0, .ref bb), (1, .ref (ob 0)), (2, .ref (z 0)), (3, .ref o), (4, .int (nI i))]) hx hcd dL_law_1106 hl (by decide) rfl (fun ls hl => ?_)
  refine lv_aload_n hx hcd dL_law_1108 rfl (lv_at hl 3 rfl) ?_
  refine lv_aload_n hx hcd dL_law_1109 rfl (lv_at hl 1 rfl) ?_
  refine lv_iload hx hcd dL_law_1110 (lv_at hl 5 rfl) ?_
  refine lv_iconst (v := nI 1) hx hcd dL_law_1112 (by decide) ?_
  refine kr_add hx hcd dL_law_1113 ?_
  refine kl_sld hx hcd hX hbl hbA hS (k := i + 1) (by omega) hL9 dL_law_1114 ?_
  refine lv_aload_n hx hcd dL_law_1115 rfl (lv_at hl 1 rfl) ?_
  refine lv_iload hx hcd dL_law_1116 (lv_at hl 5 rfl) ?_
  refine lv_iconst (v := nI 2) hx hcd dL_law_1118 (by decide) ?_
  refine kr_add hx hcd dL_law_1119 ?_
  refine kl_sld hx hcd hX hbl hbA hS (k := i + 2) (by omega) hL9 dL_law_1120 ?_
  refine kr_Vi (As := [.int (xs (i + 1)), .int (xs (i + 2))]) (rest := []) (ws2 := wLaw cI cB cW cL o F ob nw tr qs sc (g_rot qs r) M N S n L T z (xu x 7 (nI 1)) hh M Sp Ot Sv T) (q := (RX7, TX7, 10)) ⟨hx, hcd, hml, hown, hts⟩ (c_X7_entry__bad l D cI cB cW cL z x hh _ M (xs (i + 1)) (xs (i + 2)) 1 hg (by omega)) (cwV 2 hts gL_law_X7_entry rfl rfl rfl (by decide +kernel) ⟨Nat.le_of_ble_eq_true rfl, Nat.le_of_ble_eq_true rfl⟩) hK hP hD hS hA [95, 96] wLaw_MoC (by decide) wMo_adr2 wLaw_Mo 95 rfl rfl rfl hl.1 rfl (Nat.le_of_ble_eq_true rfl) dL_law_1121 ⟨hc, hs⟩ (fun H locs hP hD hS => ?_)
  refine lv_istore (lv' := [(6, .int (nI 0)), (5, .int (nI 1)), (0, .ref bb), (1, .ref (ob 0)), (2, .ref (z 0)), (3, .ref o), (4, .int (nI i))]) hx hcd dL_law_1124 hl (by decide) rfl (fun ls hl => ?_)
  refine lv_aload_n hx hcd dL_law_1126 rfl (lv_at hl 4 rfl) ?_
  refine kr_Vi (As := []) (rest := []) (ws2 := wLaw cI cB cW cL o F ob nw tr qs sc (g_rot qs r) M N S n L T z (xu x 7 (nI 1)) hh M Sp Ot Sv T) (q := (RX7, TX7, 10)) ⟨hx, hcd, hml, hown, hts⟩ (c_X7_thrown l D cI cB cW cL z (xu x 7 (nI 1)) hh _ M ) (cwV 0 hts gL_law_X7_thrown rfl rfl rfl (by decide +kernel) ⟨Nat.le_of_ble_eq_true rfl, Nat.le_of_ble_eq_true rfl⟩) hK hP hD hS hA [95, 96] wLaw_MoC (by decide) wMo_adr2 wLaw_Mo 95 rfl rfl rfl hl.1 rfl (Nat.le_of_ble_eq_true rfl) dL_law_1127 ⟨hc, hs⟩ (fun H locs hP hD hS => ?_)
  refine kr_top (w := nI 1) rfl ?_
  refine lv_iload hx hcd dL_law_1130 (lv_at hl 1 rfl) ?_
  refine kr_ceq (tgt := 1137) hx hcd (by omega) (by omega) dL_law_1132 (by decide) (fun (c_1132 : 1 = 1) => ?_) (fun (c_1132 : ¬ 1 = 1) => absurd c_1132 (by omega))
  refine lv_iload hx hcd dL_law_1137 (lv_at hl 1 rfl) ?_
  refine kr_zne (tgt := 1154) hx hcd (by omega) dL_law_1139 (by decide) (fun (c_1139 : 0 < 1) => ?_) (fun (c_1139 : 1 = 0) => absurd c_1139 (by omega))
  refine lv_goto (tgt := 1812) hx hcd dL_law_1154 (by decide) ?_
  exact kk F N M S n r L T (xu x 7 (nI 1)) hh Sp Ot Sv (linv_x hV rfl rfl) H locs ls hP hD hS (lv_sub hl [2, 3, 4, 5, 6] rfl)

set_option maxHeartbeats 4000000 in
set_option maxRecDepth 100000 in
theorem law_entry__e2 {pp : Program} {l : Launch} {ee : Env} {ss : State} {mm : MethodId} {below : List Frame} {meth : Method} {cc : Code} {bb Ls : Nat} {xs : Nat → Int32} {D : va_G} {cI cB cW cL : ClassId} (C : LFix pp l ss mm cc bb Ls xs D cI cB cW cL) {o : Nat} {F : Nat → Int64} {ob nw tr : Nat → Nat} {qs : Nat → Nat → Nat} {sc : Nat → Nat} {N : kM} {S : Nat → kM} {n r L : Nat} {T : Nat → Int32} {z : Nat → Nat} {x : Nat → Int32} {hh : Int64} {Sp Ot Sv : Nat → Int32} {M : kM} (hV : LInv M S n r L T Sv x) {i : Nat} (hi : i + 5 ≤ Ls)  (hg : g_why (xs (i + 1)) (xs (i + 2)) = nI 2) {H : Heap} {locs : List Loc} {ls : Array Slot} {cells slots : Nat} {Q : State → Prop} (hc : cells + 1 ≤ 601024) (hs : slots + 6 ≤ 7293034) (hP : va_P D vwCl (wLaw cI cB cW cL o F ob nw tr qs sc (g_rot qs r) M N S n L T z x hh M Sp Ot Sv T) H) (hD : va_D (fun q : Nat => ss.heap.size ≤ q) (wLaw cI cB cW cL o F ob nw tr qs sc (g_rot qs r) M N S n L T z x hh M Sp Ot Sv T)) (hS : va_S (fun q : Nat => ss.heap.size ≤ q) ss.heap H locs) (hl : lv_has ls 9 [(0, .ref bb), (1, .ref (ob 0)), (2, .ref (z 0)), (3, .ref o), (4, .int (nI i))]) (kk : LNext pp l ee ss mm below meth cc bb D cI cB cW cL o ob nw tr qs sc z i cells slots Q) : W pp l ee room_1 ss mm #[Value.ref bb] below meth cc H locs cells slots Q (F0 mm 1089 ls []) := by
  obtain ⟨hx, hcd, hml, hown, hts, hX, hbl, hst, hZ, hN, hK, hL9⟩ := C
  obtain ⟨hI, hn, hr, hL, hT, hx4, hx6, hsv⟩ := id hV
  have hA : ∀ q : Nat, ss.heap.size ≤ q → (fun q : Nat => ss.heap.size ≤ q) q := fun _ h => h
  have hbA : ¬ (fun q : Nat => ss.heap.size ≤ q) bb := Nat.not_le.mpr hbl
  refine lv_aload_n hx hcd dL_law_1089 rfl (lv_at hl 1 rfl) ?_
  refine lv_aload_n hx hcd dL_law_1090 rfl (lv_at hl 0 rfl) ?_
  refine lv_iload hx hcd dL_law_1091 (lv_at hl 4 rfl) ?_
  refine lv_iconst (v := nI 1) hx hcd dL_law_1093 (by decide) ?_
  refine kr_add hx hcd dL_law_1094 ?_
  refine kl_sld hx hcd hX hbl hbA hS (k := i + 1) (by omega) hL9 dL_law_1095 ?_
  refine lv_aload_n hx hcd dL_law_1096 rfl (lv_at hl 0 rfl) ?_
  refine lv_iload hx hcd dL_law_1097 (lv_at hl 4 rfl) ?_
  refine lv_iconst (v := nI 2) hx hcd dL_law_1099 (by decide) ?_
  refine kr_add hx hcd dL_law_1100 ?_
  refine kl_sld hx hcd hX hbl hbA hS (k := i + 2) (by omega) hL9 dL_law_1101 ?_
  refine lv_aload_n hx hcd dL_law_1102 rfl (lv_at hl 3 rfl) ?_
  refine kl_S (As := [.ref (ob 0), .int (xs (i + 1)), .int (xs (i + 2)), .ref o]) (rest := []) (ws2 := wLaw cI cB cW cL o F ob nw tr qs sc (g_rot qs r) M N S n L T z x hh M Sp Ot Sv T) ⟨hx, hcd, hml, hown, hts⟩ (c_L_entry__e2 l hst D cI cB cW cL o F ob nw tr qs sc (g_rot qs r) N S n L T _ M (xs (i + 1)) (xs (i + 2)) hg) (vx_cwSW 4 hts gL_law_L_entry rfl rfl rfl (by decide +kernel) ⟨Nat.le_of_ble_eq_true rfl, Nat.le_of_ble_eq_true rfl⟩) hZ hN hK hP hD hS hA [0, 1, 2, 3, 4, 5, 6, 7, 8, 9, 10, 11, 12, 13, 14, 15, 16, 17, 18, 19, 20, 21, 22, 23, 24, 25, 26, 27, 28, 29, 30, 31, 32, 33, 34, 35, 36, 37, 38, 39, 40, 41, 42, 43, 44, 45, 46, 47, 48, 49, 50, 51, 52, 53, 54, 55, 56, 57, 58, 59, 60, 61, 62, 63, 64, 65, 66, 67, 68, 69, 70, 71, 72, 73, 74, 75, 76, 77, 78, 79, 80, 81, 82, 83, 84, 85, 86, 87, 88, 89, 90, 91, 92, 93, 94] wLaw_LXC nd_LX wLX_adr wLaw_LX rfl hl.1 rfl (Nat.le_of_ble_eq_true rfl) dL_law_1103 ⟨hc, hs⟩ (fun H locs hP hD hS => ?_)
  refine lv_istore (lv' := [(5, .int (nI 2)), (0, .ref bb), (1, .ref (ob 0)), (2, .ref (z 0)), (3, .ref o), (4, .int (nI i))]) hx hcd dL_law_1106 hl (by decide) rfl (fun ls hl => ?_)
  refine lv_aload_n hx hcd dL_law_1108 rfl (lv_at hl 3 rfl) ?_
  refine lv_aload_n hx hcd dL_law_1109 rfl (lv_at hl 1 rfl) ?_
  refine lv_iload hx hcd dL_law_1110 (lv_at hl 5 rfl) ?_
  refine lv_iconst (v := nI 1) hx hcd dL_law_1112 (by decide) ?_
  refine kr_add hx hcd dL_law_1113 ?_
  refine kl_sld hx hcd hX hbl hbA hS (k := i + 1) (by omega) hL9 dL_law_1114 ?_
  refine lv_aload_n hx hcd dL_law_1115 rfl (lv_at hl 1 rfl) ?_
  refine lv_iload hx hcd dL_law_1116 (lv_at hl 5 rfl) ?_
  refine lv_iconst (v := nI 2) hx hcd dL_law_1118 (by decide) ?_
  refine kr_add hx hcd dL_law_1119 ?_
  refine kl_sld hx hcd hX hbl hbA hS (k := i + 2) (by omega) hL9 dL_law_1120 ?_
  refine kr_Vi (As := [.int (xs (i + 1)), .int (xs (i + 2))]) (rest := []) (ws2 := wLaw cI cB cW cL o F ob nw tr qs sc (g_rot qs r) M N S n L T z (xu x 7 (nI 2)) hh M Sp Ot Sv T) (q := (RX7, TX7, 10)) ⟨hx, hcd, hml, hown, hts⟩ (c_X7_entry__bad l D cI cB cW cL z x hh _ M (xs (i + 1)) (xs (i + 2)) 2 hg (by omega)) (cwV 2 hts gL_law_X7_entry rfl rfl rfl (by decide +kernel) ⟨Nat.le_of_ble_eq_true rfl, Nat.le_of_ble_eq_true rfl⟩) hK hP hD hS hA [95, 96] wLaw_MoC (by decide) wMo_adr2 wLaw_Mo 95 rfl rfl rfl hl.1 rfl (Nat.le_of_ble_eq_true rfl) dL_law_1121 ⟨hc, hs⟩ (fun H locs hP hD hS => ?_)
  refine lv_istore (lv' := [(6, .int (nI 0)), (5, .int (nI 2)), (0, .ref bb), (1, .ref (ob 0)), (2, .ref (z 0)), (3, .ref o), (4, .int (nI i))]) hx hcd dL_law_1124 hl (by decide) rfl (fun ls hl => ?_)
  refine lv_aload_n hx hcd dL_law_1126 rfl (lv_at hl 4 rfl) ?_
  refine kr_Vi (As := []) (rest := []) (ws2 := wLaw cI cB cW cL o F ob nw tr qs sc (g_rot qs r) M N S n L T z (xu x 7 (nI 2)) hh M Sp Ot Sv T) (q := (RX7, TX7, 10)) ⟨hx, hcd, hml, hown, hts⟩ (c_X7_thrown l D cI cB cW cL z (xu x 7 (nI 2)) hh _ M ) (cwV 0 hts gL_law_X7_thrown rfl rfl rfl (by decide +kernel) ⟨Nat.le_of_ble_eq_true rfl, Nat.le_of_ble_eq_true rfl⟩) hK hP hD hS hA [95, 96] wLaw_MoC (by decide) wMo_adr2 wLaw_Mo 95 rfl rfl rfl hl.1 rfl (Nat.le_of_ble_eq_true rfl) dL_law_1127 ⟨hc, hs⟩ (fun H locs hP hD hS => ?_)
  refine kr_top (w := nI 2) rfl ?_
  refine lv_iload hx hcd dL_law_1130 (lv_at hl 1 rfl) ?_
  refine kr_ceq (tgt := 1137) hx hcd (by omega) (by omega) dL_law_1132 (by decide) (fun (c_1132 : 2 = 2) => ?_) (fun (c_1132 : ¬ 2 = 2) => absurd c_1132 (by omega))
  refine lv_iload hx hcd dL_law_1137 (lv_at hl 1 rfl) ?_
  refine kr_zne (tgt := 1154) hx hcd (by omega) dL_law_1139 (by decide) (fun (c_1139 : 0 < 2) => ?_) (fun (c_1139 : 2 = 0) => absurd c_1139 (by omega))
  refine lv_goto (tgt := 1812) hx hcd dL_law_1154 (by decide) ?_
  exact kk F N M S n r L T (xu x 7 (nI 2)) hh Sp Ot Sv (linv_x hV rfl rfl) H locs ls hP hD hS (lv_sub hl [2, 3, 4, 5, 6] rfl)

set_option maxHeartbeats 4000000 in
set_option maxRecDepth 100000 in
theorem law_areApart__e1 {pp : Program} {l : Launch} {ee : Env} {ss : State} {mm : MethodId} {below : List Frame} {meth : Method} {cc : Code} {bb Ls : Nat} {xs : Nat → Int32} {D : va_G} {cI cB cW cL : ClassId} (C : LFix pp l ss mm cc bb Ls xs D cI cB cW cL) {o : Nat} {F : Nat → Int64} {ob nw tr : Nat → Nat} {qs : Nat → Nat → Nat} {sc : Nat → Nat} {N : kM} {S : Nat → kM} {n r L : Nat} {T : Nat → Int32} {z : Nat → Nat} {x : Nat → Int32} {hh : Int64} {Sp Ot Sv : Nat → Int32} {M : kM} (hV : LInv M S n r L T Sv x) {i : Nat} (hi : i + 5 ≤ Ls)  (hg : g_why (xs (i + 1)) (xs (i + 2)) = nI 1) {H : Heap} {locs : List Loc} {ls : Array Slot} {cells slots : Nat} {Q : State → Prop} (hc : cells + 1 ≤ 601024) (hs : slots + 6 ≤ 7293034) (hP : va_P D vwCl (wLaw cI cB cW cL o F ob nw tr qs sc (g_rot qs r) M N S n L T z x hh M Sp Ot Sv T) H) (hD : va_D (fun q : Nat => ss.heap.size ≤ q) (wLaw cI cB cW cL o F ob nw tr qs sc (g_rot qs r) M N S n L T z x hh M Sp Ot Sv T)) (hS : va_S (fun q : Nat => ss.heap.size ≤ q) ss.heap H locs) (hl : lv_has ls 9 [(0, .ref bb), (1, .ref (ob 0)), (2, .ref (z 0)), (3, .ref o), (4, .int (nI i))]) (kk : LNext pp l ee ss mm below meth cc bb D cI cB cW cL o ob nw tr qs sc z i cells slots Q) : W pp l ee room_1 ss mm #[Value.ref bb] below meth cc H locs cells slots Q (F0 mm 1373 ls []) := by
  obtain ⟨hx, hcd, hml, hown, hts, hX, hbl, hst, hZ, hN, hK, hL9⟩ := C
  obtain ⟨hI, hn, hr, hL, hT, hx4, hx6, hsv⟩ := id hV
  have hA : ∀ q : Nat, ss.heap.size ≤ q → (fun q : Nat => ss.heap.size ≤ q) q := fun _ h => h
  have hbA : ¬ (fun q : Nat => ss.heap.size ≤ q) bb := Nat.not_le.mpr hbl
  refine lv_aload_n hx hcd dL_law_1373 rfl (lv_at hl 1 rfl) ?_
  refine lv_aload_n hx hcd dL_law_1374 rfl (lv_at hl 0 rfl) ?_
  refine lv_iload hx hcd dL_law_1375 (lv_at hl 4 rfl) ?_
  refine lv_iconst (v := nI 1) hx hcd dL_law_1377 (by decide) ?_
  refine kr_add hx hcd dL_law_1378 ?_
  refine kl_sld hx hcd hX hbl hbA hS (k := i + 1) (by omega) hL9 dL_law_1379 ?_
  refine lv_aload_n hx hcd dL_law_1380 rfl (lv_at hl 0 rfl) ?_
  refine lv_iload hx hcd dL_law_1381 (lv_at hl 4 rfl) ?_
  refine lv_iconst (v := nI 2) hx hcd dL_law_1383 (by decide) ?_
  refine kr_add hx hcd dL_law_1384 ?_
  refine kl_sld hx hcd hX hbl hbA hS (k := i + 2) (by omega) hL9 dL_law_1385 ?_
  refine lv_aload_n hx hcd dL_law_1386 rfl (lv_at hl 3 rfl) ?_
  refine kl_S (As := [.ref (ob 0), .int (xs (i + 1)), .int (xs (i + 2)), .ref o]) (rest := []) (ws2 := wLaw cI cB cW cL o F ob nw tr qs sc (g_rot qs r) M N S n L T z x hh M Sp Ot Sv T) ⟨hx, hcd, hml, hown, hts⟩ (c_L_areApart__e1 l hst D cI cB cW cL o F ob nw tr qs sc (g_rot qs r) N S n L T _ M (xs (i + 1)) (xs (i + 2)) hg) (vx_cwSW 4 hts gL_law_L_areApart rfl rfl rfl (by decide +kernel) ⟨Nat.le_of_ble_eq_true rfl, Nat.le_of_ble_eq_true rfl⟩) hZ hN hK hP hD hS hA [0, 1, 2, 3, 4, 5, 6, 7, 8, 9, 10, 11, 12, 13, 14, 15, 16, 17, 18, 19, 20, 21, 22, 23, 24, 25, 26, 27, 28, 29, 30, 31, 32, 33, 34, 35, 36, 37, 38, 39, 40, 41, 42, 43, 44, 45, 46, 47, 48, 49, 50, 51, 52, 53, 54, 55, 56, 57, 58, 59, 60, 61, 62, 63, 64, 65, 66, 67, 68, 69, 70, 71, 72, 73, 74, 75, 76, 77, 78, 79, 80, 81, 82, 83, 84, 85, 86, 87, 88, 89, 90, 91, 92, 93, 94] wLaw_LXC nd_LX wLX_adr wLaw_LX rfl hl.1 rfl (Nat.le_of_ble_eq_true rfl) dL_law_1387 ⟨hc, hs⟩ (fun H locs hP hD hS => ?_)
  refine lv_istore (lv' := [(5, .int (nI 1)), (0, .ref bb), (1, .ref (ob 0)), (2, .ref (z 0)), (3, .ref o), (4, .int (nI i))]) hx hcd dL_law_1390 hl (by decide) rfl (fun ls hl => ?_)
  refine lv_aload_n hx hcd dL_law_1392 rfl (lv_at hl 3 rfl) ?_
  refine lv_aload_n hx hcd dL_law_1393 rfl (lv_at hl 1 rfl) ?_
  refine lv_iload hx hcd dL_law_1394 (lv_at hl 5 rfl) ?_
  refine lv_iconst (v := nI 1) hx hcd dL_law_1396 (by decide) ?_
  refine kr_add hx hcd dL_law_1397 ?_
  refine kl_sld hx hcd hX hbl hbA hS (k := i + 1) (by omega) hL9 dL_law_1398 ?_
  refine lv_aload_n hx hcd dL_law_1399 rfl (lv_at hl 1 rfl) ?_
  refine lv_iload hx hcd dL_law_1400 (lv_at hl 5 rfl) ?_
  refine lv_iconst (v := nI 2) hx hcd dL_law_1402 (by decide) ?_
  refine kr_add hx hcd dL_law_1403 ?_
  refine kl_sld hx hcd hX hbl hbA hS (k := i + 2) (by omega) hL9 dL_law_1404 ?_
  refine kr_Vi (As := [.int (xs (i + 1)), .int (xs (i + 2))]) (rest := []) (ws2 := wLaw cI cB cW cL o F ob nw tr qs sc (g_rot qs r) M N S n L T z (xu x 7 (nI 1)) hh M Sp Ot Sv T) (q := (RX7, TX7, 10)) ⟨hx, hcd, hml, hown, hts⟩ (c_X7_areApart__bad l D cI cB cW cL z x hh _ M (xs (i + 1)) (xs (i + 2)) 1 hg (by omega)) (cwV 2 hts gL_law_X7_areApart rfl rfl rfl (by decide +kernel) ⟨Nat.le_of_ble_eq_true rfl, Nat.le_of_ble_eq_true rfl⟩) hK hP hD hS hA [95, 96] wLaw_MoC (by decide) wMo_adr2 wLaw_Mo 95 rfl rfl rfl hl.1 rfl (Nat.le_of_ble_eq_true rfl) dL_law_1405 ⟨hc, hs⟩ (fun H locs hP hD hS => ?_)
  refine lv_istore (lv' := [(6, .int (nI 0)), (5, .int (nI 1)), (0, .ref bb), (1, .ref (ob 0)), (2, .ref (z 0)), (3, .ref o), (4, .int (nI i))]) hx hcd dL_law_1408 hl (by decide) rfl (fun ls hl => ?_)
  refine lv_aload_n hx hcd dL_law_1410 rfl (lv_at hl 4 rfl) ?_
  refine kr_Vi (As := []) (rest := []) (ws2 := wLaw cI cB cW cL o F ob nw tr qs sc (g_rot qs r) M N S n L T z (xu x 7 (nI 1)) hh M Sp Ot Sv T) (q := (RX7, TX7, 10)) ⟨hx, hcd, hml, hown, hts⟩ (c_X7_thrown l D cI cB cW cL z (xu x 7 (nI 1)) hh _ M ) (cwV 0 hts gL_law_X7_thrown rfl rfl rfl (by decide +kernel) ⟨Nat.le_of_ble_eq_true rfl, Nat.le_of_ble_eq_true rfl⟩) hK hP hD hS hA [95, 96] wLaw_MoC (by decide) wMo_adr2 wLaw_Mo 95 rfl rfl rfl hl.1 rfl (Nat.le_of_ble_eq_true rfl) dL_law_1411 ⟨hc, hs⟩ (fun H locs hP hD hS => ?_)
  refine kr_top (w := nI 1) rfl ?_
  refine lv_iload hx hcd dL_law_1414 (lv_at hl 1 rfl) ?_
  refine kr_ceq (tgt := 1421) hx hcd (by omega) (by omega) dL_law_1416 (by decide) (fun (c_1416 : 1 = 1) => ?_) (fun (c_1416 : ¬ 1 = 1) => absurd c_1416 (by omega))
  refine lv_iload hx hcd dL_law_1421 (lv_at hl 1 rfl) ?_
  refine kr_zne (tgt := 1445) hx hcd (by omega) dL_law_1423 (by decide) (fun (c_1423 : 0 < 1) => ?_) (fun (c_1423 : 1 = 0) => absurd c_1423 (by omega))
  refine lv_goto (tgt := 1812) hx hcd dL_law_1445 (by decide) ?_
  exact kk F N M S n r L T (xu x 7 (nI 1)) hh Sp Ot Sv (linv_x hV rfl rfl) H locs ls hP hD hS (lv_sub hl [2, 3, 4, 5, 6] rfl)

set_option maxHeartbeats 4000000 in
set_option maxRecDepth 100000 in
theorem law_areApart__e2 {pp : Program} {l : Launch} {ee : Env} {ss : State} {mm : MethodId} {below : List Frame} {meth : Method} {cc : Code} {bb Ls : Nat} {xs : Nat → Int32} {D : va_G} {cI cB cW cL : ClassId} (C : LFix pp l ss mm cc bb Ls xs D cI cB cW cL) {o : Nat} {F : Nat → Int64} {ob nw tr : Nat → Nat} {qs : Nat → Nat → Nat} {sc : Nat → Nat} {N : kM} {S : Nat → kM} {n r L : Nat} {T : Nat → Int32} {z : Nat → Nat} {x : Nat → Int32} {hh : Int64} {Sp Ot Sv : Nat → Int32} {M : kM} (hV : LInv M S n r L T Sv x) {i : Nat} (hi : i + 5 ≤ Ls)  (hg : g_why (xs (i + 1)) (xs (i + 2)) = nI 2) {H : Heap} {locs : List Loc} {ls : Array Slot} {cells slots : Nat} {Q : State → Prop} (hc : cells + 1 ≤ 601024) (hs : slots + 6 ≤ 7293034) (hP : va_P D vwCl (wLaw cI cB cW cL o F ob nw tr qs sc (g_rot qs r) M N S n L T z x hh M Sp Ot Sv T) H) (hD : va_D (fun q : Nat => ss.heap.size ≤ q) (wLaw cI cB cW cL o F ob nw tr qs sc (g_rot qs r) M N S n L T z x hh M Sp Ot Sv T)) (hS : va_S (fun q : Nat => ss.heap.size ≤ q) ss.heap H locs) (hl : lv_has ls 9 [(0, .ref bb), (1, .ref (ob 0)), (2, .ref (z 0)), (3, .ref o), (4, .int (nI i))]) (kk : LNext pp l ee ss mm below meth cc bb D cI cB cW cL o ob nw tr qs sc z i cells slots Q) : W pp l ee room_1 ss mm #[Value.ref bb] below meth cc H locs cells slots Q (F0 mm 1373 ls []) := by
  obtain ⟨hx, hcd, hml, hown, hts, hX, hbl, hst, hZ, hN, hK, hL9⟩ := C
  obtain ⟨hI, hn, hr, hL, hT, hx4, hx6, hsv⟩ := id hV
  have hA : ∀ q : Nat, ss.heap.size ≤ q → (fun q : Nat => ss.heap.size ≤ q) q := fun _ h => h
  have hbA : ¬ (fun q : Nat => ss.heap.size ≤ q) bb := Nat.not_le.mpr hbl
  refine lv_aload_n hx hcd dL_law_1373 rfl (lv_at hl 1 rfl) ?_
  refine lv_aload_n hx hcd dL_law_1374 rfl (lv_at hl 0 rfl) ?_
  refine lv_iload hx hcd dL_law_1375 (lv_at hl 4 rfl) ?_
  refine lv_iconst (v := nI 1) hx hcd dL_law_1377 (by decide) ?_
  refine kr_add hx hcd dL_law_1378 ?_
  refine kl_sld hx hcd hX hbl hbA hS (k := i + 1) (by omega) hL9 dL_law_1379 ?_
  refine lv_aload_n hx hcd dL_law_1380 rfl (lv_at hl 0 rfl) ?_
  refine lv_iload hx hcd dL_law_1381 (lv_at hl 4 rfl) ?_
  refine lv_iconst (v := nI 2) hx hcd dL_law_1383 (by decide) ?_
  refine kr_add hx hcd dL_law_1384 ?_
  refine kl_sld hx hcd hX hbl hbA hS (k := i + 2) (by omega) hL9 dL_law_1385 ?_
  refine lv_aload_n hx hcd dL_law_1386 rfl (lv_at hl 3 rfl) ?_
  refine kl_S (As := [.ref (ob 0), .int (xs (i + 1)), .int (xs (i + 2)), .ref o]) (rest := []) (ws2 := wLaw cI cB cW cL o F ob nw tr qs sc (g_rot qs r) M N S n L T z x hh M Sp Ot Sv T) ⟨hx, hcd, hml, hown, hts⟩ (c_L_areApart__e2 l hst D cI cB cW cL o F ob nw tr qs sc (g_rot qs r) N S n L T _ M (xs (i + 1)) (xs (i + 2)) hg) (vx_cwSW 4 hts gL_law_L_areApart rfl rfl rfl (by decide +kernel) ⟨Nat.le_of_ble_eq_true rfl, Nat.le_of_ble_eq_true rfl⟩) hZ hN hK hP hD hS hA [0, 1, 2, 3, 4, 5, 6, 7, 8, 9, 10, 11, 12, 13, 14, 15, 16, 17, 18, 19, 20, 21, 22, 23, 24, 25, 26, 27, 28, 29, 30, 31, 32, 33, 34, 35, 36, 37, 38, 39, 40, 41, 42, 43, 44, 45, 46, 47, 48, 49, 50, 51, 52, 53, 54, 55, 56, 57, 58, 59, 60, 61, 62, 63, 64, 65, 66, 67, 68, 69, 70, 71, 72, 73, 74, 75, 76, 77, 78, 79, 80, 81, 82, 83, 84, 85, 86, 87, 88, 89, 90, 91, 92, 93, 94] wLaw_LXC nd_LX wLX_adr wLaw_LX rfl hl.1 rfl (Nat.le_of_ble_eq_true rfl) dL_law_1387 ⟨hc, hs⟩ (fun H locs hP hD hS => ?_)
  refine lv_istore (lv' := [(5, .int (nI 2)), (0, .ref bb), (1, .ref (ob 0)), (2, .ref (z 0)), (3, .ref o), (4, .int (nI i))]) hx hcd dL_law_1390 hl (by decide) rfl (fun ls hl => ?_)
  refine lv_aload_n hx hcd dL_law_1392 rfl (lv_at hl 3 rfl) ?_
  refine lv_aload_n hx hcd dL_law_1393 rfl (lv_at hl 1 rfl) ?_
  refine lv_iload hx hcd dL_law_1394 (lv_at hl 5 rfl) ?_
  refine lv_iconst (v := nI 1) hx hcd dL_law_1396 (by decide) ?_
  refine kr_add hx hcd dL_law_1397 ?_
  refine kl_sld hx hcd hX hbl hbA hS (k := i + 1) (by omega) hL9 dL_law_1398 ?_
  refine lv_aload_n hx hcd dL_law_1399 rfl (lv_at hl 1 rfl) ?_
  refine lv_iload hx hcd dL_law_1400 (lv_at hl 5 rfl) ?_
  refine lv_iconst (v := nI 2) hx hcd dL_law_1402 (by decide) ?_
  refine kr_add hx hcd dL_law_1403 ?_
  refine kl_sld hx hcd hX hbl hbA hS (k := i + 2) (by omega) hL9 dL_law_1404 ?_
  refine kr_Vi (As := [.int (xs (i + 1)), .int (xs (i + 2))]) (rest := []) (ws2 := wLaw cI cB cW cL o F ob nw tr qs sc (g_rot qs r) M N S n L T z (xu x 7 (nI 2)) hh M Sp Ot Sv T) (q := (RX7, TX7, 10)) ⟨hx, hcd, hml, hown, hts⟩ (c_X7_areApart__bad l D cI cB cW cL z x hh _ M (xs (i + 1)) (xs (i + 2)) 2 hg (by omega)) (cwV 2 hts gL_law_X7_areApart rfl rfl rfl (by decide +kernel) ⟨Nat.le_of_ble_eq_true rfl, Nat.le_of_ble_eq_true rfl⟩) hK hP hD hS hA [95, 96] wLaw_MoC (by decide) wMo_adr2 wLaw_Mo 95 rfl rfl rfl hl.1 rfl (Nat.le_of_ble_eq_true rfl) dL_law_1405 ⟨hc, hs⟩ (fun H locs hP hD hS => ?_)
  refine lv_istore (lv' := [(6, .int (nI 0)), (5, .int (nI 2)), (0, .ref bb), (1, .ref (ob 0)), (2, .ref (z 0)), (3, .ref o), (4, .int (nI i))]) hx hcd dL_law_1408 hl (by decide) rfl (fun ls hl => ?_)
  refine lv_aload_n hx hcd dL_law_1410 rfl (lv_at hl 4 rfl) ?_
  refine kr_Vi (As := []) (rest := []) (ws2 := wLaw cI cB cW cL o F ob nw tr qs sc (g_rot qs r) M N S n L T z (xu x 7 (nI 2)) hh M Sp Ot Sv T) (q := (RX7, TX7, 10)) ⟨hx, hcd, hml, hown, hts⟩ (c_X7_thrown l D cI cB cW cL z (xu x 7 (nI 2)) hh _ M ) (cwV 0 hts gL_law_X7_thrown rfl rfl rfl (by decide +kernel) ⟨Nat.le_of_ble_eq_true rfl, Nat.le_of_ble_eq_true rfl⟩) hK hP hD hS hA [95, 96] wLaw_MoC (by decide) wMo_adr2 wLaw_Mo 95 rfl rfl rfl hl.1 rfl (Nat.le_of_ble_eq_true rfl) dL_law_1411 ⟨hc, hs⟩ (fun H locs hP hD hS => ?_)
  refine kr_top (w := nI 2) rfl ?_
  refine lv_iload hx hcd dL_law_1414 (lv_at hl 1 rfl) ?_
  refine kr_ceq (tgt := 1421) hx hcd (by omega) (by omega) dL_law_1416 (by decide) (fun (c_1416 : 2 = 2) => ?_) (fun (c_1416 : ¬ 2 = 2) => absurd c_1416 (by omega))
  refine lv_iload hx hcd dL_law_1421 (lv_at hl 1 rfl) ?_
  refine kr_zne (tgt := 1445) hx hcd (by omega) dL_law_1423 (by decide) (fun (c_1423 : 0 < 2) => ?_) (fun (c_1423 : 2 = 0) => absurd c_1423 (by omega))
  refine lv_goto (tgt := 1812) hx hcd dL_law_1445 (by decide) ?_
  exact kk F N M S n r L T (xu x 7 (nI 2)) hh Sp Ot Sv (linv_x hV rfl rfl) H locs ls hP hD hS (lv_sub hl [2, 3, 4, 5, 6] rfl)

set_option maxHeartbeats 4000000 in
set_option maxRecDepth 100000 in
theorem law_agree__e1 {pp : Program} {l : Launch} {ee : Env} {ss : State} {mm : MethodId} {below : List Frame} {meth : Method} {cc : Code} {bb Ls : Nat} {xs : Nat → Int32} {D : va_G} {cI cB cW cL : ClassId} (C : LFix pp l ss mm cc bb Ls xs D cI cB cW cL) {o : Nat} {F : Nat → Int64} {ob nw tr : Nat → Nat} {qs : Nat → Nat → Nat} {sc : Nat → Nat} {N : kM} {S : Nat → kM} {n r L : Nat} {T : Nat → Int32} {z : Nat → Nat} {x : Nat → Int32} {hh : Int64} {Sp Ot Sv : Nat → Int32} {M : kM} (hV : LInv M S n r L T Sv x) {i : Nat} (hi : i + 5 ≤ Ls)  (hg : g_why (xs (i + 1)) (xs (i + 2)) = nI 1) {H : Heap} {locs : List Loc} {ls : Array Slot} {cells slots : Nat} {Q : State → Prop} (hc : cells + 1 ≤ 601024) (hs : slots + 6 ≤ 7293034) (hP : va_P D vwCl (wLaw cI cB cW cL o F ob nw tr qs sc (g_rot qs r) M N S n L T z x hh M Sp Ot Sv T) H) (hD : va_D (fun q : Nat => ss.heap.size ≤ q) (wLaw cI cB cW cL o F ob nw tr qs sc (g_rot qs r) M N S n L T z x hh M Sp Ot Sv T)) (hS : va_S (fun q : Nat => ss.heap.size ≤ q) ss.heap H locs) (hl : lv_has ls 9 [(0, .ref bb), (1, .ref (ob 0)), (2, .ref (z 0)), (3, .ref o), (4, .int (nI i))]) (kk : LNext pp l ee ss mm below meth cc bb D cI cB cW cL o ob nw tr qs sc z i cells slots Q) : W pp l ee room_1 ss mm #[Value.ref bb] below meth cc H locs cells slots Q (F0 mm 1448 ls []) := by
  obtain ⟨hx, hcd, hml, hown, hts, hX, hbl, hst, hZ, hN, hK, hL9⟩ := C
  obtain ⟨hI, hn, hr, hL, hT, hx4, hx6, hsv⟩ := id hV
  have hA : ∀ q : Nat, ss.heap.size ≤ q → (fun q : Nat => ss.heap.size ≤ q) q := fun _ h => h
  have hbA : ¬ (fun q : Nat => ss.heap.size ≤ q) bb := Nat.not_le.mpr hbl
  refine lv_aload_n hx hcd dL_law_1448 rfl (lv_at hl 1 rfl) ?_
  refine lv_aload_n hx hcd dL_law_1449 rfl (lv_at hl 0 rfl) ?_
  refine lv_iload hx hcd dL_law_1450 (lv_at hl 4 rfl) ?_
  refine lv_iconst (v := nI 1) hx hcd dL_law_1452 (by decide) ?_
  refine kr_add hx hcd dL_law_1453 ?_
  refine kl_sld hx hcd hX hbl hbA hS (k := i + 1) (by omega) hL9 dL_law_1454 ?_
  refine lv_aload_n hx hcd dL_law_1455 rfl (lv_at hl 0 rfl) ?_
  refine lv_iload hx hcd dL_law_1456 (lv_at hl 4 rfl) ?_
  refine lv_iconst (v := nI 2) hx hcd dL_law_1458 (by decide) ?_
  refine kr_add hx hcd dL_law_1459 ?_
  refine kl_sld hx hcd hX hbl hbA hS (k := i + 2) (by omega) hL9 dL_law_1460 ?_
  refine lv_aload_n hx hcd dL_law_1461 rfl (lv_at hl 3 rfl) ?_
  refine kl_S (As := [.ref (ob 0), .int (xs (i + 1)), .int (xs (i + 2)), .ref o]) (rest := []) (ws2 := wLaw cI cB cW cL o F ob nw tr qs sc (g_rot qs r) M N S n L T z x hh M Sp Ot Sv T) ⟨hx, hcd, hml, hown, hts⟩ (c_L_agree__e1 l hst D cI cB cW cL o F ob nw tr qs sc (g_rot qs r) N S n L T _ M (xs (i + 1)) (xs (i + 2)) hg) (vx_cwSW 4 hts gL_law_L_agree rfl rfl rfl (by decide +kernel) ⟨Nat.le_of_ble_eq_true rfl, Nat.le_of_ble_eq_true rfl⟩) hZ hN hK hP hD hS hA [0, 1, 2, 3, 4, 5, 6, 7, 8, 9, 10, 11, 12, 13, 14, 15, 16, 17, 18, 19, 20, 21, 22, 23, 24, 25, 26, 27, 28, 29, 30, 31, 32, 33, 34, 35, 36, 37, 38, 39, 40, 41, 42, 43, 44, 45, 46, 47, 48, 49, 50, 51, 52, 53, 54, 55, 56, 57, 58, 59, 60, 61, 62, 63, 64, 65, 66, 67, 68, 69, 70, 71, 72, 73, 74, 75, 76, 77, 78, 79, 80, 81, 82, 83, 84, 85, 86, 87, 88, 89, 90, 91, 92, 93, 94] wLaw_LXC nd_LX wLX_adr wLaw_LX rfl hl.1 rfl (Nat.le_of_ble_eq_true rfl) dL_law_1462 ⟨hc, hs⟩ (fun H locs hP hD hS => ?_)
  refine lv_istore (lv' := [(5, .int (nI 1)), (0, .ref bb), (1, .ref (ob 0)), (2, .ref (z 0)), (3, .ref o), (4, .int (nI i))]) hx hcd dL_law_1465 hl (by decide) rfl (fun ls hl => ?_)
  refine lv_aload_n hx hcd dL_law_1467 rfl (lv_at hl 3 rfl) ?_
  refine lv_aload_n hx hcd dL_law_1468 rfl (lv_at hl 1 rfl) ?_
  refine lv_iload hx hcd dL_law_1469 (lv_at hl 5 rfl) ?_
  refine lv_iconst (v := nI 1) hx hcd dL_law_1471 (by decide) ?_
  refine kr_add hx hcd dL_law_1472 ?_
  refine kl_sld hx hcd hX hbl hbA hS (k := i + 1) (by omega) hL9 dL_law_1473 ?_
  refine lv_aload_n hx hcd dL_law_1474 rfl (lv_at hl 1 rfl) ?_
  refine lv_iload hx hcd dL_law_1475 (lv_at hl 5 rfl) ?_
  refine lv_iconst (v := nI 2) hx hcd dL_law_1477 (by decide) ?_
  refine kr_add hx hcd dL_law_1478 ?_
  refine kl_sld hx hcd hX hbl hbA hS (k := i + 2) (by omega) hL9 dL_law_1479 ?_
  refine kr_Vi (As := [.int (xs (i + 1)), .int (xs (i + 2))]) (rest := []) (ws2 := wLaw cI cB cW cL o F ob nw tr qs sc (g_rot qs r) M N S n L T z (xu x 7 (nI 1)) hh M Sp Ot Sv T) (q := (RX7, TX7, 10)) ⟨hx, hcd, hml, hown, hts⟩ (c_X7_agree__bad l D cI cB cW cL z x hh _ M (xs (i + 1)) (xs (i + 2)) 1 hg (by omega)) (cwV 2 hts gL_law_X7_agree rfl rfl rfl (by decide +kernel) ⟨Nat.le_of_ble_eq_true rfl, Nat.le_of_ble_eq_true rfl⟩) hK hP hD hS hA [95, 96] wLaw_MoC (by decide) wMo_adr2 wLaw_Mo 95 rfl rfl rfl hl.1 rfl (Nat.le_of_ble_eq_true rfl) dL_law_1480 ⟨hc, hs⟩ (fun H locs hP hD hS => ?_)
  refine lv_istore (lv' := [(6, .int (nI 0)), (5, .int (nI 1)), (0, .ref bb), (1, .ref (ob 0)), (2, .ref (z 0)), (3, .ref o), (4, .int (nI i))]) hx hcd dL_law_1483 hl (by decide) rfl (fun ls hl => ?_)
  refine lv_aload_n hx hcd dL_law_1485 rfl (lv_at hl 4 rfl) ?_
  refine kr_Vi (As := []) (rest := []) (ws2 := wLaw cI cB cW cL o F ob nw tr qs sc (g_rot qs r) M N S n L T z (xu x 7 (nI 1)) hh M Sp Ot Sv T) (q := (RX7, TX7, 10)) ⟨hx, hcd, hml, hown, hts⟩ (c_X7_thrown l D cI cB cW cL z (xu x 7 (nI 1)) hh _ M ) (cwV 0 hts gL_law_X7_thrown rfl rfl rfl (by decide +kernel) ⟨Nat.le_of_ble_eq_true rfl, Nat.le_of_ble_eq_true rfl⟩) hK hP hD hS hA [95, 96] wLaw_MoC (by decide) wMo_adr2 wLaw_Mo 95 rfl rfl rfl hl.1 rfl (Nat.le_of_ble_eq_true rfl) dL_law_1486 ⟨hc, hs⟩ (fun H locs hP hD hS => ?_)
  refine kr_top (w := nI 1) rfl ?_
  refine lv_iload hx hcd dL_law_1489 (lv_at hl 1 rfl) ?_
  refine kr_ceq (tgt := 1496) hx hcd (by omega) (by omega) dL_law_1491 (by decide) (fun (c_1491 : 1 = 1) => ?_) (fun (c_1491 : ¬ 1 = 1) => absurd c_1491 (by omega))
  refine lv_iload hx hcd dL_law_1496 (lv_at hl 1 rfl) ?_
  refine kr_zne (tgt := 1520) hx hcd (by omega) dL_law_1498 (by decide) (fun (c_1498 : 0 < 1) => ?_) (fun (c_1498 : 1 = 0) => absurd c_1498 (by omega))
  refine lv_goto (tgt := 1812) hx hcd dL_law_1520 (by decide) ?_
  exact kk F N M S n r L T (xu x 7 (nI 1)) hh Sp Ot Sv (linv_x hV rfl rfl) H locs ls hP hD hS (lv_sub hl [2, 3, 4, 5, 6] rfl)
