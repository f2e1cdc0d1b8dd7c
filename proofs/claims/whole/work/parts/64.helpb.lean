set_option maxHeartbeats 4000000 in
set_option maxRecDepth 100000 in
theorem c_L_bestSeat__e1 (l : Launch) (hst : l.stackTraces = false) (D : va_G) (cI cB cW cL : ClassId) (o : Nat) (F : Nat → Int64) (ob nw tr : Nat → Nat) (qs : Nat → Nat → Nat) (sc : Nat → Nat) (G : Nat → Option Nat) (N : kM) (S : Nat → kM) (n L : Nat) (T : Nat → Int32) (sz : Nat) (M : kM) (u : Int32) (hg : g_usr u = false) : kMh l yL_bestSeat wsL_bestSeat ({ frames := 8, cells := 1, slots := 6, locals := 123 }) D vwCl (kT cI cB cW cL) sz [.ref (ob 0), .int u, .ref o] (wLX cI cB cW cL o F ob nw tr qs sc G M N S n L T) (wLX cI cB cW cL o F ob nw tr qs sc G M N S n L T) 1 := by
  refine kr_ofh (cc := cL_bestSeat) (maxL := 4) (ret := (some .int)) (hh := [(0, 9, 12, 13)]) (by decide) rfl (Nat.le_of_ble_eq_true rfl) ?_
  intro pp ee ss mm args below meth cc AA ls hx hcd hr hTab hts hown hlocks hml hZ hN hK hP hD hA hl
  have hS : va_S AA ss.heap ss.heap [] := va_S.rf
  have hown : ss.vm.findClass RL = some mm.cls := hown
  have hl : lv_has ls 4 [(0, .ref (ob 0)), (1, .int u), (2, .ref o)] := hl
  refine lv_aload_n hx hcd dL_bestSeat_0 rfl (lv_at hl 2 rfl) ?_
  refine lv_iconst (v := nI 0) hx hcd dL_bestSeat_1 (by decide) ?_
  refine lv_aload_n hx hcd dL_bestSeat_2 rfl (lv_at hl 0 rfl) ?_
  refine lv_iload_n hx hcd dL_bestSeat_3 rfl (lv_at hl 1 rfl) ?_
  refine kl_V (As := [.int u]) (rest := [.int (nI 0), .ref o]) (q := (RX6, TX6, 5)) ⟨hx, hcd, hml, hown, hts⟩ (c_X6_bestSeat__e1 l D cI cB cW cL  _ M hst u (ob 0) hg) (cwV 1 hts gL_bestSeat_X6_bestSeat rfl rfl rfl (by decide +kernel) ⟨Nat.le_of_ble_eq_true rfl, Nat.le_of_ble_eq_true rfl⟩) hZ hK hP hD hS hA [] rfl (by decide) 1 rfl rfl rfl hl.1 rfl (Nat.le_of_ble_eq_true rfl) dL_bestSeat_4 ⟨Nat.le_of_ble_eq_true rfl, Nat.le_of_ble_eq_true rfl⟩ [] ⟨0, 9, 12, 13⟩ [] hTab (fun z hz => absurd hz List.not_mem_nil) (by decide) (by decide) (hts (.classLink RL 13 "java/lang/IndexOutOfBoundsException") (by decide +kernel)) (va_Nw.use rfl (hZ.2.2.2 (.castable "java/lang/IndexOutOfBoundsException" "java/lang/IndexOutOfBoundsException") (by decide +kernel))) (fun H locs q9 hP hD hS => ?_)
  refine lv_astore_n (lv' := [(3, .ref q9), (0, .ref (ob 0)), (1, .int u), (2, .ref o)]) hx hcd dL_bestSeat_12 rfl hl (by decide) rfl (fun ls hl => ?_)
  refine lv_iconst (v := nI 1) hx hcd dL_bestSeat_13 (by decide) ?_
  exact kr_iret hx hcd hr hlocks hK hP hD hS rfl rfl dL_bestSeat_14

set_option maxHeartbeats 4000000 in
set_option maxRecDepth 100000 in
theorem c_L_seat__ok (l : Launch) (hst : l.stackTraces = false) (D : va_G) (cI cB cW cL : ClassId) (o : Nat) (F : Nat → Int64) (ob nw tr : Nat → Nat) (qs : Nat → Nat → Nat) (sc : Nat → Nat) (G : Nat → Option Nat) (N : kM) (S : Nat → kM) (n L : Nat) (T : Nat → Int32) (sz : Nat) (M : kM) (a : Nat) (s : Nat) (wh : Nat) (ha : a < 6) (hs : s < 3) (hwh : wh < 3) : kMh l yL_seat wsL_seat ({ frames := 9, cells := 1, slots := 6, locals := 146 }) D vwCl (kT cI cB cW cL) sz [.ref (ob 0), .int (nI a), .int (nI s), .int (nI wh), .ref o] (wLX cI cB cW cL o F ob nw tr qs sc G M N S n L T) (wLX cI cB cW cL o (vp_updL F 0 (((M (9 * a + 3 * s + wh)) : Int32).toInt64)) ob nw tr qs sc G M N S n L T) 0 := by
  refine kr_ofh (cc := cL_seat) (maxL := 6) (ret := (some .int)) (hh := [(0, 12, 15, 13), (0, 12, 19, 15)]) (by decide) rfl (Nat.le_of_ble_eq_true rfl) ?_
  intro pp ee ss mm args below meth cc AA ls hx hcd hr hTab hts hown hlocks hml hZ hN hK hP hD hA hl
  have hS : va_S AA ss.heap ss.heap [] := va_S.rf
  have hown : ss.vm.findClass RL = some mm.cls := hown
  have hl : lv_has ls 6 [(0, .ref (ob 0)), (1, .int (nI a)), (2, .int (nI s)), (3, .int (nI wh)), (4, .ref o)] := hl
  refine lv_aload hx hcd dL_seat_0 (lv_at hl 4 rfl) ?_
  refine lv_iconst (v := nI 0) hx hcd dL_seat_2 (by decide) ?_
  refine lv_aload_n hx hcd dL_seat_3 rfl (lv_at hl 0 rfl) ?_
  refine lv_iload_n hx hcd dL_seat_4 rfl (lv_at hl 1 rfl) ?_
  refine lv_iload_n hx hcd dL_seat_5 rfl (lv_at hl 2 rfl) ?_
  refine lv_iload_n hx hcd dL_seat_6 rfl (lv_at hl 3 rfl) ?_
  refine kr_Vi (As := [.int (nI a), .int (nI s), .int (nI wh)]) (rest := [.int (nI 0), .ref o]) (ws2 := wLX cI cB cW cL o F ob nw tr qs sc G M N S n L T) (q := (RX6, TX6, 5)) ⟨hx, hcd, hml, hown, hts⟩ (c_X6_seat__ok l D cI cB cW cL ob nw tr qs sc G N S n L T _ M a s wh ha hs hwh) (cwV 3 hts gL_seat_X6_seat rfl rfl rfl (by decide +kernel) ⟨Nat.le_of_ble_eq_true rfl, Nat.le_of_ble_eq_true rfl⟩) hK hP hD hS hA [1, 2, 3, 4, 5, 6, 7, 8, 9, 10, 11, 12, 13, 14, 15, 16, 17, 18, 19, 20, 21, 22, 23, 24, 25, 26, 27, 28, 29, 30, 31, 32, 33, 34, 35, 36, 37, 38, 39, 40, 41, 42, 43, 44, 45, 46, 47, 48, 49, 50, 51, 52, 53, 54, 55, 56, 57, 58, 59, 60, 61, 62, 63, 64, 65, 66, 67, 68, 69, 70, 71, 72, 73, 74, 75, 76, 77, 78, 79, 80, 81, 82, 83, 84, 85, 86, 87, 88, 89, 90, 91, 92, 93, 94] wLX_XC wX_nd2 wX_adr wLX_X 1 rfl rfl rfl hl.1 rfl (Nat.le_of_ble_eq_true rfl) dL_seat_7 ⟨Nat.zero_le _, Nat.zero_le _⟩ (fun H locs hP hD hS => ?_)
  refine lv_i2l hx hcd dL_seat_10 rfl ?_
  refine kl_last hx hcd hK hP hD hS 0 3 rfl rfl (by omega) (by decide) (ws2 := wLX cI cB cW cL o (vp_updL F 0 ((M (9 * a + 3 * s + wh) : Int32).toInt64)) ob nw tr qs sc G M N S n L T) rfl dL_seat_11 (fun H locs hP hD hS => ?_)
  refine lv_goto (tgt := 23) hx hcd dL_seat_12 (by decide) ?_
  refine lv_iconst (v := nI 0) hx hcd dL_seat_23 (by decide) ?_
  refine W.widen (k := 1) (n := 6) (Nat.zero_le _) (Nat.zero_le _) ?_
  exact kr_iret hx hcd hr hlocks hK hP hD hS rfl rfl dL_seat_24

set_option maxHeartbeats 4000000 in
set_option maxRecDepth 100000 in
theorem c_L_seat__e1 (l : Launch) (hst : l.stackTraces = false) (D : va_G) (cI cB cW cL : ClassId) (o : Nat) (F : Nat → Int64) (ob nw tr : Nat → Nat) (qs : Nat → Nat → Nat) (sc : Nat → Nat) (G : Nat → Option Nat) (N : kM) (S : Nat → kM) (n L : Nat) (T : Nat → Int32) (sz : Nat) (M : kM) (u : Int32) (w : Int32) (t : Int32) (hg : g_seatok u w = false) : kMh l yL_seat wsL_seat ({ frames := 9, cells := 1, slots := 6, locals := 146 }) D vwCl (kT cI cB cW cL) sz [.ref (ob 0), .int u, .int w, .int t, .ref o] (wLX cI cB cW cL o F ob nw tr qs sc G M N S n L T) (wLX cI cB cW cL o F ob nw tr qs sc G M N S n L T) 1 := by
  refine kr_ofh (cc := cL_seat) (maxL := 6) (ret := (some .int)) (hh := [(0, 12, 15, 13), (0, 12, 19, 15)]) (by decide) rfl (Nat.le_of_ble_eq_true rfl) ?_
  intro pp ee ss mm args below meth cc AA ls hx hcd hr hTab hts hown hlocks hml hZ hN hK hP hD hA hl
  have hS : va_S AA ss.heap ss.heap [] := va_S.rf
  have hown : ss.vm.findClass RL = some mm.cls := hown
  have hl : lv_has ls 6 [(0, .ref (ob 0)), (1, .int u), (2, .int w), (3, .int t), (4, .ref o)] := hl
  refine lv_aload hx hcd dL_seat_0 (lv_at hl 4 rfl) ?_
  refine lv_iconst (v := nI 0) hx hcd dL_seat_2 (by decide) ?_
  refine lv_aload_n hx hcd dL_seat_3 rfl (lv_at hl 0 rfl) ?_
  refine lv_iload_n hx hcd dL_seat_4 rfl (lv_at hl 1 rfl) ?_
  refine lv_iload_n hx hcd dL_seat_5 rfl (lv_at hl 2 rfl) ?_
  refine lv_iload_n hx hcd dL_seat_6 rfl (lv_at hl 3 rfl) ?_
  refine kl_V (As := [.int u, .int w, .int t]) (rest := [.int (nI 0), .ref o]) (q := (RX6, TX6, 5)) ⟨hx, hcd, hml, hown, hts⟩ (c_X6_seat__e1 l D cI cB cW cL  _ M hst u w t (ob 0) hg) (cwV 3 hts gL_seat_X6_seat rfl rfl rfl (by decide +kernel) ⟨Nat.le_of_ble_eq_true rfl, Nat.le_of_ble_eq_true rfl⟩) hZ hK hP hD hS hA [] rfl (by decide) 1 rfl rfl rfl hl.1 rfl (Nat.le_of_ble_eq_true rfl) dL_seat_7 ⟨Nat.le_of_ble_eq_true rfl, Nat.le_of_ble_eq_true rfl⟩ [] ⟨0, 12, 15, 13⟩ [⟨0, 12, 19, 15⟩] hTab (fun z hz => absurd hz List.not_mem_nil) (by decide) (by decide) (hts (.classLink RL 13 "java/lang/IndexOutOfBoundsException") (by decide +kernel)) (va_Nw.use rfl (hZ.2.2.2 (.castable "java/lang/IndexOutOfBoundsException" "java/lang/IndexOutOfBoundsException") (by decide +kernel))) (fun H locs q9 hP hD hS => ?_)
  refine lv_astore (lv' := [(5, .ref q9), (0, .ref (ob 0)), (1, .int u), (2, .int w), (3, .int t), (4, .ref o)]) hx hcd dL_seat_15 hl (by decide) rfl (fun ls hl => ?_)
  refine lv_iconst (v := nI 1) hx hcd dL_seat_17 (by decide) ?_
  exact kr_iret hx hcd hr hlocks hK hP hD hS rfl rfl dL_seat_18

set_option maxHeartbeats 4000000 in
set_option maxRecDepth 100000 in
theorem c_L_seat__e2 (l : Launch) (hst : l.stackTraces = false) (D : va_G) (cI cB cW cL : ClassId) (o : Nat) (F : Nat → Int64) (ob nw tr : Nat → Nat) (qs : Nat → Nat → Nat) (sc : Nat → Nat) (G : Nat → Option Nat) (N : kM) (S : Nat → kM) (n L : Nat) (T : Nat → Int32) (sz : Nat) (M : kM) (a : Nat) (s : Nat) (t : Int32) (ha : a < 6) (hs : s < 3) (hg : g_in t 0 2 = false) : kMh l yL_seat wsL_seat ({ frames := 9, cells := 1, slots := 6, locals := 146 }) D vwCl (kT cI cB cW cL) sz [.ref (ob 0), .int (nI a), .int (nI s), .int t, .ref o] (wLX cI cB cW cL o F ob nw tr qs sc G M N S n L T) (wLX cI cB cW cL o F ob nw tr qs sc G M N S n L T) 2 := by
  refine kr_ofh (cc := cL_seat) (maxL := 6) (ret := (some .int)) (hh := [(0, 12, 15, 13), (0, 12, 19, 15)]) (by decide) rfl (Nat.le_of_ble_eq_true rfl) ?_
  intro pp ee ss mm args below meth cc AA ls hx hcd hr hTab hts hown hlocks hml hZ hN hK hP hD hA hl
  have hS : va_S AA ss.heap ss.heap [] := va_S.rf
  have hown : ss.vm.findClass RL = some mm.cls := hown
  have hl : lv_has ls 6 [(0, .ref (ob 0)), (1, .int (nI a)), (2, .int (nI s)), (3, .int t), (4, .ref o)] := hl
  refine lv_aload hx hcd dL_seat_0 (lv_at hl 4 rfl) ?_
  refine lv_iconst (v := nI 0) hx hcd dL_seat_2 (by decide) ?_
  refine lv_aload_n hx hcd dL_seat_3 rfl (lv_at hl 0 rfl) ?_
  refine lv_iload_n hx hcd dL_seat_4 rfl (lv_at hl 1 rfl) ?_
  refine lv_iload_n hx hcd dL_seat_5 rfl (lv_at hl 2 rfl) ?_
  refine lv_iload_n hx hcd dL_seat_6 rfl (lv_at hl 3 rfl) ?_
  refine kl_V (As := [.int (nI a), .int (nI s), .int t]) (rest := [.int (nI 0), .ref o]) (q := (RX6, TX6, 5)) ⟨hx, hcd, hml, hown, hts⟩ (c_X6_seat__e2 l D cI cB cW cL  _ M hst a s t (ob 0) ha hs hg) (cwV 3 hts gL_seat_X6_seat rfl rfl rfl (by decide +kernel) ⟨Nat.le_of_ble_eq_true rfl, Nat.le_of_ble_eq_true rfl⟩) hZ hK hP hD hS hA [] rfl (by decide) 1 rfl rfl rfl hl.1 rfl (Nat.le_of_ble_eq_true rfl) dL_seat_7 ⟨Nat.le_of_ble_eq_true rfl, Nat.le_of_ble_eq_true rfl⟩ [⟨0, 12, 15, 13⟩] ⟨0, 12, 19, 15⟩ [] hTab (fun z hz => Or.inr (by rw [List.mem_singleton.mp hz]; exact ⟨by decide, eIO, hts (.classLink RL 13 "java/lang/IndexOutOfBoundsException") (by decide +kernel), hN _ (List.mem_of_getElem? (i := 0) rfl)⟩)) (by decide) (by decide) (hts (.classLink RL 15 "java/lang/IllegalArgumentException") (by decide +kernel)) (va_Nw.use rfl (hZ.2.2.2 (.castable "java/lang/IllegalArgumentException" "java/lang/IllegalArgumentException") (by decide +kernel))) (fun H locs q9 hP hD hS => ?_)
  refine lv_astore (lv' := [(5, .ref q9), (0, .ref (ob 0)), (1, .int (nI a)), (2, .int (nI s)), (3, .int t), (4, .ref o)]) hx hcd dL_seat_19 hl (by decide) rfl (fun ls hl => ?_)
  refine lv_iconst (v := nI 2) hx hcd dL_seat_21 (by decide) ?_
  exact kr_iret hx hcd hr hlocks hK hP hD hS rfl rfl dL_seat_22

set_option maxHeartbeats 4000000 in
set_option maxRecDepth 100000 in
theorem c_L_deliver__ok (l : Launch) (hst : l.stackTraces = false) (D : va_G) (cI cB cW cL : ClassId) (o : Nat) (F : Nat → Int64) (ob nw tr : Nat → Nat) (qs : Nat → Nat → Nat) (sc : Nat → Nat) (G : Nat → Option Nat) (N : kM) (S : Nat → kM) (n L : Nat) (T : Nat → Int32) (sz : Nat) (M : kM) (c : Nat) (r : Nat) (hI : kInv M) (hc : c ≤ 1000) (hn : n ≤ 4) (hr : r < 4) : kMh l yL_deliver wsL_deliver ({ frames := 7, cells := 1, slots := 6, locals := 163 }) D vwCl (kT cI cB cW cL) sz [.ref (ob 0), .int (nI c), .ref o] (wLX cI cB cW cL o F ob nw tr qs sc (g_rot qs r) M N S n L T) (wLX cI cB cW cL o (vp_updL F 0 ((nI (g_delC c M) : Int32).toInt64)) ob nw tr qs sc (g_rot qs (rj n r)) (g_del c M) N (sset S (pj n r) M) (g_kn n) L T) 0 := by
  refine kr_ofh (cc := cL_deliver) (maxL := 4) (ret := (some .int)) (hh := [(0, 9, 12, 15)]) (by decide) rfl (Nat.le_of_ble_eq_true rfl) ?_
  intro pp ee ss mm args below meth cc AA ls hx hcd hr hTab hts hown hlocks hml hZ hN hK hP hD hA hl
  have hS : va_S AA ss.heap ss.heap [] := va_S.rf
  have hown : ss.vm.findClass RL = some mm.cls := hown
  have hl : lv_has ls 4 [(0, .ref (ob 0)), (1, .int (nI c)), (2, .ref o)] := hl
  refine lv_aload_n hx hcd dL_deliver_0 rfl (lv_at hl 2 rfl) ?_
  refine lv_iconst (v := nI 0) hx hcd dL_deliver_1 (by decide) ?_
  refine lv_aload_n hx hcd dL_deliver_2 rfl (lv_at hl 0 rfl) ?_
  refine lv_iload_n hx hcd dL_deliver_3 rfl (lv_at hl 1 rfl) ?_
  refine kr_Vi (As := [.int (nI c)]) (rest := [.int (nI 0), .ref o]) (ws2 := wLX cI cB cW cL o F ob nw tr qs sc (g_rot qs (rj n r)) (g_del c M) N (sset S (pj n r) M) (g_kn n) L T) (q := (RX6, TX6, 5)) ⟨hx, hcd, hml, hown, hts⟩ (c_X6_deliver__ok l D cI cB cW cL ob nw tr qs sc (g_rot qs r) N S n L T _ M c r hI hc hn (by omega)) (cwV 1 hts gL_deliver_X6_deliver rfl rfl rfl (by decide +kernel) ⟨Nat.le_of_ble_eq_true rfl, Nat.le_of_ble_eq_true rfl⟩) hK hP hD hS hA [1, 2, 3, 4, 5, 6, 7, 8, 9, 10, 11, 12, 13, 14, 15, 16, 17, 18, 19, 20, 21, 22, 23, 24, 25, 26, 27, 28, 29, 30, 31, 32, 33, 34, 35, 36, 37, 38, 39, 40, 41, 42, 43, 44, 45, 46, 47, 48, 49, 50, 51, 52, 53, 54, 55, 56, 57, 58, 59, 60, 61, 62, 63, 64, 65, 66, 67, 68, 69, 70, 71, 72, 73, 74, 75, 76, 77, 78, 79, 80, 81, 82, 83, 84, 85, 86, 87, 88, 89, 90, 91, 92, 93, 94] wLX_XC wX_nd2 wX_adr wLX_X 1 rfl rfl rfl hl.1 rfl (Nat.le_of_ble_eq_true rfl) dL_deliver_4 ⟨Nat.zero_le _, Nat.zero_le _⟩ (fun H locs hP hD hS => ?_)
  refine lv_i2l hx hcd dL_deliver_7 rfl ?_
  refine kl_last hx hcd hK hP hD hS 0 3 rfl rfl (by omega) (by decide) (ws2 := wLX cI cB cW cL o (vp_updL F 0 ((nI (g_delC c M) : Int32).toInt64)) ob nw tr qs sc (g_rot qs (rj n r)) (g_del c M) N (sset S (pj n r) M) (g_kn n) L T) rfl dL_deliver_8 (fun H locs hP hD hS => ?_)
  refine lv_goto (tgt := 15) hx hcd dL_deliver_9 (by decide) ?_
  refine lv_iconst (v := nI 0) hx hcd dL_deliver_15 (by decide) ?_
  refine W.widen (k := 1) (n := 6) (Nat.zero_le _) (Nat.zero_le _) ?_
  exact kr_iret hx hcd hr hlocks hK hP hD hS rfl rfl dL_deliver_16

set_option maxHeartbeats 4000000 in
set_option maxRecDepth 100000 in
theorem c_L_deliver__e1 (l : Launch) (hst : l.stackTraces = false) (D : va_G) (cI cB cW cL : ClassId) (o : Nat) (F : Nat → Int64) (ob nw tr : Nat → Nat) (qs : Nat → Nat → Nat) (sc : Nat → Nat) (G : Nat → Option Nat) (N : kM) (S : Nat → kM) (n L : Nat) (T : Nat → Int32) (sz : Nat) (M : kM) (u : Int32) (hg : g_in u 0 1000 = false) : kMh l yL_deliver wsL_deliver ({ frames := 7, cells := 1, slots := 6, locals := 163 }) D vwCl (kT cI cB cW cL) sz [.ref (ob 0), .int u, .ref o] (wLX cI cB cW cL o F ob nw tr qs sc G M N S n L T) (wLX cI cB cW cL o F ob nw tr qs sc G M N S n L T) 1 := by
  refine kr_ofh (cc := cL_deliver) (maxL := 4) (ret := (some .int)) (hh := [(0, 9, 12, 15)]) (by decide) rfl (Nat.le_of_ble_eq_true rfl) ?_
  intro pp ee ss mm args below meth cc AA ls hx hcd hr hTab hts hown hlocks hml hZ hN hK hP hD hA hl
  have hS : va_S AA ss.heap ss.heap [] := va_S.rf
  have hown : ss.vm.findClass RL = some mm.cls := hown
  have hl : lv_has ls 4 [(0, .ref (ob 0)), (1, .int u), (2, .ref o)] := hl
  refine lv_aload_n hx hcd dL_deliver_0 rfl (lv_at hl 2 rfl) ?_
  refine lv_iconst (v := nI 0) hx hcd dL_deliver_1 (by decide) ?_
  refine lv_aload_n hx hcd dL_deliver_2 rfl (lv_at hl 0 rfl) ?_
  refine lv_iload_n hx hcd dL_deliver_3 rfl (lv_at hl 1 rfl) ?_
  refine kl_V (As := [.int u]) (rest := [.int (nI 0), .ref o]) (q := (RX6, TX6, 5)) ⟨hx, hcd, hml, hown, hts⟩ (c_X6_deliver__e1 l D cI cB cW cL  _ M hst u (ob 0) hg) (cwV 1 hts gL_deliver_X6_deliver rfl rfl rfl (by decide +kernel) ⟨Nat.le_of_ble_eq_true rfl, Nat.le_of_ble_eq_true rfl⟩) hZ hK hP hD hS hA [] rfl (by decide) 1 rfl rfl rfl hl.1 rfl (Nat.le_of_ble_eq_true rfl) dL_deliver_4 ⟨Nat.le_of_ble_eq_true rfl, Nat.le_of_ble_eq_true rfl⟩ [] ⟨0, 9, 12, 15⟩ [] hTab (fun z hz => absurd hz List.not_mem_nil) (by decide) (by decide) (hts (.classLink RL 15 "java/lang/IllegalArgumentException") (by decide +kernel)) (va_Nw.use rfl (hZ.2.2.2 (.castable "java/lang/IllegalArgumentException" "java/lang/IllegalArgumentException") (by decide +kernel))) (fun H locs q9 hP hD hS => ?_)
  refine lv_astore_n (lv' := [(3, .ref q9), (0, .ref (ob 0)), (1, .int u), (2, .ref o)]) hx hcd dL_deliver_12 rfl hl (by decide) rfl (fun ls hl => ?_)
  refine lv_iconst (v := nI 1) hx hcd dL_deliver_13 (by decide) ?_
  exact kr_iret hx hcd hr hlocks hK hP hD hS rfl rfl dL_deliver_14

set_option maxHeartbeats 4000000 in
set_option maxRecDepth 100000 in
theorem c_L_lose__ok (l : Launch) (hst : l.stackTraces = false) (D : va_G) (cI cB cW cL : ClassId) (o : Nat) (F : Nat → Int64) (ob nw tr : Nat → Nat) (qs : Nat → Nat → Nat) (sc : Nat → Nat) (G : Nat → Option Nat) (N : kM) (S : Nat → kM) (n L : Nat) (T : Nat → Int32) (sz : Nat) (M : kM) (i : Nat) (r : Nat) (hI : kInv M) (hi : i < wyN M) (hn : n ≤ 4) (hr : r < 4) : kMh l yL_lose wsL_lose ({ frames := 8, cells := 1, slots := 6, locals := 163 }) D vwCl (kT cI cB cW cL) sz [.ref (ob 0), .int (nI i), .ref o] (wLX cI cB cW cL o F ob nw tr qs sc (g_rot qs r) M N S n L T) (wLX cI cB cW cL o (vp_updL F 0 (((g_part (g_msg M i) 0) : Int32).toInt64)) ob nw tr qs sc (g_rot qs (rj n r)) (g_drop M i) N (sset S (pj n r) M) (g_kn n) L T) 0 := by
  refine kr_ofh (cc := cL_lose) (maxL := 4) (ret := (some .int)) (hh := [(0, 9, 12, 13)]) (by decide) rfl (Nat.le_of_ble_eq_true rfl) ?_
  intro pp ee ss mm args below meth cc AA ls hx hcd hr hTab hts hown hlocks hml hZ hN hK hP hD hA hl
  have hS : va_S AA ss.heap ss.heap [] := va_S.rf
  have hown : ss.vm.findClass RL = some mm.cls := hown
  have hl : lv_has ls 4 [(0, .ref (ob 0)), (1, .int (nI i)), (2, .ref o)] := hl
  refine lv_aload_n hx hcd dL_lose_0 rfl (lv_at hl 2 rfl) ?_
  refine lv_iconst (v := nI 0) hx hcd dL_lose_1 (by decide) ?_
  refine lv_aload_n hx hcd dL_lose_2 rfl (lv_at hl 0 rfl) ?_
  refine lv_iload_n hx hcd dL_lose_3 rfl (lv_at hl 1 rfl) ?_
  refine kr_Vi (As := [.int (nI i)]) (rest := [.int (nI 0), .ref o]) (ws2 := wLX cI cB cW cL o F ob nw tr qs sc (g_rot qs (rj n r)) (g_drop M i) N (sset S (pj n r) M) (g_kn n) L T) (q := (RX6, TX6, 5)) ⟨hx, hcd, hml, hown, hts⟩ (c_X6_lose__ok l D cI cB cW cL ob nw tr qs sc (g_rot qs r) N S n L T _ M i r hI hi hn (by omega)) (cwV 1 hts gL_lose_X6_lose rfl rfl rfl (by decide +kernel) ⟨Nat.le_of_ble_eq_true rfl, Nat.le_of_ble_eq_true rfl⟩) hK hP hD hS hA [1, 2, 3, 4, 5, 6, 7, 8, 9, 10, 11, 12, 13, 14, 15, 16, 17, 18, 19, 20, 21, 22, 23, 24, 25, 26, 27, 28, 29, 30, 31, 32, 33, 34, 35, 36, 37, 38, 39, 40, 41, 42, 43, 44, 45, 46, 47, 48, 49, 50, 51, 52, 53, 54, 55, 56, 57, 58, 59, 60, 61, 62, 63, 64, 65, 66, 67, 68, 69, 70, 71, 72, 73, 74, 75, 76, 77, 78, 79, 80, 81, 82, 83, 84, 85, 86, 87, 88, 89, 90, 91, 92, 93, 94] wLX_XC wX_nd2 wX_adr wLX_X 1 rfl rfl rfl hl.1 rfl (Nat.le_of_ble_eq_true rfl) dL_lose_4 ⟨Nat.zero_le _, Nat.zero_le _⟩ (fun H locs hP hD hS => ?_)
  refine lv_i2l hx hcd dL_lose_7 rfl ?_
  refine kl_last hx hcd hK hP hD hS 0 3 rfl rfl (by omega) (by decide) (ws2 := wLX cI cB cW cL o (vp_updL F 0 ((g_part (g_msg M i) 0 : Int32).toInt64)) ob nw tr qs sc (g_rot qs (rj n r)) (g_drop M i) N (sset S (pj n r) M) (g_kn n) L T) rfl dL_lose_8 (fun H locs hP hD hS => ?_)
  refine lv_goto (tgt := 15) hx hcd dL_lose_9 (by decide) ?_
  refine lv_iconst (v := nI 0) hx hcd dL_lose_15 (by decide) ?_
  refine W.widen (k := 1) (n := 6) (Nat.zero_le _) (Nat.zero_le _) ?_
  exact kr_iret hx hcd hr hlocks hK hP hD hS rfl rfl dL_lose_16

set_option maxHeartbeats 4000000 in
set_option maxRecDepth 100000 in
theorem c_L_lose__e1 (l : Launch) (hst : l.stackTraces = false) (D : va_G) (cI cB cW cL : ClassId) (o : Nat) (F : Nat → Int64) (ob nw tr : Nat → Nat) (qs : Nat → Nat → Nat) (sc : Nat → Nat) (G : Nat → Option Nat) (N : kM) (S : Nat → kM) (n L : Nat) (T : Nat → Int32) (sz : Nat) (M : kM) (u : Int32) (hI : kInv M) (hg : g_in u 0 (M 577 - 1) = false) : kMh l yL_lose wsL_lose ({ frames := 8, cells := 1, slots := 6, locals := 163 }) D vwCl (kT cI cB cW cL) sz [.ref (ob 0), .int u, .ref o] (wLX cI cB cW cL o F ob nw tr qs sc G M N S n L T) (wLX cI cB cW cL o F ob nw tr qs sc G M N S n L T) 1 := by
  refine kr_ofh (cc := cL_lose) (maxL := 4) (ret := (some .int)) (hh := [(0, 9, 12, 13)]) (by decide) rfl (Nat.le_of_ble_eq_true rfl) ?_
  intro pp ee ss mm args below meth cc AA ls hx hcd hr hTab hts hown hlocks hml hZ hN hK hP hD hA hl
  have hS : va_S AA ss.heap ss.heap [] := va_S.rf
  have hown : ss.vm.findClass RL = some mm.cls := hown
  have hl : lv_has ls 4 [(0, .ref (ob 0)), (1, .int u), (2, .ref o)] := hl
  refine lv_aload_n hx hcd dL_lose_0 rfl (lv_at hl 2 rfl) ?_
  refine lv_iconst (v := nI 0) hx hcd dL_lose_1 (by decide) ?_
  refine lv_aload_n hx hcd dL_lose_2 rfl (lv_at hl 0 rfl) ?_
  refine lv_iload_n hx hcd dL_lose_3 rfl (lv_at hl 1 rfl) ?_
  refine kl_V (As := [.int u]) (rest := [.int (nI 0), .ref o]) (q := (RX6, TX6, 5)) ⟨hx, hcd, hml, hown, hts⟩ (c_X6_lose__e1 l D cI cB cW cL ob nw tr qs sc G N S n L T _ M hst u hI hg) (cwV 1 hts gL_lose_X6_lose rfl rfl rfl (by decide +kernel) ⟨Nat.le_of_ble_eq_true rfl, Nat.le_of_ble_eq_true rfl⟩) hZ hK hP hD hS hA [1, 2, 3, 4, 5, 6, 7, 8, 9, 10, 11, 12, 13, 14, 15, 16, 17, 18, 19, 20, 21, 22, 23, 24, 25, 26, 27, 28, 29, 30, 31, 32, 33, 34, 35, 36, 37, 38, 39, 40, 41, 42, 43, 44, 45, 46, 47, 48, 49, 50, 51, 52, 53, 54, 55, 56, 57, 58, 59, 60, 61, 62, 63, 64, 65, 66, 67, 68, 69, 70, 71, 72, 73, 74, 75, 76, 77, 78, 79, 80, 81, 82, 83, 84, 85, 86, 87, 88, 89, 90, 91, 92, 93, 94] wLX_XC wX_nd2 1 rfl rfl rfl hl.1 rfl (Nat.le_of_ble_eq_true rfl) dL_lose_4 ⟨Nat.le_of_ble_eq_true rfl, Nat.le_of_ble_eq_true rfl⟩ [] ⟨0, 9, 12, 13⟩ [] hTab (fun z hz => absurd hz List.not_mem_nil) (by decide) (by decide) (hts (.classLink RL 13 "java/lang/IndexOutOfBoundsException") (by decide +kernel)) (va_Nw.use rfl (hZ.2.2.2 (.castable "java/lang/IndexOutOfBoundsException" "java/lang/IndexOutOfBoundsException") (by decide +kernel))) (fun H locs q9 hP hD hS => ?_)
  refine lv_astore_n (lv' := [(3, .ref q9), (0, .ref (ob 0)), (1, .int u), (2, .ref o)]) hx hcd dL_lose_12 rfl hl (by decide) rfl (fun ls hl => ?_)
  refine lv_iconst (v := nI 1) hx hcd dL_lose_13 (by decide) ?_
  exact kr_iret hx hcd hr hlocks hK hP hD hS rfl rfl dL_lose_14

set_option maxHeartbeats 4000000 in
set_option maxRecDepth 100000 in
theorem c_L_message__ok (l : Launch) (hst : l.stackTraces = false) (D : va_G) (cI cB cW cL : ClassId) (o : Nat) (F : Nat → Int64) (ob nw tr : Nat → Nat) (qs : Nat → Nat → Nat) (sc : Nat → Nat) (G : Nat → Option Nat) (N : kM) (S : Nat → kM) (n L : Nat) (T : Nat → Int32) (sz : Nat) (M : kM) (i : Nat) (wh : Nat) (hI : kInv M) (hi : i < wyN M) (hwh : wh < 5) : kMh l yL_message wsL_message ({ frames := 8, cells := 1, slots := 6, locals := 125 }) D vwCl (kT cI cB cW cL) sz [.ref (ob 0), .int (nI i), .int (nI wh), .ref o] (wLX cI cB cW cL o F ob nw tr qs sc G M N S n L T) (wLX cI cB cW cL o (vp_updL F 0 (((g_part (g_msg M i) wh) : Int32).toInt64)) ob nw tr qs sc G M N S n L T) 0 := by
  refine kr_ofh (cc := cL_message) (maxL := 5) (ret := (some .int)) (hh := [(0, 10, 13, 13), (0, 10, 17, 15)]) (by decide) rfl (Nat.le_of_ble_eq_true rfl) ?_
  intro pp ee ss mm args below meth cc AA ls hx hcd hr hTab hts hown hlocks hml hZ hN hK hP hD hA hl
  have hS : va_S AA ss.heap ss.heap [] := va_S.rf
  have hown : ss.vm.findClass RL = some mm.cls := hown
  have hl : lv_has ls 5 [(0, .ref (ob 0)), (1, .int (nI i)), (2, .int (nI wh)), (3, .ref o)] := hl
  refine lv_aload_n hx hcd dL_message_0 rfl (lv_at hl 3 rfl) ?_
  refine lv_iconst (v := nI 0) hx hcd dL_message_1 (by decide) ?_
  refine lv_aload_n hx hcd dL_message_2 rfl (lv_at hl 0 rfl) ?_
  refine lv_iload_n hx hcd dL_message_3 rfl (lv_at hl 1 rfl) ?_
  refine lv_iload_n hx hcd dL_message_4 rfl (lv_at hl 2 rfl) ?_
  refine kr_Vi (As := [.int (nI i), .int (nI wh)]) (rest := [.int (nI 0), .ref o]) (ws2 := wLX cI cB cW cL o F ob nw tr qs sc G M N S n L T) (q := (RX6, TX6, 5)) ⟨hx, hcd, hml, hown, hts⟩ (c_X6_message__ok l D cI cB cW cL ob nw tr qs sc G N S n L T _ M i wh hI hi hwh) (cwV 2 hts gL_message_X6_message rfl rfl rfl (by decide +kernel) ⟨Nat.le_of_ble_eq_true rfl, Nat.le_of_ble_eq_true rfl⟩) hK hP hD hS hA [1, 2, 3, 4, 5, 6, 7, 8, 9, 10, 11, 12, 13, 14, 15, 16, 17, 18, 19, 20, 21, 22, 23, 24, 25, 26, 27, 28, 29, 30, 31, 32, 33, 34, 35, 36, 37, 38, 39, 40, 41, 42, 43, 44, 45, 46, 47, 48, 49, 50, 51, 52, 53, 54, 55, 56, 57, 58, 59, 60, 61, 62, 63, 64, 65, 66, 67, 68, 69, 70, 71, 72, 73, 74, 75, 76, 77, 78, 79, 80, 81, 82, 83, 84, 85, 86, 87, 88, 89, 90, 91, 92, 93, 94] wLX_XC wX_nd2 wX_adr wLX_X 1 rfl rfl rfl hl.1 rfl (Nat.le_of_ble_eq_true rfl) dL_message_5 ⟨Nat.zero_le _, Nat.zero_le _⟩ (fun H locs hP hD hS => ?_)
  refine lv_i2l hx hcd dL_message_8 rfl ?_
  refine kl_last hx hcd hK hP hD hS 0 3 rfl rfl (by omega) (by decide) (ws2 := wLX cI cB cW cL o (vp_updL F 0 ((g_part (g_msg M i) wh : Int32).toInt64)) ob nw tr qs sc G M N S n L T) rfl dL_message_9 (fun H locs hP hD hS => ?_)
  refine lv_goto (tgt := 21) hx hcd dL_message_10 (by decide) ?_
  refine lv_iconst (v := nI 0) hx hcd dL_message_21 (by decide) ?_
  refine W.widen (k := 1) (n := 6) (Nat.zero_le _) (Nat.zero_le _) ?_
  exact kr_iret hx hcd hr hlocks hK hP hD hS rfl rfl dL_message_22

set_option maxHeartbeats 4000000 in
set_option maxRecDepth 100000 in
theorem c_L_message__e1 (l : Launch) (hst : l.stackTraces = false) (D : va_G) (cI cB cW cL : ClassId) (o : Nat) (F : Nat → Int64) (ob nw tr : Nat → Nat) (qs : Nat → Nat → Nat) (sc : Nat → Nat) (G : Nat → Option Nat) (N : kM) (S : Nat → kM) (n L : Nat) (T : Nat → Int32) (sz : Nat) (M : kM) (u : Int32) (w : Int32) (hI : kInv M) (hg : g_in u 0 (M 577 - 1) = false) : kMh l yL_message wsL_message ({ frames := 8, cells := 1, slots := 6, locals := 125 }) D vwCl (kT cI cB cW cL) sz [.ref (ob 0), .int u, .int w, .ref o] (wLX cI cB cW cL o F ob nw tr qs sc G M N S n L T) (wLX cI cB cW cL o F ob nw tr qs sc G M N S n L T) 1 := by
  refine kr_ofh (cc := cL_message) (maxL := 5) (ret := (some .int)) (hh := [(0, 10, 13, 13), (0, 10, 17, 15)]) (by decide) rfl (Nat.le_of_ble_eq_true rfl) ?_
  intro pp ee ss mm args below meth cc AA ls hx hcd hr hTab hts hown hlocks hml hZ hN hK hP hD hA hl
  have hS : va_S AA ss.heap ss.heap [] := va_S.rf
  have hown : ss.vm.findClass RL = some mm.cls := hown
  have hl : lv_has ls 5 [(0, .ref (ob 0)), (1, .int u), (2, .int w), (3, .ref o)] := hl
  refine lv_aload_n hx hcd dL_message_0 rfl (lv_at hl 3 rfl) ?_
  refine lv_iconst (v := nI 0) hx hcd dL_message_1 (by decide) ?_
  refine lv_aload_n hx hcd dL_message_2 rfl (lv_at hl 0 rfl) ?_
  refine lv_iload_n hx hcd dL_message_3 rfl (lv_at hl 1 rfl) ?_
  refine lv_iload_n hx hcd dL_message_4 rfl (lv_at hl 2 rfl) ?_
  refine kl_V (As := [.int u, .int w]) (rest := [.int (nI 0), .ref o]) (q := (RX6, TX6, 5)) ⟨hx, hcd, hml, hown, hts⟩ (c_X6_message__e1 l D cI cB cW cL ob nw tr qs sc G N S n L T _ M hst u w hI hg) (cwV 2 hts gL_message_X6_message rfl rfl rfl (by decide +kernel) ⟨Nat.le_of_ble_eq_true rfl, Nat.le_of_ble_eq_true rfl⟩) hZ hK hP hD hS hA [1, 2, 3, 4, 5, 6, 7, 8, 9, 10, 11, 12, 13, 14, 15, 16, 17, 18, 19, 20, 21, 22, 23, 24, 25, 26, 27, 28, 29, 30, 31, 32, 33, 34, 35, 36, 37, 38, 39, 40, 41, 42, 43, 44, 45, 46, 47, 48, 49, 50, 51, 52, 53, 54, 55, 56, 57, 58, 59, 60, 61, 62, 63, 64, 65, 66, 67, 68, 69, 70, 71, 72, 73, 74, 75, 76, 77, 78, 79, 80, 81, 82, 83, 84, 85, 86, 87, 88, 89, 90, 91, 92, 93, 94] wLX_XC wX_nd2 1 rfl rfl rfl hl.1 rfl (Nat.le_of_ble_eq_true rfl) dL_message_5 ⟨Nat.le_of_ble_eq_true rfl, Nat.le_of_ble_eq_true rfl⟩ [] ⟨0, 10, 13, 13⟩ [⟨0, 10, 17, 15⟩] hTab (fun z hz => absurd hz List.not_mem_nil) (by decide) (by decide) (hts (.classLink RL 13 "java/lang/IndexOutOfBoundsException") (by decide +kernel)) (va_Nw.use rfl (hZ.2.2.2 (.castable "java/lang/IndexOutOfBoundsException" "java/lang/IndexOutOfBoundsException") (by decide +kernel))) (fun H locs q9 hP hD hS => ?_)
  refine lv_astore (lv' := [(4, .ref q9), (0, .ref (ob 0)), (1, .int u), (2, .int w), (3, .ref o)]) hx hcd dL_message_13 hl (by decide) rfl (fun ls hl => ?_)
  refine lv_iconst (v := nI 1) hx hcd dL_message_15 (by decide) ?_
  exact kr_iret hx hcd hr hlocks hK hP hD hS rfl rfl dL_message_16

set_option maxHeartbeats 4000000 in
set_option maxRecDepth 100000 in
theorem c_L_message__e2 (l : Launch) (hst : l.stackTraces = false) (D : va_G) (cI cB cW cL : ClassId) (o : Nat) (F : Nat → Int64) (ob nw tr : Nat → Nat) (qs : Nat → Nat → Nat) (sc : Nat → Nat) (G : Nat → Option Nat) (N : kM) (S : Nat → kM) (n L : Nat) (T : Nat → Int32) (sz : Nat) (M : kM) (i : Nat) (w : Int32) (hI : kInv M) (hi : i < wyN M) (hg : g_in w 0 4 = false) : kMh l yL_message wsL_message ({ frames := 8, cells := 1, slots := 6, locals := 125 }) D vwCl (kT cI cB cW cL) sz [.ref (ob 0), .int (nI i), .int w, .ref o] (wLX cI cB cW cL o F ob nw tr qs sc G M N S n L T) (wLX cI cB cW cL o F ob nw tr qs sc G M N S n L T) 2 := by
  refine kr_ofh (cc := cL_message) (maxL := 5) (ret := (some .int)) (hh := [(0, 10, 13, 13), (0, 10, 17, 15)]) (by decide) rfl (Nat.le_of_ble_eq_true rfl) ?_
  intro pp ee ss mm args below meth cc AA ls hx hcd hr hTab hts hown hlocks hml hZ hN hK hP hD hA hl
  have hS : va_S AA ss.heap ss.heap [] := va_S.rf
  have hown : ss.vm.findClass RL = some mm.cls := hown
  have hl : lv_has ls 5 [(0, .ref (ob 0)), (1, .int (nI i)), (2, .int w), (3, .ref o)] := hl
  refine lv_aload_n hx hcd dL_message_0 rfl (lv_at hl 3 rfl) ?_
  refine lv_iconst (v := nI 0) hx hcd dL_message_1 (by decide) ?_
  refine lv_aload_n hx hcd dL_message_2 rfl (lv_at hl 0 rfl) ?_
  refine lv_iload_n hx hcd dL_message_3 rfl (lv_at hl 1 rfl) ?_
  refine lv_iload_n hx hcd dL_message_4 rfl (lv_at hl 2 rfl) ?_
  refine kl_V (As := [.int (nI i), .int w]) (rest := [.int (nI 0), .ref o]) (q := (RX6, TX6, 5)) ⟨hx, hcd, hml, hown, hts⟩ (c_X6_message__e2 l D cI cB cW cL ob nw tr qs sc G N S n L T _ M hst i w hI hi hg) (cwV 2 hts gL_message_X6_message rfl rfl rfl (by decide +kernel) ⟨Nat.le_of_ble_eq_true rfl, Nat.le_of_ble_eq_true rfl⟩) hZ hK hP hD hS hA [1, 2, 3, 4, 5, 6, 7, 8, 9, 10, 11, 12, 13, 14, 15, 16, 17, 18, 19, 20, 21, 22, 23, 24, 25, 26, 27, 28, 29, 30, 31, 32, 33, 34, 35, 36, 37, 38, 39, 40, 41, 42, 43, 44, 45, 46, 47, 48, 49, 50, 51, 52, 53, 54, 55, 56, 57, 58, 59, 60, 61, 62, 63, 64, 65, 66, 67, 68, 69, 70, 71, 72, 73, 74, 75, 76, 77, 78, 79, 80, 81, 82, 83, 84, 85, 86, 87, 88, 89, 90, 91, 92, 93, 94] wLX_XC wX_nd2 1 rfl rfl rfl hl.1 rfl (Nat.le_of_ble_eq_true rfl) dL_message_5 ⟨Nat.le_of_ble_eq_true rfl, Nat.le_of_ble_eq_true rfl⟩ [⟨0, 10, 13, 13⟩] ⟨0, 10, 17, 15⟩ [] hTab (fun z hz => Or.inr (by rw [List.mem_singleton.mp hz]; exact ⟨by decide, eIO, hts (.classLink RL 13 "java/lang/IndexOutOfBoundsException") (by decide +kernel), hN _ (List.mem_of_getElem? (i := 0) rfl)⟩)) (by decide) (by decide) (hts (.classLink RL 15 "java/lang/IllegalArgumentException") (by decide +kernel)) (va_Nw.use rfl (hZ.2.2.2 (.castable "java/lang/IllegalArgumentException" "java/lang/IllegalArgumentException") (by decide +kernel))) (fun H locs q9 hP hD hS => ?_)
  refine lv_astore (lv' := [(4, .ref q9), (0, .ref (ob 0)), (1, .int (nI i)), (2, .int w), (3, .ref o)]) hx hcd dL_message_17 hl (by decide) rfl (fun ls hl => ?_)
  refine lv_iconst (v := nI 2) hx hcd dL_message_19 (by decide) ?_
  exact kr_iret hx hcd hr hlocks hK hP hD hS rfl rfl dL_message_20

set_option maxHeartbeats 4000000 in
set_option maxRecDepth 100000 in
theorem c_L_count__ok (l : Launch) (hst : l.stackTraces = false) (D : va_G) (cI cB cW cL : ClassId) (o : Nat) (F : Nat → Int64) (ob nw tr : Nat → Nat) (qs : Nat → Nat → Nat) (sc : Nat → Nat) (G : Nat → Option Nat) (N : kM) (S : Nat → kM) (n L : Nat) (T : Nat → Int32) (sz : Nat) (M : kM) (wh : Nat) (hwh : wh < 3) : kMh l yL_count wsL_count ({ frames := 8, cells := 1, slots := 6, locals := 124 }) D vwCl (kT cI cB cW cL) sz [.ref (ob 0), .int (nI wh), .ref o] (wLX cI cB cW cL o F ob nw tr qs sc G M N S n L T) (wLX cI cB cW cL o (vp_updL F 0 (((M (578 + wh)) : Int32).toInt64)) ob nw tr qs sc G M N S n L T) 0 := by
  refine kr_ofh (cc := cL_count) (maxL := 4) (ret := (some .int)) (hh := [(0, 9, 12, 15)]) (by decide) rfl (Nat.le_of_ble_eq_true rfl) ?_
  intro pp ee ss mm args below meth cc AA ls hx hcd hr hTab hts hown hlocks hml hZ hN hK hP hD hA hl
  have hS : va_S AA ss.heap ss.heap [] := va_S.rf
  have hown : ss.vm.findClass RL = some mm.cls := hown
  have hl : lv_has ls 4 [(0, .ref (ob 0)), (1, .int (nI wh)), (2, .ref o)] := hl
  refine lv_aload_n hx hcd dL_count_0 rfl (lv_at hl 2 rfl) ?_
  refine lv_iconst (v := nI 0) hx hcd dL_count_1 (by decide) ?_
  refine lv_aload_n hx hcd dL_count_2 rfl (lv_at hl 0 rfl) ?_
  refine lv_iload_n hx hcd dL_count_3 rfl (lv_at hl 1 rfl) ?_
  refine kr_Vi (As := [.int (nI wh)]) (rest := [.int (nI 0), .ref o]) (ws2 := wLX cI cB cW cL o F ob nw tr qs sc G M N S n L T) (q := (RX6, TX6, 5)) ⟨hx, hcd, hml, hown, hts⟩ (c_X6_count__ok l D cI cB cW cL ob nw tr qs sc G N S n L T _ M wh hwh) (cwV 1 hts gL_count_X6_count rfl rfl rfl (by decide +kernel) ⟨Nat.le_of_ble_eq_true rfl, Nat.le_of_ble_eq_true rfl⟩) hK hP hD hS hA [1, 2, 3, 4, 5, 6, 7, 8, 9, 10, 11, 12, 13, 14, 15, 16, 17, 18, 19, 20, 21, 22, 23, 24, 25, 26, 27, 28, 29, 30, 31, 32, 33, 34, 35, 36, 37, 38, 39, 40, 41, 42, 43, 44, 45, 46, 47, 48, 49, 50, 51, 52, 53, 54, 55, 56, 57, 58, 59, 60, 61, 62, 63, 64, 65, 66, 67, 68, 69, 70, 71, 72, 73, 74, 75, 76, 77, 78, 79, 80, 81, 82, 83, 84, 85, 86, 87, 88, 89, 90, 91, 92, 93, 94] wLX_XC wX_nd2 wX_adr wLX_X 1 rfl rfl rfl hl.1 rfl (Nat.le_of_ble_eq_true rfl) dL_count_4 ⟨Nat.zero_le _, Nat.zero_le _⟩ (fun H locs hP hD hS => ?_)
  refine lv_i2l hx hcd dL_count_7 rfl ?_
  refine kl_last hx hcd hK hP hD hS 0 3 rfl rfl (by omega) (by decide) (ws2 := wLX cI cB cW cL o (vp_updL F 0 ((M (578 + wh) : Int32).toInt64)) ob nw tr qs sc G M N S n L T) rfl dL_count_8 (fun H locs hP hD hS => ?_)
  refine lv_goto (tgt := 15) hx hcd dL_count_9 (by decide) ?_
  refine lv_iconst (v := nI 0) hx hcd dL_count_15 (by decide) ?_
  refine W.widen (k := 1) (n := 6) (Nat.zero_le _) (Nat.zero_le _) ?_
  exact kr_iret hx hcd hr hlocks hK hP hD hS rfl rfl dL_count_16

set_option maxHeartbeats 4000000 in
set_option maxRecDepth 100000 in
theorem c_L_count__e1 (l : Launch) (hst : l.stackTraces = false) (D : va_G) (cI cB cW cL : ClassId) (o : Nat) (F : Nat → Int64) (ob nw tr : Nat → Nat) (qs : Nat → Nat → Nat) (sc : Nat → Nat) (G : Nat → Option Nat) (N : kM) (S : Nat → kM) (n L : Nat) (T : Nat → Int32) (sz : Nat) (M : kM) (u : Int32) (hg : g_in u 0 2 = false) : kMh l yL_count wsL_count ({ frames := 8, cells := 1, slots := 6, locals := 124 }) D vwCl (kT cI cB cW cL) sz [.ref (ob 0), .int u, .ref o] (wLX cI cB cW cL o F ob nw tr qs sc G M N S n L T) (wLX cI cB cW cL o F ob nw tr qs sc G M N S n L T) 1 := by
  refine kr_ofh (cc := cL_count) (maxL := 4) (ret := (some .int)) (hh := [(0, 9, 12, 15)]) (by decide) rfl (Nat.le_of_ble_eq_true rfl) ?_
  intro pp ee ss mm args below meth cc AA ls hx hcd hr hTab hts hown hlocks hml hZ hN hK hP hD hA hl
  have hS : va_S AA ss.heap ss.heap [] := va_S.rf
  have hown : ss.vm.findClass RL = some mm.cls := hown
  have hl : lv_has ls 4 [(0, .ref (ob 0)), (1, .int u), (2, .ref o)] := hl
  refine lv_aload_n hx hcd dL_count_0 rfl (lv_at hl 2 rfl) ?_
  refine lv_iconst (v := nI 0) hx hcd dL_count_1 (by decide) ?_
  refine lv_aload_n hx hcd dL_count_2 rfl (lv_at hl 0 rfl) ?_
  refine lv_iload_n hx hcd dL_count_3 rfl (lv_at hl 1 rfl) ?_
  refine kl_V (As := [.int u]) (rest := [.int (nI 0), .ref o]) (q := (RX6, TX6, 5)) ⟨hx, hcd, hml, hown, hts⟩ (c_X6_count__e1 l D cI cB cW cL  _ M hst u (ob 0) hg) (cwV 1 hts gL_count_X6_count rfl rfl rfl (by decide +kernel) ⟨Nat.le_of_ble_eq_true rfl, Nat.le_of_ble_eq_true rfl⟩) hZ hK hP hD hS hA [] rfl (by decide) 1 rfl rfl rfl hl.1 rfl (Nat.le_of_ble_eq_true rfl) dL_count_4 ⟨Nat.le_of_ble_eq_true rfl, Nat.le_of_ble_eq_true rfl⟩ [] ⟨0, 9, 12, 15⟩ [] hTab (fun z hz => absurd hz List.not_mem_nil) (by decide) (by decide) (hts (.classLink RL 15 "java/lang/IllegalArgumentException") (by decide +kernel)) (va_Nw.use rfl (hZ.2.2.2 (.castable "java/lang/IllegalArgumentException" "java/lang/IllegalArgumentException") (by decide +kernel))) (fun H locs q9 hP hD hS => ?_)
  refine lv_astore_n (lv' := [(3, .ref q9), (0, .ref (ob 0)), (1, .int u), (2, .ref o)]) hx hcd dL_count_12 rfl hl (by decide) rfl (fun ls hl => ?_)
  refine lv_iconst (v := nI 1) hx hcd dL_count_13 (by decide) ?_
  exact kr_iret hx hcd hr hlocks hK hP hD hS rfl rfl dL_count_14

set_option maxHeartbeats 4000000 in
set_option maxRecDepth 100000 in
theorem c_L_version__ok0 (l : Launch) (hst : l.stackTraces = false) (D : va_G) (cI cB cW cL : ClassId) (o : Nat) (F : Nat → Int64) (ob nw tr : Nat → Nat) (qs : Nat → Nat → Nat) (sc : Nat → Nat) (G : Nat → Option Nat) (N : kM) (S : Nat → kM) (n L : Nat) (T : Nat → Int32) (sz : Nat) (M : kM) (a : Nat) (ha : a < 6) : kMh l yL_version wsL_version ({ frames := 9, cells := 1, slots := 6, locals := 145 }) D vwCl (kT cI cB cW cL) sz [.ref (ob 0), .int (nI a), .int (-1), .ref o] (wLX cI cB cW cL o F ob nw tr qs sc G M N S n L T) (wLX cI cB cW cL o (vp_updL F 0 (((M (126 + a)) : Int32).toInt64)) ob nw tr qs sc G M N S n L T) 0 := by
  refine kr_ofh (cc := cL_version) (maxL := 5) (ret := (some .int)) (hh := [(0, 10, 13, 13), (0, 10, 17, 15)]) (by decide) rfl (Nat.le_of_ble_eq_true rfl) ?_
  intro pp ee ss mm args below meth cc AA ls hx hcd hr hTab hts hown hlocks hml hZ hN hK hP hD hA hl
  have hS : va_S AA ss.heap ss.heap [] := va_S.rf
  have hown : ss.vm.findClass RL = some mm.cls := hown
  have hl : lv_has ls 5 [(0, .ref (ob 0)), (1, .int (nI a)), (2, .int (-1)), (3, .ref o)] := hl
  refine lv_aload_n hx hcd dL_version_0 rfl (lv_at hl 3 rfl) ?_
  refine lv_iconst (v := nI 0) hx hcd dL_version_1 (by decide) ?_
  refine lv_aload_n hx hcd dL_version_2 rfl (lv_at hl 0 rfl) ?_
  refine lv_iload_n hx hcd dL_version_3 rfl (lv_at hl 1 rfl) ?_
  refine lv_iload_n hx hcd dL_version_4 rfl (lv_at hl 2 rfl) ?_
  refine kr_Vi (As := [.int (nI a), .int (-1)]) (rest := [.int (nI 0), .ref o]) (ws2 := wLX cI cB cW cL o F ob nw tr qs sc G M N S n L T) (q := (RX6, TX6, 5)) ⟨hx, hcd, hml, hown, hts⟩ (c_X6_version__ok0 l D cI cB cW cL ob nw tr qs sc G N S n L T _ M a ha) (cwV 2 hts gL_version_X6_version rfl rfl rfl (by decide +kernel) ⟨Nat.le_of_ble_eq_true rfl, Nat.le_of_ble_eq_true rfl⟩) hK hP hD hS hA [1, 2, 3, 4, 5, 6, 7, 8, 9, 10, 11, 12, 13, 14, 15, 16, 17, 18, 19, 20, 21, 22, 23, 24, 25, 26, 27, 28, 29, 30, 31, 32, 33, 34, 35, 36, 37, 38, 39, 40, 41, 42, 43, 44, 45, 46, 47, 48, 49, 50, 51, 52, 53, 54, 55, 56, 57, 58, 59, 60, 61, 62, 63, 64, 65, 66, 67, 68, 69, 70, 71, 72, 73, 74, 75, 76, 77, 78, 79, 80, 81, 82, 83, 84, 85, 86, 87, 88, 89, 90, 91, 92, 93, 94] wLX_XC wX_nd2 wX_adr wLX_X 1 rfl rfl rfl hl.1 rfl (Nat.le_of_ble_eq_true rfl) dL_version_5 ⟨Nat.zero_le _, Nat.zero_le _⟩ (fun H locs hP hD hS => ?_)
  refine lv_i2l hx hcd dL_version_8 rfl ?_
  refine kl_last hx hcd hK hP hD hS 0 3 rfl rfl (by omega) (by decide) (ws2 := wLX cI cB cW cL o (vp_updL F 0 ((M (126 + a) : Int32).toInt64)) ob nw tr qs sc G M N S n L T) rfl dL_version_9 (fun H locs hP hD hS => ?_)
  refine lv_goto (tgt := 21) hx hcd dL_version_10 (by decide) ?_
  refine lv_iconst (v := nI 0) hx hcd dL_version_21 (by decide) ?_
  refine W.widen (k := 1) (n := 6) (Nat.zero_le _) (Nat.zero_le _) ?_
  exact kr_iret hx hcd hr hlocks hK hP hD hS rfl rfl dL_version_22

set_option maxHeartbeats 4000000 in
set_option maxRecDepth 100000 in
theorem c_L_version__ok1 (l : Launch) (hst : l.stackTraces = false) (D : va_G) (cI cB cW cL : ClassId) (o : Nat) (F : Nat → Int64) (ob nw tr : Nat → Nat) (qs : Nat → Nat → Nat) (sc : Nat → Nat) (G : Nat → Option Nat) (N : kM) (S : Nat → kM) (n L : Nat) (T : Nat → Int32) (sz : Nat) (M : kM) (a : Nat) (b : Nat) (ha : a < 6) (hb : b < 6) (hne : a ≠ b) : kMh l yL_version wsL_version ({ frames := 9, cells := 1, slots := 6, locals := 145 }) D vwCl (kT cI cB cW cL) sz [.ref (ob 0), .int (nI a), .int (nI b), .ref o] (wLX cI cB cW cL o F ob nw tr qs sc G M N S n L T) (wLX cI cB cW cL o (vp_updL F 0 (((M (90 + 6 * a + b)) : Int32).toInt64)) ob nw tr qs sc G M N S n L T) 0 := by
  refine kr_ofh (cc := cL_version) (maxL := 5) (ret := (some .int)) (hh := [(0, 10, 13, 13), (0, 10, 17, 15)]) (by decide) rfl (Nat.le_of_ble_eq_true rfl) ?_
  intro pp ee ss mm args below meth cc AA ls hx hcd hr hTab hts hown hlocks hml hZ hN hK hP hD hA hl
  have hS : va_S AA ss.heap ss.heap [] := va_S.rf
  have hown : ss.vm.findClass RL = some mm.cls := hown
  have hl : lv_has ls 5 [(0, .ref (ob 0)), (1, .int (nI a)), (2, .int (nI b)), (3, .ref o)] := hl
  refine lv_aload_n hx hcd dL_version_0 rfl (lv_at hl 3 rfl) ?_
  refine lv_iconst (v := nI 0) hx hcd dL_version_1 (by decide) ?_
  refine lv_aload_n hx hcd dL_version_2 rfl (lv_at hl 0 rfl) ?_
  refine lv_iload_n hx hcd dL_version_3 rfl (lv_at hl 1 rfl) ?_
  refine lv_iload_n hx hcd dL_version_4 rfl (lv_at hl 2 rfl) ?_
  refine kr_Vi (As := [.int (nI a), .int (nI b)]) (rest := [.int (nI 0), .ref o]) (ws2 := wLX cI cB cW cL o F ob nw tr qs sc G M N S n L T) (q := (RX6, TX6, 5)) ⟨hx, hcd, hml, hown, hts⟩ (c_X6_version__ok1 l D cI cB cW cL ob nw tr qs sc G N S n L T _ M a b ha hb hne) (cwV 2 hts gL_version_X6_version rfl rfl rfl (by decide +kernel) ⟨Nat.le_of_ble_eq_true rfl, Nat.le_of_ble_eq_true rfl⟩) hK hP hD hS hA [1, 2, 3, 4, 5, 6, 7, 8, 9, 10, 11, 12, 13, 14, 15, 16, 17, 18, 19, 20, 21, 22, 23, 24, 25, 26, 27, 28, 29, 30, 31, 32, 33, 34, 35, 36, 37, 38, 39, 40, 41, 42, 43, 44, 45, 46, 47, 48, 49, 50, 51, 52, 53, 54, 55, 56, 57, 58, 59, 60, 61, 62, 63, 64, 65, 66, 67, 68, 69, 70, 71, 72, 73, 74, 75, 76, 77, 78, 79, 80, 81, 82, 83, 84, 85, 86, 87, 88, 89, 90, 91, 92, 93, 94] wLX_XC wX_nd2 wX_adr wLX_X 1 rfl rfl rfl hl.1 rfl (Nat.le_of_ble_eq_true rfl) dL_version_5 ⟨Nat.zero_le _, Nat.zero_le _⟩ (fun H locs hP hD hS => ?_)
  refine lv_i2l hx hcd dL_version_8 rfl ?_
  refine kl_last hx hcd hK hP hD hS 0 3 rfl rfl (by omega) (by decide) (ws2 := wLX cI cB cW cL o (vp_updL F 0 ((M (90 + 6 * a + b) : Int32).toInt64)) ob nw tr qs sc G M N S n L T) rfl dL_version_9 (fun H locs hP hD hS => ?_)
  refine lv_goto (tgt := 21) hx hcd dL_version_10 (by decide) ?_
  refine lv_iconst (v := nI 0) hx hcd dL_version_21 (by decide) ?_
  refine W.widen (k := 1) (n := 6) (Nat.zero_le _) (Nat.zero_le _) ?_
  exact kr_iret hx hcd hr hlocks hK hP hD hS rfl rfl dL_version_22

set_option maxHeartbeats 4000000 in
set_option maxRecDepth 100000 in
theorem c_L_version__e1a (l : Launch) (hst : l.stackTraces = false) (D : va_G) (cI cB cW cL : ClassId) (o : Nat) (F : Nat → Int64) (ob nw tr : Nat → Nat) (qs : Nat → Nat → Nat) (sc : Nat → Nat) (G : Nat → Option Nat) (N : kM) (S : Nat → kM) (n L : Nat) (T : Nat → Int32) (sz : Nat) (M : kM) (u : Int32) (w : Int32) (hg : g_usr u = false) : kMh l yL_version wsL_version ({ frames := 9, cells := 1, slots := 6, locals := 145 }) D vwCl (kT cI cB cW cL) sz [.ref (ob 0), .int u, .int w, .ref o] (wLX cI cB cW cL o F ob nw tr qs sc G M N S n L T) (wLX cI cB cW cL o F ob nw tr qs sc G M N S n L T) 1 := by
  refine kr_ofh (cc := cL_version) (maxL := 5) (ret := (some .int)) (hh := [(0, 10, 13, 13), (0, 10, 17, 15)]) (by decide) rfl (Nat.le_of_ble_eq_true rfl) ?_
  intro pp ee ss mm args below meth cc AA ls hx hcd hr hTab hts hown hlocks hml hZ hN hK hP hD hA hl
  have hS : va_S AA ss.heap ss.heap [] := va_S.rf
  have hown : ss.vm.findClass RL = some mm.cls := hown
  have hl : lv_has ls 5 [(0, .ref (ob 0)), (1, .int u), (2, .int w), (3, .ref o)] := hl
  refine lv_aload_n hx hcd dL_version_0 rfl (lv_at hl 3 rfl) ?_
  refine lv_iconst (v := nI 0) hx hcd dL_version_1 (by decide) ?_
  refine lv_aload_n hx hcd dL_version_2 rfl (lv_at hl 0 rfl) ?_
  refine lv_iload_n hx hcd dL_version_3 rfl (lv_at hl 1 rfl) ?_
  refine lv_iload_n hx hcd dL_version_4 rfl (lv_at hl 2 rfl) ?_
  refine kl_V (As := [.int u, .int w]) (rest := [.int (nI 0), .ref o]) (q := (RX6, TX6, 5)) ⟨hx, hcd, hml, hown, hts⟩ (c_X6_version__e1a l D cI cB cW cL  _ M hst u w (ob 0) hg) (cwV 2 hts gL_version_X6_version rfl rfl rfl (by decide +kernel) ⟨Nat.le_of_ble_eq_true rfl, Nat.le_of_ble_eq_true rfl⟩) hZ hK hP hD hS hA [] rfl (by decide) 1 rfl rfl rfl hl.1 rfl (Nat.le_of_ble_eq_true rfl) dL_version_5 ⟨Nat.le_of_ble_eq_true rfl, Nat.le_of_ble_eq_true rfl⟩ [] ⟨0, 10, 13, 13⟩ [⟨0, 10, 17, 15⟩] hTab (fun z hz => absurd hz List.not_mem_nil) (by decide) (by decide) (hts (.classLink RL 13 "java/lang/IndexOutOfBoundsException") (by decide +kernel)) (va_Nw.use rfl (hZ.2.2.2 (.castable "java/lang/IndexOutOfBoundsException" "java/lang/IndexOutOfBoundsException") (by decide +kernel))) (fun H locs q9 hP hD hS => ?_)
  refine lv_astore (lv' := [(4, .ref q9), (0, .ref (ob 0)), (1, .int u), (2, .int w), (3, .ref o)]) hx hcd dL_version_13 hl (by decide) rfl (fun ls hl => ?_)
  refine lv_iconst (v := nI 1) hx hcd dL_version_15 (by decide) ?_
  exact kr_iret hx hcd hr hlocks hK hP hD hS rfl rfl dL_version_16

set_option maxHeartbeats 4000000 in
set_option maxRecDepth 100000 in
theorem c_L_version__e1b (l : Launch) (hst : l.stackTraces = false) (D : va_G) (cI cB cW cL : ClassId) (o : Nat) (F : Nat → Int64) (ob nw tr : Nat → Nat) (qs : Nat → Nat → Nat) (sc : Nat → Nat) (G : Nat → Option Nat) (N : kM) (S : Nat → kM) (n L : Nat) (T : Nat → Int32) (sz : Nat) (M : kM) (a : Nat) (w : Int32) (ha : a < 6) (hm : ¬ w = -1) (hg : g_why (nI a) w = nI 1) : kMh l yL_version wsL_version ({ frames := 9, cells := 1, slots := 6, locals := 145 }) D vwCl (kT cI cB cW cL) sz [.ref (ob 0), .int (nI a), .int w, .ref o] (wLX cI cB cW cL o F ob nw tr qs sc G M N S n L T) (wLX cI cB cW cL o F ob nw tr qs sc G M N S n L T) 1 := by
  refine kr_ofh (cc := cL_version) (maxL := 5) (ret := (some .int)) (hh := [(0, 10, 13, 13), (0, 10, 17, 15)]) (by decide) rfl (Nat.le_of_ble_eq_true rfl) ?_
  intro pp ee ss mm args below meth cc AA ls hx hcd hr hTab hts hown hlocks hml hZ hN hK hP hD hA hl
  have hS : va_S AA ss.heap ss.heap [] := va_S.rf
  have hown : ss.vm.findClass RL = some mm.cls := hown
  have hl : lv_has ls 5 [(0, .ref (ob 0)), (1, .int (nI a)), (2, .int w), (3, .ref o)] := hl
  refine lv_aload_n hx hcd dL_version_0 rfl (lv_at hl 3 rfl) ?_
  refine lv_iconst (v := nI 0) hx hcd dL_version_1 (by decide) ?_
  refine lv_aload_n hx hcd dL_version_2 rfl (lv_at hl 0 rfl) ?_
  refine lv_iload_n hx hcd dL_version_3 rfl (lv_at hl 1 rfl) ?_
  refine lv_iload_n hx hcd dL_version_4 rfl (lv_at hl 2 rfl) ?_
  refine kl_V (As := [.int (nI a), .int w]) (rest := [.int (nI 0), .ref o]) (q := (RX6, TX6, 5)) ⟨hx, hcd, hml, hown, hts⟩ (c_X6_version__e1b l D cI cB cW cL  _ M hst a w (ob 0) ha hm hg) (cwV 2 hts gL_version_X6_version rfl rfl rfl (by decide +kernel) ⟨Nat.le_of_ble_eq_true rfl, Nat.le_of_ble_eq_true rfl⟩) hZ hK hP hD hS hA [] rfl (by decide) 1 rfl rfl rfl hl.1 rfl (Nat.le_of_ble_eq_true rfl) dL_version_5 ⟨Nat.le_of_ble_eq_true rfl, Nat.le_of_ble_eq_true rfl⟩ [] ⟨0, 10, 13, 13⟩ [⟨0, 10, 17, 15⟩] hTab (fun z hz => absurd hz List.not_mem_nil) (by decide) (by decide) (hts (.classLink RL 13 "java/lang/IndexOutOfBoundsException") (by decide +kernel)) (va_Nw.use rfl (hZ.2.2.2 (.castable "java/lang/IndexOutOfBoundsException" "java/lang/IndexOutOfBoundsException") (by decide +kernel))) (fun H locs q9 hP hD hS => ?_)
  refine lv_astore (lv' := [(4, .ref q9), (0, .ref (ob 0)), (1, .int (nI a)), (2, .int w), (3, .ref o)]) hx hcd dL_version_13 hl (by decide) rfl (fun ls hl => ?_)
  refine lv_iconst (v := nI 1) hx hcd dL_version_15 (by decide) ?_
  exact kr_iret hx hcd hr hlocks hK hP hD hS rfl rfl dL_version_16

set_option maxHeartbeats 4000000 in
set_option maxRecDepth 100000 in
theorem c_L_version__e2 (l : Launch) (hst : l.stackTraces = false) (D : va_G) (cI cB cW cL : ClassId) (o : Nat) (F : Nat → Int64) (ob nw tr : Nat → Nat) (qs : Nat → Nat → Nat) (sc : Nat → Nat) (G : Nat → Option Nat) (N : kM) (S : Nat → kM) (n L : Nat) (T : Nat → Int32) (sz : Nat) (M : kM) (a : Nat) (w : Int32) (ha : a < 6) (hm : ¬ w = -1) (hg : g_why (nI a) w = nI 2) : kMh l yL_version wsL_version ({ frames := 9, cells := 1, slots := 6, locals := 145 }) D vwCl (kT cI cB cW cL) sz [.ref (ob 0), .int (nI a), .int w, .ref o] (wLX cI cB cW cL o F ob nw tr qs sc G M N S n L T) (wLX cI cB cW cL o F ob nw tr qs sc G M N S n L T) 2 := by
  refine kr_ofh (cc := cL_version) (maxL := 5) (ret := (some .int)) (hh := [(0, 10, 13, 13), (0, 10, 17, 15)]) (by decide) rfl (Nat.le_of_ble_eq_true rfl) ?_
  intro pp ee ss mm args below meth cc AA ls hx hcd hr hTab hts hown hlocks hml hZ hN hK hP hD hA hl
  have hS : va_S AA ss.heap ss.heap [] := va_S.rf
  have hown : ss.vm.findClass RL = some mm.cls := hown
  have hl : lv_has ls 5 [(0, .ref (ob 0)), (1, .int (nI a)), (2, .int w), (3, .ref o)] := hl
  refine lv_aload_n hx hcd dL_version_0 rfl (lv_at hl 3 rfl) ?_
  refine lv_iconst (v := nI 0) hx hcd dL_version_1 (by decide) ?_
  refine lv_aload_n hx hcd dL_version_2 rfl (lv_at hl 0 rfl) ?_
  refine lv_iload_n hx hcd dL_version_3 rfl (lv_at hl 1 rfl) ?_
  refine lv_iload_n hx hcd dL_version_4 rfl (lv_at hl 2 rfl) ?_
  refine kl_V (As := [.int (nI a), .int w]) (rest := [.int (nI 0), .ref o]) (q := (RX6, TX6, 5)) ⟨hx, hcd, hml, hown, hts⟩ (c_X6_version__e2 l D cI cB cW cL  _ M hst a w (ob 0) ha hm hg) (cwV 2 hts gL_version_X6_version rfl rfl rfl (by decide +kernel) ⟨Nat.le_of_ble_eq_true rfl, Nat.le_of_ble_eq_true rfl⟩) hZ hK hP hD hS hA [] rfl (by decide) 1 rfl rfl rfl hl.1 rfl (Nat.le_of_ble_eq_true rfl) dL_version_5 ⟨Nat.le_of_ble_eq_true rfl, Nat.le_of_ble_eq_true rfl⟩ [⟨0, 10, 13, 13⟩] ⟨0, 10, 17, 15⟩ [] hTab (fun z hz => Or.inr (by rw [List.mem_singleton.mp hz]; exact ⟨by decide, eIO, hts (.classLink RL 13 "java/lang/IndexOutOfBoundsException") (by decide +kernel), hN _ (List.mem_of_getElem? (i := 0) rfl)⟩)) (by decide) (by decide) (hts (.classLink RL 15 "java/lang/IllegalArgumentException") (by decide +kernel)) (va_Nw.use rfl (hZ.2.2.2 (.castable "java/lang/IllegalArgumentException" "java/lang/IllegalArgumentException") (by decide +kernel))) (fun H locs q9 hP hD hS => ?_)
  refine lv_astore (lv' := [(4, .ref q9), (0, .ref (ob 0)), (1, .int (nI a)), (2, .int w), (3, .ref o)]) hx hcd dL_version_17 hl (by decide) rfl (fun ls hl => ?_)
  refine lv_iconst (v := nI 2) hx hcd dL_version_19 (by decide) ?_
  exact kr_iret hx hcd hr hlocks hK hP hD hS rfl rfl dL_version_20

set_option maxHeartbeats 4000000 in
set_option maxRecDepth 100000 in
theorem c_L_changedSince__ok (l : Launch) (hst : l.stackTraces = false) (D : va_G) (cI cB cW cL : ClassId) (o : Nat) (F : Nat → Int64) (ob nw tr : Nat → Nat) (qs : Nat → Nat → Nat) (sc : Nat → Nat) (G : Nat → Option Nat) (N : kM) (S : Nat → kM) (n L : Nat) (T : Nat → Int32) (sz : Nat) (M : kM) (a : Nat) (v : Int32) (ha : a < 6) (hv : ¬ v < 0) : kMh l yL_changedSince wsL_changedSince ({ frames := 8, cells := 1, slots := 6, locals := 124 }) D vwCl (kT cI cB cW cL) sz [.ref (ob 0), .int (nI a), .int v, .ref o] (wLX cI cB cW cL o F ob nw tr qs sc G M N S n L T) (wLX cI cB cW cL o (vp_updL F 0 ((nI (g_chgN M a v 6) : Int32).toInt64)) ob nw tr qs sc G M N S n L T) 0 := by
  refine kr_ofh (cc := cL_changedSince) (maxL := 5) (ret := (some .int)) (hh := [(0, 10, 13, 13), (0, 10, 17, 15)]) (by decide) rfl (Nat.le_of_ble_eq_true rfl) ?_
  intro pp ee ss mm args below meth cc AA ls hx hcd hr hTab hts hown hlocks hml hZ hN hK hP hD hA hl
  have hS : va_S AA ss.heap ss.heap [] := va_S.rf
  have hown : ss.vm.findClass RL = some mm.cls := hown
  have hl : lv_has ls 5 [(0, .ref (ob 0)), (1, .int (nI a)), (2, .int v), (3, .ref o)] := hl
  refine lv_aload_n hx hcd dL_changedSince_0 rfl (lv_at hl 3 rfl) ?_
  refine lv_iconst (v := nI 0) hx hcd dL_changedSince_1 (by decide) ?_
  refine lv_aload_n hx hcd dL_changedSince_2 rfl (lv_at hl 0 rfl) ?_
  refine lv_iload_n hx hcd dL_changedSince_3 rfl (lv_at hl 1 rfl) ?_
  refine lv_iload_n hx hcd dL_changedSince_4 rfl (lv_at hl 2 rfl) ?_
  refine kr_Vi (As := [.int (nI a), .int v]) (rest := [.int (nI 0), .ref o]) (ws2 := wLX cI cB cW cL o F ob nw tr qs sc G M N S n L T) (q := (RX6, TX6, 5)) ⟨hx, hcd, hml, hown, hts⟩ (c_X6_changedSince__ok l D cI cB cW cL ob nw tr qs sc G N S n L T _ M a v ha hv) (cwV 2 hts gL_changedSince_X6_changedSince rfl rfl rfl (by decide +kernel) ⟨Nat.le_of_ble_eq_true rfl, Nat.le_of_ble_eq_true rfl⟩) hK hP hD hS hA [1, 2, 3, 4, 5, 6, 7, 8, 9, 10, 11, 12, 13, 14, 15, 16, 17, 18, 19, 20, 21, 22, 23, 24, 25, 26, 27, 28, 29, 30, 31, 32, 33, 34, 35, 36, 37, 38, 39, 40, 41, 42, 43, 44, 45, 46, 47, 48, 49, 50, 51, 52, 53, 54, 55, 56, 57, 58, 59, 60, 61, 62, 63, 64, 65, 66, 67, 68, 69, 70, 71, 72, 73, 74, 75, 76, 77, 78, 79, 80, 81, 82, 83, 84, 85, 86, 87, 88, 89, 90, 91, 92, 93, 94] wLX_XC wX_nd2 wX_adr wLX_X 1 rfl rfl rfl hl.1 rfl (Nat.le_of_ble_eq_true rfl) dL_changedSince_5 ⟨Nat.zero_le _, Nat.zero_le _⟩ (fun H locs hP hD hS => ?_)
  refine lv_i2l hx hcd dL_changedSince_8 rfl ?_
  refine kl_last hx hcd hK hP hD hS 0 3 rfl rfl (by omega) (by decide) (ws2 := wLX cI cB cW cL o (vp_updL F 0 ((nI (g_chgN M a v 6) : Int32).toInt64)) ob nw tr qs sc G M N S n L T) rfl dL_changedSince_9 (fun H locs hP hD hS => ?_)
  refine lv_goto (tgt := 21) hx hcd dL_changedSince_10 (by decide) ?_
  refine lv_iconst (v := nI 0) hx hcd dL_changedSince_21 (by decide) ?_
  refine W.widen (k := 1) (n := 6) (Nat.zero_le _) (Nat.zero_le _) ?_
  exact kr_iret hx hcd hr hlocks hK hP hD hS rfl rfl dL_changedSince_22

set_option maxHeartbeats 4000000 in
set_option maxRecDepth 100000 in
theorem c_L_changedSince__e1 (l : Launch) (hst : l.stackTraces = false) (D : va_G) (cI cB cW cL : ClassId) (o : Nat) (F : Nat → Int64) (ob nw tr : Nat → Nat) (qs : Nat → Nat → Nat) (sc : Nat → Nat) (G : Nat → Option Nat) (N : kM) (S : Nat → kM) (n L : Nat) (T : Nat → Int32) (sz : Nat) (M : kM) (u : Int32) (w : Int32) (hg : g_usr u = false) : kMh l yL_changedSince wsL_changedSince ({ frames := 8, cells := 1, slots := 6, locals := 124 }) D vwCl (kT cI cB cW cL) sz [.ref (ob 0), .int u, .int w, .ref o] (wLX cI cB cW cL o F ob nw tr qs sc G M N S n L T) (wLX cI cB cW cL o F ob nw tr qs sc G M N S n L T) 1 := by
  refine kr_ofh (cc := cL_changedSince) (maxL := 5) (ret := (some .int)) (hh := [(0, 10, 13, 13), (0, 10, 17, 15)]) (by decide) rfl (Nat.le_of_ble_eq_true rfl) ?_
  intro pp ee ss mm args below meth cc AA ls hx hcd hr hTab hts hown hlocks hml hZ hN hK hP hD hA hl
  have hS : va_S AA ss.heap ss.heap [] := va_S.rf
  have hown : ss.vm.findClass RL = some mm.cls := hown
  have hl : lv_has ls 5 [(0, .ref (ob 0)), (1, .int u), (2, .int w), (3, .ref o)] := hl
  refine lv_aload_n hx hcd dL_changedSince_0 rfl (lv_at hl 3 rfl) ?_
  refine lv_iconst (v := nI 0) hx hcd dL_changedSince_1 (by decide) ?_
  refine lv_aload_n hx hcd dL_changedSince_2 rfl (lv_at hl 0 rfl) ?_
  refine lv_iload_n hx hcd dL_changedSince_3 rfl (lv_at hl 1 rfl) ?_
  refine lv_iload_n hx hcd dL_changedSince_4 rfl (lv_at hl 2 rfl) ?_
  refine kl_V (As := [.int u, .int w]) (rest := [.int (nI 0), .ref o]) (q := (RX6, TX6, 5)) ⟨hx, hcd, hml, hown, hts⟩ (c_X6_changedSince__e1 l D cI cB cW cL  _ M hst u w (ob 0) hg) (cwV 2 hts gL_changedSince_X6_changedSince rfl rfl rfl (by decide +kernel) ⟨Nat.le_of_ble_eq_true rfl, Nat.le_of_ble_eq_true rfl⟩) hZ hK hP hD hS hA [] rfl (by decide) 1 rfl rfl rfl hl.1 rfl (Nat.le_of_ble_eq_true rfl) dL_changedSince_5 ⟨Nat.le_of_ble_eq_true rfl, Nat.le_of_ble_eq_true rfl⟩ [] ⟨0, 10, 13, 13⟩ [⟨0, 10, 17, 15⟩] hTab (fun z hz => absurd hz List.not_mem_nil) (by decide) (by decide) (hts (.classLink RL 13 "java/lang/IndexOutOfBoundsException") (by decide +kernel)) (va_Nw.use rfl (hZ.2.2.2 (.castable "java/lang/IndexOutOfBoundsException" "java/lang/IndexOutOfBoundsException") (by decide +kernel))) (fun H locs q9 hP hD hS => ?_)
  refine lv_astore (lv' := [(4, .ref q9), (0, .ref (ob 0)), (1, .int u), (2, .int w), (3, .ref o)]) hx hcd dL_changedSince_13 hl (by decide) rfl (fun ls hl => ?_)
  refine lv_iconst (v := nI 1) hx hcd dL_changedSince_15 (by decide) ?_
  exact kr_iret hx hcd hr hlocks hK hP hD hS rfl rfl dL_changedSince_16

set_option maxHeartbeats 4000000 in
set_option maxRecDepth 100000 in
theorem c_L_changedSince__e2 (l : Launch) (hst : l.stackTraces = false) (D : va_G) (cI cB cW cL : ClassId) (o : Nat) (F : Nat → Int64) (ob nw tr : Nat → Nat) (qs : Nat → Nat → Nat) (sc : Nat → Nat) (G : Nat → Option Nat) (N : kM) (S : Nat → kM) (n L : Nat) (T : Nat → Int32) (sz : Nat) (M : kM) (a : Nat) (w : Int32) (ha : a < 6) (hv : w < 0) : kMh l yL_changedSince wsL_changedSince ({ frames := 8, cells := 1, slots := 6, locals := 124 }) D vwCl (kT cI cB cW cL) sz [.ref (ob 0), .int (nI a), .int w, .ref o] (wLX cI cB cW cL o F ob nw tr qs sc G M N S n L T) (wLX cI cB cW cL o F ob nw tr qs sc G M N S n L T) 2 := by
  refine kr_ofh (cc := cL_changedSince) (maxL := 5) (ret := (some .int)) (hh := [(0, 10, 13, 13), (0, 10, 17, 15)]) (by decide) rfl (Nat.le_of_ble_eq_true rfl) ?_
  intro pp ee ss mm args below meth cc AA ls hx hcd hr hTab hts hown hlocks hml hZ hN hK hP hD hA hl
  have hS : va_S AA ss.heap ss.heap [] := va_S.rf
  have hown : ss.vm.findClass RL = some mm.cls := hown
  have hl : lv_has ls 5 [(0, .ref (ob 0)), (1, .int (nI a)), (2, .int w), (3, .ref o)] := hl
  refine lv_aload_n hx hcd dL_changedSince_0 rfl (lv_at hl 3 rfl) ?_
  refine lv_iconst (v := nI 0) hx hcd dL_changedSince_1 (by decide) ?_
  refine lv_aload_n hx hcd dL_changedSince_2 rfl (lv_at hl 0 rfl) ?_
  refine lv_iload_n hx hcd dL_changedSince_3 rfl (lv_at hl 1 rfl) ?_
  refine lv_iload_n hx hcd dL_changedSince_4 rfl (lv_at hl 2 rfl) ?_
  refine kl_V (As := [.int (nI a), .int w]) (rest := [.int (nI 0), .ref o]) (q := (RX6, TX6, 5)) ⟨hx, hcd, hml, hown, hts⟩ (c_X6_changedSince__e2 l D cI cB cW cL  _ M hst a w (ob 0) ha hv) (cwV 2 hts gL_changedSince_X6_changedSince rfl rfl rfl (by decide +kernel) ⟨Nat.le_of_ble_eq_true rfl, Nat.le_of_ble_eq_true rfl⟩) hZ hK hP hD hS hA [] rfl (by decide) 1 rfl rfl rfl hl.1 rfl (Nat.le_of_ble_eq_true rfl) dL_changedSince_5 ⟨Nat.le_of_ble_eq_true rfl, Nat.le_of_ble_eq_true rfl⟩ [⟨0, 10, 13, 13⟩] ⟨0, 10, 17, 15⟩ [] hTab (fun z hz => Or.inr (by rw [List.mem_singleton.mp hz]; exact ⟨by decide, eIO, hts (.classLink RL 13 "java/lang/IndexOutOfBoundsException") (by decide +kernel), hN _ (List.mem_of_getElem? (i := 0) rfl)⟩)) (by decide) (by decide) (hts (.classLink RL 15 "java/lang/IllegalArgumentException") (by decide +kernel)) (va_Nw.use rfl (hZ.2.2.2 (.castable "java/lang/IllegalArgumentException" "java/lang/IllegalArgumentException") (by decide +kernel))) (fun H locs q9 hP hD hS => ?_)
  refine lv_astore (lv' := [(4, .ref q9), (0, .ref (ob 0)), (1, .int (nI a)), (2, .int w), (3, .ref o)]) hx hcd dL_changedSince_17 hl (by decide) rfl (fun ls hl => ?_)
  refine lv_iconst (v := nI 2) hx hcd dL_changedSince_19 (by decide) ?_
  exact kr_iret hx hcd hr hlocks hK hP hD hS rfl rfl dL_changedSince_20

set_option maxHeartbeats 4000000 in
set_option maxRecDepth 100000 in
theorem c_L_view__ok (l : Launch) (hst : l.stackTraces = false) (D : va_G) (cI cB cW cL : ClassId) (o : Nat) (F : Nat → Int64) (ob nw tr : Nat → Nat) (qs : Nat → Nat → Nat) (sc : Nat → Nat) (G : Nat → Option Nat) (N : kM) (S : Nat → kM) (n L : Nat) (T : Nat → Int32) (sz : Nat) (M : kM) (a : Nat) (b : Nat) (s : Nat) (ha : a < 6) (hb : b < 6) (hs : s < 3) (hne : a ≠ b) : kMh l yL_view wsL_view ({ frames := 9, cells := 1, slots := 6, locals := 146 }) D vwCl (kT cI cB cW cL) sz [.ref (ob 0), .int (nI a), .int (nI b), .int (nI s), .ref o] (wLX cI cB cW cL o F ob nw tr qs sc G M N S n L T) (wLX cI cB cW cL o (vp_updL F 0 (((M (132 + 18 * a + 3 * b + s)) : Int32).toInt64)) ob nw tr qs sc G M N S n L T) 0 := by
  refine kr_ofh (cc := cL_view) (maxL := 6) (ret := (some .int)) (hh := [(0, 12, 15, 13), (0, 12, 19, 15)]) (by decide) rfl (Nat.le_of_ble_eq_true rfl) ?_
  intro pp ee ss mm args below meth cc AA ls hx hcd hr hTab hts hown hlocks hml hZ hN hK hP hD hA hl
  have hS : va_S AA ss.heap ss.heap [] := va_S.rf
  have hown : ss.vm.findClass RL = some mm.cls := hown
  have hl : lv_has ls 6 [(0, .ref (ob 0)), (1, .int (nI a)), (2, .int (nI b)), (3, .int (nI s)), (4, .ref o)] := hl
  refine lv_aload hx hcd dL_view_0 (lv_at hl 4 rfl) ?_
  refine lv_iconst (v := nI 0) hx hcd dL_view_2 (by decide) ?_
  refine lv_aload_n hx hcd dL_view_3 rfl (lv_at hl 0 rfl) ?_
  refine lv_iload_n hx hcd dL_view_4 rfl (lv_at hl 1 rfl) ?_
  refine lv_iload_n hx hcd dL_view_5 rfl (lv_at hl 2 rfl) ?_
  refine lv_iload_n hx hcd dL_view_6 rfl (lv_at hl 3 rfl) ?_
  refine kr_Vi (As := [.int (nI a), .int (nI b), .int (nI s)]) (rest := [.int (nI 0), .ref o]) (ws2 := wLX cI cB cW cL o F ob nw tr qs sc G M N S n L T) (q := (RX6, TX6, 5)) ⟨hx, hcd, hml, hown, hts⟩ (c_X6_view__ok l D cI cB cW cL ob nw tr qs sc G N S n L T _ M a b s ha hb hs hne) (cwV 3 hts gL_view_X6_view rfl rfl rfl (by decide +kernel) ⟨Nat.le_of_ble_eq_true rfl, Nat.le_of_ble_eq_true rfl⟩) hK hP hD hS hA [1, 2, 3, 4, 5, 6, 7, 8, 9, 10, 11, 12, 13, 14, 15, 16, 17, 18, 19, 20, 21, 22, 23, 24, 25, 26, 27, 28, 29, 30, 31, 32, 33, 34, 35, 36, 37, 38, 39, 40, 41, 42, 43, 44, 45, 46, 47, 48, 49, 50, 51, 52, 53, 54, 55, 56, 57, 58, 59, 60, 61, 62, 63, 64, 65, 66, 67, 68, 69, 70, 71, 72, 73, 74, 75, 76, 77, 78, 79, 80, 81, 82, 83, 84, 85, 86, 87, 88, 89, 90, 91, 92, 93, 94] wLX_XC wX_nd2 wX_adr wLX_X 1 rfl rfl rfl hl.1 rfl (Nat.le_of_ble_eq_true rfl) dL_view_7 ⟨Nat.zero_le _, Nat.zero_le _⟩ (fun H locs hP hD hS => ?_)
  refine lv_i2l hx hcd dL_view_10 rfl ?_
  refine kl_last hx hcd hK hP hD hS 0 3 rfl rfl (by omega) (by decide) (ws2 := wLX cI cB cW cL o (vp_updL F 0 ((M (132 + 18 * a + 3 * b + s) : Int32).toInt64)) ob nw tr qs sc G M N S n L T) rfl dL_view_11 (fun H locs hP hD hS => ?_)
  refine lv_goto (tgt := 23) hx hcd dL_view_12 (by decide) ?_
  refine lv_iconst (v := nI 0) hx hcd dL_view_23 (by decide) ?_
  refine W.widen (k := 1) (n := 6) (Nat.zero_le _) (Nat.zero_le _) ?_
  exact kr_iret hx hcd hr hlocks hK hP hD hS rfl rfl dL_view_24

set_option maxHeartbeats 4000000 in
set_option maxRecDepth 100000 in
theorem c_L_view__e1a (l : Launch) (hst : l.stackTraces = false) (D : va_G) (cI cB cW cL : ClassId) (o : Nat) (F : Nat → Int64) (ob nw tr : Nat → Nat) (qs : Nat → Nat → Nat) (sc : Nat → Nat) (G : Nat → Option Nat) (N : kM) (S : Nat → kM) (n L : Nat) (T : Nat → Int32) (sz : Nat) (M : kM) (u : Int32) (w : Int32) (t : Int32) (hg : g_seatok u t = false) : kMh l yL_view wsL_view ({ frames := 9, cells := 1, slots := 6, locals := 146 }) D vwCl (kT cI cB cW cL) sz [.ref (ob 0), .int u, .int w, .int t, .ref o] (wLX cI cB cW cL o F ob nw tr qs sc G M N S n L T) (wLX cI cB cW cL o F ob nw tr qs sc G M N S n L T) 1 := by
  refine kr_ofh (cc := cL_view) (maxL := 6) (ret := (some .int)) (hh := [(0, 12, 15, 13), (0, 12, 19, 15)]) (by decide) rfl (Nat.le_of_ble_eq_true rfl) ?_
  intro pp ee ss mm args below meth cc AA ls hx hcd hr hTab hts hown hlocks hml hZ hN hK hP hD hA hl
  have hS : va_S AA ss.heap ss.heap [] := va_S.rf
  have hown : ss.vm.findClass RL = some mm.cls := hown
  have hl : lv_has ls 6 [(0, .ref (ob 0)), (1, .int u), (2, .int w), (3, .int t), (4, .ref o)] := hl
  refine lv_aload hx hcd dL_view_0 (lv_at hl 4 rfl) ?_
  refine lv_iconst (v := nI 0) hx hcd dL_view_2 (by decide) ?_
  refine lv_aload_n hx hcd dL_view_3 rfl (lv_at hl 0 rfl) ?_
  refine lv_iload_n hx hcd dL_view_4 rfl (lv_at hl 1 rfl) ?_
  refine lv_iload_n hx hcd dL_view_5 rfl (lv_at hl 2 rfl) ?_
  refine lv_iload_n hx hcd dL_view_6 rfl (lv_at hl 3 rfl) ?_
  refine kl_V (As := [.int u, .int w, .int t]) (rest := [.int (nI 0), .ref o]) (q := (RX6, TX6, 5)) ⟨hx, hcd, hml, hown, hts⟩ (c_X6_view__e1a l D cI cB cW cL  _ M hst u w t (ob 0) hg) (cwV 3 hts gL_view_X6_view rfl rfl rfl (by decide +kernel) ⟨Nat.le_of_ble_eq_true rfl, Nat.le_of_ble_eq_true rfl⟩) hZ hK hP hD hS hA [] rfl (by decide) 1 rfl rfl rfl hl.1 rfl (Nat.le_of_ble_eq_true rfl) dL_view_7 ⟨Nat.le_of_ble_eq_true rfl, Nat.le_of_ble_eq_true rfl⟩ [] ⟨0, 12, 15, 13⟩ [⟨0, 12, 19, 15⟩] hTab (fun z hz => absurd hz List.not_mem_nil) (by decide) (by decide) (hts (.classLink RL 13 "java/lang/IndexOutOfBoundsException") (by decide +kernel)) (va_Nw.use rfl (hZ.2.2.2 (.castable "java/lang/IndexOutOfBoundsException" "java/lang/IndexOutOfBoundsException") (by decide +kernel))) (fun H locs q9 hP hD hS => ?_)
  refine lv_astore (lv' := [(5, .ref q9), (0, .ref (ob 0)), (1, .int u), (2, .int w), (3, .int t), (4, .ref o)]) hx hcd dL_view_15 hl (by decide) rfl (fun ls hl => ?_)
  refine lv_iconst (v := nI 1) hx hcd dL_view_17 (by decide) ?_
  exact kr_iret hx hcd hr hlocks hK hP hD hS rfl rfl dL_view_18

set_option maxHeartbeats 4000000 in
set_option maxRecDepth 100000 in
theorem c_L_view__e1b (l : Launch) (hst : l.stackTraces = false) (D : va_G) (cI cB cW cL : ClassId) (o : Nat) (F : Nat → Int64) (ob nw tr : Nat → Nat) (qs : Nat → Nat → Nat) (sc : Nat → Nat) (G : Nat → Option Nat) (N : kM) (S : Nat → kM) (n L : Nat) (T : Nat → Int32) (sz : Nat) (M : kM) (a : Nat) (w : Int32) (s : Nat) (ha : a < 6) (hs : s < 3) (hg : g_why (nI a) w = nI 1) : kMh l yL_view wsL_view ({ frames := 9, cells := 1, slots := 6, locals := 146 }) D vwCl (kT cI cB cW cL) sz [.ref (ob 0), .int (nI a), .int w, .int (nI s), .ref o] (wLX cI cB cW cL o F ob nw tr qs sc G M N S n L T) (wLX cI cB cW cL o F ob nw tr qs sc G M N S n L T) 1 := by
  refine kr_ofh (cc := cL_view) (maxL := 6) (ret := (some .int)) (hh := [(0, 12, 15, 13), (0, 12, 19, 15)]) (by decide) rfl (Nat.le_of_ble_eq_true rfl) ?_
  intro pp ee ss mm args below meth cc AA ls hx hcd hr hTab hts hown hlocks hml hZ hN hK hP hD hA hl
  have hS : va_S AA ss.heap ss.heap [] := va_S.rf
  have hown : ss.vm.findClass RL = some mm.cls := hown
  have hl : lv_has ls 6 [(0, .ref (ob 0)), (1, .int (nI a)), (2, .int w), (3, .int (nI s)), (4, .ref o)] := hl
  refine lv_aload hx hcd dL_view_0 (lv_at hl 4 rfl) ?_
  refine lv_iconst (v := nI 0) hx hcd dL_view_2 (by decide) ?_
  refine lv_aload_n hx hcd dL_view_3 rfl (lv_at hl 0 rfl) ?_
  refine lv_iload_n hx hcd dL_view_4 rfl (lv_at hl 1 rfl) ?_
  refine lv_iload_n hx hcd dL_view_5 rfl (lv_at hl 2 rfl) ?_
  refine lv_iload_n hx hcd dL_view_6 rfl (lv_at hl 3 rfl) ?_
  refine kl_V (As := [.int (nI a), .int w, .int (nI s)]) (rest := [.int (nI 0), .ref o]) (q := (RX6, TX6, 5)) ⟨hx, hcd, hml, hown, hts⟩ (c_X6_view__e1b l D cI cB cW cL  _ M hst a w s (ob 0) ha hs hg) (cwV 3 hts gL_view_X6_view rfl rfl rfl (by decide +kernel) ⟨Nat.le_of_ble_eq_true rfl, Nat.le_of_ble_eq_true rfl⟩) hZ hK hP hD hS hA [] rfl (by decide) 1 rfl rfl rfl hl.1 rfl (Nat.le_of_ble_eq_true rfl) dL_view_7 ⟨Nat.le_of_ble_eq_true rfl, Nat.le_of_ble_eq_true rfl⟩ [] ⟨0, 12, 15, 13⟩ [⟨0, 12, 19, 15⟩] hTab (fun z hz => absurd hz List.not_mem_nil) (by decide) (by decide) (hts (.classLink RL 13 "java/lang/IndexOutOfBoundsException") (by decide +kernel)) (va_Nw.use rfl (hZ.2.2.2 (.castable "java/lang/IndexOutOfBoundsException" "java/lang/IndexOutOfBoundsException") (by decide +kernel))) (fun H locs q9 hP hD hS => ?_)
  refine lv_astore (lv' := [(5, .ref q9), (0, .ref (ob 0)), (1, .int (nI a)), (2, .int w), (3, .int (nI s)), (4, .ref o)]) hx hcd dL_view_15 hl (by decide) rfl (fun ls hl => ?_)
  refine lv_iconst (v := nI 1) hx hcd dL_view_17 (by decide) ?_
  exact kr_iret hx hcd hr hlocks hK hP hD hS rfl rfl dL_view_18

set_option maxHeartbeats 4000000 in
set_option maxRecDepth 100000 in
theorem c_L_view__e2 (l : Launch) (hst : l.stackTraces = false) (D : va_G) (cI cB cW cL : ClassId) (o : Nat) (F : Nat → Int64) (ob nw tr : Nat → Nat) (qs : Nat → Nat → Nat) (sc : Nat → Nat) (G : Nat → Option Nat) (N : kM) (S : Nat → kM) (n L : Nat) (T : Nat → Int32) (sz : Nat) (M : kM) (a : Nat) (w : Int32) (s : Nat) (ha : a < 6) (hs : s < 3) (hg : g_why (nI a) w = nI 2) : kMh l yL_view wsL_view ({ frames := 9, cells := 1, slots := 6, locals := 146 }) D vwCl (kT cI cB cW cL) sz [.ref (ob 0), .int (nI a), .int w, .int (nI s), .ref o] (wLX cI cB cW cL o F ob nw tr qs sc G M N S n L T) (wLX cI cB cW cL o F ob nw tr qs sc G M N S n L T) 2 := by
  refine kr_ofh (cc := cL_view) (maxL := 6) (ret := (some .int)) (hh := [(0, 12, 15, 13), (0, 12, 19, 15)]) (by decide) rfl (Nat.le_of_ble_eq_true rfl) ?_
  intro pp ee ss mm args below meth cc AA ls hx hcd hr hTab hts hown hlocks hml hZ hN hK hP hD hA hl
  have hS : va_S AA ss.heap ss.heap [] := va_S.rf
  have hown : ss.vm.findClass RL = some mm.cls := hown
  have hl : lv_has ls 6 [(0, .ref (ob 0)), (1, .int (nI a)), (2, .int w), (3, .int (nI s)), (4, .ref o)] := hl
  refine lv_aload hx hcd dL_view_0 (lv_at hl 4 rfl) ?_
  refine lv_iconst (v := nI 0) hx hcd dL_view_2 (by decide) ?_
  refine lv_aload_n hx hcd dL_view_3 rfl (lv_at hl 0 rfl) ?_
  refine lv_iload_n hx hcd dL_view_4 rfl (lv_at hl 1 rfl) ?_
  refine lv_iload_n hx hcd dL_view_5 rfl (lv_at hl 2 rfl) ?_
  refine lv_iload_n hx hcd dL_view_6 rfl (lv_at hl 3 rfl) ?_
  refine kl_V (As := [.int (nI a), .int w, .int (nI s)]) (rest := [.int (nI 0), .ref o]) (q := (RX6, TX6, 5)) ⟨hx, hcd, hml, hown, hts⟩ (c_X6_view__e2 l D cI cB cW cL  _ M hst a w s (ob 0) ha hs hg) (cwV 3 hts gL_view_X6_view rfl rfl rfl (by decide +kernel) ⟨Nat.le_of_ble_eq_true rfl, Nat.le_of_ble_eq_true rfl⟩) hZ hK hP hD hS hA [] rfl (by decide) 1 rfl rfl rfl hl.1 rfl (Nat.le_of_ble_eq_true rfl) dL_view_7 ⟨Nat.le_of_ble_eq_true rfl, Nat.le_of_ble_eq_true rfl⟩ [⟨0, 12, 15, 13⟩] ⟨0, 12, 19, 15⟩ [] hTab (fun z hz => Or.inr (by rw [List.mem_singleton.mp hz]; exact ⟨by decide, eIO, hts (.classLink RL 13 "java/lang/IndexOutOfBoundsException") (by decide +kernel), hN _ (List.mem_of_getElem? (i := 0) rfl)⟩)) (by decide) (by decide) (hts (.classLink RL 15 "java/lang/IllegalArgumentException") (by decide +kernel)) (va_Nw.use rfl (hZ.2.2.2 (.castable "java/lang/IllegalArgumentException" "java/lang/IllegalArgumentException") (by decide +kernel))) (fun H locs q9 hP hD hS => ?_)
  refine lv_astore (lv' := [(5, .ref q9), (0, .ref (ob 0)), (1, .int (nI a)), (2, .int w), (3, .int (nI s)), (4, .ref o)]) hx hcd dL_view_19 hl (by decide) rfl (fun ls hl => ?_)
  refine lv_iconst (v := nI 2) hx hcd dL_view_21 (by decide) ?_
  exact kr_iret hx hcd hr hlocks hK hP hD hS rfl rfl dL_view_22

set_option maxHeartbeats 4000000 in
set_option maxRecDepth 100000 in
theorem c_L_wrongViews__ok (l : Launch) (hst : l.stackTraces = false) (D : va_G) (cI cB cW cL : ClassId) (o : Nat) (F : Nat → Int64) (ob nw tr : Nat → Nat) (qs : Nat → Nat → Nat) (sc : Nat → Nat) (G : Nat → Option Nat) (N : kM) (S : Nat → kM) (n L : Nat) (T : Nat → Int32) (sz : Nat) (M : kM) (a : Nat) (ha : a < 6) : kMh l yL_wrongViews wsL_wrongViews ({ frames := 8, cells := 1, slots := 6, locals := 123 }) D vwCl (kT cI cB cW cL) sz [.ref (ob 0), .int (nI a), .ref o] (wLX cI cB cW cL o F ob nw tr qs sc G M N S n L T) (wLX cI cB cW cL o (vp_updL F 0 ((nI (g_wrA M a 6) : Int32).toInt64)) ob nw tr qs sc G M N S n L T) 0 := by
  refine kr_ofh (cc := cL_wrongViews) (maxL := 4) (ret := (some .int)) (hh := [(0, 9, 12, 13)]) (by decide) rfl (Nat.le_of_ble_eq_true rfl) ?_
  intro pp ee ss mm args below meth cc AA ls hx hcd hr hTab hts hown hlocks hml hZ hN hK hP hD hA hl
  have hS : va_S AA ss.heap ss.heap [] := va_S.rf
  have hown : ss.vm.findClass RL = some mm.cls := hown
  have hl : lv_has ls 4 [(0, .ref (ob 0)), (1, .int (nI a)), (2, .ref o)] := hl
  refine lv_aload_n hx hcd dL_wrongViews_0 rfl (lv_at hl 2 rfl) ?_
  refine lv_iconst (v := nI 0) hx hcd dL_wrongViews_1 (by decide) ?_
  refine lv_aload_n hx hcd dL_wrongViews_2 rfl (lv_at hl 0 rfl) ?_
  refine lv_iload_n hx hcd dL_wrongViews_3 rfl (lv_at hl 1 rfl) ?_
  refine kr_Vi (As := [.int (nI a)]) (rest := [.int (nI 0), .ref o]) (ws2 := wLX cI cB cW cL o F ob nw tr qs sc G M N S n L T) (q := (RX6, TX6, 5)) ⟨hx, hcd, hml, hown, hts⟩ (c_X6_wrongViews__ok l D cI cB cW cL ob nw tr qs sc G N S n L T _ M a ha) (cwV 1 hts gL_wrongViews_X6_wrongViews rfl rfl rfl (by decide +kernel) ⟨Nat.le_of_ble_eq_true rfl, Nat.le_of_ble_eq_true rfl⟩) hK hP hD hS hA [1, 2, 3, 4, 5, 6, 7, 8, 9, 10, 11, 12, 13, 14, 15, 16, 17, 18, 19, 20, 21, 22, 23, 24, 25, 26, 27, 28, 29, 30, 31, 32, 33, 34, 35, 36, 37, 38, 39, 40, 41, 42, 43, 44, 45, 46, 47, 48, 49, 50, 51, 52, 53, 54, 55, 56, 57, 58, 59, 60, 61, 62, 63, 64, 65, 66, 67, 68, 69, 70, 71, 72, 73, 74, 75, 76, 77, 78, 79, 80, 81, 82, 83, 84, 85, 86, 87, 88, 89, 90, 91, 92, 93, 94] wLX_XC wX_nd2 wX_adr wLX_X 1 rfl rfl rfl hl.1 rfl (Nat.le_of_ble_eq_true rfl) dL_wrongViews_4 ⟨Nat.zero_le _, Nat.zero_le _⟩ (fun H locs hP hD hS => ?_)
  refine lv_i2l hx hcd dL_wrongViews_7 rfl ?_
  refine kl_last hx hcd hK hP hD hS 0 3 rfl rfl (by omega) (by decide) (ws2 := wLX cI cB cW cL o (vp_updL F 0 ((nI (g_wrA M a 6) : Int32).toInt64)) ob nw tr qs sc G M N S n L T) rfl dL_wrongViews_8 (fun H locs hP hD hS => ?_)
  refine lv_goto (tgt := 15) hx hcd dL_wrongViews_9 (by decide) ?_
  refine lv_iconst (v := nI 0) hx hcd dL_wrongViews_15 (by decide) ?_
  refine W.widen (k := 1) (n := 6) (Nat.zero_le _) (Nat.zero_le _) ?_
  exact kr_iret hx hcd hr hlocks hK hP hD hS rfl rfl dL_wrongViews_16

set_option maxHeartbeats 4000000 in
set_option maxRecDepth 100000 in
theorem c_L_wrongViews__e1 (l : Launch) (hst : l.stackTraces = false) (D : va_G) (cI cB cW cL : ClassId) (o : Nat) (F : Nat → Int64) (ob nw tr : Nat → Nat) (qs : Nat → Nat → Nat) (sc : Nat → Nat) (G : Nat → Option Nat) (N : kM) (S : Nat → kM) (n L : Nat) (T : Nat → Int32) (sz : Nat) (M : kM) (u : Int32) (hg : g_usr u = false) : kMh l yL_wrongViews wsL_wrongViews ({ frames := 8, cells := 1, slots := 6, locals := 123 }) D vwCl (kT cI cB cW cL) sz [.ref (ob 0), .int u, .ref o] (wLX cI cB cW cL o F ob nw tr qs sc G M N S n L T) (wLX cI cB cW cL o F ob nw tr qs sc G M N S n L T) 1 := by
  refine kr_ofh (cc := cL_wrongViews) (maxL := 4) (ret := (some .int)) (hh := [(0, 9, 12, 13)]) (by decide) rfl (Nat.le_of_ble_eq_true rfl) ?_
  intro pp ee ss mm args below meth cc AA ls hx hcd hr hTab hts hown hlocks hml hZ hN hK hP hD hA hl
  have hS : va_S AA ss.heap ss.heap [] := va_S.rf
  have hown : ss.vm.findClass RL = some mm.cls := hown
  have hl : lv_has ls 4 [(0, .ref (ob 0)), (1, .int u), (2, .ref o)] := hl
  refine lv_aload_n hx hcd dL_wrongViews_0 rfl (lv_at hl 2 rfl) ?_
  refine lv_iconst (v := nI 0) hx hcd dL_wrongViews_1 (by decide) ?_
  refine lv_aload_n hx hcd dL_wrongViews_2 rfl (lv_at hl 0 rfl) ?_
  refine lv_iload_n hx hcd dL_wrongViews_3 rfl (lv_at hl 1 rfl) ?_
  refine kl_V (As := [.int u]) (rest := [.int (nI 0), .ref o]) (q := (RX6, TX6, 5)) ⟨hx, hcd, hml, hown, hts⟩ (c_X6_wrongViews__e1 l D cI cB cW cL  _ M hst u (ob 0) hg) (cwV 1 hts gL_wrongViews_X6_wrongViews rfl rfl rfl (by decide +kernel) ⟨Nat.le_of_ble_eq_true rfl, Nat.le_of_ble_eq_true rfl⟩) hZ hK hP hD hS hA [] rfl (by decide) 1 rfl rfl rfl hl.1 rfl (Nat.le_of_ble_eq_true rfl) dL_wrongViews_4 ⟨Nat.le_of_ble_eq_true rfl, Nat.le_of_ble_eq_true rfl⟩ [] ⟨0, 9, 12, 13⟩ [] hTab (fun z hz => absurd hz List.not_mem_nil) (by decide) (by decide) (hts (.classLink RL 13 "java/lang/IndexOutOfBoundsException") (by decide +kernel)) (va_Nw.use rfl (hZ.2.2.2 (.castable "java/lang/IndexOutOfBoundsException" "java/lang/IndexOutOfBoundsException") (by decide +kernel))) (fun H locs q9 hP hD hS => ?_)
  refine lv_astore_n (lv' := [(3, .ref q9), (0, .ref (ob 0)), (1, .int u), (2, .ref o)]) hx hcd dL_wrongViews_12 rfl hl (by decide) rfl (fun ls hl => ?_)
  refine lv_iconst (v := nI 1) hx hcd dL_wrongViews_13 (by decide) ?_
  exact kr_iret hx hcd hr hlocks hK hP hD hS rfl rfl dL_wrongViews_14

set_option maxHeartbeats 4000000 in
set_option maxRecDepth 100000 in
theorem c_L_append__ok (l : Launch) (hst : l.stackTraces = false) (D : va_G) (cI cB cW cL : ClassId) (o : Nat) (F : Nat → Int64) (ob nw tr : Nat → Nat) (qs : Nat → Nat → Nat) (sc : Nat → Nat) (G : Nat → Option Nat) (N : kM) (S : Nat → kM) (n L : Nat) (T : Nat → Int32) (sz : Nat) (M : kM) (v : Nat) (hv : v ≤ 127) (hLt : L < 100) : kMh l yL_append wsL_append ({ frames := 7, cells := 1, slots := 6, locals := 103 }) D vwCl (kT cI cB cW cL) sz [.ref (ob 0), .int (nI v), .ref o] (wLX cI cB cW cL o F ob nw tr qs sc G M N S n L T) (wLX cI cB cW cL o (vp_updL F 0 ((nI (L + 1) : Int32).toInt64)) ob nw tr qs sc G M N S n (L + 1) (upd T (L) (nI v))) 0 := by
  refine kr_ofh (cc := cL_append) (maxL := 4) (ret := (some .int)) (hh := [(0, 9, 12, 15), (0, 9, 15, 37)]) (by decide) rfl (Nat.le_of_ble_eq_true rfl) ?_
  intro pp ee ss mm args below meth cc AA ls hx hcd hr hTab hts hown hlocks hml hZ hN hK hP hD hA hl
  have hS : va_S AA ss.heap ss.heap [] := va_S.rf
  have hown : ss.vm.findClass RL = some mm.cls := hown
  have hl : lv_has ls 4 [(0, .ref (ob 0)), (1, .int (nI v)), (2, .ref o)] := hl
  refine lv_aload_n hx hcd dL_append_0 rfl (lv_at hl 2 rfl) ?_
  refine lv_iconst (v := nI 0) hx hcd dL_append_1 (by decide) ?_
  refine lv_aload_n hx hcd dL_append_2 rfl (lv_at hl 0 rfl) ?_
  refine lv_iload_n hx hcd dL_append_3 rfl (lv_at hl 1 rfl) ?_
  refine kr_Vi (As := [.int (nI v)]) (rest := [.int (nI 0), .ref o]) (ws2 := wLX cI cB cW cL o F ob nw tr qs sc G M N S n (L + 1) (upd T (L) (nI v))) (q := (RX6, TX6, 5)) ⟨hx, hcd, hml, hown, hts⟩ (c_X6_append__ok l D cI cB cW cL ob nw tr qs sc G N S n L T _ M v hv hLt) (cwV 1 hts gL_append_X6_append rfl rfl rfl (by decide +kernel) ⟨Nat.le_of_ble_eq_true rfl, Nat.le_of_ble_eq_true rfl⟩) hK hP hD hS hA [1, 2, 3, 4, 5, 6, 7, 8, 9, 10, 11, 12, 13, 14, 15, 16, 17, 18, 19, 20, 21, 22, 23, 24, 25, 26, 27, 28, 29, 30, 31, 32, 33, 34, 35, 36, 37, 38, 39, 40, 41, 42, 43, 44, 45, 46, 47, 48, 49, 50, 51, 52, 53, 54, 55, 56, 57, 58, 59, 60, 61, 62, 63, 64, 65, 66, 67, 68, 69, 70, 71, 72, 73, 74, 75, 76, 77, 78, 79, 80, 81, 82, 83, 84, 85, 86, 87, 88, 89, 90, 91, 92, 93, 94] wLX_XC wX_nd2 wX_adr wLX_X 1 rfl rfl rfl hl.1 rfl (Nat.le_of_ble_eq_true rfl) dL_append_4 ⟨Nat.zero_le _, Nat.zero_le _⟩ (fun H locs hP hD hS => ?_)
  refine lv_i2l hx hcd dL_append_7 rfl ?_
  refine kl_last hx hcd hK hP hD hS 0 3 rfl rfl (by omega) (by decide) (ws2 := wLX cI cB cW cL o (vp_updL F 0 ((nI (L + 1) : Int32).toInt64)) ob nw tr qs sc G M N S n (L + 1) (upd T (L) (nI v))) rfl dL_append_8 (fun H locs hP hD hS => ?_)
  refine lv_goto (tgt := 18) hx hcd dL_append_9 (by decide) ?_
  refine lv_iconst (v := nI 0) hx hcd dL_append_18 (by decide) ?_
  refine W.widen (k := 1) (n := 6) (Nat.zero_le _) (Nat.zero_le _) ?_
  exact kr_iret hx hcd hr hlocks hK hP hD hS rfl rfl dL_append_19

set_option maxHeartbeats 4000000 in
set_option maxRecDepth 100000 in
theorem c_L_append__e1 (l : Launch) (hst : l.stackTraces = false) (D : va_G) (cI cB cW cL : ClassId) (o : Nat) (F : Nat → Int64) (ob nw tr : Nat → Nat) (qs : Nat → Nat → Nat) (sc : Nat → Nat) (G : Nat → Option Nat) (N : kM) (S : Nat → kM) (n L : Nat) (T : Nat → Int32) (sz : Nat) (M : kM) (u : Int32) (hg : g_in u 0 127 = false) : kMh l yL_append wsL_append ({ frames := 7, cells := 1, slots := 6, locals := 103 }) D vwCl (kT cI cB cW cL) sz [.ref (ob 0), .int u, .ref o] (wLX cI cB cW cL o F ob nw tr qs sc G M N S n L T) (wLX cI cB cW cL o F ob nw tr qs sc G M N S n L T) 1 := by
  refine kr_ofh (cc := cL_append) (maxL := 4) (ret := (some .int)) (hh := [(0, 9, 12, 15), (0, 9, 15, 37)]) (by decide) rfl (Nat.le_of_ble_eq_true rfl) ?_
  intro pp ee ss mm args below meth cc AA ls hx hcd hr hTab hts hown hlocks hml hZ hN hK hP hD hA hl
  have hS : va_S AA ss.heap ss.heap [] := va_S.rf
  have hown : ss.vm.findClass RL = some mm.cls := hown
  have hl : lv_has ls 4 [(0, .ref (ob 0)), (1, .int u), (2, .ref o)] := hl
  refine lv_aload_n hx hcd dL_append_0 rfl (lv_at hl 2 rfl) ?_
  refine lv_iconst (v := nI 0) hx hcd dL_append_1 (by decide) ?_
  refine lv_aload_n hx hcd dL_append_2 rfl (lv_at hl 0 rfl) ?_
  refine lv_iload_n hx hcd dL_append_3 rfl (lv_at hl 1 rfl) ?_
  refine kl_V (As := [.int u]) (rest := [.int (nI 0), .ref o]) (q := (RX6, TX6, 5)) ⟨hx, hcd, hml, hown, hts⟩ (c_X6_append__e1 l D cI cB cW cL  _ M hst u (ob 0) hg) (cwV 1 hts gL_append_X6_append rfl rfl rfl (by decide +kernel) ⟨Nat.le_of_ble_eq_true rfl, Nat.le_of_ble_eq_true rfl⟩) hZ hK hP hD hS hA [] rfl (by decide) 1 rfl rfl rfl hl.1 rfl (Nat.le_of_ble_eq_true rfl) dL_append_4 ⟨Nat.le_of_ble_eq_true rfl, Nat.le_of_ble_eq_true rfl⟩ [] ⟨0, 9, 12, 15⟩ [⟨0, 9, 15, 37⟩] hTab (fun z hz => absurd hz List.not_mem_nil) (by decide) (by decide) (hts (.classLink RL 15 "java/lang/IllegalArgumentException") (by decide +kernel)) (va_Nw.use rfl (hZ.2.2.2 (.castable "java/lang/IllegalArgumentException" "java/lang/IllegalArgumentException") (by decide +kernel))) (fun H locs q9 hP hD hS => ?_)
  refine lv_astore_n (lv' := [(3, .ref q9), (0, .ref (ob 0)), (1, .int u), (2, .ref o)]) hx hcd dL_append_12 rfl hl (by decide) rfl (fun ls hl => ?_)
  refine lv_iconst (v := nI 1) hx hcd dL_append_13 (by decide) ?_
  exact kr_iret hx hcd hr hlocks hK hP hD hS rfl rfl dL_append_14

set_option maxHeartbeats 4000000 in
set_option maxRecDepth 100000 in
theorem c_L_append__e2 (l : Launch) (hst : l.stackTraces = false) (D : va_G) (cI cB cW cL : ClassId) (o : Nat) (F : Nat → Int64) (ob nw tr : Nat → Nat) (qs : Nat → Nat → Nat) (sc : Nat → Nat) (G : Nat → Option Nat) (N : kM) (S : Nat → kM) (n L : Nat) (T : Nat → Int32) (sz : Nat) (M : kM) (v : Nat) (hv : v ≤ 127) : kMh l yL_append wsL_append ({ frames := 7, cells := 1, slots := 6, locals := 103 }) D vwCl (kT cI cB cW cL) sz [.ref (ob 0), .int (nI v), .ref o] (wLX cI cB cW cL o F ob nw tr qs sc G M N S n 100 T) (wLX cI cB cW cL o F ob nw tr qs sc G M N S n 100 T) 2 := by
  refine kr_ofh (cc := cL_append) (maxL := 4) (ret := (some .int)) (hh := [(0, 9, 12, 15), (0, 9, 15, 37)]) (by decide) rfl (Nat.le_of_ble_eq_true rfl) ?_
  intro pp ee ss mm args below meth cc AA ls hx hcd hr hTab hts hown hlocks hml hZ hN hK hP hD hA hl
  have hS : va_S AA ss.heap ss.heap [] := va_S.rf
  have hown : ss.vm.findClass RL = some mm.cls := hown
  have hl : lv_has ls 4 [(0, .ref (ob 0)), (1, .int (nI v)), (2, .ref o)] := hl
  refine lv_aload_n hx hcd dL_append_0 rfl (lv_at hl 2 rfl) ?_
  refine lv_iconst (v := nI 0) hx hcd dL_append_1 (by decide) ?_
  refine lv_aload_n hx hcd dL_append_2 rfl (lv_at hl 0 rfl) ?_
  refine lv_iload_n hx hcd dL_append_3 rfl (lv_at hl 1 rfl) ?_
  refine kl_V (As := [.int (nI v)]) (rest := [.int (nI 0), .ref o]) (q := (RX6, TX6, 5)) ⟨hx, hcd, hml, hown, hts⟩ (c_X6_append__e2 l D cI cB cW cL ob nw tr qs sc G N S n 100 T _ M hst v hv) (cwV 1 hts gL_append_X6_append rfl rfl rfl (by decide +kernel) ⟨Nat.le_of_ble_eq_true rfl, Nat.le_of_ble_eq_true rfl⟩) hZ hK hP hD hS hA [1, 2, 3, 4, 5, 6, 7, 8, 9, 10, 11, 12, 13, 14, 15, 16, 17, 18, 19, 20, 21, 22, 23, 24, 25, 26, 27, 28, 29, 30, 31, 32, 33, 34, 35, 36, 37, 38, 39, 40, 41, 42, 43, 44, 45, 46, 47, 48, 49, 50, 51, 52, 53, 54, 55, 56, 57, 58, 59, 60, 61, 62, 63, 64, 65, 66, 67, 68, 69, 70, 71, 72, 73, 74, 75, 76, 77, 78, 79, 80, 81, 82, 83, 84, 85, 86, 87, 88, 89, 90, 91, 92, 93, 94] wLX_XC wX_nd2 1 rfl rfl rfl hl.1 rfl (Nat.le_of_ble_eq_true rfl) dL_append_4 ⟨Nat.le_of_ble_eq_true rfl, Nat.le_of_ble_eq_true rfl⟩ [⟨0, 9, 12, 15⟩] ⟨0, 9, 15, 37⟩ [] hTab (fun z hz => Or.inr (by rw [List.mem_singleton.mp hz]; exact ⟨by decide, eIA, hts (.classLink RL 15 "java/lang/IllegalArgumentException") (by decide +kernel), hN _ (List.mem_of_getElem? (i := 3) rfl)⟩)) (by decide) (by decide) (hts (.classLink RL 37 "java/lang/IllegalStateException") (by decide +kernel)) (va_Nw.use rfl (hZ.2.2.2 (.castable "java/lang/IllegalStateException" "java/lang/IllegalStateException") (by decide +kernel))) (fun H locs q9 hP hD hS => ?_)
  refine lv_astore_n (lv' := [(3, .ref q9), (0, .ref (ob 0)), (1, .int (nI v)), (2, .ref o)]) hx hcd dL_append_15 rfl hl (by decide) rfl (fun ls hl => ?_)
  refine lv_iconst (v := nI 2) hx hcd dL_append_16 (by decide) ?_
  exact kr_iret hx hcd hr hlocks hK hP hD hS rfl rfl dL_append_17

set_option maxHeartbeats 4000000 in
set_option maxRecDepth 100000 in
theorem c_L_undo__ok (l : Launch) (hst : l.stackTraces = false) (D : va_G) (cI cB cW cL : ClassId) (o : Nat) (F : Nat → Int64) (ob nw tr : Nat → Nat) (qs : Nat → Nat → Nat) (sc : Nat → Nat) (G : Nat → Option Nat) (N : kM) (S : Nat → kM) (n L : Nat) (T : Nat → Int32) (sz : Nat) (M : kM) (r k : Nat) (hk : k < 4) : kMh l yL_undo wsL_undo ({ frames := 7, cells := 1, slots := 6, locals := 142 }) D vwCl (kT cI cB cW cL) sz [.ref (ob 0), .ref o] (wLX cI cB cW cL o F ob nw tr qs sc (g_rot qs r) M N S (k + 1) L T) (wLX cI cB cW cL o (vp_updL F 0 ((nI k : Int32).toInt64)) ob nw tr qs sc (g_rot qs r) (S ((k + r) % 4)) N S k L T) 0 := by
  refine kr_ofh (cc := cL_undo) (maxL := 3) (ret := (some .int)) (hh := [(0, 8, 11, 37)]) (by decide) rfl (Nat.le_of_ble_eq_true rfl) ?_
  intro pp ee ss mm args below meth cc AA ls hx hcd hr hTab hts hown hlocks hml hZ hN hK hP hD hA hl
  have hS : va_S AA ss.heap ss.heap [] := va_S.rf
  have hown : ss.vm.findClass RL = some mm.cls := hown
  have hl : lv_has ls 3 [(0, .ref (ob 0)), (1, .ref o)] := hl
  refine lv_aload_n hx hcd dL_undo_0 rfl (lv_at hl 1 rfl) ?_
  refine lv_iconst (v := nI 0) hx hcd dL_undo_1 (by decide) ?_
  refine lv_aload_n hx hcd dL_undo_2 rfl (lv_at hl 0 rfl) ?_
  refine kr_Vi (As := []) (rest := [.int (nI 0), .ref o]) (ws2 := wLX cI cB cW cL o F ob nw tr qs sc (g_rot qs r) (S ((k + r) % 4)) N S k L T) (q := (RX6, TX6, 5)) ⟨hx, hcd, hml, hown, hts⟩ (c_X6_undo__ok l D cI cB cW cL ob nw tr qs sc (g_rot qs r) N S (k + 1) L T _ M r k hk) (cwV 0 hts gL_undo_X6_undo rfl rfl rfl (by decide +kernel) ⟨Nat.le_of_ble_eq_true rfl, Nat.le_of_ble_eq_true rfl⟩) hK hP hD hS hA [1, 2, 3, 4, 5, 6, 7, 8, 9, 10, 11, 12, 13, 14, 15, 16, 17, 18, 19, 20, 21, 22, 23, 24, 25, 26, 27, 28, 29, 30, 31, 32, 33, 34, 35, 36, 37, 38, 39, 40, 41, 42, 43, 44, 45, 46, 47, 48, 49, 50, 51, 52, 53, 54, 55, 56, 57, 58, 59, 60, 61, 62, 63, 64, 65, 66, 67, 68, 69, 70, 71, 72, 73, 74, 75, 76, 77, 78, 79, 80, 81, 82, 83, 84, 85, 86, 87, 88, 89, 90, 91, 92, 93, 94] wLX_XC wX_nd2 wX_adr wLX_X 1 rfl rfl rfl hl.1 rfl (Nat.le_of_ble_eq_true rfl) dL_undo_3 ⟨Nat.zero_le _, Nat.zero_le _⟩ (fun H locs hP hD hS => ?_)
  refine lv_i2l hx hcd dL_undo_6 rfl ?_
  refine kl_last hx hcd hK hP hD hS 0 3 rfl rfl (by omega) (by decide) (ws2 := wLX cI cB cW cL o (vp_updL F 0 ((nI k : Int32).toInt64)) ob nw tr qs sc (g_rot qs r) (S ((k + r) % 4)) N S k L T) rfl dL_undo_7 (fun H locs hP hD hS => ?_)
  refine lv_goto (tgt := 14) hx hcd dL_undo_8 (by decide) ?_
  refine lv_iconst (v := nI 0) hx hcd dL_undo_14 (by decide) ?_
  refine W.widen (k := 1) (n := 6) (Nat.zero_le _) (Nat.zero_le _) ?_
  exact kr_iret hx hcd hr hlocks hK hP hD hS rfl rfl dL_undo_15

set_option maxHeartbeats 4000000 in
set_option maxRecDepth 100000 in
theorem c_L_undo__e1 (l : Launch) (hst : l.stackTraces = false) (D : va_G) (cI cB cW cL : ClassId) (o : Nat) (F : Nat → Int64) (ob nw tr : Nat → Nat) (qs : Nat → Nat → Nat) (sc : Nat → Nat) (G : Nat → Option Nat) (N : kM) (S : Nat → kM) (n L : Nat) (T : Nat → Int32) (sz : Nat) (M : kM)  : kMh l yL_undo wsL_undo ({ frames := 7, cells := 1, slots := 6, locals := 142 }) D vwCl (kT cI cB cW cL) sz [.ref (ob 0), .ref o] (wLX cI cB cW cL o F ob nw tr qs sc G M N S 0 L T) (wLX cI cB cW cL o F ob nw tr qs sc G M N S 0 L T) 1 := by
  refine kr_ofh (cc := cL_undo) (maxL := 3) (ret := (some .int)) (hh := [(0, 8, 11, 37)]) (by decide) rfl (Nat.le_of_ble_eq_true rfl) ?_
  intro pp ee ss mm args below meth cc AA ls hx hcd hr hTab hts hown hlocks hml hZ hN hK hP hD hA hl
  have hS : va_S AA ss.heap ss.heap [] := va_S.rf
  have hown : ss.vm.findClass RL = some mm.cls := hown
  have hl : lv_has ls 3 [(0, .ref (ob 0)), (1, .ref o)] := hl
  refine lv_aload_n hx hcd dL_undo_0 rfl (lv_at hl 1 rfl) ?_
  refine lv_iconst (v := nI 0) hx hcd dL_undo_1 (by decide) ?_
  refine lv_aload_n hx hcd dL_undo_2 rfl (lv_at hl 0 rfl) ?_
  refine kl_V (As := []) (rest := [.int (nI 0), .ref o]) (q := (RX6, TX6, 5)) ⟨hx, hcd, hml, hown, hts⟩ (c_X6_undo__e1 l D cI cB cW cL ob nw tr qs sc G N S 0 L T _ M hst) (cwV 0 hts gL_undo_X6_undo rfl rfl rfl (by decide +kernel) ⟨Nat.le_of_ble_eq_true rfl, Nat.le_of_ble_eq_true rfl⟩) hZ hK hP hD hS hA [1, 2, 3, 4, 5, 6, 7, 8, 9, 10, 11, 12, 13, 14, 15, 16, 17, 18, 19, 20, 21, 22, 23, 24, 25, 26, 27, 28, 29, 30, 31, 32, 33, 34, 35, 36, 37, 38, 39, 40, 41, 42, 43, 44, 45, 46, 47, 48, 49, 50, 51, 52, 53, 54, 55, 56, 57, 58, 59, 60, 61, 62, 63, 64, 65, 66, 67, 68, 69, 70, 71, 72, 73, 74, 75, 76, 77, 78, 79, 80, 81, 82, 83, 84, 85, 86, 87, 88, 89, 90, 91, 92, 93, 94] wLX_XC wX_nd2 1 rfl rfl rfl hl.1 rfl (Nat.le_of_ble_eq_true rfl) dL_undo_3 ⟨Nat.le_of_ble_eq_true rfl, Nat.le_of_ble_eq_true rfl⟩ [] ⟨0, 8, 11, 37⟩ [] hTab (fun z hz => absurd hz List.not_mem_nil) (by decide) (by decide) (hts (.classLink RL 37 "java/lang/IllegalStateException") (by decide +kernel)) (va_Nw.use rfl (hZ.2.2.2 (.castable "java/lang/IllegalStateException" "java/lang/IllegalStateException") (by decide +kernel))) (fun H locs q9 hP hD hS => ?_)
  refine lv_astore_n (lv' := [(2, .ref q9), (0, .ref (ob 0)), (1, .ref o)]) hx hcd dL_undo_11 rfl hl (by decide) rfl (fun ls hl => ?_)
  refine lv_iconst (v := nI 1) hx hcd dL_undo_12 (by decide) ?_
  exact kr_iret hx hcd hr hlocks hK hP hD hS rfl rfl dL_undo_13
