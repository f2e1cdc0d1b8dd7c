set_option maxHeartbeats 4000000 in
set_option maxRecDepth 100000 in
theorem c_L_ask__ok (l : Launch) (hst : l.stackTraces = false) (D : va_G) (cI cB cW cL : ClassId) (o : Nat) (F : Nat → Int64) (ob nw tr : Nat → Nat) (qs : Nat → Nat → Nat) (sc : Nat → Nat) (G : Nat → Option Nat) (N : kM) (S : Nat → kM) (n L : Nat) (T : Nat → Int32) (sz : Nat) (M : kM) (a : Nat) (b : Nat) (r : Nat) (hI : kInv M) (ha : a < 6) (hb : b < 6) (hne : a ≠ b) (hn : n ≤ 4) (hr : r < 4) : kMh l yL_ask wsL_ask ({ frames := 9, cells := 1, slots := 6, locals := 164 }) D vwCl (kT cI cB cW cL) sz [.ref (ob 0), .int (nI a), .int (nI b), .ref o] (wLX cI cB cW cL o F ob nw tr qs sc (g_rot qs r) M N S n L T) (wLX cI cB cW cL o (vp_updL F 0 (((if g_has M a b 5 = true then 0 else 1) : Int32).toInt64)) ob nw tr qs sc (g_rot qs (rj n r)) (g_ask M a b) N (sset S (pj n r) M) (g_kn n) L T) 0 := by
  refine kr_ofh (cc := cL_ask) (maxL := 5) (ret := (some .int)) (hh := [(0, 10, 13, 13), (0, 10, 17, 15)]) (by decide) rfl (Nat.le_of_ble_eq_true rfl) ?_
  intro pp ee ss mm args below meth cc AA ls hx hcd hr hTab hts hown hlocks hml hZ hN hK hP hD hA hl
  have hS : va_S AA ss.heap ss.heap [] := va_S.rf
  have hown : ss.vm.findClass RL = some mm.cls := hown
  have hl : lv_has ls 5 [(0, .ref (ob 0)), (1, .int (nI a)), (2, .int (nI b)), (3, .ref o)] := hl
  refine lv_aload_n hx hcd dL_ask_0 rfl (lv_at hl 3 rfl) ?_
  refine lv_iconst (v := nI 0) hx hcd dL_ask_1 (by decide) ?_
  refine lv_aload_n hx hcd dL_ask_2 rfl (lv_at hl 0 rfl) ?_
  refine lv_iload_n hx hcd dL_ask_3 rfl (lv_at hl 1 rfl) ?_
  refine lv_iload_n hx hcd dL_ask_4 rfl (lv_at hl 2 rfl) ?_
  refine kr_Vi (As := [.int (nI a), .int (nI b)]) (rest := [.int (nI 0), .ref o]) (ws2 := wLX cI cB cW cL o F ob nw tr qs sc (g_rot qs (rj n r)) (g_ask M a b) N (sset S (pj n r) M) (g_kn n) L T) (q := (RX6, TX6, 5)) ⟨hx, hcd, hml, hown, hts⟩ (c_X6_ask__ok l D cI cB cW cL ob nw tr qs sc (g_rot qs r) N S n L T _ M a b r hI ha hb hne hn (by omega)) (cwV 2 hts gL_ask_X6_ask rfl rfl rfl (by decide +kernel) ⟨Nat.le_of_ble_eq_true rfl, Nat.le_of_ble_eq_true rfl⟩) hK hP hD hS hA [1, 2, 3, 4, 5, 6, 7, 8, 9, 10, 11, 12, 13, 14, 15, 16, 17, 18, 19, 20, 21, 22, 23, 24, 25, 26, 27, 28, 29, 30, 31, 32, 33, 34, 35, 36, 37, 38, 39, 40, 41, 42, 43, 44, 45, 46, 47, 48, 49, 50, 51, 52, 53, 54, 55, 56, 57, 58, 59, 60, 61, 62, 63, 64, 65, 66, 67, 68, 69, 70, 71, 72, 73, 74, 75, 76, 77, 78, 79, 80, 81, 82, 83, 84, 85, 86, 87, 88, 89, 90, 91, 92, 93, 94] wLX_XC wX_nd2 wX_adr wLX_X 1 rfl rfl rfl hl.1 rfl (Nat.le_of_ble_eq_true rfl) dL_ask_5 ⟨Nat.zero_le _, Nat.zero_le _⟩ (fun H locs hP hD hS => ?_)
  refine lv_i2l hx hcd dL_ask_8 rfl ?_
  refine kl_last hx hcd hK hP hD hS 0 3 rfl rfl (by omega) (by decide) (ws2 := wLX cI cB cW cL o (vp_updL F 0 ((if g_has M a b 5 = true then 0 else 1 : Int32).toInt64)) ob nw tr qs sc (g_rot qs (rj n r)) (g_ask M a b) N (sset S (pj n r) M) (g_kn n) L T) rfl dL_ask_9 (fun H locs hP hD hS => ?_)
  refine lv_goto (tgt := 21) hx hcd dL_ask_10 (by decide) ?_
  refine lv_iconst (v := nI 0) hx hcd dL_ask_21 (by decide) ?_
  refine W.widen (k := 1) (n := 6) (Nat.zero_le _) (Nat.zero_le _) ?_
  exact kr_iret hx hcd hr hlocks hK hP hD hS rfl rfl dL_ask_22

set_option maxHeartbeats 4000000 in
set_option maxRecDepth 100000 in
theorem c_L_ask__e1 (l : Launch) (hst : l.stackTraces = false) (D : va_G) (cI cB cW cL : ClassId) (o : Nat) (F : Nat → Int64) (ob nw tr : Nat → Nat) (qs : Nat → Nat → Nat) (sc : Nat → Nat) (G : Nat → Option Nat) (N : kM) (S : Nat → kM) (n L : Nat) (T : Nat → Int32) (sz : Nat) (M : kM) (u : Int32) (w : Int32) (hg : g_why u w = nI 1) : kMh l yL_ask wsL_ask ({ frames := 9, cells := 1, slots := 6, locals := 164 }) D vwCl (kT cI cB cW cL) sz [.ref (ob 0), .int u, .int w, .ref o] (wLX cI cB cW cL o F ob nw tr qs sc G M N S n L T) (wLX cI cB cW cL o F ob nw tr qs sc G M N S n L T) 1 := by
  refine kr_ofh (cc := cL_ask) (maxL := 5) (ret := (some .int)) (hh := [(0, 10, 13, 13), (0, 10, 17, 15)]) (by decide) rfl (Nat.le_of_ble_eq_true rfl) ?_
  intro pp ee ss mm args below meth cc AA ls hx hcd hr hTab hts hown hlocks hml hZ hN hK hP hD hA hl
  have hS : va_S AA ss.heap ss.heap [] := va_S.rf
  have hown : ss.vm.findClass RL = some mm.cls := hown
  have hl : lv_has ls 5 [(0, .ref (ob 0)), (1, .int u), (2, .int w), (3, .ref o)] := hl
  refine lv_aload_n hx hcd dL_ask_0 rfl (lv_at hl 3 rfl) ?_
  refine lv_iconst (v := nI 0) hx hcd dL_ask_1 (by decide) ?_
  refine lv_aload_n hx hcd dL_ask_2 rfl (lv_at hl 0 rfl) ?_
  refine lv_iload_n hx hcd dL_ask_3 rfl (lv_at hl 1 rfl) ?_
  refine lv_iload_n hx hcd dL_ask_4 rfl (lv_at hl 2 rfl) ?_
  refine kl_V (As := [.int u, .int w]) (rest := [.int (nI 0), .ref o]) (q := (RX6, TX6, 5)) ⟨hx, hcd, hml, hown, hts⟩ (c_X6_ask__e1 l D cI cB cW cL  _ M hst u w (ob 0) hg) (cwV 2 hts gL_ask_X6_ask rfl rfl rfl (by decide +kernel) ⟨Nat.le_of_ble_eq_true rfl, Nat.le_of_ble_eq_true rfl⟩) hZ hK hP hD hS hA [] rfl (by decide) 1 rfl rfl rfl hl.1 rfl (Nat.le_of_ble_eq_true rfl) dL_ask_5 ⟨Nat.le_of_ble_eq_true rfl, Nat.le_of_ble_eq_true rfl⟩ [] ⟨0, 10, 13, 13⟩ [⟨0, 10, 17, 15⟩] hTab (fun z hz => absurd hz List.not_mem_nil) (by decide) (by decide) (hts (.classLink RL 13 "java/lang/IndexOutOfBoundsException") (by decide +kernel)) (va_Nw.use rfl (hZ.2.2.2 (.castable "java/lang/IndexOutOfBoundsException" "java/lang/IndexOutOfBoundsException") (by decide +kernel))) (fun H locs q9 hP hD hS => ?_)
  refine lv_astore (lv' := [(4, .ref q9), (0, .ref (ob 0)), (1, .int u), (2, .int w), (3, .ref o)]) hx hcd dL_ask_13 hl (by decide) rfl (fun ls hl => ?_)
  refine lv_iconst (v := nI 1) hx hcd dL_ask_15 (by decide) ?_
  exact kr_iret hx hcd hr hlocks hK hP hD hS rfl rfl dL_ask_16

set_option maxHeartbeats 4000000 in
set_option maxRecDepth 100000 in
theorem c_L_ask__e2 (l : Launch) (hst : l.stackTraces = false) (D : va_G) (cI cB cW cL : ClassId) (o : Nat) (F : Nat → Int64) (ob nw tr : Nat → Nat) (qs : Nat → Nat → Nat) (sc : Nat → Nat) (G : Nat → Option Nat) (N : kM) (S : Nat → kM) (n L : Nat) (T : Nat → Int32) (sz : Nat) (M : kM) (u : Int32) (w : Int32) (hg : g_why u w = nI 2) : kMh l yL_ask wsL_ask ({ frames := 9, cells := 1, slots := 6, locals := 164 }) D vwCl (kT cI cB cW cL) sz [.ref (ob 0), .int u, .int w, .ref o] (wLX cI cB cW cL o F ob nw tr qs sc G M N S n L T) (wLX cI cB cW cL o F ob nw tr qs sc G M N S n L T) 2 := by
  refine kr_ofh (cc := cL_ask) (maxL := 5) (ret := (some .int)) (hh := [(0, 10, 13, 13), (0, 10, 17, 15)]) (by decide) rfl (Nat.le_of_ble_eq_true rfl) ?_
  intro pp ee ss mm args below meth cc AA ls hx hcd hr hTab hts hown hlocks hml hZ hN hK hP hD hA hl
  have hS : va_S AA ss.heap ss.heap [] := va_S.rf
  have hown : ss.vm.findClass RL = some mm.cls := hown
  have hl : lv_has ls 5 [(0, .ref (ob 0)), (1, .int u), (2, .int w), (3, .ref o)] := hl
  refine lv_aload_n hx hcd dL_ask_0 rfl (lv_at hl 3 rfl) ?_
  refine lv_iconst (v := nI 0) hx hcd dL_ask_1 (by decide) ?_
  refine lv_aload_n hx hcd dL_ask_2 rfl (lv_at hl 0 rfl) ?_
  refine lv_iload_n hx hcd dL_ask_3 rfl (lv_at hl 1 rfl) ?_
  refine lv_iload_n hx hcd dL_ask_4 rfl (lv_at hl 2 rfl) ?_
  refine kl_V (As := [.int u, .int w]) (rest := [.int (nI 0), .ref o]) (q := (RX6, TX6, 5)) ⟨hx, hcd, hml, hown, hts⟩ (c_X6_ask__e2 l D cI cB cW cL  _ M hst u w (ob 0) hg) (cwV 2 hts gL_ask_X6_ask rfl rfl rfl (by decide +kernel) ⟨Nat.le_of_ble_eq_true rfl, Nat.le_of_ble_eq_true rfl⟩) hZ hK hP hD hS hA [] rfl (by decide) 1 rfl rfl rfl hl.1 rfl (Nat.le_of_ble_eq_true rfl) dL_ask_5 ⟨Nat.le_of_ble_eq_true rfl, Nat.le_of_ble_eq_true rfl⟩ [⟨0, 10, 13, 13⟩] ⟨0, 10, 17, 15⟩ [] hTab (fun z hz => Or.inr (by rw [List.mem_singleton.mp hz]; exact ⟨by decide, eIO, hts (.classLink RL 13 "java/lang/IndexOutOfBoundsException") (by decide +kernel), hN _ (List.mem_of_getElem? (i := 0) rfl)⟩)) (by decide) (by decide) (hts (.classLink RL 15 "java/lang/IllegalArgumentException") (by decide +kernel)) (va_Nw.use rfl (hZ.2.2.2 (.castable "java/lang/IllegalArgumentException" "java/lang/IllegalArgumentException") (by decide +kernel))) (fun H locs q9 hP hD hS => ?_)
  refine lv_astore (lv' := [(4, .ref q9), (0, .ref (ob 0)), (1, .int u), (2, .int w), (3, .ref o)]) hx hcd dL_ask_17 hl (by decide) rfl (fun ls hl => ?_)
  refine lv_iconst (v := nI 2) hx hcd dL_ask_19 (by decide) ?_
  exact kr_iret hx hcd hr hlocks hK hP hD hS rfl rfl dL_ask_20

set_option maxHeartbeats 4000000 in
set_option maxRecDepth 100000 in
theorem c_L_grant__ok (l : Launch) (hst : l.stackTraces = false) (D : va_G) (cI cB cW cL : ClassId) (o : Nat) (F : Nat → Int64) (ob nw tr : Nat → Nat) (qs : Nat → Nat → Nat) (sc : Nat → Nat) (G : Nat → Option Nat) (N : kM) (S : Nat → kM) (n L : Nat) (T : Nat → Int32) (sz : Nat) (M : kM) (a : Nat) (b : Nat) (r : Nat) (hI : kInv M) (ha : a < 6) (hb : b < 6) (hne : a ≠ b) (hn : n ≤ 4) (hr : r < 4) : kMh l yL_grant wsL_grant ({ frames := 9, cells := 1, slots := 6, locals := 164 }) D vwCl (kT cI cB cW cL) sz [.ref (ob 0), .int (nI a), .int (nI b), .ref o] (wLX cI cB cW cL o F ob nw tr qs sc (g_rot qs r) M N S n L T) (wLX cI cB cW cL o (vp_updL F 0 (((if g_has M a b 8 = true then 1 else 0) : Int32).toInt64)) ob nw tr qs sc (g_rot qs (rj n r)) (g_grant M a b) N (sset S (pj n r) M) (g_kn n) L T) 0 := by
  refine kr_ofh (cc := cL_grant) (maxL := 5) (ret := (some .int)) (hh := [(0, 10, 13, 13), (0, 10, 17, 15)]) (by decide) rfl (Nat.le_of_ble_eq_true rfl) ?_
  intro pp ee ss mm args below meth cc AA ls hx hcd hr hTab hts hown hlocks hml hZ hN hK hP hD hA hl
  have hS : va_S AA ss.heap ss.heap [] := va_S.rf
  have hown : ss.vm.findClass RL = some mm.cls := hown
  have hl : lv_has ls 5 [(0, .ref (ob 0)), (1, .int (nI a)), (2, .int (nI b)), (3, .ref o)] := hl
  refine lv_aload_n hx hcd dL_grant_0 rfl (lv_at hl 3 rfl) ?_
  refine lv_iconst (v := nI 0) hx hcd dL_grant_1 (by decide) ?_
  refine lv_aload_n hx hcd dL_grant_2 rfl (lv_at hl 0 rfl) ?_
  refine lv_iload_n hx hcd dL_grant_3 rfl (lv_at hl 1 rfl) ?_
  refine lv_iload_n hx hcd dL_grant_4 rfl (lv_at hl 2 rfl) ?_
  refine kr_Vi (As := [.int (nI a), .int (nI b)]) (rest := [.int (nI 0), .ref o]) (ws2 := wLX cI cB cW cL o F ob nw tr qs sc (g_rot qs (rj n r)) (g_grant M a b) N (sset S (pj n r) M) (g_kn n) L T) (q := (RX6, TX6, 5)) ⟨hx, hcd, hml, hown, hts⟩ (c_X6_grant__ok l D cI cB cW cL ob nw tr qs sc (g_rot qs r) N S n L T _ M a b r hI ha hb hne hn (by omega)) (cwV 2 hts gL_grant_X6_grant rfl rfl rfl (by decide +kernel) ⟨Nat.le_of_ble_eq_true rfl, Nat.le_of_ble_eq_true rfl⟩) hK hP hD hS hA [1, 2, 3, 4, 5, 6, 7, 8, 9, 10, 11, 12, 13, 14, 15, 16, 17, 18, 19, 20, 21, 22, 23, 24, 25, 26, 27, 28, 29, 30, 31, 32, 33, 34, 35, 36, 37, 38, 39, 40, 41, 42, 43, 44, 45, 46, 47, 48, 49, 50, 51, 52, 53, 54, 55, 56, 57, 58, 59, 60, 61, 62, 63, 64, 65, 66, 67, 68, 69, 70, 71, 72, 73, 74, 75, 76, 77, 78, 79, 80, 81, 82, 83, 84, 85, 86, 87, 88, 89, 90, 91, 92, 93, 94] wLX_XC wX_nd2 wX_adr wLX_X 1 rfl rfl rfl hl.1 rfl (Nat.le_of_ble_eq_true rfl) dL_grant_5 ⟨Nat.zero_le _, Nat.zero_le _⟩ (fun H locs hP hD hS => ?_)
  refine lv_i2l hx hcd dL_grant_8 rfl ?_
  refine kl_last hx hcd hK hP hD hS 0 3 rfl rfl (by omega) (by decide) (ws2 := wLX cI cB cW cL o (vp_updL F 0 ((if g_has M a b 8 = true then 1 else 0 : Int32).toInt64)) ob nw tr qs sc (g_rot qs (rj n r)) (g_grant M a b) N (sset S (pj n r) M) (g_kn n) L T) rfl dL_grant_9 (fun H locs hP hD hS => ?_)
  refine lv_goto (tgt := 21) hx hcd dL_grant_10 (by decide) ?_
  refine lv_iconst (v := nI 0) hx hcd dL_grant_21 (by decide) ?_
  refine W.widen (k := 1) (n := 6) (Nat.zero_le _) (Nat.zero_le _) ?_
  exact kr_iret hx hcd hr hlocks hK hP hD hS rfl rfl dL_grant_22

set_option maxHeartbeats 4000000 in
set_option maxRecDepth 100000 in
theorem c_L_grant__e1 (l : Launch) (hst : l.stackTraces = false) (D : va_G) (cI cB cW cL : ClassId) (o : Nat) (F : Nat → Int64) (ob nw tr : Nat → Nat) (qs : Nat → Nat → Nat) (sc : Nat → Nat) (G : Nat → Option Nat) (N : kM) (S : Nat → kM) (n L : Nat) (T : Nat → Int32) (sz : Nat) (M : kM) (u : Int32) (w : Int32) (hg : g_why u w = nI 1) : kMh l yL_grant wsL_grant ({ frames := 9, cells := 1, slots := 6, locals := 164 }) D vwCl (kT cI cB cW cL) sz [.ref (ob 0), .int u, .int w, .ref o] (wLX cI cB cW cL o F ob nw tr qs sc G M N S n L T) (wLX cI cB cW cL o F ob nw tr qs sc G M N S n L T) 1 := by
  refine kr_ofh (cc := cL_grant) (maxL := 5) (ret := (some .int)) (hh := [(0, 10, 13, 13), (0, 10, 17, 15)]) (by decide) rfl (Nat.le_of_ble_eq_true rfl) ?_
  intro pp ee ss mm args below meth cc AA ls hx hcd hr hTab hts hown hlocks hml hZ hN hK hP hD hA hl
  have hS : va_S AA ss.heap ss.heap [] := va_S.rf
  have hown : ss.vm.findClass RL = some mm.cls := hown
  have hl : lv_has ls 5 [(0, .ref (ob 0)), (1, .int u), (2, .int w), (3, .ref o)] := hl
  refine lv_aload_n hx hcd dL_grant_0 rfl (lv_at hl 3 rfl) ?_
  refine lv_iconst (v := nI 0) hx hcd dL_grant_1 (by decide) ?_
  refine lv_aload_n hx hcd dL_grant_2 rfl (lv_at hl 0 rfl) ?_
  refine lv_iload_n hx hcd dL_grant_3 rfl (lv_at hl 1 rfl) ?_
  refine lv_iload_n hx hcd dL_grant_4 rfl (lv_at hl 2 rfl) ?_
  refine kl_V (As := [.int u, .int w]) (rest := [.int (nI 0), .ref o]) (q := (RX6, TX6, 5)) ⟨hx, hcd, hml, hown, hts⟩ (c_X6_grant__e1 l D cI cB cW cL  _ M hst u w (ob 0) hg) (cwV 2 hts gL_grant_X6_grant rfl rfl rfl (by decide +kernel) ⟨Nat.le_of_ble_eq_true rfl, Nat.le_of_ble_eq_true rfl⟩) hZ hK hP hD hS hA [] rfl (by decide) 1 rfl rfl rfl hl.1 rfl (Nat.le_of_ble_eq_true rfl) dL_grant_5 ⟨Nat.le_of_ble_eq_true rfl, Nat.le_of_ble_eq_true rfl⟩ [] ⟨0, 10, 13, 13⟩ [⟨0, 10, 17, 15⟩] hTab (fun z hz => absurd hz List.not_mem_nil) (by decide) (by decide) (hts (.classLink RL 13 "java/lang/IndexOutOfBoundsException") (by decide +kernel)) (va_Nw.use rfl (hZ.2.2.2 (.castable "java/lang/IndexOutOfBoundsException" "java/lang/IndexOutOfBoundsException") (by decide +kernel))) (fun H locs q9 hP hD hS => ?_)
  refine lv_astore (lv' := [(4, .ref q9), (0, .ref (ob 0)), (1, .int u), (2, .int w), (3, .ref o)]) hx hcd dL_grant_13 hl (by decide) rfl (fun ls hl => ?_)
  refine lv_iconst (v := nI 1) hx hcd dL_grant_15 (by decide) ?_
  exact kr_iret hx hcd hr hlocks hK hP hD hS rfl rfl dL_grant_16

set_option maxHeartbeats 4000000 in
set_option maxRecDepth 100000 in
theorem c_L_grant__e2 (l : Launch) (hst : l.stackTraces = false) (D : va_G) (cI cB cW cL : ClassId) (o : Nat) (F : Nat → Int64) (ob nw tr : Nat → Nat) (qs : Nat → Nat → Nat) (sc : Nat → Nat) (G : Nat → Option Nat) (N : kM) (S : Nat → kM) (n L : Nat) (T : Nat → Int32) (sz : Nat) (M : kM) (u : Int32) (w : Int32) (hg : g_why u w = nI 2) : kMh l yL_grant wsL_grant ({ frames := 9, cells := 1, slots := 6, locals := 164 }) D vwCl (kT cI cB cW cL) sz [.ref (ob 0), .int u, .int w, .ref o] (wLX cI cB cW cL o F ob nw tr qs sc G M N S n L T) (wLX cI cB cW cL o F ob nw tr qs sc G M N S n L T) 2 := by
  refine kr_ofh (cc := cL_grant) (maxL := 5) (ret := (some .int)) (hh := [(0, 10, 13, 13), (0, 10, 17, 15)]) (by decide) rfl (Nat.le_of_ble_eq_true rfl) ?_
  intro pp ee ss mm args below meth cc AA ls hx hcd hr hTab hts hown hlocks hml hZ hN hK hP hD hA hl
  have hS : va_S AA ss.heap ss.heap [] := va_S.rf
  have hown : ss.vm.findClass RL = some mm.cls := hown
  have hl : lv_has ls 5 [(0, .ref (ob 0)), (1, .int u), (2, .int w), (3, .ref o)] := hl
  refine lv_aload_n hx hcd dL_grant_0 rfl (lv_at hl 3 rfl) ?_
  refine lv_iconst (v := nI 0) hx hcd dL_grant_1 (by decide) ?_
  refine lv_aload_n hx hcd dL_grant_2 rfl (lv_at hl 0 rfl) ?_
  refine lv_iload_n hx hcd dL_grant_3 rfl (lv_at hl 1 rfl) ?_
  refine lv_iload_n hx hcd dL_grant_4 rfl (lv_at hl 2 rfl) ?_
  refine kl_V (As := [.int u, .int w]) (rest := [.int (nI 0), .ref o]) (q := (RX6, TX6, 5)) ⟨hx, hcd, hml, hown, hts⟩ (c_X6_grant__e2 l D cI cB cW cL  _ M hst u w (ob 0) hg) (cwV 2 hts gL_grant_X6_grant rfl rfl rfl (by decide +kernel) ⟨Nat.le_of_ble_eq_true rfl, Nat.le_of_ble_eq_true rfl⟩) hZ hK hP hD hS hA [] rfl (by decide) 1 rfl rfl rfl hl.1 rfl (Nat.le_of_ble_eq_true rfl) dL_grant_5 ⟨Nat.le_of_ble_eq_true rfl, Nat.le_of_ble_eq_true rfl⟩ [⟨0, 10, 13, 13⟩] ⟨0, 10, 17, 15⟩ [] hTab (fun z hz => Or.inr (by rw [List.mem_singleton.mp hz]; exact ⟨by decide, eIO, hts (.classLink RL 13 "java/lang/IndexOutOfBoundsException") (by decide +kernel), hN _ (List.mem_of_getElem? (i := 0) rfl)⟩)) (by decide) (by decide) (hts (.classLink RL 15 "java/lang/IllegalArgumentException") (by decide +kernel)) (va_Nw.use rfl (hZ.2.2.2 (.castable "java/lang/IllegalArgumentException" "java/lang/IllegalArgumentException") (by decide +kernel))) (fun H locs q9 hP hD hS => ?_)
  refine lv_astore (lv' := [(4, .ref q9), (0, .ref (ob 0)), (1, .int u), (2, .int w), (3, .ref o)]) hx hcd dL_grant_17 hl (by decide) rfl (fun ls hl => ?_)
  refine lv_iconst (v := nI 2) hx hcd dL_grant_19 (by decide) ?_
  exact kr_iret hx hcd hr hlocks hK hP hD hS rfl rfl dL_grant_20

set_option maxHeartbeats 4000000 in
set_option maxRecDepth 100000 in
theorem c_L_refuse__ok (l : Launch) (hst : l.stackTraces = false) (D : va_G) (cI cB cW cL : ClassId) (o : Nat) (F : Nat → Int64) (ob nw tr : Nat → Nat) (qs : Nat → Nat → Nat) (sc : Nat → Nat) (G : Nat → Option Nat) (N : kM) (S : Nat → kM) (n L : Nat) (T : Nat → Int32) (sz : Nat) (M : kM) (a : Nat) (b : Nat) (r : Nat) (hI : kInv M) (ha : a < 6) (hb : b < 6) (hne : a ≠ b) (hn : n ≤ 4) (hr : r < 4) : kMh l yL_refuse wsL_refuse ({ frames := 9, cells := 1, slots := 6, locals := 164 }) D vwCl (kT cI cB cW cL) sz [.ref (ob 0), .int (nI a), .int (nI b), .ref o] (wLX cI cB cW cL o F ob nw tr qs sc (g_rot qs r) M N S n L T) (wLX cI cB cW cL o (vp_updL F 0 (((if g_has M a b 10 = true then 1 else 0) : Int32).toInt64)) ob nw tr qs sc (g_rot qs (rj n r)) (g_refuse M a b) N (sset S (pj n r) M) (g_kn n) L T) 0 := by
  refine kr_ofh (cc := cL_refuse) (maxL := 5) (ret := (some .int)) (hh := [(0, 10, 13, 13), (0, 10, 17, 15)]) (by decide) rfl (Nat.le_of_ble_eq_true rfl) ?_
  intro pp ee ss mm args below meth cc AA ls hx hcd hr hTab hts hown hlocks hml hZ hN hK hP hD hA hl
  have hS : va_S AA ss.heap ss.heap [] := va_S.rf
  have hown : ss.vm.findClass RL = some mm.cls := hown
  have hl : lv_has ls 5 [(0, .ref (ob 0)), (1, .int (nI a)), (2, .int (nI b)), (3, .ref o)] := hl
  refine lv_aload_n hx hcd dL_refuse_0 rfl (lv_at hl 3 rfl) ?_
  refine lv_iconst (v := nI 0) hx hcd dL_refuse_1 (by decide) ?_
  refine lv_aload_n hx hcd dL_refuse_2 rfl (lv_at hl 0 rfl) ?_
  refine lv_iload_n hx hcd dL_refuse_3 rfl (lv_at hl 1 rfl) ?_
  refine lv_iload_n hx hcd dL_refuse_4 rfl (lv_at hl 2 rfl) ?_
  refine kr_Vi (As := [.int (nI a), .int (nI b)]) (rest := [.int (nI 0), .ref o]) (ws2 := wLX cI cB cW cL o F ob nw tr qs sc (g_rot qs (rj n r)) (g_refuse M a b) N (sset S (pj n r) M) (g_kn n) L T) (q := (RX6, TX6, 5)) ⟨hx, hcd, hml, hown, hts⟩ (c_X6_refuse__ok l D cI cB cW cL ob nw tr qs sc (g_rot qs r) N S n L T _ M a b r hI ha hb hne hn (by omega)) (cwV 2 hts gL_refuse_X6_refuse rfl rfl rfl (by decide +kernel) ⟨Nat.le_of_ble_eq_true rfl, Nat.le_of_ble_eq_true rfl⟩) hK hP hD hS hA [1, 2, 3, 4, 5, 6, 7, 8, 9, 10, 11, 12, 13, 14, 15, 16, 17, 18, 19, 20, 21, 22, 23, 24, 25, 26, 27, 28, 29, 30, 31, 32, 33, 34, 35, 36, 37, 38, 39, 40, 41, 42, 43, 44, 45, 46, 47, 48, 49, 50, 51, 52, 53, 54, 55, 56, 57, 58, 59, 60, 61, 62, 63, 64, 65, 66, 67, 68, 69, 70, 71, 72, 73, 74, 75, 76, 77, 78, 79, 80, 81, 82, 83, 84, 85, 86, 87, 88, 89, 90, 91, 92, 93, 94] wLX_XC wX_nd2 wX_adr wLX_X 1 rfl rfl rfl hl.1 rfl (Nat.le_of_ble_eq_true rfl) dL_refuse_5 ⟨Nat.zero_le _, Nat.zero_le _⟩ (fun H locs hP hD hS => ?_)
  refine lv_i2l hx hcd dL_refuse_8 rfl ?_
  refine kl_last hx hcd hK hP hD hS 0 3 rfl rfl (by omega) (by decide) (ws2 := wLX cI cB cW cL o (vp_updL F 0 ((if g_has M a b 10 = true then 1 else 0 : Int32).toInt64)) ob nw tr qs sc (g_rot qs (rj n r)) (g_refuse M a b) N (sset S (pj n r) M) (g_kn n) L T) rfl dL_refuse_9 (fun H locs hP hD hS => ?_)
  refine lv_goto (tgt := 21) hx hcd dL_refuse_10 (by decide) ?_
  refine lv_iconst (v := nI 0) hx hcd dL_refuse_21 (by decide) ?_
  refine W.widen (k := 1) (n := 6) (Nat.zero_le _) (Nat.zero_le _) ?_
  exact kr_iret hx hcd hr hlocks hK hP hD hS rfl rfl dL_refuse_22

set_option maxHeartbeats 4000000 in
set_option maxRecDepth 100000 in
theorem c_L_refuse__e1 (l : Launch) (hst : l.stackTraces = false) (D : va_G) (cI cB cW cL : ClassId) (o : Nat) (F : Nat → Int64) (ob nw tr : Nat → Nat) (qs : Nat → Nat → Nat) (sc : Nat → Nat) (G : Nat → Option Nat) (N : kM) (S : Nat → kM) (n L : Nat) (T : Nat → Int32) (sz : Nat) (M : kM) (u : Int32) (w : Int32) (hg : g_why u w = nI 1) : kMh l yL_refuse wsL_refuse ({ frames := 9, cells := 1, slots := 6, locals := 164 }) D vwCl (kT cI cB cW cL) sz [.ref (ob 0), .int u, .int w, .ref o] (wLX cI cB cW cL o F ob nw tr qs sc G M N S n L T) (wLX cI cB cW cL o F ob nw tr qs sc G M N S n L T) 1 := by
  refine kr_ofh (cc := cL_refuse) (maxL := 5) (ret := (some .int)) (hh := [(0, 10, 13, 13), (0, 10, 17, 15)]) (by decide) rfl (Nat.le_of_ble_eq_true rfl) ?_
  intro pp ee ss mm args below meth cc AA ls hx hcd hr hTab hts hown hlocks hml hZ hN hK hP hD hA hl
  have hS : va_S AA ss.heap ss.heap [] := va_S.rf
  have hown : ss.vm.findClass RL = some mm.cls := hown
  have hl : lv_has ls 5 [(0, .ref (ob 0)), (1, .int u), (2, .int w), (3, .ref o)] := hl
  refine lv_aload_n hx hcd dL_refuse_0 rfl (lv_at hl 3 rfl) ?_
  refine lv_iconst (v := nI 0) hx hcd dL_refuse_1 (by decide) ?_
  refine lv_aload_n hx hcd dL_refuse_2 rfl (lv_at hl 0 rfl) ?_
  refine lv_iload_n hx hcd dL_refuse_3 rfl (lv_at hl 1 rfl) ?_
  refine lv_iload_n hx hcd dL_refuse_4 rfl (lv_at hl 2 rfl) ?_
  refine kl_V (As := [.int u, .int w]) (rest := [.int (nI 0), .ref o]) (q := (RX6, TX6, 5)) ⟨hx, hcd, hml, hown, hts⟩ (c_X6_refuse__e1 l D cI cB cW cL  _ M hst u w (ob 0) hg) (cwV 2 hts gL_refuse_X6_refuse rfl rfl rfl (by decide +kernel) ⟨Nat.le_of_ble_eq_true rfl, Nat.le_of_ble_eq_true rfl⟩) hZ hK hP hD hS hA [] rfl (by decide) 1 rfl rfl rfl hl.1 rfl (Nat.le_of_ble_eq_true rfl) dL_refuse_5 ⟨Nat.le_of_ble_eq_true rfl, Nat.le_of_ble_eq_true rfl⟩ [] ⟨0, 10, 13, 13⟩ [⟨0, 10, 17, 15⟩] hTab (fun z hz => absurd hz List.not_mem_nil) (by decide) (by decide) (hts (.classLink RL 13 "java/lang/IndexOutOfBoundsException") (by decide +kernel)) (va_Nw.use rfl (hZ.2.2.2 (.castable "java/lang/IndexOutOfBoundsException" "java/lang/IndexOutOfBoundsException") (by decide +kernel))) (fun H locs q9 hP hD hS => ?_)
  refine lv_astore (lv' := [(4, .ref q9), (0, .ref (ob 0)), (1, .int u), (2, .int w), (3, .ref o)]) hx hcd dL_refuse_13 hl (by decide) rfl (fun ls hl => ?_)
  refine lv_iconst (v := nI 1) hx hcd dL_refuse_15 (by decide) ?_
  exact kr_iret hx hcd hr hlocks hK hP hD hS rfl rfl dL_refuse_16

set_option maxHeartbeats 4000000 in
set_option maxRecDepth 100000 in
theorem c_L_refuse__e2 (l : Launch) (hst : l.stackTraces = false) (D : va_G) (cI cB cW cL : ClassId) (o : Nat) (F : Nat → Int64) (ob nw tr : Nat → Nat) (qs : Nat → Nat → Nat) (sc : Nat → Nat) (G : Nat → Option Nat) (N : kM) (S : Nat → kM) (n L : Nat) (T : Nat → Int32) (sz : Nat) (M : kM) (u : Int32) (w : Int32) (hg : g_why u w = nI 2) : kMh l yL_refuse wsL_refuse ({ frames := 9, cells := 1, slots := 6, locals := 164 }) D vwCl (kT cI cB cW cL) sz [.ref (ob 0), .int u, .int w, .ref o] (wLX cI cB cW cL o F ob nw tr qs sc G M N S n L T) (wLX cI cB cW cL o F ob nw tr qs sc G M N S n L T) 2 := by
  refine kr_ofh (cc := cL_refuse) (maxL := 5) (ret := (some .int)) (hh := [(0, 10, 13, 13), (0, 10, 17, 15)]) (by decide) rfl (Nat.le_of_ble_eq_true rfl) ?_
  intro pp ee ss mm args below meth cc AA ls hx hcd hr hTab hts hown hlocks hml hZ hN hK hP hD hA hl
  have hS : va_S AA ss.heap ss.heap [] := va_S.rf
  have hown : ss.vm.findClass RL = some mm.cls := hown
  have hl : lv_has ls 5 [(0, .ref (ob 0)), (1, .int u), (2, .int w), (3, .ref o)] := hl
  refine lv_aload_n hx hcd dL_refuse_0 rfl (lv_at hl 3 rfl) ?_
  refine lv_iconst (v := nI 0) hx hcd dL_refuse_1 (by decide) ?_
  refine lv_aload_n hx hcd dL_refuse_2 rfl (lv_at hl 0 rfl) ?_
  refine lv_iload_n hx hcd dL_refuse_3 rfl (lv_at hl 1 rfl) ?_
  refine lv_iload_n hx hcd dL_refuse_4 rfl (lv_at hl 2 rfl) ?_
  refine kl_V (As := [.int u, .int w]) (rest := [.int (nI 0), .ref o]) (q := (RX6, TX6, 5)) ⟨hx, hcd, hml, hown, hts⟩ (c_X6_refuse__e2 l D cI cB cW cL  _ M hst u w (ob 0) hg) (cwV 2 hts gL_refuse_X6_refuse rfl rfl rfl (by decide +kernel) ⟨Nat.le_of_ble_eq_true rfl, Nat.le_of_ble_eq_true rfl⟩) hZ hK hP hD hS hA [] rfl (by decide) 1 rfl rfl rfl hl.1 rfl (Nat.le_of_ble_eq_true rfl) dL_refuse_5 ⟨Nat.le_of_ble_eq_true rfl, Nat.le_of_ble_eq_true rfl⟩ [⟨0, 10, 13, 13⟩] ⟨0, 10, 17, 15⟩ [] hTab (fun z hz => Or.inr (by rw [List.mem_singleton.mp hz]; exact ⟨by decide, eIO, hts (.classLink RL 13 "java/lang/IndexOutOfBoundsException") (by decide +kernel), hN _ (List.mem_of_getElem? (i := 0) rfl)⟩)) (by decide) (by decide) (hts (.classLink RL 15 "java/lang/IllegalArgumentException") (by decide +kernel)) (va_Nw.use rfl (hZ.2.2.2 (.castable "java/lang/IllegalArgumentException" "java/lang/IllegalArgumentException") (by decide +kernel))) (fun H locs q9 hP hD hS => ?_)
  refine lv_astore (lv' := [(4, .ref q9), (0, .ref (ob 0)), (1, .int u), (2, .int w), (3, .ref o)]) hx hcd dL_refuse_17 hl (by decide) rfl (fun ls hl => ?_)
  refine lv_iconst (v := nI 2) hx hcd dL_refuse_19 (by decide) ?_
  exact kr_iret hx hcd hr hlocks hK hP hD hS rfl rfl dL_refuse_20

set_option maxHeartbeats 4000000 in
set_option maxRecDepth 100000 in
theorem c_L_stop__ok (l : Launch) (hst : l.stackTraces = false) (D : va_G) (cI cB cW cL : ClassId) (o : Nat) (F : Nat → Int64) (ob nw tr : Nat → Nat) (qs : Nat → Nat → Nat) (sc : Nat → Nat) (G : Nat → Option Nat) (N : kM) (S : Nat → kM) (n L : Nat) (T : Nat → Int32) (sz : Nat) (M : kM) (a : Nat) (b : Nat) (r : Nat) (hI : kInv M) (ha : a < 6) (hb : b < 6) (hne : a ≠ b) (hn : n ≤ 4) (hr : r < 4) : kMh l yL_stop wsL_stop ({ frames := 9, cells := 1, slots := 6, locals := 164 }) D vwCl (kT cI cB cW cL) sz [.ref (ob 0), .int (nI a), .int (nI b), .ref o] (wLX cI cB cW cL o F ob nw tr qs sc (g_rot qs r) M N S n L T) (wLX cI cB cW cL o (vp_updL F 0 (((if g_has M a b 5 = true then 1 else 0) : Int32).toInt64)) ob nw tr qs sc (g_rot qs (rj n r)) (g_stop M a b) N (sset S (pj n r) M) (g_kn n) L T) 0 := by
  refine kr_ofh (cc := cL_stop) (maxL := 5) (ret := (some .int)) (hh := [(0, 10, 13, 13), (0, 10, 17, 15)]) (by decide) rfl (Nat.le_of_ble_eq_true rfl) ?_
  intro pp ee ss mm args below meth cc AA ls hx hcd hr hTab hts hown hlocks hml hZ hN hK hP hD hA hl
  have hS : va_S AA ss.heap ss.heap [] := va_S.rf
  have hown : ss.vm.findClass RL = some mm.cls := hown
  have hl : lv_has ls 5 [(0, .ref (ob 0)), (1, .int (nI a)), (2, .int (nI b)), (3, .ref o)] := hl
  refine lv_aload_n hx hcd dL_stop_0 rfl (lv_at hl 3 rfl) ?_
  refine lv_iconst (v := nI 0) hx hcd dL_stop_1 (by decide) ?_
  refine lv_aload_n hx hcd dL_stop_2 rfl (lv_at hl 0 rfl) ?_
  refine lv_iload_n hx hcd dL_stop_3 rfl (lv_at hl 1 rfl) ?_
  refine lv_iload_n hx hcd dL_stop_4 rfl (lv_at hl 2 rfl) ?_
  refine kr_Vi (As := [.int (nI a), .int (nI b)]) (rest := [.int (nI 0), .ref o]) (ws2 := wLX cI cB cW cL o F ob nw tr qs sc (g_rot qs (rj n r)) (g_stop M a b) N (sset S (pj n r) M) (g_kn n) L T) (q := (RX6, TX6, 5)) ⟨hx, hcd, hml, hown, hts⟩ (c_X6_stop__ok l D cI cB cW cL ob nw tr qs sc (g_rot qs r) N S n L T _ M a b r hI ha hb hne hn (by omega)) (cwV 2 hts gL_stop_X6_stop rfl rfl rfl (by decide +kernel) ⟨Nat.le_of_ble_eq_true rfl, Nat.le_of_ble_eq_true rfl⟩) hK hP hD hS hA [1, 2, 3, 4, 5, 6, 7, 8, 9, 10, 11, 12, 13, 14, 15, 16, 17, 18, 19, 20, 21, 22, 23, 24, 25, 26, 27, 28, 29, 30, 31, 32, 33, 34, 35, 36, 37, 38, 39, 40, 41, 42, 43, 44, 45, 46, 47, 48, 49, 50, 51, 52, 53, 54, 55, 56, 57, 58, 59, 60, 61, 62, 63, 64, 65, 66, 67, 68, 69, 70, 71, 72, 73, 74, 75, 76, 77, 78, 79, 80, 81, 82, 83, 84, 85, 86, 87, 88, 89, 90, 91, 92, 93, 94] wLX_XC wX_nd2 wX_adr wLX_X 1 rfl rfl rfl hl.1 rfl (Nat.le_of_ble_eq_true rfl) dL_stop_5 ⟨Nat.zero_le _, Nat.zero_le _⟩ (fun H locs hP hD hS => ?_)
  refine lv_i2l hx hcd dL_stop_8 rfl ?_
  refine kl_last hx hcd hK hP hD hS 0 3 rfl rfl (by omega) (by decide) (ws2 := wLX cI cB cW cL o (vp_updL F 0 ((if g_has M a b 5 = true then 1 else 0 : Int32).toInt64)) ob nw tr qs sc (g_rot qs (rj n r)) (g_stop M a b) N (sset S (pj n r) M) (g_kn n) L T) rfl dL_stop_9 (fun H locs hP hD hS => ?_)
  refine lv_goto (tgt := 21) hx hcd dL_stop_10 (by decide) ?_
  refine lv_iconst (v := nI 0) hx hcd dL_stop_21 (by decide) ?_
  refine W.widen (k := 1) (n := 6) (Nat.zero_le _) (Nat.zero_le _) ?_
  exact kr_iret hx hcd hr hlocks hK hP hD hS rfl rfl dL_stop_22

set_option maxHeartbeats 4000000 in
set_option maxRecDepth 100000 in
theorem c_L_stop__e1 (l : Launch) (hst : l.stackTraces = false) (D : va_G) (cI cB cW cL : ClassId) (o : Nat) (F : Nat → Int64) (ob nw tr : Nat → Nat) (qs : Nat → Nat → Nat) (sc : Nat → Nat) (G : Nat → Option Nat) (N : kM) (S : Nat → kM) (n L : Nat) (T : Nat → Int32) (sz : Nat) (M : kM) (u : Int32) (w : Int32) (hg : g_why u w = nI 1) : kMh l yL_stop wsL_stop ({ frames := 9, cells := 1, slots := 6, locals := 164 }) D vwCl (kT cI cB cW cL) sz [.ref (ob 0), .int u, .int w, .ref o] (wLX cI cB cW cL o F ob nw tr qs sc G M N S n L T) (wLX cI cB cW cL o F ob nw tr qs sc G M N S n L T) 1 := by
  refine kr_ofh (cc := cL_stop) (maxL := 5) (ret := (some .int)) (hh := [(0, 10, 13, 13), (0, 10, 17, 15)]) (by decide) rfl (Nat.le_of_ble_eq_true rfl) ?_
  intro pp ee ss mm args below meth cc AA ls hx hcd hr hTab hts hown hlocks hml hZ hN hK hP hD hA hl
  have hS : va_S AA ss.heap ss.heap [] := va_S.rf
  have hown : ss.vm.findClass RL = some mm.cls := hown
  have hl : lv_has ls 5 [(0, .ref (ob 0)), (1, .int u), (2, .int w), (3, .ref o)] := hl
  refine lv_aload_n hx hcd dL_stop_0 rfl (lv_at hl 3 rfl) ?_
  refine lv_iconst (v := nI 0) hx hcd dL_stop_1 (by decide) ?_
  refine lv_aload_n hx hcd dL_stop_2 rfl (lv_at hl 0 rfl) ?_
  refine lv_iload_n hx hcd dL_stop_3 rfl (lv_at hl 1 rfl) ?_
  refine lv_iload_n hx hcd dL_stop_4 rfl (lv_at hl 2 rfl) ?_
  refine kl_V (As := [.int u, .int w]) (rest := [.int (nI 0), .ref o]) (q := (RX6, TX6, 5)) ⟨hx, hcd, hml, hown, hts⟩ (c_X6_stop__e1 l D cI cB cW cL  _ M hst u w (ob 0) hg) (cwV 2 hts gL_stop_X6_stop rfl rfl rfl (by decide +kernel) ⟨Nat.le_of_ble_eq_true rfl, Nat.le_of_ble_eq_true rfl⟩) hZ hK hP hD hS hA [] rfl (by decide) 1 rfl rfl rfl hl.1 rfl (Nat.le_of_ble_eq_true rfl) dL_stop_5 ⟨Nat.le_of_ble_eq_true rfl, Nat.le_of_ble_eq_true rfl⟩ [] ⟨0, 10, 13, 13⟩ [⟨0, 10, 17, 15⟩] hTab (fun z hz => absurd hz List.not_mem_nil) (by decide) (by decide) (hts (.classLink RL 13 "java/lang/IndexOutOfBoundsException") (by decide +kernel)) (va_Nw.use rfl (hZ.2.2.2 (.castable "java/lang/IndexOutOfBoundsException" "java/lang/IndexOutOfBoundsException") (by decide +kernel))) (fun H locs q9 hP hD hS => ?_)
  refine lv_astore (lv' := [(4, .ref q9), (0, .ref (ob 0)), (1, .int u), (2, .int w), (3, .ref o)]) hx hcd dL_stop_13 hl (by decide) rfl (fun ls hl => ?_)
  refine lv_iconst (v := nI 1) hx hcd dL_stop_15 (by decide) ?_
  exact kr_iret hx hcd hr hlocks hK hP hD hS rfl rfl dL_stop_16

set_option maxHeartbeats 4000000 in
set_option maxRecDepth 100000 in
theorem c_L_stop__e2 (l : Launch) (hst : l.stackTraces = false) (D : va_G) (cI cB cW cL : ClassId) (o : Nat) (F : Nat → Int64) (ob nw tr : Nat → Nat) (qs : Nat → Nat → Nat) (sc : Nat → Nat) (G : Nat → Option Nat) (N : kM) (S : Nat → kM) (n L : Nat) (T : Nat → Int32) (sz : Nat) (M : kM) (u : Int32) (w : Int32) (hg : g_why u w = nI 2) : kMh l yL_stop wsL_stop ({ frames := 9, cells := 1, slots := 6, locals := 164 }) D vwCl (kT cI cB cW cL) sz [.ref (ob 0), .int u, .int w, .ref o] (wLX cI cB cW cL o F ob nw tr qs sc G M N S n L T) (wLX cI cB cW cL o F ob nw tr qs sc G M N S n L T) 2 := by
  refine kr_ofh (cc := cL_stop) (maxL := 5) (ret := (some .int)) (hh := [(0, 10, 13, 13), (0, 10, 17, 15)]) (by decide) rfl (Nat.le_of_ble_eq_true rfl) ?_
  intro pp ee ss mm args below meth cc AA ls hx hcd hr hTab hts hown hlocks hml hZ hN hK hP hD hA hl
  have hS : va_S AA ss.heap ss.heap [] := va_S.rf
  have hown : ss.vm.findClass RL = some mm.cls := hown
  have hl : lv_has ls 5 [(0, .ref (ob 0)), (1, .int u), (2, .int w), (3, .ref o)] := hl
  refine lv_aload_n hx hcd dL_stop_0 rfl (lv_at hl 3 rfl) ?_
  refine lv_iconst (v := nI 0) hx hcd dL_stop_1 (by decide) ?_
  refine lv_aload_n hx hcd dL_stop_2 rfl (lv_at hl 0 rfl) ?_
  refine lv_iload_n hx hcd dL_stop_3 rfl (lv_at hl 1 rfl) ?_
  refine lv_iload_n hx hcd dL_stop_4 rfl (lv_at hl 2 rfl) ?_
  refine kl_V (As := [.int u, .int w]) (rest := [.int (nI 0), .ref o]) (q := (RX6, TX6, 5)) ⟨hx, hcd, hml, hown, hts⟩ (c_X6_stop__e2 l D cI cB cW cL  _ M hst u w (ob 0) hg) (cwV 2 hts gL_stop_X6_stop rfl rfl rfl (by decide +kernel) ⟨Nat.le_of_ble_eq_true rfl, Nat.le_of_ble_eq_true rfl⟩) hZ hK hP hD hS hA [] rfl (by decide) 1 rfl rfl rfl hl.1 rfl (Nat.le_of_ble_eq_true rfl) dL_stop_5 ⟨Nat.le_of_ble_eq_true rfl, Nat.le_of_ble_eq_true rfl⟩ [⟨0, 10, 13, 13⟩] ⟨0, 10, 17, 15⟩ [] hTab (fun z hz => Or.inr (by rw [List.mem_singleton.mp hz]; exact ⟨by decide, eIO, hts (.classLink RL 13 "java/lang/IndexOutOfBoundsException") (by decide +kernel), hN _ (List.mem_of_getElem? (i := 0) rfl)⟩)) (by decide) (by decide) (hts (.classLink RL 15 "java/lang/IllegalArgumentException") (by decide +kernel)) (va_Nw.use rfl (hZ.2.2.2 (.castable "java/lang/IllegalArgumentException" "java/lang/IllegalArgumentException") (by decide +kernel))) (fun H locs q9 hP hD hS => ?_)
  refine lv_astore (lv' := [(4, .ref q9), (0, .ref (ob 0)), (1, .int u), (2, .int w), (3, .ref o)]) hx hcd dL_stop_17 hl (by decide) rfl (fun ls hl => ?_)
  refine lv_iconst (v := nI 2) hx hcd dL_stop_19 (by decide) ?_
  exact kr_iret hx hcd hr hlocks hK hP hD hS rfl rfl dL_stop_20

set_option maxHeartbeats 4000000 in
set_option maxRecDepth 100000 in
theorem c_L_entry__ok (l : Launch) (hst : l.stackTraces = false) (D : va_G) (cI cB cW cL : ClassId) (o : Nat) (F : Nat → Int64) (ob nw tr : Nat → Nat) (qs : Nat → Nat → Nat) (sc : Nat → Nat) (G : Nat → Option Nat) (N : kM) (S : Nat → kM) (n L : Nat) (T : Nat → Int32) (sz : Nat) (M : kM) (a : Nat) (b : Nat) (ha : a < 6) (hb : b < 6) (hne : a ≠ b) : kMh l yL_entry wsL_entry ({ frames := 9, cells := 1, slots := 6, locals := 145 }) D vwCl (kT cI cB cW cL) sz [.ref (ob 0), .int (nI a), .int (nI b), .ref o] (wLX cI cB cW cL o F ob nw tr qs sc G M N S n L T) (wLX cI cB cW cL o (vp_updL F 0 (((g_st M a b) : Int32).toInt64)) ob nw tr qs sc G M N S n L T) 0 := by
  refine kr_ofh (cc := cL_entry) (maxL := 5) (ret := (some .int)) (hh := [(0, 10, 13, 13), (0, 10, 17, 15)]) (by decide) rfl (Nat.le_of_ble_eq_true rfl) ?_
  intro pp ee ss mm args below meth cc AA ls hx hcd hr hTab hts hown hlocks hml hZ hN hK hP hD hA hl
  have hS : va_S AA ss.heap ss.heap [] := va_S.rf
  have hown : ss.vm.findClass RL = some mm.cls := hown
  have hl : lv_has ls 5 [(0, .ref (ob 0)), (1, .int (nI a)), (2, .int (nI b)), (3, .ref o)] := hl
  refine lv_aload_n hx hcd dL_entry_0 rfl (lv_at hl 3 rfl) ?_
  refine lv_iconst (v := nI 0) hx hcd dL_entry_1 (by decide) ?_
  refine lv_aload_n hx hcd dL_entry_2 rfl (lv_at hl 0 rfl) ?_
  refine lv_iload_n hx hcd dL_entry_3 rfl (lv_at hl 1 rfl) ?_
  refine lv_iload_n hx hcd dL_entry_4 rfl (lv_at hl 2 rfl) ?_
  refine kr_Vi (As := [.int (nI a), .int (nI b)]) (rest := [.int (nI 0), .ref o]) (ws2 := wLX cI cB cW cL o F ob nw tr qs sc G M N S n L T) (q := (RX6, TX6, 5)) ⟨hx, hcd, hml, hown, hts⟩ (c_X6_entry__ok l D cI cB cW cL ob nw tr qs sc G N S n L T _ M a b ha hb hne) (cwV 2 hts gL_entry_X6_entry rfl rfl rfl (by decide +kernel) ⟨Nat.le_of_ble_eq_true rfl, Nat.le_of_ble_eq_true rfl⟩) hK hP hD hS hA [1, 2, 3, 4, 5, 6, 7, 8, 9, 10, 11, 12, 13, 14, 15, 16, 17, 18, 19, 20, 21, 22, 23, 24, 25, 26, 27, 28, 29, 30, 31, 32, 33, 34, 35, 36, 37, 38, 39, 40, 41, 42, 43, 44, 45, 46, 47, 48, 49, 50, 51, 52, 53, 54, 55, 56, 57, 58, 59, 60, 61, 62, 63, 64, 65, 66, 67, 68, 69, 70, 71, 72, 73, 74, 75, 76, 77, 78, 79, 80, 81, 82, 83, 84, 85, 86, 87, 88, 89, 90, 91, 92, 93, 94] wLX_XC wX_nd2 wX_adr wLX_X 1 rfl rfl rfl hl.1 rfl (Nat.le_of_ble_eq_true rfl) dL_entry_5 ⟨Nat.zero_le _, Nat.zero_le _⟩ (fun H locs hP hD hS => ?_)
  refine lv_i2l hx hcd dL_entry_8 rfl ?_
  refine kl_last hx hcd hK hP hD hS 0 3 rfl rfl (by omega) (by decide) (ws2 := wLX cI cB cW cL o (vp_updL F 0 ((g_st M a b : Int32).toInt64)) ob nw tr qs sc G M N S n L T) rfl dL_entry_9 (fun H locs hP hD hS => ?_)
  refine lv_goto (tgt := 21) hx hcd dL_entry_10 (by decide) ?_
  refine lv_iconst (v := nI 0) hx hcd dL_entry_21 (by decide) ?_
  refine W.widen (k := 1) (n := 6) (Nat.zero_le _) (Nat.zero_le _) ?_
  exact kr_iret hx hcd hr hlocks hK hP hD hS rfl rfl dL_entry_22

set_option maxHeartbeats 4000000 in
set_option maxRecDepth 100000 in
theorem c_L_entry__e1 (l : Launch) (hst : l.stackTraces = false) (D : va_G) (cI cB cW cL : ClassId) (o : Nat) (F : Nat → Int64) (ob nw tr : Nat → Nat) (qs : Nat → Nat → Nat) (sc : Nat → Nat) (G : Nat → Option Nat) (N : kM) (S : Nat → kM) (n L : Nat) (T : Nat → Int32) (sz : Nat) (M : kM) (u : Int32) (w : Int32) (hg : g_why u w = nI 1) : kMh l yL_entry wsL_entry ({ frames := 9, cells := 1, slots := 6, locals := 145 }) D vwCl (kT cI cB cW cL) sz [.ref (ob 0), .int u, .int w, .ref o] (wLX cI cB cW cL o F ob nw tr qs sc G M N S n L T) (wLX cI cB cW cL o F ob nw tr qs sc G M N S n L T) 1 := by
  refine kr_ofh (cc := cL_entry) (maxL := 5) (ret := (some .int)) (hh := [(0, 10, 13, 13), (0, 10, 17, 15)]) (by decide) rfl (Nat.le_of_ble_eq_true rfl) ?_
  intro pp ee ss mm args below meth cc AA ls hx hcd hr hTab hts hown hlocks hml hZ hN hK hP hD hA hl
  have hS : va_S AA ss.heap ss.heap [] := va_S.rf
  have hown : ss.vm.findClass RL = some mm.cls := hown
  have hl : lv_has ls 5 [(0, .ref (ob 0)), (1, .int u), (2, .int w), (3, .ref o)] := hl
  refine lv_aload_n hx hcd dL_entry_0 rfl (lv_at hl 3 rfl) ?_
  refine lv_iconst (v := nI 0) hx hcd dL_entry_1 (by decide) ?_
  refine lv_aload_n hx hcd dL_entry_2 rfl (lv_at hl 0 rfl) ?_
  refine lv_iload_n hx hcd dL_entry_3 rfl (lv_at hl 1 rfl) ?_
  refine lv_iload_n hx hcd dL_entry_4 rfl (lv_at hl 2 rfl) ?_
  refine kl_V (As := [.int u, .int w]) (rest := [.int (nI 0), .ref o]) (q := (RX6, TX6, 5)) ⟨hx, hcd, hml, hown, hts⟩ (c_X6_entry__e1 l D cI cB cW cL  _ M hst u w (ob 0) hg) (cwV 2 hts gL_entry_X6_entry rfl rfl rfl (by decide +kernel) ⟨Nat.le_of_ble_eq_true rfl, Nat.le_of_ble_eq_true rfl⟩) hZ hK hP hD hS hA [] rfl (by decide) 1 rfl rfl rfl hl.1 rfl (Nat.le_of_ble_eq_true rfl) dL_entry_5 ⟨Nat.le_of_ble_eq_true rfl, Nat.le_of_ble_eq_true rfl⟩ [] ⟨0, 10, 13, 13⟩ [⟨0, 10, 17, 15⟩] hTab (fun z hz => absurd hz List.not_mem_nil) (by decide) (by decide) (hts (.classLink RL 13 "java/lang/IndexOutOfBoundsException") (by decide +kernel)) (va_Nw.use rfl (hZ.2.2.2 (.castable "java/lang/IndexOutOfBoundsException" "java/lang/IndexOutOfBoundsException") (by decide +kernel))) (fun H locs q9 hP hD hS => ?_)
  refine lv_astore (lv' := [(4, .ref q9), (0, .ref (ob 0)), (1, .int u), (2, .int w), (3, .ref o)]) hx hcd dL_entry_13 hl (by decide) rfl (fun ls hl => ?_)
  refine lv_iconst (v := nI 1) hx hcd dL_entry_15 (by decide) ?_
  exact kr_iret hx hcd hr hlocks hK hP hD hS rfl rfl dL_entry_16

set_option maxHeartbeats 4000000 in
set_option maxRecDepth 100000 in
theorem c_L_entry__e2 (l : Launch) (hst : l.stackTraces = false) (D : va_G) (cI cB cW cL : ClassId) (o : Nat) (F : Nat → Int64) (ob nw tr : Nat → Nat) (qs : Nat → Nat → Nat) (sc : Nat → Nat) (G : Nat → Option Nat) (N : kM) (S : Nat → kM) (n L : Nat) (T : Nat → Int32) (sz : Nat) (M : kM) (u : Int32) (w : Int32) (hg : g_why u w = nI 2) : kMh l yL_entry wsL_entry ({ frames := 9, cells := 1, slots := 6, locals := 145 }) D vwCl (kT cI cB cW cL) sz [.ref (ob 0), .int u, .int w, .ref o] (wLX cI cB cW cL o F ob nw tr qs sc G M N S n L T) (wLX cI cB cW cL o F ob nw tr qs sc G M N S n L T) 2 := by
  refine kr_ofh (cc := cL_entry) (maxL := 5) (ret := (some .int)) (hh := [(0, 10, 13, 13), (0, 10, 17, 15)]) (by decide) rfl (Nat.le_of_ble_eq_true rfl) ?_
  intro pp ee ss mm args below meth cc AA ls hx hcd hr hTab hts hown hlocks hml hZ hN hK hP hD hA hl
  have hS : va_S AA ss.heap ss.heap [] := va_S.rf
  have hown : ss.vm.findClass RL = some mm.cls := hown
  have hl : lv_has ls 5 [(0, .ref (ob 0)), (1, .int u), (2, .int w), (3, .ref o)] := hl
  refine lv_aload_n hx hcd dL_entry_0 rfl (lv_at hl 3 rfl) ?_
  refine lv_iconst (v := nI 0) hx hcd dL_entry_1 (by decide) ?_
  refine lv_aload_n hx hcd dL_entry_2 rfl (lv_at hl 0 rfl) ?_
  refine lv_iload_n hx hcd dL_entry_3 rfl (lv_at hl 1 rfl) ?_
  refine lv_iload_n hx hcd dL_entry_4 rfl (lv_at hl 2 rfl) ?_
  refine kl_V (As := [.int u, .int w]) (rest := [.int (nI 0), .ref o]) (q := (RX6, TX6, 5)) ⟨hx, hcd, hml, hown, hts⟩ (c_X6_entry__e2 l D cI cB cW cL  _ M hst u w (ob 0) hg) (cwV 2 hts gL_entry_X6_entry rfl rfl rfl (by decide +kernel) ⟨Nat.le_of_ble_eq_true rfl, Nat.le_of_ble_eq_true rfl⟩) hZ hK hP hD hS hA [] rfl (by decide) 1 rfl rfl rfl hl.1 rfl (Nat.le_of_ble_eq_true rfl) dL_entry_5 ⟨Nat.le_of_ble_eq_true rfl, Nat.le_of_ble_eq_true rfl⟩ [⟨0, 10, 13, 13⟩] ⟨0, 10, 17, 15⟩ [] hTab (fun z hz => Or.inr (by rw [List.mem_singleton.mp hz]; exact ⟨by decide, eIO, hts (.classLink RL 13 "java/lang/IndexOutOfBoundsException") (by decide +kernel), hN _ (List.mem_of_getElem? (i := 0) rfl)⟩)) (by decide) (by decide) (hts (.classLink RL 15 "java/lang/IllegalArgumentException") (by decide +kernel)) (va_Nw.use rfl (hZ.2.2.2 (.castable "java/lang/IllegalArgumentException" "java/lang/IllegalArgumentException") (by decide +kernel))) (fun H locs q9 hP hD hS => ?_)
  refine lv_astore (lv' := [(4, .ref q9), (0, .ref (ob 0)), (1, .int u), (2, .int w), (3, .ref o)]) hx hcd dL_entry_17 hl (by decide) rfl (fun ls hl => ?_)
  refine lv_iconst (v := nI 2) hx hcd dL_entry_19 (by decide) ?_
  exact kr_iret hx hcd hr hlocks hK hP hD hS rfl rfl dL_entry_20

set_option maxHeartbeats 4000000 in
set_option maxRecDepth 100000 in
theorem c_L_areApart__ok (l : Launch) (hst : l.stackTraces = false) (D : va_G) (cI cB cW cL : ClassId) (o : Nat) (F : Nat → Int64) (ob nw tr : Nat → Nat) (qs : Nat → Nat → Nat) (sc : Nat → Nat) (G : Nat → Option Nat) (N : kM) (S : Nat → kM) (n L : Nat) (T : Nat → Int32) (sz : Nat) (M : kM) (a : Nat) (b : Nat) (ha : a < 6) (hb : b < 6) (hne : a ≠ b) : kMh l yL_areApart wsL_areApart ({ frames := 9, cells := 1, slots := 6, locals := 145 }) D vwCl (kT cI cB cW cL) sz [.ref (ob 0), .int (nI a), .int (nI b), .ref o] (wLX cI cB cW cL o F ob nw tr qs sc G M N S n L T) (wLX cI cB cW cL o (vp_updL F 0 ((if (g_apart M a b) = true then (1 : Int64) else 0))) ob nw tr qs sc G M N S n L T) 0 := by
  refine kr_ofh (cc := cL_areApart) (maxL := 5) (ret := (some .int)) (hh := [(0, 17, 20, 13), (0, 17, 24, 15)]) (by decide) rfl (Nat.le_of_ble_eq_true rfl) ?_
  intro pp ee ss mm args below meth cc AA ls hx hcd hr hTab hts hown hlocks hml hZ hN hK hP hD hA hl
  have hS : va_S AA ss.heap ss.heap [] := va_S.rf
  have hown : ss.vm.findClass RL = some mm.cls := hown
  have hl : lv_has ls 5 [(0, .ref (ob 0)), (1, .int (nI a)), (2, .int (nI b)), (3, .ref o)] := hl
  refine lv_aload_n hx hcd dL_areApart_0 rfl (lv_at hl 3 rfl) ?_
  refine lv_iconst (v := nI 0) hx hcd dL_areApart_1 (by decide) ?_
  refine lv_aload_n hx hcd dL_areApart_2 rfl (lv_at hl 0 rfl) ?_
  refine lv_iload_n hx hcd dL_areApart_3 rfl (lv_at hl 1 rfl) ?_
  refine lv_iload_n hx hcd dL_areApart_4 rfl (lv_at hl 2 rfl) ?_
  refine kr_Vi (As := [.int (nI a), .int (nI b)]) (rest := [.int (nI 0), .ref o]) (ws2 := wLX cI cB cW cL o F ob nw tr qs sc G M N S n L T) (q := (RX6, TX6, 5)) ⟨hx, hcd, hml, hown, hts⟩ (c_X6_areApart__ok l D cI cB cW cL ob nw tr qs sc G N S n L T _ M a b ha hb hne) (cwV 2 hts gL_areApart_X6_areApart rfl rfl rfl (by decide +kernel) ⟨Nat.le_of_ble_eq_true rfl, Nat.le_of_ble_eq_true rfl⟩) hK hP hD hS hA [1, 2, 3, 4, 5, 6, 7, 8, 9, 10, 11, 12, 13, 14, 15, 16, 17, 18, 19, 20, 21, 22, 23, 24, 25, 26, 27, 28, 29, 30, 31, 32, 33, 34, 35, 36, 37, 38, 39, 40, 41, 42, 43, 44, 45, 46, 47, 48, 49, 50, 51, 52, 53, 54, 55, 56, 57, 58, 59, 60, 61, 62, 63, 64, 65, 66, 67, 68, 69, 70, 71, 72, 73, 74, 75, 76, 77, 78, 79, 80, 81, 82, 83, 84, 85, 86, 87, 88, 89, 90, 91, 92, 93, 94] wLX_XC wX_nd2 wX_adr wLX_X 1 rfl rfl rfl hl.1 rfl (Nat.le_of_ble_eq_true rfl) dL_areApart_5 ⟨Nat.zero_le _, Nat.zero_le _⟩ (fun H locs hP hD hS => ?_)
  refine kr_beq (tgt := 15) hx hcd dL_areApart_8 (by decide) (fun (c_8 : g_apart M a b = false) => ?_) (fun (c_8 : g_apart M a b = true) => ?_)
  · refine lv_lconst (v := 0) hx hcd dL_areApart_15 (by decide) ?_
    refine kl_last hx hcd hK hP hD hS 0 3 rfl rfl (by omega) (by decide) (ws2 := wLX cI cB cW cL o (vp_updL F 0 0) ob nw tr qs sc G M N S n L T) rfl dL_areApart_16 (fun H locs hP hD hS => ?_)
    refine lv_goto (tgt := 28) hx hcd dL_areApart_17 (by decide) ?_
    refine lv_iconst (v := nI 0) hx hcd dL_areApart_28 (by decide) ?_
    refine W.widen (k := 1) (n := 6) (Nat.zero_le _) (Nat.zero_le _) ?_
    exact kr_iret hx hcd hr hlocks hK hP hD hS rfl (by simp [c_8]; done) dL_areApart_29
  · refine lv_lconst (v := 1) hx hcd dL_areApart_11 (by decide) ?_
    refine lv_goto (tgt := 16) hx hcd dL_areApart_12 (by decide) ?_
    refine kl_last hx hcd hK hP hD hS 0 3 rfl rfl (by omega) (by decide) (ws2 := wLX cI cB cW cL o (vp_updL F 0 1) ob nw tr qs sc G M N S n L T) rfl dL_areApart_16 (fun H locs hP hD hS => ?_)
    refine lv_goto (tgt := 28) hx hcd dL_areApart_17 (by decide) ?_
    refine lv_iconst (v := nI 0) hx hcd dL_areApart_28 (by decide) ?_
    refine W.widen (k := 1) (n := 6) (Nat.zero_le _) (Nat.zero_le _) ?_
    exact kr_iret hx hcd hr hlocks hK hP hD hS rfl (by simp [c_8]; done) dL_areApart_29

set_option maxHeartbeats 4000000 in
set_option maxRecDepth 100000 in
theorem c_L_areApart__e1 (l : Launch) (hst : l.stackTraces = false) (D : va_G) (cI cB cW cL : ClassId) (o : Nat) (F : Nat → Int64) (ob nw tr : Nat → Nat) (qs : Nat → Nat → Nat) (sc : Nat → Nat) (G : Nat → Option Nat) (N : kM) (S : Nat → kM) (n L : Nat) (T : Nat → Int32) (sz : Nat) (M : kM) (u : Int32) (w : Int32) (hg : g_why u w = nI 1) : kMh l yL_areApart wsL_areApart ({ frames := 9, cells := 1, slots := 6, locals := 145 }) D vwCl (kT cI cB cW cL) sz [.ref (ob 0), .int u, .int w, .ref o] (wLX cI cB cW cL o F ob nw tr qs sc G M N S n L T) (wLX cI cB cW cL o F ob nw tr qs sc G M N S n L T) 1 := by
  refine kr_ofh (cc := cL_areApart) (maxL := 5) (ret := (some .int)) (hh := [(0, 17, 20, 13), (0, 17, 24, 15)]) (by decide) rfl (Nat.le_of_ble_eq_true rfl) ?_
  intro pp ee ss mm args below meth cc AA ls hx hcd hr hTab hts hown hlocks hml hZ hN hK hP hD hA hl
  have hS : va_S AA ss.heap ss.heap [] := va_S.rf
  have hown : ss.vm.findClass RL = some mm.cls := hown
  have hl : lv_has ls 5 [(0, .ref (ob 0)), (1, .int u), (2, .int w), (3, .ref o)] := hl
  refine lv_aload_n hx hcd dL_areApart_0 rfl (lv_at hl 3 rfl) ?_
  refine lv_iconst (v := nI 0) hx hcd dL_areApart_1 (by decide) ?_
  refine lv_aload_n hx hcd dL_areApart_2 rfl (lv_at hl 0 rfl) ?_
  refine lv_iload_n hx hcd dL_areApart_3 rfl (lv_at hl 1 rfl) ?_
  refine lv_iload_n hx hcd dL_areApart_4 rfl (lv_at hl 2 rfl) ?_
  refine kl_V (As := [.int u, .int w]) (rest := [.int (nI 0), .ref o]) (q := (RX6, TX6, 5)) ⟨hx, hcd, hml, hown, hts⟩ (c_X6_areApart__e1 l D cI cB cW cL  _ M hst u w (ob 0) hg) (cwV 2 hts gL_areApart_X6_areApart rfl rfl rfl (by decide +kernel) ⟨Nat.le_of_ble_eq_true rfl, Nat.le_of_ble_eq_true rfl⟩) hZ hK hP hD hS hA [] rfl (by decide) 1 rfl rfl rfl hl.1 rfl (Nat.le_of_ble_eq_true rfl) dL_areApart_5 ⟨Nat.le_of_ble_eq_true rfl, Nat.le_of_ble_eq_true rfl⟩ [] ⟨0, 17, 20, 13⟩ [⟨0, 17, 24, 15⟩] hTab (fun z hz => absurd hz List.not_mem_nil) (by decide) (by decide) (hts (.classLink RL 13 "java/lang/IndexOutOfBoundsException") (by decide +kernel)) (va_Nw.use rfl (hZ.2.2.2 (.castable "java/lang/IndexOutOfBoundsException" "java/lang/IndexOutOfBoundsException") (by decide +kernel))) (fun H locs q9 hP hD hS => ?_)
  refine lv_astore (lv' := [(4, .ref q9), (0, .ref (ob 0)), (1, .int u), (2, .int w), (3, .ref o)]) hx hcd dL_areApart_20 hl (by decide) rfl (fun ls hl => ?_)
  refine lv_iconst (v := nI 1) hx hcd dL_areApart_22 (by decide) ?_
  exact kr_iret hx hcd hr hlocks hK hP hD hS rfl rfl dL_areApart_23

set_option maxHeartbeats 4000000 in
set_option maxRecDepth 100000 in
theorem c_L_areApart__e2 (l : Launch) (hst : l.stackTraces = false) (D : va_G) (cI cB cW cL : ClassId) (o : Nat) (F : Nat → Int64) (ob nw tr : Nat → Nat) (qs : Nat → Nat → Nat) (sc : Nat → Nat) (G : Nat → Option Nat) (N : kM) (S : Nat → kM) (n L : Nat) (T : Nat → Int32) (sz : Nat) (M : kM) (u : Int32) (w : Int32) (hg : g_why u w = nI 2) : kMh l yL_areApart wsL_areApart ({ frames := 9, cells := 1, slots := 6, locals := 145 }) D vwCl (kT cI cB cW cL) sz [.ref (ob 0), .int u, .int w, .ref o] (wLX cI cB cW cL o F ob nw tr qs sc G M N S n L T) (wLX cI cB cW cL o F ob nw tr qs sc G M N S n L T) 2 := by
  refine kr_ofh (cc := cL_areApart) (maxL := 5) (ret := (some .int)) (hh := [(0, 17, 20, 13), (0, 17, 24, 15)]) (by decide) rfl (Nat.le_of_ble_eq_true rfl) ?_
  intro pp ee ss mm args below meth cc AA ls hx hcd hr hTab hts hown hlocks hml hZ hN hK hP hD hA hl
  have hS : va_S AA ss.heap ss.heap [] := va_S.rf
  have hown : ss.vm.findClass RL = some mm.cls := hown
  have hl : lv_has ls 5 [(0, .ref (ob 0)), (1, .int u), (2, .int w), (3, .ref o)] := hl
  refine lv_aload_n hx hcd dL_areApart_0 rfl (lv_at hl 3 rfl) ?_
  refine lv_iconst (v := nI 0) hx hcd dL_areApart_1 (by decide) ?_
  refine lv_aload_n hx hcd dL_areApart_2 rfl (lv_at hl 0 rfl) ?_
  refine lv_iload_n hx hcd dL_areApart_3 rfl (lv_at hl 1 rfl) ?_
  refine lv_iload_n hx hcd dL_areApart_4 rfl (lv_at hl 2 rfl) ?_
  refine kl_V (As := [.int u, .int w]) (rest := [.int (nI 0), .ref o]) (q := (RX6, TX6, 5)) ⟨hx, hcd, hml, hown, hts⟩ (c_X6_areApart__e2 l D cI cB cW cL  _ M hst u w (ob 0) hg) (cwV 2 hts gL_areApart_X6_areApart rfl rfl rfl (by decide +kernel) ⟨Nat.le_of_ble_eq_true rfl, Nat.le_of_ble_eq_true rfl⟩) hZ hK hP hD hS hA [] rfl (by decide) 1 rfl rfl rfl hl.1 rfl (Nat.le_of_ble_eq_true rfl) dL_areApart_5 ⟨Nat.le_of_ble_eq_true rfl, Nat.le_of_ble_eq_true rfl⟩ [⟨0, 17, 20, 13⟩] ⟨0, 17, 24, 15⟩ [] hTab (fun z hz => Or.inr (by rw [List.mem_singleton.mp hz]; exact ⟨by decide, eIO, hts (.classLink RL 13 "java/lang/IndexOutOfBoundsException") (by decide +kernel), hN _ (List.mem_of_getElem? (i := 0) rfl)⟩)) (by decide) (by decide) (hts (.classLink RL 15 "java/lang/IllegalArgumentException") (by decide +kernel)) (va_Nw.use rfl (hZ.2.2.2 (.castable "java/lang/IllegalArgumentException" "java/lang/IllegalArgumentException") (by decide +kernel))) (fun H locs q9 hP hD hS => ?_)
  refine lv_astore (lv' := [(4, .ref q9), (0, .ref (ob 0)), (1, .int u), (2, .int w), (3, .ref o)]) hx hcd dL_areApart_24 hl (by decide) rfl (fun ls hl => ?_)
  refine lv_iconst (v := nI 2) hx hcd dL_areApart_26 (by decide) ?_
  exact kr_iret hx hcd hr hlocks hK hP hD hS rfl rfl dL_areApart_27

set_option maxHeartbeats 4000000 in
set_option maxRecDepth 100000 in
theorem c_L_agree__ok (l : Launch) (hst : l.stackTraces = false) (D : va_G) (cI cB cW cL : ClassId) (o : Nat) (F : Nat → Int64) (ob nw tr : Nat → Nat) (qs : Nat → Nat → Nat) (sc : Nat → Nat) (G : Nat → Option Nat) (N : kM) (S : Nat → kM) (n L : Nat) (T : Nat → Int32) (sz : Nat) (M : kM) (a : Nat) (b : Nat) (hI : kInv M) (ha : a < 6) (hb : b < 6) (hne : a ≠ b) : kMh l yL_agree wsL_agree ({ frames := 9, cells := 1, slots := 6, locals := 145 }) D vwCl (kT cI cB cW cL) sz [.ref (ob 0), .int (nI a), .int (nI b), .ref o] (wLX cI cB cW cL o F ob nw tr qs sc G M N S n L T) (wLX cI cB cW cL o (vp_updL F 0 ((if (g_agr M a b) = true then (1 : Int64) else 0))) ob nw tr qs sc G M N S n L T) 0 := by
  refine kr_ofh (cc := cL_agree) (maxL := 5) (ret := (some .int)) (hh := [(0, 17, 20, 13), (0, 17, 24, 15)]) (by decide) rfl (Nat.le_of_ble_eq_true rfl) ?_
  intro pp ee ss mm args below meth cc AA ls hx hcd hr hTab hts hown hlocks hml hZ hN hK hP hD hA hl
  have hS : va_S AA ss.heap ss.heap [] := va_S.rf
  have hown : ss.vm.findClass RL = some mm.cls := hown
  have hl : lv_has ls 5 [(0, .ref (ob 0)), (1, .int (nI a)), (2, .int (nI b)), (3, .ref o)] := hl
  refine lv_aload_n hx hcd dL_agree_0 rfl (lv_at hl 3 rfl) ?_
  refine lv_iconst (v := nI 0) hx hcd dL_agree_1 (by decide) ?_
  refine lv_aload_n hx hcd dL_agree_2 rfl (lv_at hl 0 rfl) ?_
  refine lv_iload_n hx hcd dL_agree_3 rfl (lv_at hl 1 rfl) ?_
  refine lv_iload_n hx hcd dL_agree_4 rfl (lv_at hl 2 rfl) ?_
  refine kr_Vi (As := [.int (nI a), .int (nI b)]) (rest := [.int (nI 0), .ref o]) (ws2 := wLX cI cB cW cL o F ob nw tr qs sc G M N S n L T) (q := (RX6, TX6, 5)) ⟨hx, hcd, hml, hown, hts⟩ (c_X6_agree__ok l D cI cB cW cL ob nw tr qs sc G N S n L T _ M a b hI ha hb hne) (cwV 2 hts gL_agree_X6_agree rfl rfl rfl (by decide +kernel) ⟨Nat.le_of_ble_eq_true rfl, Nat.le_of_ble_eq_true rfl⟩) hK hP hD hS hA [1, 2, 3, 4, 5, 6, 7, 8, 9, 10, 11, 12, 13, 14, 15, 16, 17, 18, 19, 20, 21, 22, 23, 24, 25, 26, 27, 28, 29, 30, 31, 32, 33, 34, 35, 36, 37, 38, 39, 40, 41, 42, 43, 44, 45, 46, 47, 48, 49, 50, 51, 52, 53, 54, 55, 56, 57, 58, 59, 60, 61, 62, 63, 64, 65, 66, 67, 68, 69, 70, 71, 72, 73, 74, 75, 76, 77, 78, 79, 80, 81, 82, 83, 84, 85, 86, 87, 88, 89, 90, 91, 92, 93, 94] wLX_XC wX_nd2 wX_adr wLX_X 1 rfl rfl rfl hl.1 rfl (Nat.le_of_ble_eq_true rfl) dL_agree_5 ⟨Nat.zero_le _, Nat.zero_le _⟩ (fun H locs hP hD hS => ?_)
  refine kr_beq (tgt := 15) hx hcd dL_agree_8 (by decide) (fun (c_8 : g_agr M a b = false) => ?_) (fun (c_8 : g_agr M a b = true) => ?_)
  · refine lv_lconst (v := 0) hx hcd dL_agree_15 (by decide) ?_
    refine kl_last hx hcd hK hP hD hS 0 3 rfl rfl (by omega) (by decide) (ws2 := wLX cI cB cW cL o (vp_updL F 0 0) ob nw tr qs sc G M N S n L T) rfl dL_agree_16 (fun H locs hP hD hS => ?_)
    refine lv_goto (tgt := 28) hx hcd dL_agree_17 (by decide) ?_
    refine lv_iconst (v := nI 0) hx hcd dL_agree_28 (by decide) ?_
    refine W.widen (k := 1) (n := 6) (Nat.zero_le _) (Nat.zero_le _) ?_
    exact kr_iret hx hcd hr hlocks hK hP hD hS rfl (by simp [c_8]; done) dL_agree_29
  · refine lv_lconst (v := 1) hx hcd dL_agree_11 (by decide) ?_
    refine lv_goto (tgt := 16) hx hcd dL_agree_12 (by decide) ?_
    refine kl_last hx hcd hK hP hD hS 0 3 rfl rfl (by omega) (by decide) (ws2 := wLX cI cB cW cL o (vp_updL F 0 1) ob nw tr qs sc G M N S n L T) rfl dL_agree_16 (fun H locs hP hD hS => ?_)
    refine lv_goto (tgt := 28) hx hcd dL_agree_17 (by decide) ?_
    refine lv_iconst (v := nI 0) hx hcd dL_agree_28 (by decide) ?_
    refine W.widen (k := 1) (n := 6) (Nat.zero_le _) (Nat.zero_le _) ?_
    exact kr_iret hx hcd hr hlocks hK hP hD hS rfl (by simp [c_8]; done) dL_agree_29

set_option maxHeartbeats 4000000 in
set_option maxRecDepth 100000 in
theorem c_L_agree__e1 (l : Launch) (hst : l.stackTraces = false) (D : va_G) (cI cB cW cL : ClassId) (o : Nat) (F : Nat → Int64) (ob nw tr : Nat → Nat) (qs : Nat → Nat → Nat) (sc : Nat → Nat) (G : Nat → Option Nat) (N : kM) (S : Nat → kM) (n L : Nat) (T : Nat → Int32) (sz : Nat) (M : kM) (u : Int32) (w : Int32) (hg : g_why u w = nI 1) : kMh l yL_agree wsL_agree ({ frames := 9, cells := 1, slots := 6, locals := 145 }) D vwCl (kT cI cB cW cL) sz [.ref (ob 0), .int u, .int w, .ref o] (wLX cI cB cW cL o F ob nw tr qs sc G M N S n L T) (wLX cI cB cW cL o F ob nw tr qs sc G M N S n L T) 1 := by
  refine kr_ofh (cc := cL_agree) (maxL := 5) (ret := (some .int)) (hh := [(0, 17, 20, 13), (0, 17, 24, 15)]) (by decide) rfl (Nat.le_of_ble_eq_true rfl) ?_
  intro pp ee ss mm args below meth cc AA ls hx hcd hr hTab hts hown hlocks hml hZ hN hK hP hD hA hl
  have hS : va_S AA ss.heap ss.heap [] := va_S.rf
  have hown : ss.vm.findClass RL = some mm.cls := hown
  have hl : lv_has ls 5 [(0, .ref (ob 0)), (1, .int u), (2, .int w), (3, .ref o)] := hl
  refine lv_aload_n hx hcd dL_agree_0 rfl (lv_at hl 3 rfl) ?_
  refine lv_iconst (v := nI 0) hx hcd dL_agree_1 (by decide) ?_
  refine lv_aload_n hx hcd dL_agree_2 rfl (lv_at hl 0 rfl) ?_
  refine lv_iload_n hx hcd dL_agree_3 rfl (lv_at hl 1 rfl) ?_
  refine lv_iload_n hx hcd dL_agree_4 rfl (lv_at hl 2 rfl) ?_
  refine kl_V (As := [.int u, .int w]) (rest := [.int (nI 0), .ref o]) (q := (RX6, TX6, 5)) ⟨hx, hcd, hml, hown, hts⟩ (c_X6_agree__e1 l D cI cB cW cL  _ M hst u w (ob 0) hg) (cwV 2 hts gL_agree_X6_agree rfl rfl rfl (by decide +kernel) ⟨Nat.le_of_ble_eq_true rfl, Nat.le_of_ble_eq_true rfl⟩) hZ hK hP hD hS hA [] rfl (by decide) 1 rfl rfl rfl hl.1 rfl (Nat.le_of_ble_eq_true rfl) dL_agree_5 ⟨Nat.le_of_ble_eq_true rfl, Nat.le_of_ble_eq_true rfl⟩ [] ⟨0, 17, 20, 13⟩ [⟨0, 17, 24, 15⟩] hTab (fun z hz => absurd hz List.not_mem_nil) (by decide) (by decide) (hts (.classLink RL 13 "java/lang/IndexOutOfBoundsException") (by decide +kernel)) (va_Nw.use rfl (hZ.2.2.2 (.castable "java/lang/IndexOutOfBoundsException" "java/lang/IndexOutOfBoundsException") (by decide +kernel))) (fun H locs q9 hP hD hS => ?_)
  refine lv_astore (lv' := [(4, .ref q9), (0, .ref (ob 0)), (1, .int u), (2, .int w), (3, .ref o)]) hx hcd dL_agree_20 hl (by decide) rfl (fun ls hl => ?_)
  refine lv_iconst (v := nI 1) hx hcd dL_agree_22 (by decide) ?_
  exact kr_iret hx hcd hr hlocks hK hP hD hS rfl rfl dL_agree_23

set_option maxHeartbeats 4000000 in
set_option maxRecDepth 100000 in
theorem c_L_agree__e2 (l : Launch) (hst : l.stackTraces = false) (D : va_G) (cI cB cW cL : ClassId) (o : Nat) (F : Nat → Int64) (ob nw tr : Nat → Nat) (qs : Nat → Nat → Nat) (sc : Nat → Nat) (G : Nat → Option Nat) (N : kM) (S : Nat → kM) (n L : Nat) (T : Nat → Int32) (sz : Nat) (M : kM) (u : Int32) (w : Int32) (hg : g_why u w = nI 2) : kMh l yL_agree wsL_agree ({ frames := 9, cells := 1, slots := 6, locals := 145 }) D vwCl (kT cI cB cW cL) sz [.ref (ob 0), .int u, .int w, .ref o] (wLX cI cB cW cL o F ob nw tr qs sc G M N S n L T) (wLX cI cB cW cL o F ob nw tr qs sc G M N S n L T) 2 := by
  refine kr_ofh (cc := cL_agree) (maxL := 5) (ret := (some .int)) (hh := [(0, 17, 20, 13), (0, 17, 24, 15)]) (by decide) rfl (Nat.le_of_ble_eq_true rfl) ?_
  intro pp ee ss mm args below meth cc AA ls hx hcd hr hTab hts hown hlocks hml hZ hN hK hP hD hA hl
  have hS : va_S AA ss.heap ss.heap [] := va_S.rf
  have hown : ss.vm.findClass RL = some mm.cls := hown
  have hl : lv_has ls 5 [(0, .ref (ob 0)), (1, .int u), (2, .int w), (3, .ref o)] := hl
  refine lv_aload_n hx hcd dL_agree_0 rfl (lv_at hl 3 rfl) ?_
  refine lv_iconst (v := nI 0) hx hcd dL_agree_1 (by decide) ?_
  refine lv_aload_n hx hcd dL_agree_2 rfl (lv_at hl 0 rfl) ?_
  refine lv_iload_n hx hcd dL_agree_3 rfl (lv_at hl 1 rfl) ?_
  refine lv_iload_n hx hcd dL_agree_4 rfl (lv_at hl 2 rfl) ?_
  refine kl_V (As := [.int u, .int w]) (rest := [.int (nI 0), .ref o]) (q := (RX6, TX6, 5)) ⟨hx, hcd, hml, hown, hts⟩ (c_X6_agree__e2 l D cI cB cW cL  _ M hst u w (ob 0) hg) (cwV 2 hts gL_agree_X6_agree rfl rfl rfl (by decide +kernel) ⟨Nat.le_of_ble_eq_true rfl, Nat.le_of_ble_eq_true rfl⟩) hZ hK hP hD hS hA [] rfl (by decide) 1 rfl rfl rfl hl.1 rfl (Nat.le_of_ble_eq_true rfl) dL_agree_5 ⟨Nat.le_of_ble_eq_true rfl, Nat.le_of_ble_eq_true rfl⟩ [⟨0, 17, 20, 13⟩] ⟨0, 17, 24, 15⟩ [] hTab (fun z hz => Or.inr (by rw [List.mem_singleton.mp hz]; exact ⟨by decide, eIO, hts (.classLink RL 13 "java/lang/IndexOutOfBoundsException") (by decide +kernel), hN _ (List.mem_of_getElem? (i := 0) rfl)⟩)) (by decide) (by decide) (hts (.classLink RL 15 "java/lang/IllegalArgumentException") (by decide +kernel)) (va_Nw.use rfl (hZ.2.2.2 (.castable "java/lang/IllegalArgumentException" "java/lang/IllegalArgumentException") (by decide +kernel))) (fun H locs q9 hP hD hS => ?_)
  refine lv_astore (lv' := [(4, .ref q9), (0, .ref (ob 0)), (1, .int u), (2, .int w), (3, .ref o)]) hx hcd dL_agree_24 hl (by decide) rfl (fun ls hl => ?_)
  refine lv_iconst (v := nI 2) hx hcd dL_agree_26 (by decide) ?_
  exact kr_iret hx hcd hr hlocks hK hP hD hS rfl rfl dL_agree_27

set_option maxHeartbeats 4000000 in
set_option maxRecDepth 100000 in
theorem c_L_block__ok (l : Launch) (hst : l.stackTraces = false) (D : va_G) (cI cB cW cL : ClassId) (o : Nat) (F : Nat → Int64) (ob nw tr : Nat → Nat) (qs : Nat → Nat → Nat) (sc : Nat → Nat) (G : Nat → Option Nat) (N : kM) (S : Nat → kM) (n L : Nat) (T : Nat → Int32) (sz : Nat) (M : kM) (a : Nat) (b : Nat) (v : Bool) (r : Nat) (hI : kInv M) (ha : a < 6) (hb : b < 6) (hne : a ≠ b) (hn : n ≤ 4) (hr : r < 4) : kMh l yL_block wsL_block ({ frames := 9, cells := 1, slots := 6, locals := 165 }) D vwCl (kT cI cB cW cL) sz [.ref (ob 0), .int (nI a), .int (nI b), .int (kI v), .ref o] (wLX cI cB cW cL o F ob nw tr qs sc (g_rot qs r) M N S n L T) (wLX cI cB cW cL o (vp_updL F 0 (((if M (240 + 6 * a + b) = kI v then 0 else 1) : Int32).toInt64)) ob nw tr qs sc (g_rot qs (rj n r)) (g_block M a b v) N (sset S (pj n r) M) (g_kn n) L T) 0 := by
  refine kr_ofh (cc := cL_block) (maxL := 6) (ret := (some .int)) (hh := [(0, 12, 15, 13), (0, 12, 19, 15)]) (by decide) rfl (Nat.le_of_ble_eq_true rfl) ?_
  intro pp ee ss mm args below meth cc AA ls hx hcd hr hTab hts hown hlocks hml hZ hN hK hP hD hA hl
  have hS : va_S AA ss.heap ss.heap [] := va_S.rf
  have hown : ss.vm.findClass RL = some mm.cls := hown
  have hl : lv_has ls 6 [(0, .ref (ob 0)), (1, .int (nI a)), (2, .int (nI b)), (3, .int (kI v)), (4, .ref o)] := hl
  refine lv_aload hx hcd dL_block_0 (lv_at hl 4 rfl) ?_
  refine lv_iconst (v := nI 0) hx hcd dL_block_2 (by decide) ?_
  refine lv_aload_n hx hcd dL_block_3 rfl (lv_at hl 0 rfl) ?_
  refine lv_iload_n hx hcd dL_block_4 rfl (lv_at hl 1 rfl) ?_
  refine lv_iload_n hx hcd dL_block_5 rfl (lv_at hl 2 rfl) ?_
  refine lv_iload_n hx hcd dL_block_6 rfl (lv_at hl 3 rfl) ?_
  refine kr_Vi (As := [.int (nI a), .int (nI b), .int (kI v)]) (rest := [.int (nI 0), .ref o]) (ws2 := wLX cI cB cW cL o F ob nw tr qs sc (g_rot qs (rj n r)) (g_block M a b v) N (sset S (pj n r) M) (g_kn n) L T) (q := (RX6, TX6, 5)) ⟨hx, hcd, hml, hown, hts⟩ (c_X6_block__ok l D cI cB cW cL ob nw tr qs sc (g_rot qs r) N S n L T _ M a b v r hI ha hb hne hn (by omega)) (cwV 3 hts gL_block_X6_block rfl rfl rfl (by decide +kernel) ⟨Nat.le_of_ble_eq_true rfl, Nat.le_of_ble_eq_true rfl⟩) hK hP hD hS hA [1, 2, 3, 4, 5, 6, 7, 8, 9, 10, 11, 12, 13, 14, 15, 16, 17, 18, 19, 20, 21, 22, 23, 24, 25, 26, 27, 28, 29, 30, 31, 32, 33, 34, 35, 36, 37, 38, 39, 40, 41, 42, 43, 44, 45, 46, 47, 48, 49, 50, 51, 52, 53, 54, 55, 56, 57, 58, 59, 60, 61, 62, 63, 64, 65, 66, 67, 68, 69, 70, 71, 72, 73, 74, 75, 76, 77, 78, 79, 80, 81, 82, 83, 84, 85, 86, 87, 88, 89, 90, 91, 92, 93, 94] wLX_XC wX_nd2 wX_adr wLX_X 1 rfl rfl rfl hl.1 rfl (Nat.le_of_ble_eq_true rfl) dL_block_7 ⟨Nat.zero_le _, Nat.zero_le _⟩ (fun H locs hP hD hS => ?_)
  refine lv_i2l hx hcd dL_block_10 rfl ?_
  refine kl_last hx hcd hK hP hD hS 0 3 rfl rfl (by omega) (by decide) (ws2 := wLX cI cB cW cL o (vp_updL F 0 ((if M (240 + 6 * a + b) = kI v then 0 else 1 : Int32).toInt64)) ob nw tr qs sc (g_rot qs (rj n r)) (g_block M a b v) N (sset S (pj n r) M) (g_kn n) L T) rfl dL_block_11 (fun H locs hP hD hS => ?_)
  refine lv_goto (tgt := 23) hx hcd dL_block_12 (by decide) ?_
  refine lv_iconst (v := nI 0) hx hcd dL_block_23 (by decide) ?_
  refine W.widen (k := 1) (n := 6) (Nat.zero_le _) (Nat.zero_le _) ?_
  exact kr_iret hx hcd hr hlocks hK hP hD hS rfl rfl dL_block_24

set_option maxHeartbeats 4000000 in
set_option maxRecDepth 100000 in
theorem c_L_block__e1 (l : Launch) (hst : l.stackTraces = false) (D : va_G) (cI cB cW cL : ClassId) (o : Nat) (F : Nat → Int64) (ob nw tr : Nat → Nat) (qs : Nat → Nat → Nat) (sc : Nat → Nat) (G : Nat → Option Nat) (N : kM) (S : Nat → kM) (n L : Nat) (T : Nat → Int32) (sz : Nat) (M : kM) (u : Int32) (w : Int32) (v : Bool) (hg : g_why u w = nI 1) : kMh l yL_block wsL_block ({ frames := 9, cells := 1, slots := 6, locals := 165 }) D vwCl (kT cI cB cW cL) sz [.ref (ob 0), .int u, .int w, .int (kI v), .ref o] (wLX cI cB cW cL o F ob nw tr qs sc G M N S n L T) (wLX cI cB cW cL o F ob nw tr qs sc G M N S n L T) 1 := by
  refine kr_ofh (cc := cL_block) (maxL := 6) (ret := (some .int)) (hh := [(0, 12, 15, 13), (0, 12, 19, 15)]) (by decide) rfl (Nat.le_of_ble_eq_true rfl) ?_
  intro pp ee ss mm args below meth cc AA ls hx hcd hr hTab hts hown hlocks hml hZ hN hK hP hD hA hl
  have hS : va_S AA ss.heap ss.heap [] := va_S.rf
  have hown : ss.vm.findClass RL = some mm.cls := hown
  have hl : lv_has ls 6 [(0, .ref (ob 0)), (1, .int u), (2, .int w), (3, .int (kI v)), (4, .ref o)] := hl
  refine lv_aload hx hcd dL_block_0 (lv_at hl 4 rfl) ?_
  refine lv_iconst (v := nI 0) hx hcd dL_block_2 (by decide) ?_
  refine lv_aload_n hx hcd dL_block_3 rfl (lv_at hl 0 rfl) ?_
  refine lv_iload_n hx hcd dL_block_4 rfl (lv_at hl 1 rfl) ?_
  refine lv_iload_n hx hcd dL_block_5 rfl (lv_at hl 2 rfl) ?_
  refine lv_iload_n hx hcd dL_block_6 rfl (lv_at hl 3 rfl) ?_
  refine kl_V (As := [.int u, .int w, .int (kI v)]) (rest := [.int (nI 0), .ref o]) (q := (RX6, TX6, 5)) ⟨hx, hcd, hml, hown, hts⟩ (c_X6_block__e1 l D cI cB cW cL  _ M hst u w v (ob 0) hg) (cwV 3 hts gL_block_X6_block rfl rfl rfl (by decide +kernel) ⟨Nat.le_of_ble_eq_true rfl, Nat.le_of_ble_eq_true rfl⟩) hZ hK hP hD hS hA [] rfl (by decide) 1 rfl rfl rfl hl.1 rfl (Nat.le_of_ble_eq_true rfl) dL_block_7 ⟨Nat.le_of_ble_eq_true rfl, Nat.le_of_ble_eq_true rfl⟩ [] ⟨0, 12, 15, 13⟩ [⟨0, 12, 19, 15⟩] hTab (fun z hz => absurd hz List.not_mem_nil) (by decide) (by decide) (hts (.classLink RL 13 "java/lang/IndexOutOfBoundsException") (by decide +kernel)) (va_Nw.use rfl (hZ.2.2.2 (.castable "java/lang/IndexOutOfBoundsException" "java/lang/IndexOutOfBoundsException") (by decide +kernel))) (fun H locs q9 hP hD hS => ?_)
  refine lv_astore (lv' := [(5, .ref q9), (0, .ref (ob 0)), (1, .int u), (2, .int w), (3, .int (kI v)), (4, .ref o)]) hx hcd dL_block_15 hl (by decide) rfl (fun ls hl => ?_)
  refine lv_iconst (v := nI 1) hx hcd dL_block_17 (by decide) ?_
  exact kr_iret hx hcd hr hlocks hK hP hD hS rfl rfl dL_block_18

set_option maxHeartbeats 4000000 in
set_option maxRecDepth 100000 in
theorem c_L_block__e2 (l : Launch) (hst : l.stackTraces = false) (D : va_G) (cI cB cW cL : ClassId) (o : Nat) (F : Nat → Int64) (ob nw tr : Nat → Nat) (qs : Nat → Nat → Nat) (sc : Nat → Nat) (G : Nat → Option Nat) (N : kM) (S : Nat → kM) (n L : Nat) (T : Nat → Int32) (sz : Nat) (M : kM) (u : Int32) (w : Int32) (v : Bool) (hg : g_why u w = nI 2) : kMh l yL_block wsL_block ({ frames := 9, cells := 1, slots := 6, locals := 165 }) D vwCl (kT cI cB cW cL) sz [.ref (ob 0), .int u, .int w, .int (kI v), .ref o] (wLX cI cB cW cL o F ob nw tr qs sc G M N S n L T) (wLX cI cB cW cL o F ob nw tr qs sc G M N S n L T) 2 := by
  refine kr_ofh (cc := cL_block) (maxL := 6) (ret := (some .int)) (hh := [(0, 12, 15, 13), (0, 12, 19, 15)]) (by decide) rfl (Nat.le_of_ble_eq_true rfl) ?_
  intro pp ee ss mm args below meth cc AA ls hx hcd hr hTab hts hown hlocks hml hZ hN hK hP hD hA hl
  have hS : va_S AA ss.heap ss.heap [] := va_S.rf
  have hown : ss.vm.findClass RL = some mm.cls := hown
  have hl : lv_has ls 6 [(0, .ref (ob 0)), (1, .int u), (2, .int w), (3, .int (kI v)), (4, .ref o)] := hl
  refine lv_aload hx hcd dL_block_0 (lv_at hl 4 rfl) ?_
  refine lv_iconst (v := nI 0) hx hcd dL_block_2 (by decide) ?_
  refine lv_aload_n hx hcd dL_block_3 rfl (lv_at hl 0 rfl) ?_
  refine lv_iload_n hx hcd dL_block_4 rfl (lv_at hl 1 rfl) ?_
  refine lv_iload_n hx hcd dL_block_5 rfl (lv_at hl 2 rfl) ?_
  refine lv_iload_n hx hcd dL_block_6 rfl (lv_at hl 3 rfl) ?_
  refine kl_V (As := [.int u, .int w, .int (kI v)]) (rest := [.int (nI 0), .ref o]) (q := (RX6, TX6, 5)) ⟨hx, hcd, hml, hown, hts⟩ (c_X6_block__e2 l D cI cB cW cL  _ M hst u w v (ob 0) hg) (cwV 3 hts gL_block_X6_block rfl rfl rfl (by decide +kernel) ⟨Nat.le_of_ble_eq_true rfl, Nat.le_of_ble_eq_true rfl⟩) hZ hK hP hD hS hA [] rfl (by decide) 1 rfl rfl rfl hl.1 rfl (Nat.le_of_ble_eq_true rfl) dL_block_7 ⟨Nat.le_of_ble_eq_true rfl, Nat.le_of_ble_eq_true rfl⟩ [⟨0, 12, 15, 13⟩] ⟨0, 12, 19, 15⟩ [] hTab (fun z hz => Or.inr (by rw [List.mem_singleton.mp hz]; exact ⟨by decide, eIO, hts (.classLink RL 13 "java/lang/IndexOutOfBoundsException") (by decide +kernel), hN _ (List.mem_of_getElem? (i := 0) rfl)⟩)) (by decide) (by decide) (hts (.classLink RL 15 "java/lang/IllegalArgumentException") (by decide +kernel)) (va_Nw.use rfl (hZ.2.2.2 (.castable "java/lang/IllegalArgumentException" "java/lang/IllegalArgumentException") (by decide +kernel))) (fun H locs q9 hP hD hS => ?_)
  refine lv_astore (lv' := [(5, .ref q9), (0, .ref (ob 0)), (1, .int u), (2, .int w), (3, .int (kI v)), (4, .ref o)]) hx hcd dL_block_19 hl (by decide) rfl (fun ls hl => ?_)
  refine lv_iconst (v := nI 2) hx hcd dL_block_21 (by decide) ?_
  exact kr_iret hx hcd hr hlocks hK hP hD hS rfl rfl dL_block_22

set_option maxHeartbeats 4000000 in
set_option maxRecDepth 100000 in
theorem c_L_turnOn__ok (l : Launch) (hst : l.stackTraces = false) (D : va_G) (cI cB cW cL : ClassId) (o : Nat) (F : Nat → Int64) (ob nw tr : Nat → Nat) (qs : Nat → Nat → Nat) (sc : Nat → Nat) (G : Nat → Option Nat) (N : kM) (S : Nat → kM) (n L : Nat) (T : Nat → Int32) (sz : Nat) (M : kM) (a : Nat) (s : Nat) (rk : Int32) (d : Nat) (r : Nat) (hI : kInv M) (ha : a < 6) (hs : s < 3) (hd : d < 5) (hrk1 : ¬ rk < -9) (hrk2 : ¬ 9 < rk) (hn : n ≤ 4) (hr : r < 4) : kMh l yL_turnOn wsL_turnOn ({ frames := 9, cells := 1, slots := 6, locals := 166 }) D vwCl (kT cI cB cW cL) sz [.ref (ob 0), .int (nI a), .int (nI s), .int rk, .int (nI d), .ref o] (wLX cI cB cW cL o F ob nw tr qs sc (g_rot qs r) M N S n L T) (wLX cI cB cW cL o (vp_updL F 0 (((g_cnt (g_turnOn M a s rk d) a) : Int32).toInt64)) ob nw tr qs sc (g_rot qs (rj n r)) (g_turnOn M a s rk d) N (sset S (pj n r) M) (g_kn n) L T) 0 := by
  refine kr_ofh (cc := cL_turnOn) (maxL := 7) (ret := (some .int)) (hh := [(0, 14, 17, 13), (0, 14, 21, 15)]) (by decide) rfl (Nat.le_of_ble_eq_true rfl) ?_
  intro pp ee ss mm args below meth cc AA ls hx hcd hr hTab hts hown hlocks hml hZ hN hK hP hD hA hl
  have hS : va_S AA ss.heap ss.heap [] := va_S.rf
  have hown : ss.vm.findClass RL = some mm.cls := hown
  have hl : lv_has ls 7 [(0, .ref (ob 0)), (1, .int (nI a)), (2, .int (nI s)), (3, .int rk), (4, .int (nI d)), (5, .ref o)] := hl
  refine lv_aload hx hcd dL_turnOn_0 (lv_at hl 5 rfl) ?_
  refine lv_iconst (v := nI 0) hx hcd dL_turnOn_2 (by decide) ?_
  refine lv_aload_n hx hcd dL_turnOn_3 rfl (lv_at hl 0 rfl) ?_
  refine lv_iload_n hx hcd dL_turnOn_4 rfl (lv_at hl 1 rfl) ?_
  refine lv_iload_n hx hcd dL_turnOn_5 rfl (lv_at hl 2 rfl) ?_
  refine lv_iload_n hx hcd dL_turnOn_6 rfl (lv_at hl 3 rfl) ?_
  refine lv_iload hx hcd dL_turnOn_7 (lv_at hl 4 rfl) ?_
  refine kr_Vi (As := [.int (nI a), .int (nI s), .int rk, .int (nI d)]) (rest := [.int (nI 0), .ref o]) (ws2 := wLX cI cB cW cL o F ob nw tr qs sc (g_rot qs (rj n r)) (g_turnOn M a s rk d) N (sset S (pj n r) M) (g_kn n) L T) (q := (RX6, TX6, 5)) ⟨hx, hcd, hml, hown, hts⟩ (c_X6_turnOn__ok l D cI cB cW cL ob nw tr qs sc (g_rot qs r) N S n L T _ M a s rk d r hI ha hs hd hrk1 hrk2 hn (by omega)) (cwV 4 hts gL_turnOn_X6_turnOn rfl rfl rfl (by decide +kernel) ⟨Nat.le_of_ble_eq_true rfl, Nat.le_of_ble_eq_true rfl⟩) hK hP hD hS hA [1, 2, 3, 4, 5, 6, 7, 8, 9, 10, 11, 12, 13, 14, 15, 16, 17, 18, 19, 20, 21, 22, 23, 24, 25, 26, 27, 28, 29, 30, 31, 32, 33, 34, 35, 36, 37, 38, 39, 40, 41, 42, 43, 44, 45, 46, 47, 48, 49, 50, 51, 52, 53, 54, 55, 56, 57, 58, 59, 60, 61, 62, 63, 64, 65, 66, 67, 68, 69, 70, 71, 72, 73, 74, 75, 76, 77, 78, 79, 80, 81, 82, 83, 84, 85, 86, 87, 88, 89, 90, 91, 92, 93, 94] wLX_XC wX_nd2 wX_adr wLX_X 1 rfl rfl rfl hl.1 rfl (Nat.le_of_ble_eq_true rfl) dL_turnOn_9 ⟨Nat.zero_le _, Nat.zero_le _⟩ (fun H locs hP hD hS => ?_)
  refine lv_i2l hx hcd dL_turnOn_12 rfl ?_
  refine kl_last hx hcd hK hP hD hS 0 3 rfl rfl (by omega) (by decide) (ws2 := wLX cI cB cW cL o (vp_updL F 0 ((g_cnt (g_turnOn M a s rk d) a : Int32).toInt64)) ob nw tr qs sc (g_rot qs (rj n r)) (g_turnOn M a s rk d) N (sset S (pj n r) M) (g_kn n) L T) rfl dL_turnOn_13 (fun H locs hP hD hS => ?_)
  refine lv_goto (tgt := 25) hx hcd dL_turnOn_14 (by decide) ?_
  refine lv_iconst (v := nI 0) hx hcd dL_turnOn_25 (by decide) ?_
  refine W.widen (k := 1) (n := 6) (Nat.zero_le _) (Nat.zero_le _) ?_
  exact kr_iret hx hcd hr hlocks hK hP hD hS rfl rfl dL_turnOn_26

set_option maxHeartbeats 4000000 in
set_option maxRecDepth 100000 in
theorem c_L_turnOn__e1 (l : Launch) (hst : l.stackTraces = false) (D : va_G) (cI cB cW cL : ClassId) (o : Nat) (F : Nat → Int64) (ob nw tr : Nat → Nat) (qs : Nat → Nat → Nat) (sc : Nat → Nat) (G : Nat → Option Nat) (N : kM) (S : Nat → kM) (n L : Nat) (T : Nat → Int32) (sz : Nat) (M : kM) (u : Int32) (w : Int32) (t : Int32) (y : Int32) (hg : g_seatok u w = false) : kMh l yL_turnOn wsL_turnOn ({ frames := 9, cells := 1, slots := 6, locals := 166 }) D vwCl (kT cI cB cW cL) sz [.ref (ob 0), .int u, .int w, .int t, .int y, .ref o] (wLX cI cB cW cL o F ob nw tr qs sc G M N S n L T) (wLX cI cB cW cL o F ob nw tr qs sc G M N S n L T) 1 := by
  refine kr_ofh (cc := cL_turnOn) (maxL := 7) (ret := (some .int)) (hh := [(0, 14, 17, 13), (0, 14, 21, 15)]) (by decide) rfl (Nat.le_of_ble_eq_true rfl) ?_
  intro pp ee ss mm args below meth cc AA ls hx hcd hr hTab hts hown hlocks hml hZ hN hK hP hD hA hl
  have hS : va_S AA ss.heap ss.heap [] := va_S.rf
  have hown : ss.vm.findClass RL = some mm.cls := hown
  have hl : lv_has ls 7 [(0, .ref (ob 0)), (1, .int u), (2, .int w), (3, .int t), (4, .int y), (5, .ref o)] := hl
  refine lv_aload hx hcd dL_turnOn_0 (lv_at hl 5 rfl) ?_
  refine lv_iconst (v := nI 0) hx hcd dL_turnOn_2 (by decide) ?_
  refine lv_aload_n hx hcd dL_turnOn_3 rfl (lv_at hl 0 rfl) ?_
  refine lv_iload_n hx hcd dL_turnOn_4 rfl (lv_at hl 1 rfl) ?_
  refine lv_iload_n hx hcd dL_turnOn_5 rfl (lv_at hl 2 rfl) ?_
  refine lv_iload_n hx hcd dL_turnOn_6 rfl (lv_at hl 3 rfl) ?_
  refine lv_iload hx hcd dL_turnOn_7 (lv_at hl 4 rfl) ?_
  refine kl_V (As := [.int u, .int w, .int t, .int y]) (rest := [.int (nI 0), .ref o]) (q := (RX6, TX6, 5)) ⟨hx, hcd, hml, hown, hts⟩ (c_X6_turnOn__e1 l D cI cB cW cL  _ M hst u w t y (ob 0) hg) (cwV 4 hts gL_turnOn_X6_turnOn rfl rfl rfl (by decide +kernel) ⟨Nat.le_of_ble_eq_true rfl, Nat.le_of_ble_eq_true rfl⟩) hZ hK hP hD hS hA [] rfl (by decide) 1 rfl rfl rfl hl.1 rfl (Nat.le_of_ble_eq_true rfl) dL_turnOn_9 ⟨Nat.le_of_ble_eq_true rfl, Nat.le_of_ble_eq_true rfl⟩ [] ⟨0, 14, 17, 13⟩ [⟨0, 14, 21, 15⟩] hTab (fun z hz => absurd hz List.not_mem_nil) (by decide) (by decide) (hts (.classLink RL 13 "java/lang/IndexOutOfBoundsException") (by decide +kernel)) (va_Nw.use rfl (hZ.2.2.2 (.castable "java/lang/IndexOutOfBoundsException" "java/lang/IndexOutOfBoundsException") (by decide +kernel))) (fun H locs q9 hP hD hS => ?_)
  refine lv_astore (lv' := [(6, .ref q9), (0, .ref (ob 0)), (1, .int u), (2, .int w), (3, .int t), (4, .int y), (5, .ref o)]) hx hcd dL_turnOn_17 hl (by decide) rfl (fun ls hl => ?_)
  refine lv_iconst (v := nI 1) hx hcd dL_turnOn_19 (by decide) ?_
  exact kr_iret hx hcd hr hlocks hK hP hD hS rfl rfl dL_turnOn_20

set_option maxHeartbeats 4000000 in
set_option maxRecDepth 100000 in
theorem c_L_turnOn__e2 (l : Launch) (hst : l.stackTraces = false) (D : va_G) (cI cB cW cL : ClassId) (o : Nat) (F : Nat → Int64) (ob nw tr : Nat → Nat) (qs : Nat → Nat → Nat) (sc : Nat → Nat) (G : Nat → Option Nat) (N : kM) (S : Nat → kM) (n L : Nat) (T : Nat → Int32) (sz : Nat) (M : kM) (a : Nat) (s : Nat) (t : Int32) (y : Int32) (ha : a < 6) (hs : s < 3) (hg : g_in t (-9) 9 = false ∨ g_in y 0 4 = false) : kMh l yL_turnOn wsL_turnOn ({ frames := 9, cells := 1, slots := 6, locals := 166 }) D vwCl (kT cI cB cW cL) sz [.ref (ob 0), .int (nI a), .int (nI s), .int t, .int y, .ref o] (wLX cI cB cW cL o F ob nw tr qs sc G M N S n L T) (wLX cI cB cW cL o F ob nw tr qs sc G M N S n L T) 2 := by
  refine kr_ofh (cc := cL_turnOn) (maxL := 7) (ret := (some .int)) (hh := [(0, 14, 17, 13), (0, 14, 21, 15)]) (by decide) rfl (Nat.le_of_ble_eq_true rfl) ?_
  intro pp ee ss mm args below meth cc AA ls hx hcd hr hTab hts hown hlocks hml hZ hN hK hP hD hA hl
  have hS : va_S AA ss.heap ss.heap [] := va_S.rf
  have hown : ss.vm.findClass RL = some mm.cls := hown
  have hl : lv_has ls 7 [(0, .ref (ob 0)), (1, .int (nI a)), (2, .int (nI s)), (3, .int t), (4, .int y), (5, .ref o)] := hl
  refine lv_aload hx hcd dL_turnOn_0 (lv_at hl 5 rfl) ?_
  refine lv_iconst (v := nI 0) hx hcd dL_turnOn_2 (by decide) ?_
  refine lv_aload_n hx hcd dL_turnOn_3 rfl (lv_at hl 0 rfl) ?_
  refine lv_iload_n hx hcd dL_turnOn_4 rfl (lv_at hl 1 rfl) ?_
  refine lv_iload_n hx hcd dL_turnOn_5 rfl (lv_at hl 2 rfl) ?_
  refine lv_iload_n hx hcd dL_turnOn_6 rfl (lv_at hl 3 rfl) ?_
  refine lv_iload hx hcd dL_turnOn_7 (lv_at hl 4 rfl) ?_
  refine kl_V (As := [.int (nI a), .int (nI s), .int t, .int y]) (rest := [.int (nI 0), .ref o]) (q := (RX6, TX6, 5)) ⟨hx, hcd, hml, hown, hts⟩ (c_X6_turnOn__e2 l D cI cB cW cL  _ M hst a s t y (ob 0) ha hs hg) (cwV 4 hts gL_turnOn_X6_turnOn rfl rfl rfl (by decide +kernel) ⟨Nat.le_of_ble_eq_true rfl, Nat.le_of_ble_eq_true rfl⟩) hZ hK hP hD hS hA [] rfl (by decide) 1 rfl rfl rfl hl.1 rfl (Nat.le_of_ble_eq_true rfl) dL_turnOn_9 ⟨Nat.le_of_ble_eq_true rfl, Nat.le_of_ble_eq_true rfl⟩ [⟨0, 14, 17, 13⟩] ⟨0, 14, 21, 15⟩ [] hTab (fun z hz => Or.inr (by rw [List.mem_singleton.mp hz]; exact ⟨by decide, eIO, hts (.classLink RL 13 "java/lang/IndexOutOfBoundsException") (by decide +kernel), hN _ (List.mem_of_getElem? (i := 0) rfl)⟩)) (by decide) (by decide) (hts (.classLink RL 15 "java/lang/IllegalArgumentException") (by decide +kernel)) (va_Nw.use rfl (hZ.2.2.2 (.castable "java/lang/IllegalArgumentException" "java/lang/IllegalArgumentException") (by decide +kernel))) (fun H locs q9 hP hD hS => ?_)
  refine lv_astore (lv' := [(6, .ref q9), (0, .ref (ob 0)), (1, .int (nI a)), (2, .int (nI s)), (3, .int t), (4, .int y), (5, .ref o)]) hx hcd dL_turnOn_21 hl (by decide) rfl (fun ls hl => ?_)
  refine lv_iconst (v := nI 2) hx hcd dL_turnOn_23 (by decide) ?_
  exact kr_iret hx hcd hr hlocks hK hP hD hS rfl rfl dL_turnOn_24

set_option maxHeartbeats 4000000 in
set_option maxRecDepth 100000 in
theorem c_L_turnOff__ok (l : Launch) (hst : l.stackTraces = false) (D : va_G) (cI cB cW cL : ClassId) (o : Nat) (F : Nat → Int64) (ob nw tr : Nat → Nat) (qs : Nat → Nat → Nat) (sc : Nat → Nat) (G : Nat → Option Nat) (N : kM) (S : Nat → kM) (n L : Nat) (T : Nat → Int32) (sz : Nat) (M : kM) (a : Nat) (s : Nat) (r : Nat) (hI : kInv M) (ha : a < 6) (hs : s < 3) (ho : g_on M a s = true) (hn : n ≤ 4) (hr : r < 4) : kMh l yL_turnOff wsL_turnOff ({ frames := 9, cells := 1, slots := 6, locals := 164 }) D vwCl (kT cI cB cW cL) sz [.ref (ob 0), .int (nI a), .int (nI s), .ref o] (wLX cI cB cW cL o F ob nw tr qs sc (g_rot qs r) M N S n L T) (wLX cI cB cW cL o (vp_updL F 0 (((g_cnt (g_turnOff M a s) a) : Int32).toInt64)) ob nw tr qs sc (g_rot qs (rj n r)) (g_turnOff M a s) N (sset S (pj n r) M) (g_kn n) L T) 0 := by
  refine kr_ofh (cc := cL_turnOff) (maxL := 5) (ret := (some .int)) (hh := [(0, 10, 13, 13), (0, 10, 17, 37)]) (by decide) rfl (Nat.le_of_ble_eq_true rfl) ?_
  intro pp ee ss mm args below meth cc AA ls hx hcd hr hTab hts hown hlocks hml hZ hN hK hP hD hA hl
  have hS : va_S AA ss.heap ss.heap [] := va_S.rf
  have hown : ss.vm.findClass RL = some mm.cls := hown
  have hl : lv_has ls 5 [(0, .ref (ob 0)), (1, .int (nI a)), (2, .int (nI s)), (3, .ref o)] := hl
  refine lv_aload_n hx hcd dL_turnOff_0 rfl (lv_at hl 3 rfl) ?_
  refine lv_iconst (v := nI 0) hx hcd dL_turnOff_1 (by decide) ?_
  refine lv_aload_n hx hcd dL_turnOff_2 rfl (lv_at hl 0 rfl) ?_
  refine lv_iload_n hx hcd dL_turnOff_3 rfl (lv_at hl 1 rfl) ?_
  refine lv_iload_n hx hcd dL_turnOff_4 rfl (lv_at hl 2 rfl) ?_
  refine kr_Vi (As := [.int (nI a), .int (nI s)]) (rest := [.int (nI 0), .ref o]) (ws2 := wLX cI cB cW cL o F ob nw tr qs sc (g_rot qs (rj n r)) (g_turnOff M a s) N (sset S (pj n r) M) (g_kn n) L T) (q := (RX6, TX6, 5)) ⟨hx, hcd, hml, hown, hts⟩ (c_X6_turnOff__ok l D cI cB cW cL ob nw tr qs sc (g_rot qs r) N S n L T _ M a s r hI ha hs ho hn (by omega)) (cwV 2 hts gL_turnOff_X6_turnOff rfl rfl rfl (by decide +kernel) ⟨Nat.le_of_ble_eq_true rfl, Nat.le_of_ble_eq_true rfl⟩) hK hP hD hS hA [1, 2, 3, 4, 5, 6, 7, 8, 9, 10, 11, 12, 13, 14, 15, 16, 17, 18, 19, 20, 21, 22, 23, 24, 25, 26, 27, 28, 29, 30, 31, 32, 33, 34, 35, 36, 37, 38, 39, 40, 41, 42, 43, 44, 45, 46, 47, 48, 49, 50, 51, 52, 53, 54, 55, 56, 57, 58, 59, 60, 61, 62, 63, 64, 65, 66, 67, 68, 69, 70, 71, 72, 73, 74, 75, 76, 77, 78, 79, 80, 81, 82, 83, 84, 85, 86, 87, 88, 89, 90, 91, 92, 93, 94] wLX_XC wX_nd2 wX_adr wLX_X 1 rfl rfl rfl hl.1 rfl (Nat.le_of_ble_eq_true rfl) dL_turnOff_5 ⟨Nat.zero_le _, Nat.zero_le _⟩ (fun H locs hP hD hS => ?_)
  refine lv_i2l hx hcd dL_turnOff_8 rfl ?_
  refine kl_last hx hcd hK hP hD hS 0 3 rfl rfl (by omega) (by decide) (ws2 := wLX cI cB cW cL o (vp_updL F 0 ((g_cnt (g_turnOff M a s) a : Int32).toInt64)) ob nw tr qs sc (g_rot qs (rj n r)) (g_turnOff M a s) N (sset S (pj n r) M) (g_kn n) L T) rfl dL_turnOff_9 (fun H locs hP hD hS => ?_)
  refine lv_goto (tgt := 21) hx hcd dL_turnOff_10 (by decide) ?_
  refine lv_iconst (v := nI 0) hx hcd dL_turnOff_21 (by decide) ?_
  refine W.widen (k := 1) (n := 6) (Nat.zero_le _) (Nat.zero_le _) ?_
  exact kr_iret hx hcd hr hlocks hK hP hD hS rfl rfl dL_turnOff_22

set_option maxHeartbeats 4000000 in
set_option maxRecDepth 100000 in
theorem c_L_turnOff__e1 (l : Launch) (hst : l.stackTraces = false) (D : va_G) (cI cB cW cL : ClassId) (o : Nat) (F : Nat → Int64) (ob nw tr : Nat → Nat) (qs : Nat → Nat → Nat) (sc : Nat → Nat) (G : Nat → Option Nat) (N : kM) (S : Nat → kM) (n L : Nat) (T : Nat → Int32) (sz : Nat) (M : kM) (u : Int32) (w : Int32) (hg : g_seatok u w = false) : kMh l yL_turnOff wsL_turnOff ({ frames := 9, cells := 1, slots := 6, locals := 164 }) D vwCl (kT cI cB cW cL) sz [.ref (ob 0), .int u, .int w, .ref o] (wLX cI cB cW cL o F ob nw tr qs sc G M N S n L T) (wLX cI cB cW cL o F ob nw tr qs sc G M N S n L T) 1 := by
  refine kr_ofh (cc := cL_turnOff) (maxL := 5) (ret := (some .int)) (hh := [(0, 10, 13, 13), (0, 10, 17, 37)]) (by decide) rfl (Nat.le_of_ble_eq_true rfl) ?_
  intro pp ee ss mm args below meth cc AA ls hx hcd hr hTab hts hown hlocks hml hZ hN hK hP hD hA hl
  have hS : va_S AA ss.heap ss.heap [] := va_S.rf
  have hown : ss.vm.findClass RL = some mm.cls := hown
  have hl : lv_has ls 5 [(0, .ref (ob 0)), (1, .int u), (2, .int w), (3, .ref o)] := hl
  refine lv_aload_n hx hcd dL_turnOff_0 rfl (lv_at hl 3 rfl) ?_
  refine lv_iconst (v := nI 0) hx hcd dL_turnOff_1 (by decide) ?_
  refine lv_aload_n hx hcd dL_turnOff_2 rfl (lv_at hl 0 rfl) ?_
  refine lv_iload_n hx hcd dL_turnOff_3 rfl (lv_at hl 1 rfl) ?_
  refine lv_iload_n hx hcd dL_turnOff_4 rfl (lv_at hl 2 rfl) ?_
  refine kl_V (As := [.int u, .int w]) (rest := [.int (nI 0), .ref o]) (q := (RX6, TX6, 5)) ⟨hx, hcd, hml, hown, hts⟩ (c_X6_turnOff__e1 l D cI cB cW cL  _ M hst u w (ob 0) hg) (cwV 2 hts gL_turnOff_X6_turnOff rfl rfl rfl (by decide +kernel) ⟨Nat.le_of_ble_eq_true rfl, Nat.le_of_ble_eq_true rfl⟩) hZ hK hP hD hS hA [] rfl (by decide) 1 rfl rfl rfl hl.1 rfl (Nat.le_of_ble_eq_true rfl) dL_turnOff_5 ⟨Nat.le_of_ble_eq_true rfl, Nat.le_of_ble_eq_true rfl⟩ [] ⟨0, 10, 13, 13⟩ [⟨0, 10, 17, 37⟩] hTab (fun z hz => absurd hz List.not_mem_nil) (by decide) (by decide) (hts (.classLink RL 13 "java/lang/IndexOutOfBoundsException") (by decide +kernel)) (va_Nw.use rfl (hZ.2.2.2 (.castable "java/lang/IndexOutOfBoundsException" "java/lang/IndexOutOfBoundsException") (by decide +kernel))) (fun H locs q9 hP hD hS => ?_)
  refine lv_astore (lv' := [(4, .ref q9), (0, .ref (ob 0)), (1, .int u), (2, .int w), (3, .ref o)]) hx hcd dL_turnOff_13 hl (by decide) rfl (fun ls hl => ?_)
  refine lv_iconst (v := nI 1) hx hcd dL_turnOff_15 (by decide) ?_
  exact kr_iret hx hcd hr hlocks hK hP hD hS rfl rfl dL_turnOff_16

set_option maxHeartbeats 4000000 in
set_option maxRecDepth 100000 in
theorem c_L_turnOff__e2 (l : Launch) (hst : l.stackTraces = false) (D : va_G) (cI cB cW cL : ClassId) (o : Nat) (F : Nat → Int64) (ob nw tr : Nat → Nat) (qs : Nat → Nat → Nat) (sc : Nat → Nat) (G : Nat → Option Nat) (N : kM) (S : Nat → kM) (n L : Nat) (T : Nat → Int32) (sz : Nat) (M : kM) (a : Nat) (s : Nat) (ha : a < 6) (hs : s < 3) (ho : g_on M a s = false) : kMh l yL_turnOff wsL_turnOff ({ frames := 9, cells := 1, slots := 6, locals := 164 }) D vwCl (kT cI cB cW cL) sz [.ref (ob 0), .int (nI a), .int (nI s), .ref o] (wLX cI cB cW cL o F ob nw tr qs sc G M N S n L T) (wLX cI cB cW cL o F ob nw tr qs sc G M N S n L T) 2 := by
  refine kr_ofh (cc := cL_turnOff) (maxL := 5) (ret := (some .int)) (hh := [(0, 10, 13, 13), (0, 10, 17, 37)]) (by decide) rfl (Nat.le_of_ble_eq_true rfl) ?_
  intro pp ee ss mm args below meth cc AA ls hx hcd hr hTab hts hown hlocks hml hZ hN hK hP hD hA hl
  have hS : va_S AA ss.heap ss.heap [] := va_S.rf
  have hown : ss.vm.findClass RL = some mm.cls := hown
  have hl : lv_has ls 5 [(0, .ref (ob 0)), (1, .int (nI a)), (2, .int (nI s)), (3, .ref o)] := hl
  refine lv_aload_n hx hcd dL_turnOff_0 rfl (lv_at hl 3 rfl) ?_
  refine lv_iconst (v := nI 0) hx hcd dL_turnOff_1 (by decide) ?_
  refine lv_aload_n hx hcd dL_turnOff_2 rfl (lv_at hl 0 rfl) ?_
  refine lv_iload_n hx hcd dL_turnOff_3 rfl (lv_at hl 1 rfl) ?_
  refine lv_iload_n hx hcd dL_turnOff_4 rfl (lv_at hl 2 rfl) ?_
  refine kl_V (As := [.int (nI a), .int (nI s)]) (rest := [.int (nI 0), .ref o]) (q := (RX6, TX6, 5)) ⟨hx, hcd, hml, hown, hts⟩ (c_X6_turnOff__e2 l D cI cB cW cL ob nw tr qs sc G N S n L T _ M hst a s ha hs ho) (cwV 2 hts gL_turnOff_X6_turnOff rfl rfl rfl (by decide +kernel) ⟨Nat.le_of_ble_eq_true rfl, Nat.le_of_ble_eq_true rfl⟩) hZ hK hP hD hS hA [1, 2, 3, 4, 5, 6, 7, 8, 9, 10, 11, 12, 13, 14, 15, 16, 17, 18, 19, 20, 21, 22, 23, 24, 25, 26, 27, 28, 29, 30, 31, 32, 33, 34, 35, 36, 37, 38, 39, 40, 41, 42, 43, 44, 45, 46, 47, 48, 49, 50, 51, 52, 53, 54, 55, 56, 57, 58, 59, 60, 61, 62, 63, 64, 65, 66, 67, 68, 69, 70, 71, 72, 73, 74, 75, 76, 77, 78, 79, 80, 81, 82, 83, 84, 85, 86, 87, 88, 89, 90, 91, 92, 93, 94] wLX_XC wX_nd2 1 rfl rfl rfl hl.1 rfl (Nat.le_of_ble_eq_true rfl) dL_turnOff_5 ⟨Nat.le_of_ble_eq_true rfl, Nat.le_of_ble_eq_true rfl⟩ [⟨0, 10, 13, 13⟩] ⟨0, 10, 17, 37⟩ [] hTab (fun z hz => Or.inr (by rw [List.mem_singleton.mp hz]; exact ⟨by decide, eIO, hts (.classLink RL 13 "java/lang/IndexOutOfBoundsException") (by decide +kernel), hN _ (List.mem_of_getElem? (i := 1) rfl)⟩)) (by decide) (by decide) (hts (.classLink RL 37 "java/lang/IllegalStateException") (by decide +kernel)) (va_Nw.use rfl (hZ.2.2.2 (.castable "java/lang/IllegalStateException" "java/lang/IllegalStateException") (by decide +kernel))) (fun H locs q9 hP hD hS => ?_)
  refine lv_astore (lv' := [(4, .ref q9), (0, .ref (ob 0)), (1, .int (nI a)), (2, .int (nI s)), (3, .ref o)]) hx hcd dL_turnOff_17 hl (by decide) rfl (fun ls hl => ?_)
  refine lv_iconst (v := nI 2) hx hcd dL_turnOff_19 (by decide) ?_
  exact kr_iret hx hcd hr hlocks hK hP hD hS rfl rfl dL_turnOff_20

set_option maxHeartbeats 4000000 in
set_option maxRecDepth 100000 in
theorem c_L_bestSeat__ok (l : Launch) (hst : l.stackTraces = false) (D : va_G) (cI cB cW cL : ClassId) (o : Nat) (F : Nat → Int64) (ob nw tr : Nat → Nat) (qs : Nat → Nat → Nat) (sc : Nat → Nat) (G : Nat → Option Nat) (N : kM) (S : Nat → kM) (n L : Nat) (T : Nat → Int32) (sz : Nat) (M : kM) (a : Nat) (ha : a < 6) : kMh l yL_bestSeat wsL_bestSeat ({ frames := 8, cells := 1, slots := 6, locals := 123 }) D vwCl (kT cI cB cW cL) sz [.ref (ob 0), .int (nI a), .ref o] (wLX cI cB cW cL o F ob nw tr qs sc G M N S n L T) (wLX cI cB cW cL o (vp_updL F 0 ((((g_bst M a 3).1) : Int32).toInt64)) ob nw tr qs sc G M N S n L T) 0 := by
  refine kr_ofh (cc := cL_bestSeat) (maxL := 4) (ret := (some .int)) (hh := [(0, 9, 12, 13)]) (by decide) rfl (Nat.le_of_ble_eq_true rfl) ?_
  intro pp ee ss mm args below meth cc AA ls hx hcd hr hTab hts hown hlocks hml hZ hN hK hP hD hA hl
  have hS : va_S AA ss.heap ss.heap [] := va_S.rf
  have hown : ss.vm.findClass RL = some mm.cls := hown
  have hl : lv_has ls 4 [(0, .ref (ob 0)), (1, .int (nI a)), (2, .ref o)] := hl
  refine lv_aload_n hx hcd dL_bestSeat_0 rfl (lv_at hl 2 rfl) ?_
  refine lv_iconst (v := nI 0) hx hcd dL_bestSeat_1 (by decide) ?_
  refine lv_aload_n hx hcd dL_bestSeat_2 rfl (lv_at hl 0 rfl) ?_
  refine lv_iload_n hx hcd dL_bestSeat_3 rfl (lv_at hl 1 rfl) ?_
  refine kr_Vi (As := [.int (nI a)]) (rest := [.int (nI 0), .ref o]) (ws2 := wLX cI cB cW cL o F ob nw tr qs sc G M N S n L T) (q := (RX6, TX6, 5)) ⟨hx, hcd, hml, hown, hts⟩ (c_X6_bestSeat__ok l D cI cB cW cL ob nw tr qs sc G N S n L T _ M a ha) (cwV 1 hts gL_bestSeat_X6_bestSeat rfl rfl rfl (by decide +kernel) ⟨Nat.le_of_ble_eq_true rfl, Nat.le_of_ble_eq_true rfl⟩) hK hP hD hS hA [1, 2, 3, 4, 5, 6, 7, 8, 9, 10, 11, 12, 13, 14, 15, 16, 17, 18, 19, 20, 21, 22, 23, 24, 25, 26, 27, 28, 29, 30, 31, 32, 33, 34, 35, 36, 37, 38, 39, 40, 41, 42, 43, 44, 45, 46, 47, 48, 49, 50, 51, 52, 53, 54, 55, 56, 57, 58, 59, 60, 61, 62, 63, 64, 65, 66, 67, 68, 69, 70, 71, 72, 73, 74, 75, 76, 77, 78, 79, 80, 81, 82, 83, 84, 85, 86, 87, 88, 89, 90, 91, 92, 93, 94] wLX_XC wX_nd2 wX_adr wLX_X 1 rfl rfl rfl hl.1 rfl (Nat.le_of_ble_eq_true rfl) dL_bestSeat_4 ⟨Nat.zero_le _, Nat.zero_le _⟩ (fun H locs hP hD hS => ?_)
  refine lv_i2l hx hcd dL_bestSeat_7 rfl ?_
  refine kl_last hx hcd hK hP hD hS 0 3 rfl rfl (by omega) (by decide) (ws2 := wLX cI cB cW cL o (vp_updL F 0 (((g_bst M a 3).1 : Int32).toInt64)) ob nw tr qs sc G M N S n L T) rfl dL_bestSeat_8 (fun H locs hP hD hS => ?_)
  refine lv_goto (tgt := 15) hx hcd dL_bestSeat_9 (by decide) ?_
  refine lv_iconst (v := nI 0) hx hcd dL_bestSeat_15 (by decide) ?_
  refine W.widen (k := 1) (n := 6) (Nat.zero_le _) (Nat.zero_le _) ?_
  exact kr_iret hx hcd hr hlocks hK hP hD hS rfl rfl dL_bestSeat_16
