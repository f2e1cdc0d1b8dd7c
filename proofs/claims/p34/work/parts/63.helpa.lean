set_option maxHeartbeats 4000000 in
set_option maxRecDepth 100000 in
theorem c_L_ask__ok (l : Launch) (hst : l.stackTraces = false) (D : va_G) (cI cB cW cL : ClassId) (ob nw tr : Nat → Nat) (qs : Nat → Nat → Nat) (sc : Nat → Nat) (G : Nat → Option Nat) (N : kM) (S : Nat → kM) (n L : Nat) (T : Nat → Int32) (sz : Nat) (M : kM) (a : Nat) (b : Nat) (r : Nat) (hI : kInv M) (ha : a < 6) (hb : b < 6) (hne : a ≠ b) (hn : n ≤ 4) (hr : r < 4) : kMg l yL_ask wsL_ask ({ frames := 5, cells := 0, slots := 0, locals := 164 }) D vwCl (kT cI cB cW cL) sz [.ref (ob 0), .int (nI a), .int (nI b)] (wX cI cB cW ob nw tr qs sc (g_rot qs r) M N S n L T) (wX cI cB cW ob nw tr qs sc (g_rot qs (rj n r)) (g_ask M a b) N (sset S (pj n r) M) (g_kn n) L T) (if g_has M a b 5 = true then 0 else 1) 0 0 := by
  refine kr_ofh (cc := cL_ask) (maxL := 4) (ret := (some .int)) (hh := [(0, 6, 7, 15), (0, 6, 12, 17)]) (by decide) rfl (Nat.le_of_ble_eq_true rfl) ?_
  intro pp ee ss mm args below meth cc AA ls hx hcd hr hTab hts hown hlocks hml hZ hN hK hP hD hA hl
  have hS : va_S AA ss.heap ss.heap [] := va_S.rf
  have hown : ss.vm.findClass RL = some mm.cls := hown
  have hl : lv_has ls 4 [(0, .ref (ob 0)), (1, .int (nI a)), (2, .int (nI b))] := hl
  refine lv_aload_n hx hcd dL_ask_0 rfl (lv_at hl 0 rfl) ?_
  refine lv_iload_n hx hcd dL_ask_1 rfl (lv_at hl 1 rfl) ?_
  refine lv_iload_n hx hcd dL_ask_2 rfl (lv_at hl 2 rfl) ?_
  refine kr_Vi (As := [.int (nI a), .int (nI b)]) (rest := []) (ws2 := wX cI cB cW ob nw tr qs sc (g_rot qs (rj n r)) (g_ask M a b) N (sset S (pj n r) M) (g_kn n) L T) (q := (RX6, TX6, 5)) ⟨hx, hcd, hml, hown, hts⟩ (c_X6_ask__ok l D cI cB cW cL ob nw tr qs sc (g_rot qs r) N S n L T _ M a b r hI ha hb hne hn (by omega)) (cwV 2 hts gL_ask_X6_ask rfl rfl rfl (by decide +kernel) ⟨Nat.le_of_ble_eq_true rfl, Nat.le_of_ble_eq_true rfl⟩) hK hP hD hS hA [0, 1, 2, 3, 4, 5, 6, 7, 8, 9, 10, 11, 12, 13, 14, 15, 16, 17, 18, 19, 20, 21, 22, 23, 24, 25, 26, 27, 28, 29, 30, 31, 32, 33, 34, 35, 36, 37, 38, 39, 40, 41, 42, 43, 44, 45, 46, 47, 48, 49, 50, 51, 52, 53, 54, 55, 56, 57, 58, 59, 60, 61, 62, 63, 64, 65, 66, 67, 68, 69, 70, 71, 72, 73, 74, 75, 76, 77, 78, 79, 80, 81, 82, 83, 84, 85, 86, 87, 88, 89, 90, 91, 92, 93] wX_allC wX_nd wX_adr wX_all 0 rfl rfl rfl hl.1 rfl (Nat.le_of_ble_eq_true rfl) dL_ask_3 ⟨Nat.le_of_ble_eq_true rfl, Nat.le_of_ble_eq_true rfl⟩ (fun H locs hP hD hS => ?_)
  exact kr_iret hx hcd hr hlocks hK hP hD hS rfl rfl dL_ask_6

set_option maxHeartbeats 4000000 in
set_option maxRecDepth 100000 in
theorem c_L_grant__ok (l : Launch) (hst : l.stackTraces = false) (D : va_G) (cI cB cW cL : ClassId) (ob nw tr : Nat → Nat) (qs : Nat → Nat → Nat) (sc : Nat → Nat) (G : Nat → Option Nat) (N : kM) (S : Nat → kM) (n L : Nat) (T : Nat → Int32) (sz : Nat) (M : kM) (a : Nat) (b : Nat) (r : Nat) (hI : kInv M) (ha : a < 6) (hb : b < 6) (hne : a ≠ b) (hn : n ≤ 4) (hr : r < 4) : kMg l yL_grant wsL_grant ({ frames := 5, cells := 0, slots := 0, locals := 164 }) D vwCl (kT cI cB cW cL) sz [.ref (ob 0), .int (nI a), .int (nI b)] (wX cI cB cW ob nw tr qs sc (g_rot qs r) M N S n L T) (wX cI cB cW ob nw tr qs sc (g_rot qs (rj n r)) (g_grant M a b) N (sset S (pj n r) M) (g_kn n) L T) (if g_has M a b 8 = true then 1 else 0) 0 0 := by
  refine kr_ofh (cc := cL_grant) (maxL := 4) (ret := (some .int)) (hh := [(0, 6, 7, 15), (0, 6, 12, 17)]) (by decide) rfl (Nat.le_of_ble_eq_true rfl) ?_
  intro pp ee ss mm args below meth cc AA ls hx hcd hr hTab hts hown hlocks hml hZ hN hK hP hD hA hl
  have hS : va_S AA ss.heap ss.heap [] := va_S.rf
  have hown : ss.vm.findClass RL = some mm.cls := hown
  have hl : lv_has ls 4 [(0, .ref (ob 0)), (1, .int (nI a)), (2, .int (nI b))] := hl
  refine lv_aload_n hx hcd dL_grant_0 rfl (lv_at hl 0 rfl) ?_
  refine lv_iload_n hx hcd dL_grant_1 rfl (lv_at hl 1 rfl) ?_
  refine lv_iload_n hx hcd dL_grant_2 rfl (lv_at hl 2 rfl) ?_
  refine kr_Vi (As := [.int (nI a), .int (nI b)]) (rest := []) (ws2 := wX cI cB cW ob nw tr qs sc (g_rot qs (rj n r)) (g_grant M a b) N (sset S (pj n r) M) (g_kn n) L T) (q := (RX6, TX6, 5)) ⟨hx, hcd, hml, hown, hts⟩ (c_X6_grant__ok l D cI cB cW cL ob nw tr qs sc (g_rot qs r) N S n L T _ M a b r hI ha hb hne hn (by omega)) (cwV 2 hts gL_grant_X6_grant rfl rfl rfl (by decide +kernel) ⟨Nat.le_of_ble_eq_true rfl, Nat.le_of_ble_eq_true rfl⟩) hK hP hD hS hA [0, 1, 2, 3, 4, 5, 6, 7, 8, 9, 10, 11, 12, 13, 14, 15, 16, 17, 18, 19, 20, 21, 22, 23, 24, 25, 26, 27, 28, 29, 30, 31, 32, 33, 34, 35, 36, 37, 38, 39, 40, 41, 42, 43, 44, 45, 46, 47, 48, 49, 50, 51, 52, 53, 54, 55, 56, 57, 58, 59, 60, 61, 62, 63, 64, 65, 66, 67, 68, 69, 70, 71, 72, 73, 74, 75, 76, 77, 78, 79, 80, 81, 82, 83, 84, 85, 86, 87, 88, 89, 90, 91, 92, 93] wX_allC wX_nd wX_adr wX_all 0 rfl rfl rfl hl.1 rfl (Nat.le_of_ble_eq_true rfl) dL_grant_3 ⟨Nat.le_of_ble_eq_true rfl, Nat.le_of_ble_eq_true rfl⟩ (fun H locs hP hD hS => ?_)
  exact kr_iret hx hcd hr hlocks hK hP hD hS rfl rfl dL_grant_6

set_option maxHeartbeats 4000000 in
set_option maxRecDepth 100000 in
theorem c_L_refuse__ok (l : Launch) (hst : l.stackTraces = false) (D : va_G) (cI cB cW cL : ClassId) (ob nw tr : Nat → Nat) (qs : Nat → Nat → Nat) (sc : Nat → Nat) (G : Nat → Option Nat) (N : kM) (S : Nat → kM) (n L : Nat) (T : Nat → Int32) (sz : Nat) (M : kM) (a : Nat) (b : Nat) (r : Nat) (hI : kInv M) (ha : a < 6) (hb : b < 6) (hne : a ≠ b) (hn : n ≤ 4) (hr : r < 4) : kMg l yL_refuse wsL_refuse ({ frames := 5, cells := 0, slots := 0, locals := 164 }) D vwCl (kT cI cB cW cL) sz [.ref (ob 0), .int (nI a), .int (nI b)] (wX cI cB cW ob nw tr qs sc (g_rot qs r) M N S n L T) (wX cI cB cW ob nw tr qs sc (g_rot qs (rj n r)) (g_refuse M a b) N (sset S (pj n r) M) (g_kn n) L T) (if g_has M a b 10 = true then 1 else 0) 0 0 := by
  refine kr_ofh (cc := cL_refuse) (maxL := 4) (ret := (some .int)) (hh := [(0, 6, 7, 15), (0, 6, 12, 17)]) (by decide) rfl (Nat.le_of_ble_eq_true rfl) ?_
  intro pp ee ss mm args below meth cc AA ls hx hcd hr hTab hts hown hlocks hml hZ hN hK hP hD hA hl
  have hS : va_S AA ss.heap ss.heap [] := va_S.rf
  have hown : ss.vm.findClass RL = some mm.cls := hown
  have hl : lv_has ls 4 [(0, .ref (ob 0)), (1, .int (nI a)), (2, .int (nI b))] := hl
  refine lv_aload_n hx hcd dL_refuse_0 rfl (lv_at hl 0 rfl) ?_
  refine lv_iload_n hx hcd dL_refuse_1 rfl (lv_at hl 1 rfl) ?_
  refine lv_iload_n hx hcd dL_refuse_2 rfl (lv_at hl 2 rfl) ?_
  refine kr_Vi (As := [.int (nI a), .int (nI b)]) (rest := []) (ws2 := wX cI cB cW ob nw tr qs sc (g_rot qs (rj n r)) (g_refuse M a b) N (sset S (pj n r) M) (g_kn n) L T) (q := (RX6, TX6, 5)) ⟨hx, hcd, hml, hown, hts⟩ (c_X6_refuse__ok l D cI cB cW cL ob nw tr qs sc (g_rot qs r) N S n L T _ M a b r hI ha hb hne hn (by omega)) (cwV 2 hts gL_refuse_X6_refuse rfl rfl rfl (by decide +kernel) ⟨Nat.le_of_ble_eq_true rfl, Nat.le_of_ble_eq_true rfl⟩) hK hP hD hS hA [0, 1, 2, 3, 4, 5, 6, 7, 8, 9, 10, 11, 12, 13, 14, 15, 16, 17, 18, 19, 20, 21, 22, 23, 24, 25, 26, 27, 28, 29, 30, 31, 32, 33, 34, 35, 36, 37, 38, 39, 40, 41, 42, 43, 44, 45, 46, 47, 48, 49, 50, 51, 52, 53, 54, 55, 56, 57, 58, 59, 60, 61, 62, 63, 64, 65, 66, 67, 68, 69, 70, 71, 72, 73, 74, 75, 76, 77, 78, 79, 80, 81, 82, 83, 84, 85, 86, 87, 88, 89, 90, 91, 92, 93] wX_allC wX_nd wX_adr wX_all 0 rfl rfl rfl hl.1 rfl (Nat.le_of_ble_eq_true rfl) dL_refuse_3 ⟨Nat.le_of_ble_eq_true rfl, Nat.le_of_ble_eq_true rfl⟩ (fun H locs hP hD hS => ?_)
  exact kr_iret hx hcd hr hlocks hK hP hD hS rfl rfl dL_refuse_6

set_option maxHeartbeats 4000000 in
set_option maxRecDepth 100000 in
theorem c_L_stop__ok (l : Launch) (hst : l.stackTraces = false) (D : va_G) (cI cB cW cL : ClassId) (ob nw tr : Nat → Nat) (qs : Nat → Nat → Nat) (sc : Nat → Nat) (G : Nat → Option Nat) (N : kM) (S : Nat → kM) (n L : Nat) (T : Nat → Int32) (sz : Nat) (M : kM) (a : Nat) (b : Nat) (r : Nat) (hI : kInv M) (ha : a < 6) (hb : b < 6) (hne : a ≠ b) (hn : n ≤ 4) (hr : r < 4) : kMg l yL_stop wsL_stop ({ frames := 5, cells := 0, slots := 0, locals := 164 }) D vwCl (kT cI cB cW cL) sz [.ref (ob 0), .int (nI a), .int (nI b)] (wX cI cB cW ob nw tr qs sc (g_rot qs r) M N S n L T) (wX cI cB cW ob nw tr qs sc (g_rot qs (rj n r)) (g_stop M a b) N (sset S (pj n r) M) (g_kn n) L T) (if g_has M a b 5 = true then 1 else 0) 0 0 := by
  refine kr_ofh (cc := cL_stop) (maxL := 4) (ret := (some .int)) (hh := [(0, 6, 7, 15), (0, 6, 12, 17)]) (by decide) rfl (Nat.le_of_ble_eq_true rfl) ?_
  intro pp ee ss mm args below meth cc AA ls hx hcd hr hTab hts hown hlocks hml hZ hN hK hP hD hA hl
  have hS : va_S AA ss.heap ss.heap [] := va_S.rf
  have hown : ss.vm.findClass RL = some mm.cls := hown
  have hl : lv_has ls 4 [(0, .ref (ob 0)), (1, .int (nI a)), (2, .int (nI b))] := hl
  refine lv_aload_n hx hcd dL_stop_0 rfl (lv_at hl 0 rfl) ?_
  refine lv_iload_n hx hcd dL_stop_1 rfl (lv_at hl 1 rfl) ?_
  refine lv_iload_n hx hcd dL_stop_2 rfl (lv_at hl 2 rfl) ?_
  refine kr_Vi (As := [.int (nI a), .int (nI b)]) (rest := []) (ws2 := wX cI cB cW ob nw tr qs sc (g_rot qs (rj n r)) (g_stop M a b) N (sset S (pj n r) M) (g_kn n) L T) (q := (RX6, TX6, 5)) ⟨hx, hcd, hml, hown, hts⟩ (c_X6_stop__ok l D cI cB cW cL ob nw tr qs sc (g_rot qs r) N S n L T _ M a b r hI ha hb hne hn (by omega)) (cwV 2 hts gL_stop_X6_stop rfl rfl rfl (by decide +kernel) ⟨Nat.le_of_ble_eq_true rfl, Nat.le_of_ble_eq_true rfl⟩) hK hP hD hS hA [0, 1, 2, 3, 4, 5, 6, 7, 8, 9, 10, 11, 12, 13, 14, 15, 16, 17, 18, 19, 20, 21, 22, 23, 24, 25, 26, 27, 28, 29, 30, 31, 32, 33, 34, 35, 36, 37, 38, 39, 40, 41, 42, 43, 44, 45, 46, 47, 48, 49, 50, 51, 52, 53, 54, 55, 56, 57, 58, 59, 60, 61, 62, 63, 64, 65, 66, 67, 68, 69, 70, 71, 72, 73, 74, 75, 76, 77, 78, 79, 80, 81, 82, 83, 84, 85, 86, 87, 88, 89, 90, 91, 92, 93] wX_allC wX_nd wX_adr wX_all 0 rfl rfl rfl hl.1 rfl (Nat.le_of_ble_eq_true rfl) dL_stop_3 ⟨Nat.le_of_ble_eq_true rfl, Nat.le_of_ble_eq_true rfl⟩ (fun H locs hP hD hS => ?_)
  exact kr_iret hx hcd hr hlocks hK hP hD hS rfl rfl dL_stop_6

set_option maxHeartbeats 4000000 in
set_option maxRecDepth 100000 in
theorem c_L_entry__ok (l : Launch) (hst : l.stackTraces = false) (D : va_G) (cI cB cW cL : ClassId) (ob nw tr : Nat → Nat) (qs : Nat → Nat → Nat) (sc : Nat → Nat) (G : Nat → Option Nat) (N : kM) (S : Nat → kM) (n L : Nat) (T : Nat → Int32) (sz : Nat) (M : kM) (a : Nat) (b : Nat) (ha : a < 6) (hb : b < 6) (hne : a ≠ b) : kMg l yL_entry wsL_entry ({ frames := 3, cells := 0, slots := 0, locals := 63 }) D vwCl (kT cI cB cW cL) sz [.ref (ob 0), .int (nI a), .int (nI b)] (wX cI cB cW ob nw tr qs sc G M N S n L T) (wX cI cB cW ob nw tr qs sc G M N S n L T) (g_st M a b) 0 0 := by
  refine kr_ofh (cc := cL_entry) (maxL := 4) (ret := (some .int)) (hh := [(0, 6, 7, 15), (0, 6, 12, 17)]) (by decide) rfl (Nat.le_of_ble_eq_true rfl) ?_
  intro pp ee ss mm args below meth cc AA ls hx hcd hr hTab hts hown hlocks hml hZ hN hK hP hD hA hl
  have hS : va_S AA ss.heap ss.heap [] := va_S.rf
  have hown : ss.vm.findClass RL = some mm.cls := hown
  have hl : lv_has ls 4 [(0, .ref (ob 0)), (1, .int (nI a)), (2, .int (nI b))] := hl
  refine lv_aload_n hx hcd dL_entry_0 rfl (lv_at hl 0 rfl) ?_
  refine lv_iload_n hx hcd dL_entry_1 rfl (lv_at hl 1 rfl) ?_
  refine lv_iload_n hx hcd dL_entry_2 rfl (lv_at hl 2 rfl) ?_
  refine kr_Vi (As := [.int (nI a), .int (nI b)]) (rest := []) (ws2 := wX cI cB cW ob nw tr qs sc G M N S n L T) (q := (RX6, TX6, 5)) ⟨hx, hcd, hml, hown, hts⟩ (c_X6_entry__ok l D cI cB cW cL ob nw tr qs sc G N S n L T _ M a b ha hb hne) (cwV 2 hts gL_entry_X6_entry rfl rfl rfl (by decide +kernel) ⟨Nat.le_of_ble_eq_true rfl, Nat.le_of_ble_eq_true rfl⟩) hK hP hD hS hA [0, 1, 2, 3, 4, 5, 6, 7, 8, 9, 10, 11, 12, 13, 14, 15, 16, 17, 18, 19, 20, 21, 22, 23, 24, 25, 26, 27, 28, 29, 30, 31, 32, 33, 34, 35, 36, 37, 38, 39, 40, 41, 42, 43, 44, 45, 46, 47, 48, 49, 50, 51, 52, 53, 54, 55, 56, 57, 58, 59, 60, 61, 62, 63, 64, 65, 66, 67, 68, 69, 70, 71, 72, 73, 74, 75, 76, 77, 78, 79, 80, 81, 82, 83, 84, 85, 86, 87, 88, 89, 90, 91, 92, 93] wX_allC wX_nd wX_adr wX_all 0 rfl rfl rfl hl.1 rfl (Nat.le_of_ble_eq_true rfl) dL_entry_3 ⟨Nat.le_of_ble_eq_true rfl, Nat.le_of_ble_eq_true rfl⟩ (fun H locs hP hD hS => ?_)
  exact kr_iret hx hcd hr hlocks hK hP hD hS rfl rfl dL_entry_6

set_option maxHeartbeats 4000000 in
set_option maxRecDepth 100000 in
theorem c_L_areApart__ok (l : Launch) (hst : l.stackTraces = false) (D : va_G) (cI cB cW cL : ClassId) (ob nw tr : Nat → Nat) (qs : Nat → Nat → Nat) (sc : Nat → Nat) (G : Nat → Option Nat) (N : kM) (S : Nat → kM) (n L : Nat) (T : Nat → Int32) (sz : Nat) (M : kM) (a : Nat) (b : Nat) (ha : a < 6) (hb : b < 6) (hne : a ≠ b) : kMg l yL_areApart wsL_areApart ({ frames := 3, cells := 0, slots := 0, locals := 63 }) D vwCl (kT cI cB cW cL) sz [.ref (ob 0), .int (nI a), .int (nI b)] (wX cI cB cW ob nw tr qs sc G M N S n L T) (wX cI cB cW ob nw tr qs sc G M N S n L T) (kI (g_apart M a b)) 0 0 := by
  refine kr_ofh (cc := cL_areApart) (maxL := 4) (ret := (some .int)) (hh := [(0, 14, 15, 15), (0, 14, 20, 17)]) (by decide) rfl (Nat.le_of_ble_eq_true rfl) ?_
  intro pp ee ss mm args below meth cc AA ls hx hcd hr hTab hts hown hlocks hml hZ hN hK hP hD hA hl
  have hS : va_S AA ss.heap ss.heap [] := va_S.rf
  have hown : ss.vm.findClass RL = some mm.cls := hown
  have hl : lv_has ls 4 [(0, .ref (ob 0)), (1, .int (nI a)), (2, .int (nI b))] := hl
  refine lv_aload_n hx hcd dL_areApart_0 rfl (lv_at hl 0 rfl) ?_
  refine lv_iload_n hx hcd dL_areApart_1 rfl (lv_at hl 1 rfl) ?_
  refine lv_iload_n hx hcd dL_areApart_2 rfl (lv_at hl 2 rfl) ?_
  refine kr_Vi (As := [.int (nI a), .int (nI b)]) (rest := []) (ws2 := wX cI cB cW ob nw tr qs sc G M N S n L T) (q := (RX6, TX6, 5)) ⟨hx, hcd, hml, hown, hts⟩ (c_X6_areApart__ok l D cI cB cW cL ob nw tr qs sc G N S n L T _ M a b ha hb hne) (cwV 2 hts gL_areApart_X6_areApart rfl rfl rfl (by decide +kernel) ⟨Nat.le_of_ble_eq_true rfl, Nat.le_of_ble_eq_true rfl⟩) hK hP hD hS hA [0, 1, 2, 3, 4, 5, 6, 7, 8, 9, 10, 11, 12, 13, 14, 15, 16, 17, 18, 19, 20, 21, 22, 23, 24, 25, 26, 27, 28, 29, 30, 31, 32, 33, 34, 35, 36, 37, 38, 39, 40, 41, 42, 43, 44, 45, 46, 47, 48, 49, 50, 51, 52, 53, 54, 55, 56, 57, 58, 59, 60, 61, 62, 63, 64, 65, 66, 67, 68, 69, 70, 71, 72, 73, 74, 75, 76, 77, 78, 79, 80, 81, 82, 83, 84, 85, 86, 87, 88, 89, 90, 91, 92, 93] wX_allC wX_nd wX_adr wX_all 0 rfl rfl rfl hl.1 rfl (Nat.le_of_ble_eq_true rfl) dL_areApart_3 ⟨Nat.le_of_ble_eq_true rfl, Nat.le_of_ble_eq_true rfl⟩ (fun H locs hP hD hS => ?_)
  refine kr_beq (tgt := 13) hx hcd dL_areApart_6 (by decide) (fun (c_6 : g_apart M a b = false) => ?_) (fun (c_6 : g_apart M a b = true) => ?_)
  · refine lv_iconst (v := nI 0) hx hcd dL_areApart_13 (by decide) ?_
    exact kr_iret hx hcd hr hlocks hK hP hD hS (by rw [c_6]; rfl) rfl dL_areApart_14
  · refine lv_iconst (v := nI 1) hx hcd dL_areApart_9 (by decide) ?_
    refine lv_goto (tgt := 14) hx hcd dL_areApart_10 (by decide) ?_
    exact kr_iret hx hcd hr hlocks hK hP hD hS (by rw [c_6]; rfl) rfl dL_areApart_14

set_option maxHeartbeats 4000000 in
set_option maxRecDepth 100000 in
theorem c_L_agree__ok (l : Launch) (hst : l.stackTraces = false) (D : va_G) (cI cB cW cL : ClassId) (ob nw tr : Nat → Nat) (qs : Nat → Nat → Nat) (sc : Nat → Nat) (G : Nat → Option Nat) (N : kM) (S : Nat → kM) (n L : Nat) (T : Nat → Int32) (sz : Nat) (M : kM) (a : Nat) (b : Nat) (hI : kInv M) (ha : a < 6) (hb : b < 6) (hne : a ≠ b) : kMg l yL_agree wsL_agree ({ frames := 3, cells := 0, slots := 0, locals := 63 }) D vwCl (kT cI cB cW cL) sz [.ref (ob 0), .int (nI a), .int (nI b)] (wX cI cB cW ob nw tr qs sc G M N S n L T) (wX cI cB cW ob nw tr qs sc G M N S n L T) (kI (g_agr M a b)) 0 0 := by
  refine kr_ofh (cc := cL_agree) (maxL := 4) (ret := (some .int)) (hh := [(0, 14, 15, 15), (0, 14, 20, 17)]) (by decide) rfl (Nat.le_of_ble_eq_true rfl) ?_
  intro pp ee ss mm args below meth cc AA ls hx hcd hr hTab hts hown hlocks hml hZ hN hK hP hD hA hl
  have hS : va_S AA ss.heap ss.heap [] := va_S.rf
  have hown : ss.vm.findClass RL = some mm.cls := hown
  have hl : lv_has ls 4 [(0, .ref (ob 0)), (1, .int (nI a)), (2, .int (nI b))] := hl
  refine lv_aload_n hx hcd dL_agree_0 rfl (lv_at hl 0 rfl) ?_
  refine lv_iload_n hx hcd dL_agree_1 rfl (lv_at hl 1 rfl) ?_
  refine lv_iload_n hx hcd dL_agree_2 rfl (lv_at hl 2 rfl) ?_
  refine kr_Vi (As := [.int (nI a), .int (nI b)]) (rest := []) (ws2 := wX cI cB cW ob nw tr qs sc G M N S n L T) (q := (RX6, TX6, 5)) ⟨hx, hcd, hml, hown, hts⟩ (c_X6_agree__ok l D cI cB cW cL ob nw tr qs sc G N S n L T _ M a b hI ha hb hne) (cwV 2 hts gL_agree_X6_agree rfl rfl rfl (by decide +kernel) ⟨Nat.le_of_ble_eq_true rfl, Nat.le_of_ble_eq_true rfl⟩) hK hP hD hS hA [0, 1, 2, 3, 4, 5, 6, 7, 8, 9, 10, 11, 12, 13, 14, 15, 16, 17, 18, 19, 20, 21, 22, 23, 24, 25, 26, 27, 28, 29, 30, 31, 32, 33, 34, 35, 36, 37, 38, 39, 40, 41, 42, 43, 44, 45, 46, 47, 48, 49, 50, 51, 52, 53, 54, 55, 56, 57, 58, 59, 60, 61, 62, 63, 64, 65, 66, 67, 68, 69, 70, 71, 72, 73, 74, 75, 76, 77, 78, 79, 80, 81, 82, 83, 84, 85, 86, 87, 88, 89, 90, 91, 92, 93] wX_allC wX_nd wX_adr wX_all 0 rfl rfl rfl hl.1 rfl (Nat.le_of_ble_eq_true rfl) dL_agree_3 ⟨Nat.le_of_ble_eq_true rfl, Nat.le_of_ble_eq_true rfl⟩ (fun H locs hP hD hS => ?_)
  refine kr_beq (tgt := 13) hx hcd dL_agree_6 (by decide) (fun (c_6 : g_agr M a b = false) => ?_) (fun (c_6 : g_agr M a b = true) => ?_)
  · refine lv_iconst (v := nI 0) hx hcd dL_agree_13 (by decide) ?_
    exact kr_iret hx hcd hr hlocks hK hP hD hS (by rw [c_6]; rfl) rfl dL_agree_14
  · refine lv_iconst (v := nI 1) hx hcd dL_agree_9 (by decide) ?_
    refine lv_goto (tgt := 14) hx hcd dL_agree_10 (by decide) ?_
    exact kr_iret hx hcd hr hlocks hK hP hD hS (by rw [c_6]; rfl) rfl dL_agree_14

set_option maxHeartbeats 4000000 in
set_option maxRecDepth 100000 in
theorem c_L_ask__e1 (l : Launch) (hst : l.stackTraces = false) (D : va_G) (cI cB cW cL : ClassId) (ob nw tr : Nat → Nat) (qs : Nat → Nat → Nat) (sc : Nat → Nat) (G : Nat → Option Nat) (N : kM) (S : Nat → kM) (n L : Nat) (T : Nat → Int32) (sz : Nat) (M : kM) (u : Int32) (w : Int32) (hg : g_why u w = nI 1) : kMg l yL_ask wsL_ask ({ frames := 9, cells := 1, slots := 6, locals := 145 }) D vwCl (kT cI cB cW cL) sz [.ref (ob 0), .int u, .int w] (wX cI cB cW ob nw tr qs sc G M N S n L T) (wX cI cB cW ob nw tr qs sc G M N S n L T) (-903) 1 6 := by
  refine kr_ofh (cc := cL_ask) (maxL := 4) (ret := (some .int)) (hh := [(0, 6, 7, 15), (0, 6, 12, 17)]) (by decide) rfl (Nat.le_of_ble_eq_true rfl) ?_
  intro pp ee ss mm args below meth cc AA ls hx hcd hr hTab hts hown hlocks hml hZ hN hK hP hD hA hl
  have hS : va_S AA ss.heap ss.heap [] := va_S.rf
  have hown : ss.vm.findClass RL = some mm.cls := hown
  have hl : lv_has ls 4 [(0, .ref (ob 0)), (1, .int u), (2, .int w)] := hl
  refine lv_aload_n hx hcd dL_ask_0 rfl (lv_at hl 0 rfl) ?_
  refine lv_iload_n hx hcd dL_ask_1 rfl (lv_at hl 1 rfl) ?_
  refine lv_iload_n hx hcd dL_ask_2 rfl (lv_at hl 2 rfl) ?_
  refine kl_V (As := [.int u, .int w]) (rest := []) (q := (RX6, TX6, 5)) ⟨hx, hcd, hml, hown, hts⟩ (c_X6_ask__e1 l D cI cB cW cL  _ M hst u w (ob 0) hg) (cwV 2 hts gL_ask_X6_ask rfl rfl rfl (by decide +kernel) ⟨Nat.le_of_ble_eq_true rfl, Nat.le_of_ble_eq_true rfl⟩) hZ hK hP hD hS hA [] rfl (by decide) 0 rfl rfl rfl hl.1 rfl (Nat.le_of_ble_eq_true rfl) dL_ask_3 ⟨Nat.le_of_ble_eq_true rfl, Nat.le_of_ble_eq_true rfl⟩ [] ⟨0, 6, 7, 15⟩ [⟨0, 6, 12, 17⟩] hTab (fun z hz => absurd hz List.not_mem_nil) (by decide) (by decide) (hts (.classLink RL 15 "java/lang/IndexOutOfBoundsException") (by decide +kernel)) (va_Nw.use rfl (hZ.2.2.2 (.castable "java/lang/IndexOutOfBoundsException" "java/lang/IndexOutOfBoundsException") (by decide +kernel))) (fun H locs q9 hP hD hS => ?_)
  refine lv_astore_n (lv' := [(3, .ref q9), (0, .ref (ob 0)), (1, .int u), (2, .int w)]) hx hcd dL_ask_7 rfl hl (by decide) rfl (fun ls hl => ?_)
  refine lv_sipush (v := (-903)) hx hcd dL_ask_8 (by decide) ?_
  exact kr_iret hx hcd hr hlocks hK hP hD hS rfl rfl dL_ask_11

set_option maxHeartbeats 4000000 in
set_option maxRecDepth 100000 in
theorem c_L_stop__e1 (l : Launch) (hst : l.stackTraces = false) (D : va_G) (cI cB cW cL : ClassId) (ob nw tr : Nat → Nat) (qs : Nat → Nat → Nat) (sc : Nat → Nat) (G : Nat → Option Nat) (N : kM) (S : Nat → kM) (n L : Nat) (T : Nat → Int32) (sz : Nat) (M : kM) (u : Int32) (w : Int32) (hg : g_why u w = nI 1) : kMg l yL_stop wsL_stop ({ frames := 9, cells := 1, slots := 6, locals := 145 }) D vwCl (kT cI cB cW cL) sz [.ref (ob 0), .int u, .int w] (wX cI cB cW ob nw tr qs sc G M N S n L T) (wX cI cB cW ob nw tr qs sc G M N S n L T) (-903) 1 6 := by
  refine kr_ofh (cc := cL_stop) (maxL := 4) (ret := (some .int)) (hh := [(0, 6, 7, 15), (0, 6, 12, 17)]) (by decide) rfl (Nat.le_of_ble_eq_true rfl) ?_
  intro pp ee ss mm args below meth cc AA ls hx hcd hr hTab hts hown hlocks hml hZ hN hK hP hD hA hl
  have hS : va_S AA ss.heap ss.heap [] := va_S.rf
  have hown : ss.vm.findClass RL = some mm.cls := hown
  have hl : lv_has ls 4 [(0, .ref (ob 0)), (1, .int u), (2, .int w)] := hl
  refine lv_aload_n hx hcd dL_stop_0 rfl (lv_at hl 0 rfl) ?_
  refine lv_iload_n hx hcd dL_stop_1 rfl (lv_at hl 1 rfl) ?_
  refine lv_iload_n hx hcd dL_stop_2 rfl (lv_at hl 2 rfl) ?_
  refine kl_V (As := [.int u, .int w]) (rest := []) (q := (RX6, TX6, 5)) ⟨hx, hcd, hml, hown, hts⟩ (c_X6_stop__e1 l D cI cB cW cL  _ M hst u w (ob 0) hg) (cwV 2 hts gL_stop_X6_stop rfl rfl rfl (by decide +kernel) ⟨Nat.le_of_ble_eq_true rfl, Nat.le_of_ble_eq_true rfl⟩) hZ hK hP hD hS hA [] rfl (by decide) 0 rfl rfl rfl hl.1 rfl (Nat.le_of_ble_eq_true rfl) dL_stop_3 ⟨Nat.le_of_ble_eq_true rfl, Nat.le_of_ble_eq_true rfl⟩ [] ⟨0, 6, 7, 15⟩ [⟨0, 6, 12, 17⟩] hTab (fun z hz => absurd hz List.not_mem_nil) (by decide) (by decide) (hts (.classLink RL 15 "java/lang/IndexOutOfBoundsException") (by decide +kernel)) (va_Nw.use rfl (hZ.2.2.2 (.castable "java/lang/IndexOutOfBoundsException" "java/lang/IndexOutOfBoundsException") (by decide +kernel))) (fun H locs q9 hP hD hS => ?_)
  refine lv_astore_n (lv' := [(3, .ref q9), (0, .ref (ob 0)), (1, .int u), (2, .int w)]) hx hcd dL_stop_7 rfl hl (by decide) rfl (fun ls hl => ?_)
  refine lv_sipush (v := (-903)) hx hcd dL_stop_8 (by decide) ?_
  exact kr_iret hx hcd hr hlocks hK hP hD hS rfl rfl dL_stop_11

set_option maxHeartbeats 4000000 in
set_option maxRecDepth 100000 in
theorem c_L_entry__e1 (l : Launch) (hst : l.stackTraces = false) (D : va_G) (cI cB cW cL : ClassId) (ob nw tr : Nat → Nat) (qs : Nat → Nat → Nat) (sc : Nat → Nat) (G : Nat → Option Nat) (N : kM) (S : Nat → kM) (n L : Nat) (T : Nat → Int32) (sz : Nat) (M : kM) (u : Int32) (w : Int32) (hg : g_why u w = nI 1) : kMg l yL_entry wsL_entry ({ frames := 9, cells := 1, slots := 6, locals := 145 }) D vwCl (kT cI cB cW cL) sz [.ref (ob 0), .int u, .int w] (wX cI cB cW ob nw tr qs sc G M N S n L T) (wX cI cB cW ob nw tr qs sc G M N S n L T) (-903) 1 6 := by
  refine kr_ofh (cc := cL_entry) (maxL := 4) (ret := (some .int)) (hh := [(0, 6, 7, 15), (0, 6, 12, 17)]) (by decide) rfl (Nat.le_of_ble_eq_true rfl) ?_
  intro pp ee ss mm args below meth cc AA ls hx hcd hr hTab hts hown hlocks hml hZ hN hK hP hD hA hl
  have hS : va_S AA ss.heap ss.heap [] := va_S.rf
  have hown : ss.vm.findClass RL = some mm.cls := hown
  have hl : lv_has ls 4 [(0, .ref (ob 0)), (1, .int u), (2, .int w)] := hl
  refine lv_aload_n hx hcd dL_entry_0 rfl (lv_at hl 0 rfl) ?_
  refine lv_iload_n hx hcd dL_entry_1 rfl (lv_at hl 1 rfl) ?_
  refine lv_iload_n hx hcd dL_entry_2 rfl (lv_at hl 2 rfl) ?_
  refine kl_V (As := [.int u, .int w]) (rest := []) (q := (RX6, TX6, 5)) ⟨hx, hcd, hml, hown, hts⟩ (c_X6_entry__e1 l D cI cB cW cL  _ M hst u w (ob 0) hg) (cwV 2 hts gL_entry_X6_entry rfl rfl rfl (by decide +kernel) ⟨Nat.le_of_ble_eq_true rfl, Nat.le_of_ble_eq_true rfl⟩) hZ hK hP hD hS hA [] rfl (by decide) 0 rfl rfl rfl hl.1 rfl (Nat.le_of_ble_eq_true rfl) dL_entry_3 ⟨Nat.le_of_ble_eq_true rfl, Nat.le_of_ble_eq_true rfl⟩ [] ⟨0, 6, 7, 15⟩ [⟨0, 6, 12, 17⟩] hTab (fun z hz => absurd hz List.not_mem_nil) (by decide) (by decide) (hts (.classLink RL 15 "java/lang/IndexOutOfBoundsException") (by decide +kernel)) (va_Nw.use rfl (hZ.2.2.2 (.castable "java/lang/IndexOutOfBoundsException" "java/lang/IndexOutOfBoundsException") (by decide +kernel))) (fun H locs q9 hP hD hS => ?_)
  refine lv_astore_n (lv' := [(3, .ref q9), (0, .ref (ob 0)), (1, .int u), (2, .int w)]) hx hcd dL_entry_7 rfl hl (by decide) rfl (fun ls hl => ?_)
  refine lv_sipush (v := (-903)) hx hcd dL_entry_8 (by decide) ?_
  exact kr_iret hx hcd hr hlocks hK hP hD hS rfl rfl dL_entry_11

set_option maxHeartbeats 4000000 in
set_option maxRecDepth 100000 in
theorem c_L_agree__e1 (l : Launch) (hst : l.stackTraces = false) (D : va_G) (cI cB cW cL : ClassId) (ob nw tr : Nat → Nat) (qs : Nat → Nat → Nat) (sc : Nat → Nat) (G : Nat → Option Nat) (N : kM) (S : Nat → kM) (n L : Nat) (T : Nat → Int32) (sz : Nat) (M : kM) (u : Int32) (w : Int32) (hg : g_why u w = nI 1) : kMg l yL_agree wsL_agree ({ frames := 9, cells := 1, slots := 6, locals := 145 }) D vwCl (kT cI cB cW cL) sz [.ref (ob 0), .int u, .int w] (wX cI cB cW ob nw tr qs sc G M N S n L T) (wX cI cB cW ob nw tr qs sc G M N S n L T) (-903) 1 6 := by
  refine kr_ofh (cc := cL_agree) (maxL := 4) (ret := (some .int)) (hh := [(0, 14, 15, 15), (0, 14, 20, 17)]) (by decide) rfl (Nat.le_of_ble_eq_true rfl) ?_
  intro pp ee ss mm args below meth cc AA ls hx hcd hr hTab hts hown hlocks hml hZ hN hK hP hD hA hl
  have hS : va_S AA ss.heap ss.heap [] := va_S.rf
  have hown : ss.vm.findClass RL = some mm.cls := hown
  have hl : lv_has ls 4 [(0, .ref (ob 0)), (1, .int u), (2, .int w)] := hl
  refine lv_aload_n hx hcd dL_agree_0 rfl (lv_at hl 0 rfl) ?_
  refine lv_iload_n hx hcd dL_agree_1 rfl (lv_at hl 1 rfl) ?_
  refine lv_iload_n hx hcd dL_agree_2 rfl (lv_at hl 2 rfl) ?_
  refine kl_V (As := [.int u, .int w]) (rest := []) (q := (RX6, TX6, 5)) ⟨hx, hcd, hml, hown, hts⟩ (c_X6_agree__e1 l D cI cB cW cL  _ M hst u w (ob 0) hg) (cwV 2 hts gL_agree_X6_agree rfl rfl rfl (by decide +kernel) ⟨Nat.le_of_ble_eq_true rfl, Nat.le_of_ble_eq_true rfl⟩) hZ hK hP hD hS hA [] rfl (by decide) 0 rfl rfl rfl hl.1 rfl (Nat.le_of_ble_eq_true rfl) dL_agree_3 ⟨Nat.le_of_ble_eq_true rfl, Nat.le_of_ble_eq_true rfl⟩ [] ⟨0, 14, 15, 15⟩ [⟨0, 14, 20, 17⟩] hTab (fun z hz => absurd hz List.not_mem_nil) (by decide) (by decide) (hts (.classLink RL 15 "java/lang/IndexOutOfBoundsException") (by decide +kernel)) (va_Nw.use rfl (hZ.2.2.2 (.castable "java/lang/IndexOutOfBoundsException" "java/lang/IndexOutOfBoundsException") (by decide +kernel))) (fun H locs q9 hP hD hS => ?_)
  refine lv_astore_n (lv' := [(3, .ref q9), (0, .ref (ob 0)), (1, .int u), (2, .int w)]) hx hcd dL_agree_15 rfl hl (by decide) rfl (fun ls hl => ?_)
  refine lv_sipush (v := (-903)) hx hcd dL_agree_16 (by decide) ?_
  exact kr_iret hx hcd hr hlocks hK hP hD hS rfl rfl dL_agree_19

set_option maxHeartbeats 4000000 in
set_option maxRecDepth 100000 in
theorem c_L_grant__e1 (l : Launch) (hst : l.stackTraces = false) (D : va_G) (cI cB cW cL : ClassId) (ob nw tr : Nat → Nat) (qs : Nat → Nat → Nat) (sc : Nat → Nat) (G : Nat → Option Nat) (N : kM) (S : Nat → kM) (n L : Nat) (T : Nat → Int32) (sz : Nat) (M : kM) (u : Int32) (w : Int32) (hg : g_why u w = nI 1) : kMg l yL_grant wsL_grant ({ frames := 9, cells := 1, slots := 6, locals := 145 }) D vwCl (kT cI cB cW cL) sz [.ref (ob 0), .int u, .int w] (wX cI cB cW ob nw tr qs sc G M N S n L T) (wX cI cB cW ob nw tr qs sc G M N S n L T) (-903) 1 6 := by
  refine kr_ofh (cc := cL_grant) (maxL := 4) (ret := (some .int)) (hh := [(0, 6, 7, 15), (0, 6, 12, 17)]) (by decide) rfl (Nat.le_of_ble_eq_true rfl) ?_
  intro pp ee ss mm args below meth cc AA ls hx hcd hr hTab hts hown hlocks hml hZ hN hK hP hD hA hl
  have hS : va_S AA ss.heap ss.heap [] := va_S.rf
  have hown : ss.vm.findClass RL = some mm.cls := hown
  have hl : lv_has ls 4 [(0, .ref (ob 0)), (1, .int u), (2, .int w)] := hl
  refine lv_aload_n hx hcd dL_grant_0 rfl (lv_at hl 0 rfl) ?_
  refine lv_iload_n hx hcd dL_grant_1 rfl (lv_at hl 1 rfl) ?_
  refine lv_iload_n hx hcd dL_grant_2 rfl (lv_at hl 2 rfl) ?_
  refine kl_V (As := [.int u, .int w]) (rest := []) (q := (RX6, TX6, 5)) ⟨hx, hcd, hml, hown, hts⟩ (c_X6_grant__e1 l D cI cB cW cL  _ M hst u w (ob 0) hg) (cwV 2 hts gL_grant_X6_grant rfl rfl rfl (by decide +kernel) ⟨Nat.le_of_ble_eq_true rfl, Nat.le_of_ble_eq_true rfl⟩) hZ hK hP hD hS hA [] rfl (by decide) 0 rfl rfl rfl hl.1 rfl (Nat.le_of_ble_eq_true rfl) dL_grant_3 ⟨Nat.le_of_ble_eq_true rfl, Nat.le_of_ble_eq_true rfl⟩ [] ⟨0, 6, 7, 15⟩ [⟨0, 6, 12, 17⟩] hTab (fun z hz => absurd hz List.not_mem_nil) (by decide) (by decide) (hts (.classLink RL 15 "java/lang/IndexOutOfBoundsException") (by decide +kernel)) (va_Nw.use rfl (hZ.2.2.2 (.castable "java/lang/IndexOutOfBoundsException" "java/lang/IndexOutOfBoundsException") (by decide +kernel))) (fun H locs q9 hP hD hS => ?_)
  refine lv_astore_n (lv' := [(3, .ref q9), (0, .ref (ob 0)), (1, .int u), (2, .int w)]) hx hcd dL_grant_7 rfl hl (by decide) rfl (fun ls hl => ?_)
  refine lv_sipush (v := (-903)) hx hcd dL_grant_8 (by decide) ?_
  exact kr_iret hx hcd hr hlocks hK hP hD hS rfl rfl dL_grant_11

set_option maxHeartbeats 4000000 in
set_option maxRecDepth 100000 in
theorem c_L_ask__e2 (l : Launch) (hst : l.stackTraces = false) (D : va_G) (cI cB cW cL : ClassId) (ob nw tr : Nat → Nat) (qs : Nat → Nat → Nat) (sc : Nat → Nat) (G : Nat → Option Nat) (N : kM) (S : Nat → kM) (n L : Nat) (T : Nat → Int32) (sz : Nat) (M : kM) (u : Int32) (w : Int32) (hg : g_why u w = nI 2) : kMg l yL_ask wsL_ask ({ frames := 9, cells := 1, slots := 6, locals := 145 }) D vwCl (kT cI cB cW cL) sz [.ref (ob 0), .int u, .int w] (wX cI cB cW ob nw tr qs sc G M N S n L T) (wX cI cB cW ob nw tr qs sc G M N S n L T) (-901) 1 6 := by
  refine kr_ofh (cc := cL_ask) (maxL := 4) (ret := (some .int)) (hh := [(0, 6, 7, 15), (0, 6, 12, 17)]) (by decide) rfl (Nat.le_of_ble_eq_true rfl) ?_
  intro pp ee ss mm args below meth cc AA ls hx hcd hr hTab hts hown hlocks hml hZ hN hK hP hD hA hl
  have hS : va_S AA ss.heap ss.heap [] := va_S.rf
  have hown : ss.vm.findClass RL = some mm.cls := hown
  have hl : lv_has ls 4 [(0, .ref (ob 0)), (1, .int u), (2, .int w)] := hl
  refine lv_aload_n hx hcd dL_ask_0 rfl (lv_at hl 0 rfl) ?_
  refine lv_iload_n hx hcd dL_ask_1 rfl (lv_at hl 1 rfl) ?_
  refine lv_iload_n hx hcd dL_ask_2 rfl (lv_at hl 2 rfl) ?_
  refine kl_V (As := [.int u, .int w]) (rest := []) (q := (RX6, TX6, 5)) ⟨hx, hcd, hml, hown, hts⟩ (c_X6_ask__e2 l D cI cB cW cL  _ M hst u w (ob 0) hg) (cwV 2 hts gL_ask_X6_ask rfl rfl rfl (by decide +kernel) ⟨Nat.le_of_ble_eq_true rfl, Nat.le_of_ble_eq_true rfl⟩) hZ hK hP hD hS hA [] rfl (by decide) 0 rfl rfl rfl hl.1 rfl (Nat.le_of_ble_eq_true rfl) dL_ask_3 ⟨Nat.le_of_ble_eq_true rfl, Nat.le_of_ble_eq_true rfl⟩ [⟨0, 6, 7, 15⟩] ⟨0, 6, 12, 17⟩ [] hTab (fun z hz => Or.inr (by rw [List.mem_singleton.mp hz]; exact ⟨by decide, eIO, hts (.classLink RL 15 "java/lang/IndexOutOfBoundsException") (by decide +kernel), hN _ (List.mem_of_getElem? (i := 0) rfl)⟩)) (by decide) (by decide) (hts (.classLink RL 17 "java/lang/IllegalArgumentException") (by decide +kernel)) (va_Nw.use rfl (hZ.2.2.2 (.castable "java/lang/IllegalArgumentException" "java/lang/IllegalArgumentException") (by decide +kernel))) (fun H locs q9 hP hD hS => ?_)
  refine lv_astore_n (lv' := [(3, .ref q9), (0, .ref (ob 0)), (1, .int u), (2, .int w)]) hx hcd dL_ask_12 rfl hl (by decide) rfl (fun ls hl => ?_)
  refine lv_sipush (v := (-901)) hx hcd dL_ask_13 (by decide) ?_
  exact kr_iret hx hcd hr hlocks hK hP hD hS rfl rfl dL_ask_16

set_option maxHeartbeats 4000000 in
set_option maxRecDepth 100000 in
theorem c_L_refuse__e2 (l : Launch) (hst : l.stackTraces = false) (D : va_G) (cI cB cW cL : ClassId) (ob nw tr : Nat → Nat) (qs : Nat → Nat → Nat) (sc : Nat → Nat) (G : Nat → Option Nat) (N : kM) (S : Nat → kM) (n L : Nat) (T : Nat → Int32) (sz : Nat) (M : kM) (u : Int32) (w : Int32) (hg : g_why u w = nI 2) : kMg l yL_refuse wsL_refuse ({ frames := 9, cells := 1, slots := 6, locals := 145 }) D vwCl (kT cI cB cW cL) sz [.ref (ob 0), .int u, .int w] (wX cI cB cW ob nw tr qs sc G M N S n L T) (wX cI cB cW ob nw tr qs sc G M N S n L T) (-901) 1 6 := by
  refine kr_ofh (cc := cL_refuse) (maxL := 4) (ret := (some .int)) (hh := [(0, 6, 7, 15), (0, 6, 12, 17)]) (by decide) rfl (Nat.le_of_ble_eq_true rfl) ?_
  intro pp ee ss mm args below meth cc AA ls hx hcd hr hTab hts hown hlocks hml hZ hN hK hP hD hA hl
  have hS : va_S AA ss.heap ss.heap [] := va_S.rf
  have hown : ss.vm.findClass RL = some mm.cls := hown
  have hl : lv_has ls 4 [(0, .ref (ob 0)), (1, .int u), (2, .int w)] := hl
  refine lv_aload_n hx hcd dL_refuse_0 rfl (lv_at hl 0 rfl) ?_
  refine lv_iload_n hx hcd dL_refuse_1 rfl (lv_at hl 1 rfl) ?_
  refine lv_iload_n hx hcd dL_refuse_2 rfl (lv_at hl 2 rfl) ?_
  refine kl_V (As := [.int u, .int w]) (rest := []) (q := (RX6, TX6, 5)) ⟨hx, hcd, hml, hown, hts⟩ (c_X6_refuse__e2 l D cI cB cW cL  _ M hst u w (ob 0) hg) (cwV 2 hts gL_refuse_X6_refuse rfl rfl rfl (by decide +kernel) ⟨Nat.le_of_ble_eq_true rfl, Nat.le_of_ble_eq_true rfl⟩) hZ hK hP hD hS hA [] rfl (by decide) 0 rfl rfl rfl hl.1 rfl (Nat.le_of_ble_eq_true rfl) dL_refuse_3 ⟨Nat.le_of_ble_eq_true rfl, Nat.le_of_ble_eq_true rfl⟩ [⟨0, 6, 7, 15⟩] ⟨0, 6, 12, 17⟩ [] hTab (fun z hz => Or.inr (by rw [List.mem_singleton.mp hz]; exact ⟨by decide, eIO, hts (.classLink RL 15 "java/lang/IndexOutOfBoundsException") (by decide +kernel), hN _ (List.mem_of_getElem? (i := 0) rfl)⟩)) (by decide) (by decide) (hts (.classLink RL 17 "java/lang/IllegalArgumentException") (by decide +kernel)) (va_Nw.use rfl (hZ.2.2.2 (.castable "java/lang/IllegalArgumentException" "java/lang/IllegalArgumentException") (by decide +kernel))) (fun H locs q9 hP hD hS => ?_)
  refine lv_astore_n (lv' := [(3, .ref q9), (0, .ref (ob 0)), (1, .int u), (2, .int w)]) hx hcd dL_refuse_12 rfl hl (by decide) rfl (fun ls hl => ?_)
  refine lv_sipush (v := (-901)) hx hcd dL_refuse_13 (by decide) ?_
  exact kr_iret hx hcd hr hlocks hK hP hD hS rfl rfl dL_refuse_16

set_option maxHeartbeats 4000000 in
set_option maxRecDepth 100000 in
theorem c_L_areApart__e2 (l : Launch) (hst : l.stackTraces = false) (D : va_G) (cI cB cW cL : ClassId) (ob nw tr : Nat → Nat) (qs : Nat → Nat → Nat) (sc : Nat → Nat) (G : Nat → Option Nat) (N : kM) (S : Nat → kM) (n L : Nat) (T : Nat → Int32) (sz : Nat) (M : kM) (u : Int32) (w : Int32) (hg : g_why u w = nI 2) : kMg l yL_areApart wsL_areApart ({ frames := 9, cells := 1, slots := 6, locals := 145 }) D vwCl (kT cI cB cW cL) sz [.ref (ob 0), .int u, .int w] (wX cI cB cW ob nw tr qs sc G M N S n L T) (wX cI cB cW ob nw tr qs sc G M N S n L T) (-901) 1 6 := by
  refine kr_ofh (cc := cL_areApart) (maxL := 4) (ret := (some .int)) (hh := [(0, 14, 15, 15), (0, 14, 20, 17)]) (by decide) rfl (Nat.le_of_ble_eq_true rfl) ?_
  intro pp ee ss mm args below meth cc AA ls hx hcd hr hTab hts hown hlocks hml hZ hN hK hP hD hA hl
  have hS : va_S AA ss.heap ss.heap [] := va_S.rf
  have hown : ss.vm.findClass RL = some mm.cls := hown
  have hl : lv_has ls 4 [(0, .ref (ob 0)), (1, .int u), (2, .int w)] := hl
  refine lv_aload_n hx hcd dL_areApart_0 rfl (lv_at hl 0 rfl) ?_
  refine lv_iload_n hx hcd dL_areApart_1 rfl (lv_at hl 1 rfl) ?_
  refine lv_iload_n hx hcd dL_areApart_2 rfl (lv_at hl 2 rfl) ?_
  refine kl_V (As := [.int u, .int w]) (rest := []) (q := (RX6, TX6, 5)) ⟨hx, hcd, hml, hown, hts⟩ (c_X6_areApart__e2 l D cI cB cW cL  _ M hst u w (ob 0) hg) (cwV 2 hts gL_areApart_X6_areApart rfl rfl rfl (by decide +kernel) ⟨Nat.le_of_ble_eq_true rfl, Nat.le_of_ble_eq_true rfl⟩) hZ hK hP hD hS hA [] rfl (by decide) 0 rfl rfl rfl hl.1 rfl (Nat.le_of_ble_eq_true rfl) dL_areApart_3 ⟨Nat.le_of_ble_eq_true rfl, Nat.le_of_ble_eq_true rfl⟩ [⟨0, 14, 15, 15⟩] ⟨0, 14, 20, 17⟩ [] hTab (fun z hz => Or.inr (by rw [List.mem_singleton.mp hz]; exact ⟨by decide, eIO, hts (.classLink RL 15 "java/lang/IndexOutOfBoundsException") (by decide +kernel), hN _ (List.mem_of_getElem? (i := 0) rfl)⟩)) (by decide) (by decide) (hts (.classLink RL 17 "java/lang/IllegalArgumentException") (by decide +kernel)) (va_Nw.use rfl (hZ.2.2.2 (.castable "java/lang/IllegalArgumentException" "java/lang/IllegalArgumentException") (by decide +kernel))) (fun H locs q9 hP hD hS => ?_)
  refine lv_astore_n (lv' := [(3, .ref q9), (0, .ref (ob 0)), (1, .int u), (2, .int w)]) hx hcd dL_areApart_20 rfl hl (by decide) rfl (fun ls hl => ?_)
  refine lv_sipush (v := (-901)) hx hcd dL_areApart_21 (by decide) ?_
  exact kr_iret hx hcd hr hlocks hK hP hD hS rfl rfl dL_areApart_24

set_option maxHeartbeats 4000000 in
set_option maxRecDepth 100000 in
theorem c_L_block__ok (l : Launch) (hst : l.stackTraces = false) (D : va_G) (cI cB cW cL : ClassId) (ob nw tr : Nat → Nat) (qs : Nat → Nat → Nat) (sc : Nat → Nat) (G : Nat → Option Nat) (N : kM) (S : Nat → kM) (n L : Nat) (T : Nat → Int32) (sz : Nat) (M : kM) (a : Nat) (b : Nat) (v : Bool) (r : Nat) (hI : kInv M) (ha : a < 6) (hb : b < 6) (hne : a ≠ b) (hn : n ≤ 4) (hr : r < 4) : kMg l yL_block wsL_block ({ frames := 6, cells := 0, slots := 0, locals := 165 }) D vwCl (kT cI cB cW cL) sz [.ref (ob 0), .int (nI a), .int (nI b), .int (kI v)] (wX cI cB cW ob nw tr qs sc (g_rot qs r) M N S n L T) (wX cI cB cW ob nw tr qs sc (g_rot qs (rj n r)) (g_block M a b v) N (sset S (pj n r) M) (g_kn n) L T) (if M (240 + 6 * a + b) = kI v then 0 else 1) 0 0 := by
  refine kr_ofh (cc := cL_block) (maxL := 5) (ret := (some .int)) (hh := [(0, 7, 8, 15), (0, 7, 14, 17)]) (by decide) rfl (Nat.le_of_ble_eq_true rfl) ?_
  intro pp ee ss mm args below meth cc AA ls hx hcd hr hTab hts hown hlocks hml hZ hN hK hP hD hA hl
  have hS : va_S AA ss.heap ss.heap [] := va_S.rf
  have hown : ss.vm.findClass RL = some mm.cls := hown
  have hl : lv_has ls 5 [(0, .ref (ob 0)), (1, .int (nI a)), (2, .int (nI b)), (3, .int (kI v))] := hl
  refine lv_aload_n hx hcd dL_block_0 rfl (lv_at hl 0 rfl) ?_
  refine lv_iload_n hx hcd dL_block_1 rfl (lv_at hl 1 rfl) ?_
  refine lv_iload_n hx hcd dL_block_2 rfl (lv_at hl 2 rfl) ?_
  refine lv_iload_n hx hcd dL_block_3 rfl (lv_at hl 3 rfl) ?_
  refine kr_Vi (As := [.int (nI a), .int (nI b), .int (kI v)]) (rest := []) (ws2 := wX cI cB cW ob nw tr qs sc (g_rot qs (rj n r)) (g_block M a b v) N (sset S (pj n r) M) (g_kn n) L T) (q := (RX6, TX6, 5)) ⟨hx, hcd, hml, hown, hts⟩ (c_X6_block__ok l D cI cB cW cL ob nw tr qs sc (g_rot qs r) N S n L T _ M a b v r hI ha hb hne hn (by omega)) (cwV 3 hts gL_block_X6_block rfl rfl rfl (by decide +kernel) ⟨Nat.le_of_ble_eq_true rfl, Nat.le_of_ble_eq_true rfl⟩) hK hP hD hS hA [0, 1, 2, 3, 4, 5, 6, 7, 8, 9, 10, 11, 12, 13, 14, 15, 16, 17, 18, 19, 20, 21, 22, 23, 24, 25, 26, 27, 28, 29, 30, 31, 32, 33, 34, 35, 36, 37, 38, 39, 40, 41, 42, 43, 44, 45, 46, 47, 48, 49, 50, 51, 52, 53, 54, 55, 56, 57, 58, 59, 60, 61, 62, 63, 64, 65, 66, 67, 68, 69, 70, 71, 72, 73, 74, 75, 76, 77, 78, 79, 80, 81, 82, 83, 84, 85, 86, 87, 88, 89, 90, 91, 92, 93] wX_allC wX_nd wX_adr wX_all 0 rfl rfl rfl hl.1 rfl (Nat.le_of_ble_eq_true rfl) dL_block_4 ⟨Nat.le_of_ble_eq_true rfl, Nat.le_of_ble_eq_true rfl⟩ (fun H locs hP hD hS => ?_)
  exact kr_iret hx hcd hr hlocks hK hP hD hS rfl rfl dL_block_7

set_option maxHeartbeats 4000000 in
set_option maxRecDepth 100000 in
theorem c_L_block__e2 (l : Launch) (hst : l.stackTraces = false) (D : va_G) (cI cB cW cL : ClassId) (ob nw tr : Nat → Nat) (qs : Nat → Nat → Nat) (sc : Nat → Nat) (G : Nat → Option Nat) (N : kM) (S : Nat → kM) (n L : Nat) (T : Nat → Int32) (sz : Nat) (M : kM) (u : Int32) (w : Int32) (v : Bool) (hg : g_why u w = nI 2) : kMg l yL_block wsL_block ({ frames := 9, cells := 1, slots := 6, locals := 146 }) D vwCl (kT cI cB cW cL) sz [.ref (ob 0), .int u, .int w, .int (kI v)] (wX cI cB cW ob nw tr qs sc G M N S n L T) (wX cI cB cW ob nw tr qs sc G M N S n L T) (-901) 1 6 := by
  refine kr_ofh (cc := cL_block) (maxL := 5) (ret := (some .int)) (hh := [(0, 7, 8, 15), (0, 7, 14, 17)]) (by decide) rfl (Nat.le_of_ble_eq_true rfl) ?_
  intro pp ee ss mm args below meth cc AA ls hx hcd hr hTab hts hown hlocks hml hZ hN hK hP hD hA hl
  have hS : va_S AA ss.heap ss.heap [] := va_S.rf
  have hown : ss.vm.findClass RL = some mm.cls := hown
  have hl : lv_has ls 5 [(0, .ref (ob 0)), (1, .int u), (2, .int w), (3, .int (kI v))] := hl
  refine lv_aload_n hx hcd dL_block_0 rfl (lv_at hl 0 rfl) ?_
  refine lv_iload_n hx hcd dL_block_1 rfl (lv_at hl 1 rfl) ?_
  refine lv_iload_n hx hcd dL_block_2 rfl (lv_at hl 2 rfl) ?_
  refine lv_iload_n hx hcd dL_block_3 rfl (lv_at hl 3 rfl) ?_
  refine kl_V (As := [.int u, .int w, .int (kI v)]) (rest := []) (q := (RX6, TX6, 5)) ⟨hx, hcd, hml, hown, hts⟩ (c_X6_block__e2 l D cI cB cW cL  _ M hst u w v (ob 0) hg) (cwV 3 hts gL_block_X6_block rfl rfl rfl (by decide +kernel) ⟨Nat.le_of_ble_eq_true rfl, Nat.le_of_ble_eq_true rfl⟩) hZ hK hP hD hS hA [] rfl (by decide) 0 rfl rfl rfl hl.1 rfl (Nat.le_of_ble_eq_true rfl) dL_block_4 ⟨Nat.le_of_ble_eq_true rfl, Nat.le_of_ble_eq_true rfl⟩ [⟨0, 7, 8, 15⟩] ⟨0, 7, 14, 17⟩ [] hTab (fun z hz => Or.inr (by rw [List.mem_singleton.mp hz]; exact ⟨by decide, eIO, hts (.classLink RL 15 "java/lang/IndexOutOfBoundsException") (by decide +kernel), hN _ (List.mem_of_getElem? (i := 0) rfl)⟩)) (by decide) (by decide) (hts (.classLink RL 17 "java/lang/IllegalArgumentException") (by decide +kernel)) (va_Nw.use rfl (hZ.2.2.2 (.castable "java/lang/IllegalArgumentException" "java/lang/IllegalArgumentException") (by decide +kernel))) (fun H locs q9 hP hD hS => ?_)
  refine lv_astore (lv' := [(4, .ref q9), (0, .ref (ob 0)), (1, .int u), (2, .int w), (3, .int (kI v))]) hx hcd dL_block_14 hl (by decide) rfl (fun ls hl => ?_)
  refine lv_sipush (v := (-901)) hx hcd dL_block_16 (by decide) ?_
  exact kr_iret hx hcd hr hlocks hK hP hD hS rfl rfl dL_block_19

set_option maxHeartbeats 4000000 in
set_option maxRecDepth 100000 in
theorem c_L_turnOn__ok (l : Launch) (hst : l.stackTraces = false) (D : va_G) (cI cB cW cL : ClassId) (ob nw tr : Nat → Nat) (qs : Nat → Nat → Nat) (sc : Nat → Nat) (G : Nat → Option Nat) (N : kM) (S : Nat → kM) (n L : Nat) (T : Nat → Int32) (sz : Nat) (M : kM) (a : Nat) (s : Nat) (rk : Int32) (d : Nat) (r : Nat) (hI : kInv M) (ha : a < 6) (hs : s < 3) (hd : d < 5) (hrk1 : ¬ rk < -9) (hrk2 : ¬ 9 < rk) (hn : n ≤ 4) (hr : r < 4) : kMg l yL_turnOn wsL_turnOn ({ frames := 5, cells := 0, slots := 0, locals := 166 }) D vwCl (kT cI cB cW cL) sz [.ref (ob 0), .int (nI a), .int (nI s), .int rk, .int (nI d)] (wX cI cB cW ob nw tr qs sc (g_rot qs r) M N S n L T) (wX cI cB cW ob nw tr qs sc (g_rot qs (rj n r)) (g_turnOn M a s rk d) N (sset S (pj n r) M) (g_kn n) L T) (g_cnt (g_turnOn M a s rk d) a) 0 0 := by
  refine kr_ofh (cc := cL_turnOn) (maxL := 6) (ret := (some .int)) (hh := [(0, 9, 10, 15), (0, 9, 16, 17)]) (by decide) rfl (Nat.le_of_ble_eq_true rfl) ?_
  intro pp ee ss mm args below meth cc AA ls hx hcd hr hTab hts hown hlocks hml hZ hN hK hP hD hA hl
  have hS : va_S AA ss.heap ss.heap [] := va_S.rf
  have hown : ss.vm.findClass RL = some mm.cls := hown
  have hl : lv_has ls 6 [(0, .ref (ob 0)), (1, .int (nI a)), (2, .int (nI s)), (3, .int rk), (4, .int (nI d))] := hl
  refine lv_aload_n hx hcd dL_turnOn_0 rfl (lv_at hl 0 rfl) ?_
  refine lv_iload_n hx hcd dL_turnOn_1 rfl (lv_at hl 1 rfl) ?_
  refine lv_iload_n hx hcd dL_turnOn_2 rfl (lv_at hl 2 rfl) ?_
  refine lv_iload_n hx hcd dL_turnOn_3 rfl (lv_at hl 3 rfl) ?_
  refine lv_iload hx hcd dL_turnOn_4 (lv_at hl 4 rfl) ?_
  refine kr_Vi (As := [.int (nI a), .int (nI s), .int rk, .int (nI d)]) (rest := []) (ws2 := wX cI cB cW ob nw tr qs sc (g_rot qs (rj n r)) (g_turnOn M a s rk d) N (sset S (pj n r) M) (g_kn n) L T) (q := (RX6, TX6, 5)) ⟨hx, hcd, hml, hown, hts⟩ (c_X6_turnOn__ok l D cI cB cW cL ob nw tr qs sc (g_rot qs r) N S n L T _ M a s rk d r hI ha hs hd hrk1 hrk2 hn (by omega)) (cwV 4 hts gL_turnOn_X6_turnOn rfl rfl rfl (by decide +kernel) ⟨Nat.le_of_ble_eq_true rfl, Nat.le_of_ble_eq_true rfl⟩) hK hP hD hS hA [0, 1, 2, 3, 4, 5, 6, 7, 8, 9, 10, 11, 12, 13, 14, 15, 16, 17, 18, 19, 20, 21, 22, 23, 24, 25, 26, 27, 28, 29, 30, 31, 32, 33, 34, 35, 36, 37, 38, 39, 40, 41, 42, 43, 44, 45, 46, 47, 48, 49, 50, 51, 52, 53, 54, 55, 56, 57, 58, 59, 60, 61, 62, 63, 64, 65, 66, 67, 68, 69, 70, 71, 72, 73, 74, 75, 76, 77, 78, 79, 80, 81, 82, 83, 84, 85, 86, 87, 88, 89, 90, 91, 92, 93] wX_allC wX_nd wX_adr wX_all 0 rfl rfl rfl hl.1 rfl (Nat.le_of_ble_eq_true rfl) dL_turnOn_6 ⟨Nat.le_of_ble_eq_true rfl, Nat.le_of_ble_eq_true rfl⟩ (fun H locs hP hD hS => ?_)
  exact kr_iret hx hcd hr hlocks hK hP hD hS rfl rfl dL_turnOn_9

set_option maxHeartbeats 4000000 in
set_option maxRecDepth 100000 in
theorem c_L_turnOn__e1 (l : Launch) (hst : l.stackTraces = false) (D : va_G) (cI cB cW cL : ClassId) (ob nw tr : Nat → Nat) (qs : Nat → Nat → Nat) (sc : Nat → Nat) (G : Nat → Option Nat) (N : kM) (S : Nat → kM) (n L : Nat) (T : Nat → Int32) (sz : Nat) (M : kM) (u : Int32) (w : Int32) (t : Int32) (y : Int32) (hg : g_seatok u w = false) : kMg l yL_turnOn wsL_turnOn ({ frames := 9, cells := 1, slots := 6, locals := 147 }) D vwCl (kT cI cB cW cL) sz [.ref (ob 0), .int u, .int w, .int t, .int y] (wX cI cB cW ob nw tr qs sc G M N S n L T) (wX cI cB cW ob nw tr qs sc G M N S n L T) (-903) 1 6 := by
  refine kr_ofh (cc := cL_turnOn) (maxL := 6) (ret := (some .int)) (hh := [(0, 9, 10, 15), (0, 9, 16, 17)]) (by decide) rfl (Nat.le_of_ble_eq_true rfl) ?_
  intro pp ee ss mm args below meth cc AA ls hx hcd hr hTab hts hown hlocks hml hZ hN hK hP hD hA hl
  have hS : va_S AA ss.heap ss.heap [] := va_S.rf
  have hown : ss.vm.findClass RL = some mm.cls := hown
  have hl : lv_has ls 6 [(0, .ref (ob 0)), (1, .int u), (2, .int w), (3, .int t), (4, .int y)] := hl
  refine lv_aload_n hx hcd dL_turnOn_0 rfl (lv_at hl 0 rfl) ?_
  refine lv_iload_n hx hcd dL_turnOn_1 rfl (lv_at hl 1 rfl) ?_
  refine lv_iload_n hx hcd dL_turnOn_2 rfl (lv_at hl 2 rfl) ?_
  refine lv_iload_n hx hcd dL_turnOn_3 rfl (lv_at hl 3 rfl) ?_
  refine lv_iload hx hcd dL_turnOn_4 (lv_at hl 4 rfl) ?_
  refine kl_V (As := [.int u, .int w, .int t, .int y]) (rest := []) (q := (RX6, TX6, 5)) ⟨hx, hcd, hml, hown, hts⟩ (c_X6_turnOn__e1 l D cI cB cW cL  _ M hst u w t y (ob 0) hg) (cwV 4 hts gL_turnOn_X6_turnOn rfl rfl rfl (by decide +kernel) ⟨Nat.le_of_ble_eq_true rfl, Nat.le_of_ble_eq_true rfl⟩) hZ hK hP hD hS hA [] rfl (by decide) 0 rfl rfl rfl hl.1 rfl (Nat.le_of_ble_eq_true rfl) dL_turnOn_6 ⟨Nat.le_of_ble_eq_true rfl, Nat.le_of_ble_eq_true rfl⟩ [] ⟨0, 9, 10, 15⟩ [⟨0, 9, 16, 17⟩] hTab (fun z hz => absurd hz List.not_mem_nil) (by decide) (by decide) (hts (.classLink RL 15 "java/lang/IndexOutOfBoundsException") (by decide +kernel)) (va_Nw.use rfl (hZ.2.2.2 (.castable "java/lang/IndexOutOfBoundsException" "java/lang/IndexOutOfBoundsException") (by decide +kernel))) (fun H locs q9 hP hD hS => ?_)
  refine lv_astore (lv' := [(5, .ref q9), (0, .ref (ob 0)), (1, .int u), (2, .int w), (3, .int t), (4, .int y)]) hx hcd dL_turnOn_10 hl (by decide) rfl (fun ls hl => ?_)
  refine lv_sipush (v := (-903)) hx hcd dL_turnOn_12 (by decide) ?_
  exact kr_iret hx hcd hr hlocks hK hP hD hS rfl rfl dL_turnOn_15

set_option maxHeartbeats 4000000 in
set_option maxRecDepth 100000 in
theorem c_L_turnOn__e2 (l : Launch) (hst : l.stackTraces = false) (D : va_G) (cI cB cW cL : ClassId) (ob nw tr : Nat → Nat) (qs : Nat → Nat → Nat) (sc : Nat → Nat) (G : Nat → Option Nat) (N : kM) (S : Nat → kM) (n L : Nat) (T : Nat → Int32) (sz : Nat) (M : kM) (a : Nat) (s : Nat) (t : Int32) (y : Int32) (ha : a < 6) (hs : s < 3) (hg : g_in t (-9) 9 = false ∨ g_in y 0 4 = false) : kMg l yL_turnOn wsL_turnOn ({ frames := 7, cells := 1, slots := 6, locals := 106 }) D vwCl (kT cI cB cW cL) sz [.ref (ob 0), .int (nI a), .int (nI s), .int t, .int y] (wX cI cB cW ob nw tr qs sc G M N S n L T) (wX cI cB cW ob nw tr qs sc G M N S n L T) (-901) 1 6 := by
  refine kr_ofh (cc := cL_turnOn) (maxL := 6) (ret := (some .int)) (hh := [(0, 9, 10, 15), (0, 9, 16, 17)]) (by decide) rfl (Nat.le_of_ble_eq_true rfl) ?_
  intro pp ee ss mm args below meth cc AA ls hx hcd hr hTab hts hown hlocks hml hZ hN hK hP hD hA hl
  have hS : va_S AA ss.heap ss.heap [] := va_S.rf
  have hown : ss.vm.findClass RL = some mm.cls := hown
  have hl : lv_has ls 6 [(0, .ref (ob 0)), (1, .int (nI a)), (2, .int (nI s)), (3, .int t), (4, .int y)] := hl
  refine lv_aload_n hx hcd dL_turnOn_0 rfl (lv_at hl 0 rfl) ?_
  refine lv_iload_n hx hcd dL_turnOn_1 rfl (lv_at hl 1 rfl) ?_
  refine lv_iload_n hx hcd dL_turnOn_2 rfl (lv_at hl 2 rfl) ?_
  refine lv_iload_n hx hcd dL_turnOn_3 rfl (lv_at hl 3 rfl) ?_
  refine lv_iload hx hcd dL_turnOn_4 (lv_at hl 4 rfl) ?_
  refine kl_V (As := [.int (nI a), .int (nI s), .int t, .int y]) (rest := []) (q := (RX6, TX6, 5)) ⟨hx, hcd, hml, hown, hts⟩ (c_X6_turnOn__e2 l D cI cB cW cL  _ M hst a s t y (ob 0) ha hs hg) (cwV 4 hts gL_turnOn_X6_turnOn rfl rfl rfl (by decide +kernel) ⟨Nat.le_of_ble_eq_true rfl, Nat.le_of_ble_eq_true rfl⟩) hZ hK hP hD hS hA [] rfl (by decide) 0 rfl rfl rfl hl.1 rfl (Nat.le_of_ble_eq_true rfl) dL_turnOn_6 ⟨Nat.le_of_ble_eq_true rfl, Nat.le_of_ble_eq_true rfl⟩ [⟨0, 9, 10, 15⟩] ⟨0, 9, 16, 17⟩ [] hTab (fun z hz => Or.inr (by rw [List.mem_singleton.mp hz]; exact ⟨by decide, eIO, hts (.classLink RL 15 "java/lang/IndexOutOfBoundsException") (by decide +kernel), hN _ (List.mem_of_getElem? (i := 0) rfl)⟩)) (by decide) (by decide) (hts (.classLink RL 17 "java/lang/IllegalArgumentException") (by decide +kernel)) (va_Nw.use rfl (hZ.2.2.2 (.castable "java/lang/IllegalArgumentException" "java/lang/IllegalArgumentException") (by decide +kernel))) (fun H locs q9 hP hD hS => ?_)
  refine lv_astore (lv' := [(5, .ref q9), (0, .ref (ob 0)), (1, .int (nI a)), (2, .int (nI s)), (3, .int t), (4, .int y)]) hx hcd dL_turnOn_16 hl (by decide) rfl (fun ls hl => ?_)
  refine lv_sipush (v := (-901)) hx hcd dL_turnOn_18 (by decide) ?_
  exact kr_iret hx hcd hr hlocks hK hP hD hS rfl rfl dL_turnOn_21

set_option maxHeartbeats 4000000 in
set_option maxRecDepth 100000 in
theorem c_L_turnOff__ok (l : Launch) (hst : l.stackTraces = false) (D : va_G) (cI cB cW cL : ClassId) (ob nw tr : Nat → Nat) (qs : Nat → Nat → Nat) (sc : Nat → Nat) (G : Nat → Option Nat) (N : kM) (S : Nat → kM) (n L : Nat) (T : Nat → Int32) (sz : Nat) (M : kM) (a : Nat) (s : Nat) (r : Nat) (hI : kInv M) (ha : a < 6) (hs : s < 3) (ho : g_on M a s = true) (hn : n ≤ 4) (hr : r < 4) : kMg l yL_turnOff wsL_turnOff ({ frames := 5, cells := 0, slots := 0, locals := 164 }) D vwCl (kT cI cB cW cL) sz [.ref (ob 0), .int (nI a), .int (nI s)] (wX cI cB cW ob nw tr qs sc (g_rot qs r) M N S n L T) (wX cI cB cW ob nw tr qs sc (g_rot qs (rj n r)) (g_turnOff M a s) N (sset S (pj n r) M) (g_kn n) L T) (g_cnt (g_turnOff M a s) a) 0 0 := by
  refine kr_ofh (cc := cL_turnOff) (maxL := 4) (ret := (some .int)) (hh := [(0, 6, 7, 15), (0, 6, 12, 39)]) (by decide) rfl (Nat.le_of_ble_eq_true rfl) ?_
  intro pp ee ss mm args below meth cc AA ls hx hcd hr hTab hts hown hlocks hml hZ hN hK hP hD hA hl
  have hS : va_S AA ss.heap ss.heap [] := va_S.rf
  have hown : ss.vm.findClass RL = some mm.cls := hown
  have hl : lv_has ls 4 [(0, .ref (ob 0)), (1, .int (nI a)), (2, .int (nI s))] := hl
  refine lv_aload_n hx hcd dL_turnOff_0 rfl (lv_at hl 0 rfl) ?_
  refine lv_iload_n hx hcd dL_turnOff_1 rfl (lv_at hl 1 rfl) ?_
  refine lv_iload_n hx hcd dL_turnOff_2 rfl (lv_at hl 2 rfl) ?_
  refine kr_Vi (As := [.int (nI a), .int (nI s)]) (rest := []) (ws2 := wX cI cB cW ob nw tr qs sc (g_rot qs (rj n r)) (g_turnOff M a s) N (sset S (pj n r) M) (g_kn n) L T) (q := (RX6, TX6, 5)) ⟨hx, hcd, hml, hown, hts⟩ (c_X6_turnOff__ok l D cI cB cW cL ob nw tr qs sc (g_rot qs r) N S n L T _ M a s r hI ha hs ho hn (by omega)) (cwV 2 hts gL_turnOff_X6_turnOff rfl rfl rfl (by decide +kernel) ⟨Nat.le_of_ble_eq_true rfl, Nat.le_of_ble_eq_true rfl⟩) hK hP hD hS hA [0, 1, 2, 3, 4, 5, 6, 7, 8, 9, 10, 11, 12, 13, 14, 15, 16, 17, 18, 19, 20, 21, 22, 23, 24, 25, 26, 27, 28, 29, 30, 31, 32, 33, 34, 35, 36, 37, 38, 39, 40, 41, 42, 43, 44, 45, 46, 47, 48, 49, 50, 51, 52, 53, 54, 55, 56, 57, 58, 59, 60, 61, 62, 63, 64, 65, 66, 67, 68, 69, 70, 71, 72, 73, 74, 75, 76, 77, 78, 79, 80, 81, 82, 83, 84, 85, 86, 87, 88, 89, 90, 91, 92, 93] wX_allC wX_nd wX_adr wX_all 0 rfl rfl rfl hl.1 rfl (Nat.le_of_ble_eq_true rfl) dL_turnOff_3 ⟨Nat.le_of_ble_eq_true rfl, Nat.le_of_ble_eq_true rfl⟩ (fun H locs hP hD hS => ?_)
  exact kr_iret hx hcd hr hlocks hK hP hD hS rfl rfl dL_turnOff_6

set_option maxHeartbeats 4000000 in
set_option maxRecDepth 100000 in
theorem c_L_turnOff__e1 (l : Launch) (hst : l.stackTraces = false) (D : va_G) (cI cB cW cL : ClassId) (ob nw tr : Nat → Nat) (qs : Nat → Nat → Nat) (sc : Nat → Nat) (G : Nat → Option Nat) (N : kM) (S : Nat → kM) (n L : Nat) (T : Nat → Int32) (sz : Nat) (M : kM) (u : Int32) (w : Int32) (hg : g_seatok u w = false) : kMg l yL_turnOff wsL_turnOff ({ frames := 9, cells := 1, slots := 6, locals := 145 }) D vwCl (kT cI cB cW cL) sz [.ref (ob 0), .int u, .int w] (wX cI cB cW ob nw tr qs sc G M N S n L T) (wX cI cB cW ob nw tr qs sc G M N S n L T) (-903) 1 6 := by
  refine kr_ofh (cc := cL_turnOff) (maxL := 4) (ret := (some .int)) (hh := [(0, 6, 7, 15), (0, 6, 12, 39)]) (by decide) rfl (Nat.le_of_ble_eq_true rfl) ?_
  intro pp ee ss mm args below meth cc AA ls hx hcd hr hTab hts hown hlocks hml hZ hN hK hP hD hA hl
  have hS : va_S AA ss.heap ss.heap [] := va_S.rf
  have hown : ss.vm.findClass RL = some mm.cls := hown
  have hl : lv_has ls 4 [(0, .ref (ob 0)), (1, .int u), (2, .int w)] := hl
  refine lv_aload_n hx hcd dL_turnOff_0 rfl (lv_at hl 0 rfl) ?_
  refine lv_iload_n hx hcd dL_turnOff_1 rfl (lv_at hl 1 rfl) ?_
  refine lv_iload_n hx hcd dL_turnOff_2 rfl (lv_at hl 2 rfl) ?_
  refine kl_V (As := [.int u, .int w]) (rest := []) (q := (RX6, TX6, 5)) ⟨hx, hcd, hml, hown, hts⟩ (c_X6_turnOff__e1 l D cI cB cW cL  _ M hst u w (ob 0) hg) (cwV 2 hts gL_turnOff_X6_turnOff rfl rfl rfl (by decide +kernel) ⟨Nat.le_of_ble_eq_true rfl, Nat.le_of_ble_eq_true rfl⟩) hZ hK hP hD hS hA [] rfl (by decide) 0 rfl rfl rfl hl.1 rfl (Nat.le_of_ble_eq_true rfl) dL_turnOff_3 ⟨Nat.le_of_ble_eq_true rfl, Nat.le_of_ble_eq_true rfl⟩ [] ⟨0, 6, 7, 15⟩ [⟨0, 6, 12, 39⟩] hTab (fun z hz => absurd hz List.not_mem_nil) (by decide) (by decide) (hts (.classLink RL 15 "java/lang/IndexOutOfBoundsException") (by decide +kernel)) (va_Nw.use rfl (hZ.2.2.2 (.castable "java/lang/IndexOutOfBoundsException" "java/lang/IndexOutOfBoundsException") (by decide +kernel))) (fun H locs q9 hP hD hS => ?_)
  refine lv_astore_n (lv' := [(3, .ref q9), (0, .ref (ob 0)), (1, .int u), (2, .int w)]) hx hcd dL_turnOff_7 rfl hl (by decide) rfl (fun ls hl => ?_)
  refine lv_sipush (v := (-903)) hx hcd dL_turnOff_8 (by decide) ?_
  exact kr_iret hx hcd hr hlocks hK hP hD hS rfl rfl dL_turnOff_11

set_option maxHeartbeats 4000000 in
set_option maxRecDepth 100000 in
theorem c_L_turnOff__e2 (l : Launch) (hst : l.stackTraces = false) (D : va_G) (cI cB cW cL : ClassId) (ob nw tr : Nat → Nat) (qs : Nat → Nat → Nat) (sc : Nat → Nat) (G : Nat → Option Nat) (N : kM) (S : Nat → kM) (n L : Nat) (T : Nat → Int32) (sz : Nat) (M : kM) (a : Nat) (s : Nat) (ha : a < 6) (hs : s < 3) (ho : g_on M a s = false) : kMg l yL_turnOff wsL_turnOff ({ frames := 7, cells := 1, slots := 6, locals := 104 }) D vwCl (kT cI cB cW cL) sz [.ref (ob 0), .int (nI a), .int (nI s)] (wX cI cB cW ob nw tr qs sc G M N S n L T) (wX cI cB cW ob nw tr qs sc G M N S n L T) (-902) 1 6 := by
  refine kr_ofh (cc := cL_turnOff) (maxL := 4) (ret := (some .int)) (hh := [(0, 6, 7, 15), (0, 6, 12, 39)]) (by decide) rfl (Nat.le_of_ble_eq_true rfl) ?_
  intro pp ee ss mm args below meth cc AA ls hx hcd hr hTab hts hown hlocks hml hZ hN hK hP hD hA hl
  have hS : va_S AA ss.heap ss.heap [] := va_S.rf
  have hown : ss.vm.findClass RL = some mm.cls := hown
  have hl : lv_has ls 4 [(0, .ref (ob 0)), (1, .int (nI a)), (2, .int (nI s))] := hl
  refine lv_aload_n hx hcd dL_turnOff_0 rfl (lv_at hl 0 rfl) ?_
  refine lv_iload_n hx hcd dL_turnOff_1 rfl (lv_at hl 1 rfl) ?_
  refine lv_iload_n hx hcd dL_turnOff_2 rfl (lv_at hl 2 rfl) ?_
  refine kl_V (As := [.int (nI a), .int (nI s)]) (rest := []) (q := (RX6, TX6, 5)) ⟨hx, hcd, hml, hown, hts⟩ (c_X6_turnOff__e2 l D cI cB cW cL ob nw tr qs sc G N S n L T _ M hst a s ha hs ho) (cwV 2 hts gL_turnOff_X6_turnOff rfl rfl rfl (by decide +kernel) ⟨Nat.le_of_ble_eq_true rfl, Nat.le_of_ble_eq_true rfl⟩) hZ hK hP hD hS hA [0, 1, 2, 3, 4, 5, 6, 7, 8, 9, 10, 11, 12, 13, 14, 15, 16, 17, 18, 19, 20, 21, 22, 23, 24, 25, 26, 27, 28, 29, 30, 31, 32, 33, 34, 35, 36, 37, 38, 39, 40, 41, 42, 43, 44, 45, 46, 47, 48, 49, 50, 51, 52, 53, 54, 55, 56, 57, 58, 59, 60, 61, 62, 63, 64, 65, 66, 67, 68, 69, 70, 71, 72, 73, 74, 75, 76, 77, 78, 79, 80, 81, 82, 83, 84, 85, 86, 87, 88, 89, 90, 91, 92, 93] wX_allC wX_nd 0 rfl rfl rfl hl.1 rfl (Nat.le_of_ble_eq_true rfl) dL_turnOff_3 ⟨Nat.le_of_ble_eq_true rfl, Nat.le_of_ble_eq_true rfl⟩ [⟨0, 6, 7, 15⟩] ⟨0, 6, 12, 39⟩ [] hTab (fun z hz => Or.inr (by rw [List.mem_singleton.mp hz]; exact ⟨by decide, eIO, hts (.classLink RL 15 "java/lang/IndexOutOfBoundsException") (by decide +kernel), hN _ (List.mem_of_getElem? (i := 1) rfl)⟩)) (by decide) (by decide) (hts (.classLink RL 39 "java/lang/IllegalStateException") (by decide +kernel)) (va_Nw.use rfl (hZ.2.2.2 (.castable "java/lang/IllegalStateException" "java/lang/IllegalStateException") (by decide +kernel))) (fun H locs q9 hP hD hS => ?_)
  refine lv_astore_n (lv' := [(3, .ref q9), (0, .ref (ob 0)), (1, .int (nI a)), (2, .int (nI s))]) hx hcd dL_turnOff_12 rfl hl (by decide) rfl (fun ls hl => ?_)
  refine lv_sipush (v := (-902)) hx hcd dL_turnOff_13 (by decide) ?_
  exact kr_iret hx hcd hr hlocks hK hP hD hS rfl rfl dL_turnOff_16

set_option maxHeartbeats 4000000 in
set_option maxRecDepth 100000 in
theorem c_L_bestSeat__ok (l : Launch) (hst : l.stackTraces = false) (D : va_G) (cI cB cW cL : ClassId) (ob nw tr : Nat → Nat) (qs : Nat → Nat → Nat) (sc : Nat → Nat) (G : Nat → Option Nat) (N : kM) (S : Nat → kM) (n L : Nat) (T : Nat → Int32) (sz : Nat) (M : kM) (a : Nat) (ha : a < 6) : kMg l yL_bestSeat wsL_bestSeat ({ frames := 3, cells := 0, slots := 0, locals := 68 }) D vwCl (kT cI cB cW cL) sz [.ref (ob 0), .int (nI a)] (wX cI cB cW ob nw tr qs sc G M N S n L T) (wX cI cB cW ob nw tr qs sc G M N S n L T) ((g_bst M a 3).1) 0 0 := by
  refine kr_ofh (cc := cL_bestSeat) (maxL := 3) (ret := (some .int)) (hh := [(0, 5, 6, 15)]) (by decide) rfl (Nat.le_of_ble_eq_true rfl) ?_
  intro pp ee ss mm args below meth cc AA ls hx hcd hr hTab hts hown hlocks hml hZ hN hK hP hD hA hl
  have hS : va_S AA ss.heap ss.heap [] := va_S.rf
  have hown : ss.vm.findClass RL = some mm.cls := hown
  have hl : lv_has ls 3 [(0, .ref (ob 0)), (1, .int (nI a))] := hl
  refine lv_aload_n hx hcd dL_bestSeat_0 rfl (lv_at hl 0 rfl) ?_
  refine lv_iload_n hx hcd dL_bestSeat_1 rfl (lv_at hl 1 rfl) ?_
  refine kr_Vi (As := [.int (nI a)]) (rest := []) (ws2 := wX cI cB cW ob nw tr qs sc G M N S n L T) (q := (RX6, TX6, 5)) ⟨hx, hcd, hml, hown, hts⟩ (c_X6_bestSeat__ok l D cI cB cW cL ob nw tr qs sc G N S n L T _ M a ha) (cwV 1 hts gL_bestSeat_X6_bestSeat rfl rfl rfl (by decide +kernel) ⟨Nat.le_of_ble_eq_true rfl, Nat.le_of_ble_eq_true rfl⟩) hK hP hD hS hA [0, 1, 2, 3, 4, 5, 6, 7, 8, 9, 10, 11, 12, 13, 14, 15, 16, 17, 18, 19, 20, 21, 22, 23, 24, 25, 26, 27, 28, 29, 30, 31, 32, 33, 34, 35, 36, 37, 38, 39, 40, 41, 42, 43, 44, 45, 46, 47, 48, 49, 50, 51, 52, 53, 54, 55, 56, 57, 58, 59, 60, 61, 62, 63, 64, 65, 66, 67, 68, 69, 70, 71, 72, 73, 74, 75, 76, 77, 78, 79, 80, 81, 82, 83, 84, 85, 86, 87, 88, 89, 90, 91, 92, 93] wX_allC wX_nd wX_adr wX_all 0 rfl rfl rfl hl.1 rfl (Nat.le_of_ble_eq_true rfl) dL_bestSeat_2 ⟨Nat.le_of_ble_eq_true rfl, Nat.le_of_ble_eq_true rfl⟩ (fun H locs hP hD hS => ?_)
  exact kr_iret hx hcd hr hlocks hK hP hD hS rfl rfl dL_bestSeat_5

set_option maxHeartbeats 4000000 in
set_option maxRecDepth 100000 in
theorem c_L_bestSeat__e1 (l : Launch) (hst : l.stackTraces = false) (D : va_G) (cI cB cW cL : ClassId) (ob nw tr : Nat → Nat) (qs : Nat → Nat → Nat) (sc : Nat → Nat) (G : Nat → Option Nat) (N : kM) (S : Nat → kM) (n L : Nat) (T : Nat → Int32) (sz : Nat) (M : kM) (u : Int32) (hg : g_usr u = false) : kMg l yL_bestSeat wsL_bestSeat ({ frames := 8, cells := 1, slots := 6, locals := 123 }) D vwCl (kT cI cB cW cL) sz [.ref (ob 0), .int u] (wX cI cB cW ob nw tr qs sc G M N S n L T) (wX cI cB cW ob nw tr qs sc G M N S n L T) (-903) 1 6 := by
  refine kr_ofh (cc := cL_bestSeat) (maxL := 3) (ret := (some .int)) (hh := [(0, 5, 6, 15)]) (by decide) rfl (Nat.le_of_ble_eq_true rfl) ?_
  intro pp ee ss mm args below meth cc AA ls hx hcd hr hTab hts hown hlocks hml hZ hN hK hP hD hA hl
  have hS : va_S AA ss.heap ss.heap [] := va_S.rf
  have hown : ss.vm.findClass RL = some mm.cls := hown
  have hl : lv_has ls 3 [(0, .ref (ob 0)), (1, .int u)] := hl
  refine lv_aload_n hx hcd dL_bestSeat_0 rfl (lv_at hl 0 rfl) ?_
  refine lv_iload_n hx hcd dL_bestSeat_1 rfl (lv_at hl 1 rfl) ?_
  refine kl_V (As := [.int u]) (rest := []) (q := (RX6, TX6, 5)) ⟨hx, hcd, hml, hown, hts⟩ (c_X6_bestSeat__e1 l D cI cB cW cL  _ M hst u (ob 0) hg) (cwV 1 hts gL_bestSeat_X6_bestSeat rfl rfl rfl (by decide +kernel) ⟨Nat.le_of_ble_eq_true rfl, Nat.le_of_ble_eq_true rfl⟩) hZ hK hP hD hS hA [] rfl (by decide) 0 rfl rfl rfl hl.1 rfl (Nat.le_of_ble_eq_true rfl) dL_bestSeat_2 ⟨Nat.le_of_ble_eq_true rfl, Nat.le_of_ble_eq_true rfl⟩ [] ⟨0, 5, 6, 15⟩ [] hTab (fun z hz => absurd hz List.not_mem_nil) (by decide) (by decide) (hts (.classLink RL 15 "java/lang/IndexOutOfBoundsException") (by decide +kernel)) (va_Nw.use rfl (hZ.2.2.2 (.castable "java/lang/IndexOutOfBoundsException" "java/lang/IndexOutOfBoundsException") (by decide +kernel))) (fun H locs q9 hP hD hS => ?_)
  refine lv_astore_n (lv' := [(2, .ref q9), (0, .ref (ob 0)), (1, .int u)]) hx hcd dL_bestSeat_6 rfl hl (by decide) rfl (fun ls hl => ?_)
  refine lv_sipush (v := (-903)) hx hcd dL_bestSeat_7 (by decide) ?_
  exact kr_iret hx hcd hr hlocks hK hP hD hS rfl rfl dL_bestSeat_10

set_option maxHeartbeats 4000000 in
set_option maxRecDepth 100000 in
theorem c_L_seat__ok (l : Launch) (hst : l.stackTraces = false) (D : va_G) (cI cB cW cL : ClassId) (ob nw tr : Nat → Nat) (qs : Nat → Nat → Nat) (sc : Nat → Nat) (G : Nat → Option Nat) (N : kM) (S : Nat → kM) (n L : Nat) (T : Nat → Int32) (sz : Nat) (M : kM) (a : Nat) (s : Nat) (wh : Nat) (ha : a < 6) (hs : s < 3) (hwh : wh < 3) : kMg l yL_seat wsL_seat ({ frames := 3, cells := 0, slots := 0, locals := 64 }) D vwCl (kT cI cB cW cL) sz [.ref (ob 0), .int (nI a), .int (nI s), .int (nI wh)] (wX cI cB cW ob nw tr qs sc G M N S n L T) (wX cI cB cW ob nw tr qs sc G M N S n L T) (M (9 * a + 3 * s + wh)) 0 0 := by
  refine kr_ofh (cc := cL_seat) (maxL := 5) (ret := (some .int)) (hh := [(0, 7, 8, 15), (0, 7, 14, 17)]) (by decide) rfl (Nat.le_of_ble_eq_true rfl) ?_
  intro pp ee ss mm args below meth cc AA ls hx hcd hr hTab hts hown hlocks hml hZ hN hK hP hD hA hl
  have hS : va_S AA ss.heap ss.heap [] := va_S.rf
  have hown : ss.vm.findClass RL = some mm.cls := hown
  have hl : lv_has ls 5 [(0, .ref (ob 0)), (1, .int (nI a)), (2, .int (nI s)), (3, .int (nI wh))] := hl
  refine lv_aload_n hx hcd dL_seat_0 rfl (lv_at hl 0 rfl) ?_
  refine lv_iload_n hx hcd dL_seat_1 rfl (lv_at hl 1 rfl) ?_
  refine lv_iload_n hx hcd dL_seat_2 rfl (lv_at hl 2 rfl) ?_
  refine lv_iload_n hx hcd dL_seat_3 rfl (lv_at hl 3 rfl) ?_
  refine kr_Vi (As := [.int (nI a), .int (nI s), .int (nI wh)]) (rest := []) (ws2 := wX cI cB cW ob nw tr qs sc G M N S n L T) (q := (RX6, TX6, 5)) ⟨hx, hcd, hml, hown, hts⟩ (c_X6_seat__ok l D cI cB cW cL ob nw tr qs sc G N S n L T _ M a s wh ha hs hwh) (cwV 3 hts gL_seat_X6_seat rfl rfl rfl (by decide +kernel) ⟨Nat.le_of_ble_eq_true rfl, Nat.le_of_ble_eq_true rfl⟩) hK hP hD hS hA [0, 1, 2, 3, 4, 5, 6, 7, 8, 9, 10, 11, 12, 13, 14, 15, 16, 17, 18, 19, 20, 21, 22, 23, 24, 25, 26, 27, 28, 29, 30, 31, 32, 33, 34, 35, 36, 37, 38, 39, 40, 41, 42, 43, 44, 45, 46, 47, 48, 49, 50, 51, 52, 53, 54, 55, 56, 57, 58, 59, 60, 61, 62, 63, 64, 65, 66, 67, 68, 69, 70, 71, 72, 73, 74, 75, 76, 77, 78, 79, 80, 81, 82, 83, 84, 85, 86, 87, 88, 89, 90, 91, 92, 93] wX_allC wX_nd wX_adr wX_all 0 rfl rfl rfl hl.1 rfl (Nat.le_of_ble_eq_true rfl) dL_seat_4 ⟨Nat.le_of_ble_eq_true rfl, Nat.le_of_ble_eq_true rfl⟩ (fun H locs hP hD hS => ?_)
  exact kr_iret hx hcd hr hlocks hK hP hD hS rfl rfl dL_seat_7
