set_option maxHeartbeats 4000000 in
set_option maxRecDepth 100000 in
theorem c_X6_checkUser__e1 (l : Launch) (D : va_G) (cI cB cW cL : ClassId)  (sz : Nat) (M : kM) (hst : l.stackTraces = false) (u : Int32) (hg : g_usr u = false) : kMx l yX6_checkUser wsX6_checkUser ({ frames := 6, cells := 1, slots := 6, locals := 82 }) D vwCl (kT cI cB cW cL) sz [.int u] ([]) eIO := by
  refine kr_ofx (cc := cX6_checkUser) (maxL := 1) (ret := none) (by decide) rfl (Nat.le_of_ble_eq_true rfl) ?_
  intro pp ee ss mm args below meth cc AA ls hx hcd hno hts hown hlocks hml hZ hK hP hD hA hl
  have hS : va_S AA ss.heap ss.heap [] := va_S.rf
  have hown : ss.vm.findClass RX6 = some mm.cls := hown
  have hl : lv_has ls 1 [(0, .int u)] := hl
  refine lv_iload_n hx hcd dX6_checkUser_0 rfl (lv_at hl 0 rfl) ?_
  refine lv_if_lt (tgt := 10) hx hcd dX6_checkUser_1 (by decide) (fun (c_1 : u < 0) => ?_) (fun (c_1 : ¬ u < 0) => ?_)
  · exact kx_throw (ik := 227) (is := 229) (ic := 231) (text := "there is no such user") rfl hst hx hcd hown hts (by decide +kernel) (by decide +kernel) (by decide +kernel) (by decide +kernel) (by decide +kernel) (by decide +kernel) (by decide +kernel) hZ hno hlocks hK hP hD hS (by rw [hml]; exact hl.1) dX6_checkUser_10 dX6_checkUser_13 dX6_checkUser_14 dX6_checkUser_16 dX6_checkUser_19 ⟨Nat.le_of_ble_eq_true rfl, Nat.le_of_ble_eq_true rfl, Nat.le_of_ble_eq_true rfl, Nat.le_of_ble_eq_true rfl⟩
  · refine lv_iload_n hx hcd dX6_checkUser_4 rfl (lv_at hl 0 rfl) ?_
    refine lv_bipush (v := nI 6) hx hcd dX6_checkUser_5 (by decide) ?_
    refine lv_icmp_lt (tgt := 20) hx hcd dX6_checkUser_7 (by decide) (fun (c_7 : u < 6) => absurd c_7 (fun h => dig_no hg c_1 h)) (fun (c_7 : ¬ u < 6) => ?_)
    exact kx_throw (ik := 227) (is := 229) (ic := 231) (text := "there is no such user") rfl hst hx hcd hown hts (by decide +kernel) (by decide +kernel) (by decide +kernel) (by decide +kernel) (by decide +kernel) (by decide +kernel) (by decide +kernel) hZ hno hlocks hK hP hD hS (by rw [hml]; exact hl.1) dX6_checkUser_10 dX6_checkUser_13 dX6_checkUser_14 dX6_checkUser_16 dX6_checkUser_19 ⟨Nat.le_of_ble_eq_true rfl, Nat.le_of_ble_eq_true rfl, Nat.le_of_ble_eq_true rfl, Nat.le_of_ble_eq_true rfl⟩

set_option maxHeartbeats 4000000 in
set_option maxRecDepth 100000 in
theorem c_X6_checkPair__a1 (l : Launch) (D : va_G) (cI cB cW cL : ClassId)  (sz : Nat) (M : kM) (hst : l.stackTraces = false) (u : Int32) (w : Int32) (hg : g_usr u = false) : kMx l yX6_checkPair wsX6_checkPair ({ frames := 7, cells := 1, slots := 6, locals := 102 }) D vwCl (kT cI cB cW cL) sz [.int u, .int w] ([]) eIO := by
  refine kr_ofx (cc := cX6_checkPair) (maxL := 2) (ret := none) (by decide) rfl (Nat.le_of_ble_eq_true rfl) ?_
  intro pp ee ss mm args below meth cc AA ls hx hcd hno hts hown hlocks hml hZ hK hP hD hA hl
  have hS : va_S AA ss.heap ss.heap [] := va_S.rf
  have hown : ss.vm.findClass RX6 = some mm.cls := hown
  have hl : lv_has ls 2 [(0, .int u), (1, .int w)] := hl
  refine lv_iload_n hx hcd dX6_checkPair_0 rfl (lv_at hl 0 rfl) ?_
  exact kx_S (Qz := kQ0) (As := [.int u]) (rest := []) ⟨hx, hcd, hml, hown, hts⟩ (c_X6_checkUser__e1 l D cI cB cW cL  _ M hst u hg) (va_cwS 1 hts gX6_checkPair_X6_checkUser rfl rfl rfl (by decide +kernel) ⟨Nat.le_of_ble_eq_true rfl, Nat.le_of_ble_eq_true rfl⟩) hZ hno hlocks hK hP hD hS hA [] rfl (by decide) rfl hl.1 rfl (Nat.le_of_ble_eq_true rfl) dX6_checkPair_1 ⟨Nat.le_of_ble_eq_true rfl, Nat.le_of_ble_eq_true rfl⟩

set_option maxHeartbeats 4000000 in
set_option maxRecDepth 100000 in
theorem c_X6_checkPair__a2 (l : Launch) (D : va_G) (cI cB cW cL : ClassId)  (sz : Nat) (M : kM) (hst : l.stackTraces = false) (a : Nat) (w : Int32) (ha : a < 6) (hg : g_usr w = false) : kMx l yX6_checkPair wsX6_checkPair ({ frames := 7, cells := 1, slots := 6, locals := 102 }) D vwCl (kT cI cB cW cL) sz [.int (nI a), .int w] ([]) eIO := by
  refine kr_ofx (cc := cX6_checkPair) (maxL := 2) (ret := none) (by decide) rfl (Nat.le_of_ble_eq_true rfl) ?_
  intro pp ee ss mm args below meth cc AA ls hx hcd hno hts hown hlocks hml hZ hK hP hD hA hl
  have hS : va_S AA ss.heap ss.heap [] := va_S.rf
  have hown : ss.vm.findClass RX6 = some mm.cls := hown
  have hl : lv_has ls 2 [(0, .int (nI a)), (1, .int w)] := hl
  refine lv_iload_n hx hcd dX6_checkPair_0 rfl (lv_at hl 0 rfl) ?_
  refine kr_Sv (As := [.int (nI a)]) (rest := []) (ws2 := []) ⟨hx, hcd, hml, hown, hts⟩ (c_X6_checkUser__ok l D cI cB cW cL  _ M a (by omega)) (va_cwS 1 hts gX6_checkPair_X6_checkUser rfl rfl rfl (by decide +kernel) ⟨Nat.le_of_ble_eq_true rfl, Nat.le_of_ble_eq_true rfl⟩) hK hP hD hS hA [] rfl (by decide) rfl rfl rfl hl.1 rfl (Nat.le_of_ble_eq_true rfl) dX6_checkPair_1 ⟨Nat.zero_le _, Nat.zero_le _⟩ (fun H locs hP hD hS => ?_)
  refine lv_iload_n hx hcd dX6_checkPair_4 rfl (lv_at hl 1 rfl) ?_
  exact kx_S (Qz := kQ0) (As := [.int w]) (rest := []) ⟨hx, hcd, hml, hown, hts⟩ (c_X6_checkUser__e1 l D cI cB cW cL  _ M hst w hg) (va_cwS 1 hts gX6_checkPair_X6_checkUser rfl rfl rfl (by decide +kernel) ⟨Nat.le_of_ble_eq_true rfl, Nat.le_of_ble_eq_true rfl⟩) hZ hno hlocks hK hP hD hS hA [] rfl (by decide) rfl hl.1 rfl (Nat.le_of_ble_eq_true rfl) dX6_checkPair_5 ⟨Nat.le_of_ble_eq_true rfl, Nat.le_of_ble_eq_true rfl⟩

set_option maxHeartbeats 4000000 in
set_option maxRecDepth 100000 in
theorem c_X6_checkPair__a3 (l : Launch) (D : va_G) (cI cB cW cL : ClassId)  (sz : Nat) (M : kM) (hst : l.stackTraces = false) (a : Nat) (ha : a < 6) : kMx l yX6_checkPair wsX6_checkPair ({ frames := 7, cells := 1, slots := 6, locals := 102 }) D vwCl (kT cI cB cW cL) sz [.int (nI a), .int (nI a)] ([]) eIA := by
  refine kr_ofx (cc := cX6_checkPair) (maxL := 2) (ret := none) (by decide) rfl (Nat.le_of_ble_eq_true rfl) ?_
  intro pp ee ss mm args below meth cc AA ls hx hcd hno hts hown hlocks hml hZ hK hP hD hA hl
  have hS : va_S AA ss.heap ss.heap [] := va_S.rf
  have hown : ss.vm.findClass RX6 = some mm.cls := hown
  have hl : lv_has ls 2 [(0, .int (nI a)), (1, .int (nI a))] := hl
  refine lv_iload_n hx hcd dX6_checkPair_0 rfl (lv_at hl 0 rfl) ?_
  refine kr_Sv (As := [.int (nI a)]) (rest := []) (ws2 := []) ⟨hx, hcd, hml, hown, hts⟩ (c_X6_checkUser__ok l D cI cB cW cL  _ M a (by omega)) (va_cwS 1 hts gX6_checkPair_X6_checkUser rfl rfl rfl (by decide +kernel) ⟨Nat.le_of_ble_eq_true rfl, Nat.le_of_ble_eq_true rfl⟩) hK hP hD hS hA [] rfl (by decide) rfl rfl rfl hl.1 rfl (Nat.le_of_ble_eq_true rfl) dX6_checkPair_1 ⟨Nat.zero_le _, Nat.zero_le _⟩ (fun H locs hP hD hS => ?_)
  refine lv_iload_n hx hcd dX6_checkPair_4 rfl (lv_at hl 1 rfl) ?_
  refine kr_Sv (As := [.int (nI a)]) (rest := []) (ws2 := []) ⟨hx, hcd, hml, hown, hts⟩ (c_X6_checkUser__ok l D cI cB cW cL  _ M a (by omega)) (va_cwS 1 hts gX6_checkPair_X6_checkUser rfl rfl rfl (by decide +kernel) ⟨Nat.le_of_ble_eq_true rfl, Nat.le_of_ble_eq_true rfl⟩) hK hP hD hS hA [] rfl (by decide) rfl rfl rfl hl.1 rfl (Nat.le_of_ble_eq_true rfl) dX6_checkPair_5 ⟨Nat.zero_le _, Nat.zero_le _⟩ (fun H locs hP hD hS => ?_)
  refine lv_iload_n hx hcd dX6_checkPair_8 rfl (lv_at hl 0 rfl) ?_
  refine lv_iload_n hx hcd dX6_checkPair_9 rfl (lv_at hl 1 rfl) ?_
  refine kr_cne (tgt := 23) hx hcd (by omega) (by omega) dX6_checkPair_10 (by decide) (fun (c_10 : ¬ a = a) => absurd c_10 (not_not_intro rfl)) (fun (c_10 : a = a) => ?_)
  exact kx_throw (ik := 57) (is := 232) (ic := 61) (text := "both are the same user") rfl hst hx hcd hown hts (by decide +kernel) (by decide +kernel) (by decide +kernel) (by decide +kernel) (by decide +kernel) (by decide +kernel) (by decide +kernel) hZ hno hlocks hK hP hD hS (by rw [hml]; exact hl.1) dX6_checkPair_13 dX6_checkPair_16 dX6_checkPair_17 dX6_checkPair_19 dX6_checkPair_22 ⟨Nat.le_of_ble_eq_true rfl, Nat.le_of_ble_eq_true rfl, Nat.le_of_ble_eq_true rfl, Nat.le_of_ble_eq_true rfl⟩

set_option maxHeartbeats 4000000 in
set_option maxRecDepth 100000 in
theorem c_X6_checkSeat__a1 (l : Launch) (D : va_G) (cI cB cW cL : ClassId)  (sz : Nat) (M : kM) (hst : l.stackTraces = false) (u : Int32) (w : Int32) (hg : g_usr u = false) : kMx l yX6_checkSeat wsX6_checkSeat ({ frames := 7, cells := 1, slots := 6, locals := 102 }) D vwCl (kT cI cB cW cL) sz [.int u, .int w] ([]) eIO := by
  refine kr_ofx (cc := cX6_checkSeat) (maxL := 2) (ret := none) (by decide) rfl (Nat.le_of_ble_eq_true rfl) ?_
  intro pp ee ss mm args below meth cc AA ls hx hcd hno hts hown hlocks hml hZ hK hP hD hA hl
  have hS : va_S AA ss.heap ss.heap [] := va_S.rf
  have hown : ss.vm.findClass RX6 = some mm.cls := hown
  have hl : lv_has ls 2 [(0, .int u), (1, .int w)] := hl
  refine lv_iload_n hx hcd dX6_checkSeat_0 rfl (lv_at hl 0 rfl) ?_
  exact kx_S (Qz := kQ0) (As := [.int u]) (rest := []) ⟨hx, hcd, hml, hown, hts⟩ (c_X6_checkUser__e1 l D cI cB cW cL  _ M hst u hg) (va_cwS 1 hts gX6_checkSeat_X6_checkUser rfl rfl rfl (by decide +kernel) ⟨Nat.le_of_ble_eq_true rfl, Nat.le_of_ble_eq_true rfl⟩) hZ hno hlocks hK hP hD hS hA [] rfl (by decide) rfl hl.1 rfl (Nat.le_of_ble_eq_true rfl) dX6_checkSeat_1 ⟨Nat.le_of_ble_eq_true rfl, Nat.le_of_ble_eq_true rfl⟩

set_option maxHeartbeats 4000000 in
set_option maxRecDepth 100000 in
theorem c_X6_checkSeat__a2 (l : Launch) (D : va_G) (cI cB cW cL : ClassId)  (sz : Nat) (M : kM) (hst : l.stackTraces = false) (a : Nat) (w : Int32) (ha : a < 6) (hg : g_in w 0 2 = false) : kMx l yX6_checkSeat wsX6_checkSeat ({ frames := 7, cells := 1, slots := 6, locals := 102 }) D vwCl (kT cI cB cW cL) sz [.int (nI a), .int w] ([]) eIO := by
  refine kr_ofx (cc := cX6_checkSeat) (maxL := 2) (ret := none) (by decide) rfl (Nat.le_of_ble_eq_true rfl) ?_
  intro pp ee ss mm args below meth cc AA ls hx hcd hno hts hown hlocks hml hZ hK hP hD hA hl
  have hS : va_S AA ss.heap ss.heap [] := va_S.rf
  have hown : ss.vm.findClass RX6 = some mm.cls := hown
  have hl : lv_has ls 2 [(0, .int (nI a)), (1, .int w)] := hl
  refine lv_iload_n hx hcd dX6_checkSeat_0 rfl (lv_at hl 0 rfl) ?_
  refine kr_Sv (As := [.int (nI a)]) (rest := []) (ws2 := []) ⟨hx, hcd, hml, hown, hts⟩ (c_X6_checkUser__ok l D cI cB cW cL  _ M a (by omega)) (va_cwS 1 hts gX6_checkSeat_X6_checkUser rfl rfl rfl (by decide +kernel) ⟨Nat.le_of_ble_eq_true rfl, Nat.le_of_ble_eq_true rfl⟩) hK hP hD hS hA [] rfl (by decide) rfl rfl rfl hl.1 rfl (Nat.le_of_ble_eq_true rfl) dX6_checkSeat_1 ⟨Nat.zero_le _, Nat.zero_le _⟩ (fun H locs hP hD hS => ?_)
  refine lv_iload_n hx hcd dX6_checkSeat_4 rfl (lv_at hl 1 rfl) ?_
  refine lv_if_lt (tgt := 13) hx hcd dX6_checkSeat_5 (by decide) (fun (c_5 : w < 0) => ?_) (fun (c_5 : ¬ w < 0) => ?_)
  · exact kx_throw (ik := 227) (is := 234) (ic := 231) (text := "there is no such seat") rfl hst hx hcd hown hts (by decide +kernel) (by decide +kernel) (by decide +kernel) (by decide +kernel) (by decide +kernel) (by decide +kernel) (by decide +kernel) hZ hno hlocks hK hP hD hS (by rw [hml]; exact hl.1) dX6_checkSeat_13 dX6_checkSeat_16 dX6_checkSeat_17 dX6_checkSeat_19 dX6_checkSeat_22 ⟨Nat.le_of_ble_eq_true rfl, Nat.le_of_ble_eq_true rfl, Nat.le_of_ble_eq_true rfl, Nat.le_of_ble_eq_true rfl⟩
  · refine lv_iload_n hx hcd dX6_checkSeat_8 rfl (lv_at hl 1 rfl) ?_
    refine lv_iconst (v := nI 3) hx hcd dX6_checkSeat_9 (by decide) ?_
    refine lv_icmp_lt (tgt := 23) hx hcd dX6_checkSeat_10 (by decide) (fun (c_10 : w < 3) => absurd c_10 (in_off (hi := 2) (by omega) hg c_5)) (fun (c_10 : ¬ w < 3) => ?_)
    exact kx_throw (ik := 227) (is := 234) (ic := 231) (text := "there is no such seat") rfl hst hx hcd hown hts (by decide +kernel) (by decide +kernel) (by decide +kernel) (by decide +kernel) (by decide +kernel) (by decide +kernel) (by decide +kernel) hZ hno hlocks hK hP hD hS (by rw [hml]; exact hl.1) dX6_checkSeat_13 dX6_checkSeat_16 dX6_checkSeat_17 dX6_checkSeat_19 dX6_checkSeat_22 ⟨Nat.le_of_ble_eq_true rfl, Nat.le_of_ble_eq_true rfl, Nat.le_of_ble_eq_true rfl, Nat.le_of_ble_eq_true rfl⟩

set_option maxHeartbeats 4000000 in
set_option maxRecDepth 100000 in
theorem c_X6_checkWhat__e1 (l : Launch) (D : va_G) (cI cB cW cL : ClassId)  (sz : Nat) (M : kM) (hst : l.stackTraces = false) (w : Int32) (m : Nat) (hg : g_in w 0 (nI (m - 1)) = false) (hm : 0 < m ∧ m < 1000) : kMx l yX6_checkWhat wsX6_checkWhat ({ frames := 6, cells := 1, slots := 6, locals := 82 }) D vwCl (kT cI cB cW cL) sz [.int w, .int (nI m)] ([]) eIA := by
  refine kr_ofx (cc := cX6_checkWhat) (maxL := 2) (ret := none) (by decide) rfl (Nat.le_of_ble_eq_true rfl) ?_
  intro pp ee ss mm args below meth cc AA ls hx hcd hno hts hown hlocks hml hZ hK hP hD hA hl
  have hS : va_S AA ss.heap ss.heap [] := va_S.rf
  have hown : ss.vm.findClass RX6 = some mm.cls := hown
  have hl : lv_has ls 2 [(0, .int w), (1, .int (nI m))] := hl
  refine lv_iload_n hx hcd dX6_checkWhat_0 rfl (lv_at hl 0 rfl) ?_
  refine lv_if_lt (tgt := 9) hx hcd dX6_checkWhat_1 (by decide) (fun (c_1 : w < 0) => ?_) (fun (c_1 : ¬ w < 0) => ?_)
  · exact kx_throw (ik := 57) (is := 236) (ic := 61) (text := "what is out of range") rfl hst hx hcd hown hts (by decide +kernel) (by decide +kernel) (by decide +kernel) (by decide +kernel) (by decide +kernel) (by decide +kernel) (by decide +kernel) hZ hno hlocks hK hP hD hS (by rw [hml]; exact hl.1) dX6_checkWhat_9 dX6_checkWhat_12 dX6_checkWhat_13 dX6_checkWhat_15 dX6_checkWhat_18 ⟨Nat.le_of_ble_eq_true rfl, Nat.le_of_ble_eq_true rfl, Nat.le_of_ble_eq_true rfl, Nat.le_of_ble_eq_true rfl⟩
  · refine lv_iload_n hx hcd dX6_checkWhat_4 rfl (lv_at hl 0 rfl) ?_
    refine lv_iload_n hx hcd dX6_checkWhat_5 rfl (lv_at hl 1 rfl) ?_
    refine lv_icmp_lt (tgt := 19) hx hcd dX6_checkWhat_6 (by decide) (fun (c_6 : w < (nI m)) => absurd c_6 (fun h => in_off (hi := m - 1) (by omega) hg c_1 (by rw [show m - 1 + 1 = m by omega]; exact h))) (fun (c_6 : ¬ w < (nI m)) => ?_)
    exact kx_throw (ik := 57) (is := 236) (ic := 61) (text := "what is out of range") rfl hst hx hcd hown hts (by decide +kernel) (by decide +kernel) (by decide +kernel) (by decide +kernel) (by decide +kernel) (by decide +kernel) (by decide +kernel) hZ hno hlocks hK hP hD hS (by rw [hml]; exact hl.1) dX6_checkWhat_9 dX6_checkWhat_12 dX6_checkWhat_13 dX6_checkWhat_15 dX6_checkWhat_18 ⟨Nat.le_of_ble_eq_true rfl, Nat.le_of_ble_eq_true rfl, Nat.le_of_ble_eq_true rfl, Nat.le_of_ble_eq_true rfl⟩

set_option maxHeartbeats 4000000 in
set_option maxRecDepth 100000 in
theorem c_X6_checkMessage__e1 (l : Launch) (D : va_G) (cI cB cW cL : ClassId) (ob nw tr : Nat → Nat) (qs : Nat → Nat → Nat) (sc : Nat → Nat) (G : Nat → Option Nat) (N : kM) (S : Nat → kM) (n L : Nat) (T : Nat → Int32) (sz : Nat) (M : kM) (hst : l.stackTraces = false) (w : Int32) (hI : kInv M) (hg : g_in w 0 (M 577 - 1) = false) : kMx l yX6_checkMessage wsX6_checkMessage ({ frames := 6, cells := 1, slots := 6, locals := 82 }) D vwCl (kT cI cB cW cL) sz [.ref (ob 0), .int w] (wX cI cB cW ob nw tr qs sc G M N S n L T) eIO := by
  refine kr_ofx (cc := cX6_checkMessage) (maxL := 2) (ret := none) (by decide) rfl (Nat.le_of_ble_eq_true rfl) ?_
  intro pp ee ss mm args below meth cc AA ls hx hcd hno hts hown hlocks hml hZ hK hP hD hA hl
  have hS : va_S AA ss.heap ss.heap [] := va_S.rf
  have hown : ss.vm.findClass RX6 = some mm.cls := hown
  have hl : lv_has ls 2 [(0, .ref (ob 0)), (1, .int w)] := hl
  have uX0 : ∀ w ∈ u_ws RX0 TX0 4, w ∈ wsX6_checkMessage := by decide +kernel
  have uX5 : ∀ w ∈ u_ws RX5 TX5 5, w ∈ wsX6_checkMessage := by decide +kernel
  have uX6 : ∀ w ∈ u_ws RX6 TX6 5, w ∈ wsX6_checkMessage := by decide +kernel
  refine lv_iload_n hx hcd dX6_checkMessage_0 rfl (lv_at hl 1 rfl) ?_
  refine lv_if_lt (tgt := 18) hx hcd dX6_checkMessage_1 (by decide) (fun (c_1 : w < 0) => ?_) (fun (c_1 : ¬ w < 0) => ?_)
  · exact kx_throw (ik := 227) (is := 238) (ic := 231) (text := "there is no such message") rfl hst hx hcd hown hts (by decide +kernel) (by decide +kernel) (by decide +kernel) (by decide +kernel) (by decide +kernel) (by decide +kernel) (by decide +kernel) hZ hno hlocks hK hP hD hS (by rw [hml]; exact hl.1) dX6_checkMessage_18 dX6_checkMessage_21 dX6_checkMessage_22 dX6_checkMessage_24 dX6_checkMessage_27 ⟨Nat.le_of_ble_eq_true rfl, Nat.le_of_ble_eq_true rfl, Nat.le_of_ble_eq_true rfl, Nat.le_of_ble_eq_true rfl⟩
  · refine lv_iload_n hx hcd dX6_checkMessage_4 rfl (lv_at hl 1 rfl) ?_
    refine lv_aload_n hx hcd dX6_checkMessage_5 rfl (lv_at hl 0 rfl) ?_
    refine kr_get hx hcd hts uX6 hown hK hP 0 rfl rfl 0 (by decide) (by decide +kernel) (v := .ref (nw 0)) rfl dX6_checkMessage_6 ?_
    refine kr_get hx hcd hts uX5 hown hK hP 2 rfl rfl 3 (by decide) (by decide +kernel) (v := .ref (nw 11)) rfl dX6_checkMessage_9 ?_
    refine kr_get hx hcd hts uX0 hown hK hP 13 rfl rfl 2 (by decide) (by decide +kernel) (v := .int (M 577)) rfl dX6_checkMessage_12 ?_
    refine kr_top (w := nI (wyN M)) (i_wy hI) ?_
    refine lv_icmp_lt (tgt := 28) hx hcd dX6_checkMessage_15 (by decide) (fun (c_15 : w < (nI (wyN M))) => absurd c_15 (msg_no hI hg c_1)) (fun (c_15 : ¬ w < (nI (wyN M))) => ?_)
    exact kx_throw (ik := 227) (is := 238) (ic := 231) (text := "there is no such message") rfl hst hx hcd hown hts (by decide +kernel) (by decide +kernel) (by decide +kernel) (by decide +kernel) (by decide +kernel) (by decide +kernel) (by decide +kernel) hZ hno hlocks hK hP hD hS (by rw [hml]; exact hl.1) dX6_checkMessage_18 dX6_checkMessage_21 dX6_checkMessage_22 dX6_checkMessage_24 dX6_checkMessage_27 ⟨Nat.le_of_ble_eq_true rfl, Nat.le_of_ble_eq_true rfl, Nat.le_of_ble_eq_true rfl, Nat.le_of_ble_eq_true rfl⟩
theorem c_X6_checkPair__e1 (l : Launch) (D : va_G) (cI cB cW cL : ClassId) (sz : Nat) (M : kM) (hst : l.stackTraces = false) (u w : Int32) (hg : g_why u w = nI 1) : kMx l yX6_checkPair wsX6_checkPair ({ frames := 7, cells := 1, slots := 6, locals := 102 }) D vwCl (kT cI cB cW cL) sz [.int u, .int w] [] eIO := by
  rcases why_1 hg with h | ⟨a, ha, rfl, h⟩
  · exact c_X6_checkPair__a1 l D cI cB cW cL sz M hst u w h
  · exact c_X6_checkPair__a2 l D cI cB cW cL sz M hst a w ha h
theorem c_X6_checkPair__e2 (l : Launch) (D : va_G) (cI cB cW cL : ClassId) (sz : Nat) (M : kM) (hst : l.stackTraces = false) (u w : Int32) (hg : g_why u w = nI 2) : kMx l yX6_checkPair wsX6_checkPair ({ frames := 7, cells := 1, slots := 6, locals := 102 }) D vwCl (kT cI cB cW cL) sz [.int u, .int w] [] eIA := by
  obtain ⟨a, ha, rfl, rfl⟩ := why_2 hg
  exact c_X6_checkPair__a3 l D cI cB cW cL sz M hst a ha
theorem c_X6_checkSeat__e1 (l : Launch) (D : va_G) (cI cB cW cL : ClassId) (sz : Nat) (M : kM) (hst : l.stackTraces = false) (u w : Int32) (hg : g_seatok u w = false) : kMx l yX6_checkSeat wsX6_checkSeat ({ frames := 7, cells := 1, slots := 6, locals := 102 }) D vwCl (kT cI cB cW cL) sz [.int u, .int w] [] eIO := by
  rcases seat_no hg with h | ⟨a, ha, rfl, h⟩
  · exact c_X6_checkSeat__a1 l D cI cB cW cL sz M hst u w h
  · exact c_X6_checkSeat__a2 l D cI cB cW cL sz M hst a w ha h
