/-! the law's own numbers: what is cut out of an int -/
def lowN (v : Int32) : Nat := (v &&& 2147483647).toNatClampNeg
def g_low (v : Int32) (n : Nat) : Nat := lowN v % n
theorem low_lo {v : Int32} : lowN v < 2 ^ 31 := by
  have := (v &&& 2147483647).toInt_lt
  unfold lowN Int32.toNatClampNeg
  omega
theorem low_ex (v : Int32) : ∃ n : Nat, n < 2 ^ 31 ∧ v &&& 2147483647 = nI n := by
  obtain ⟨n, hn⟩ : ∃ n : Nat, n = (v &&& 2147483647).toUInt32.toNat := ⟨_, rfl⟩
  have h : (v &&& 2147483647).toUInt32.toNat < 2 ^ 31 := by
    have e1 : (v &&& 2147483647).toUInt32.toNat = v.toUInt32.toNat &&& 2147483647 := by
      rw [Int32.toUInt32_and, UInt32.toNat_and]
      rfl
    rw [e1]
    exact Nat.lt_of_le_of_lt Nat.and_le_right (by omega)
  refine ⟨n, by omega, ?_⟩
  have e : (v &&& 2147483647).toUInt32 = UInt32.ofNat (v &&& 2147483647).toUInt32.toNat := UInt32.ofNat_toNat.symm
  have e2 : v &&& 2147483647 = nI (v &&& 2147483647).toUInt32.toNat := congrArg Int32.ofUInt32 e
  rw [hn]
  exact e2
theorem low_n {v : Int32} : v &&& 2147483647 = nI (lowN v) := by
  obtain ⟨n, hn, e⟩ := low_ex v
  unfold lowN
  rw [nI_back e hn]
  exact e
theorem low_lt {v : Int32} {n : Nat} (h : 0 < n) : g_low v n < n := Nat.mod_lt _ h

set_option maxHeartbeats 4000000 in
set_option maxRecDepth 100000 in
theorem c_L_seat__e1 (l : Launch) (hst : l.stackTraces = false) (D : va_G) (cI cB cW cL : ClassId) (ob nw tr : Nat → Nat) (qs : Nat → Nat → Nat) (sc : Nat → Nat) (G : Nat → Option Nat) (N : kM) (S : Nat → kM) (n L : Nat) (T : Nat → Int32) (sz : Nat) (M : kM) (u : Int32) (w : Int32) (t : Int32) (hg : g_seatok u w = false) : kMg l yL_seat wsL_seat ({ frames := 9, cells := 1, slots := 6, locals := 146 }) D vwCl (kT cI cB cW cL) sz [.ref (ob 0), .int u, .int w, .int t] (wX cI cB cW ob nw tr qs sc G M N S n L T) (wX cI cB cW ob nw tr qs sc G M N S n L T) (-903) 1 6 := by
  refine kr_ofh (cc := cL_seat) (maxL := 5) (ret := (some .int)) (hh := [(0, 7, 8, 15), (0, 7, 14, 17)]) (by decide) rfl (Nat.le_of_ble_eq_true rfl) ?_
  intro pp ee ss mm args below meth cc AA ls hx hcd hr hTab hts hown hlocks hml hZ hN hK hP hD hA hl
  have hS : va_S AA ss.heap ss.heap [] := va_S.rf
  have hown : ss.vm.findClass RL = some mm.cls := hown
  have hl : lv_has ls 5 [(0, .ref (ob 0)), (1, .int u), (2, .int w), (3, .int t)] := hl
  refine lv_aload_n hx hcd dL_seat_0 rfl (lv_at hl 0 rfl) ?_
  refine lv_iload_n hx hcd dL_seat_1 rfl (lv_at hl 1 rfl) ?_
  refine lv_iload_n hx hcd dL_seat_2 rfl (lv_at hl 2 rfl) ?_
  refine lv_iload_n hx hcd dL_seat_3 rfl (lv_at hl 3 rfl) ?_
  refine kl_V (As := [.int u, .int w, .int t]) (rest := []) (q := (RX6, TX6, 5)) ⟨hx, hcd, hml, hown, hts⟩ (c_X6_seat__e1 l D cI cB cW cL  _ M hst u w t (ob 0) hg) (cwV 3 hts gL_seat_X6_seat rfl rfl rfl (by decide +kernel) ⟨Nat.le_of_ble_eq_true rfl, Nat.le_of_ble_eq_true rfl⟩) hZ hK hP hD hS hA [] rfl (by decide) 0 rfl rfl rfl hl.1 rfl (Nat.le_of_ble_eq_true rfl) dL_seat_4 ⟨Nat.le_of_ble_eq_true rfl, Nat.le_of_ble_eq_true rfl⟩ [] ⟨0, 7, 8, 15⟩ [⟨0, 7, 14, 17⟩] hTab (fun z hz => absurd hz List.not_mem_nil) (by decide) (by decide) (hts (.classLink RL 15 "java/lang/IndexOutOfBoundsException") (by decide +kernel)) (va_Nw.use rfl (hZ.2.2.2 (.castable "java/lang/IndexOutOfBoundsException" "java/lang/IndexOutOfBoundsException") (by decide +kernel))) (fun H locs q9 hP hD hS => ?_)
  refine lv_astore (lv' := [(4, .ref q9), (0, .ref (ob 0)), (1, .int u), (2, .int w), (3, .int t)]) hx hcd dL_seat_8 hl (by decide) rfl (fun ls hl => ?_)
  refine lv_sipush (v := (-903)) hx hcd dL_seat_10 (by decide) ?_
  exact kr_iret hx hcd hr hlocks hK hP hD hS rfl rfl dL_seat_13

set_option maxHeartbeats 4000000 in
set_option maxRecDepth 100000 in
theorem c_L_seat__e2 (l : Launch) (hst : l.stackTraces = false) (D : va_G) (cI cB cW cL : ClassId) (ob nw tr : Nat → Nat) (qs : Nat → Nat → Nat) (sc : Nat → Nat) (G : Nat → Option Nat) (N : kM) (S : Nat → kM) (n L : Nat) (T : Nat → Int32) (sz : Nat) (M : kM) (a : Nat) (s : Nat) (t : Int32) (ha : a < 6) (hs : s < 3) (hg : g_in t 0 2 = false) : kMg l yL_seat wsL_seat ({ frames := 8, cells := 1, slots := 6, locals := 126 }) D vwCl (kT cI cB cW cL) sz [.ref (ob 0), .int (nI a), .int (nI s), .int t] (wX cI cB cW ob nw tr qs sc G M N S n L T) (wX cI cB cW ob nw tr qs sc G M N S n L T) (-901) 1 6 := by
  refine kr_ofh (cc := cL_seat) (maxL := 5) (ret := (some .int)) (hh := [(0, 7, 8, 15), (0, 7, 14, 17)]) (by decide) rfl (Nat.le_of_ble_eq_true rfl) ?_
  intro pp ee ss mm args below meth cc AA ls hx hcd hr hTab hts hown hlocks hml hZ hN hK hP hD hA hl
  have hS : va_S AA ss.heap ss.heap [] := va_S.rf
  have hown : ss.vm.findClass RL = some mm.cls := hown
  have hl : lv_has ls 5 [(0, .ref (ob 0)), (1, .int (nI a)), (2, .int (nI s)), (3, .int t)] := hl
  refine lv_aload_n hx hcd dL_seat_0 rfl (lv_at hl 0 rfl) ?_
  refine lv_iload_n hx hcd dL_seat_1 rfl (lv_at hl 1 rfl) ?_
  refine lv_iload_n hx hcd dL_seat_2 rfl (lv_at hl 2 rfl) ?_
  refine lv_iload_n hx hcd dL_seat_3 rfl (lv_at hl 3 rfl) ?_
  refine kl_V (As := [.int (nI a), .int (nI s), .int t]) (rest := []) (q := (RX6, TX6, 5)) ⟨hx, hcd, hml, hown, hts⟩ (c_X6_seat__e2 l D cI cB cW cL  _ M hst a s t (ob 0) ha hs hg) (cwV 3 hts gL_seat_X6_seat rfl rfl rfl (by decide +kernel) ⟨Nat.le_of_ble_eq_true rfl, Nat.le_of_ble_eq_true rfl⟩) hZ hK hP hD hS hA [] rfl (by decide) 0 rfl rfl rfl hl.1 rfl (Nat.le_of_ble_eq_true rfl) dL_seat_4 ⟨Nat.le_of_ble_eq_true rfl, Nat.le_of_ble_eq_true rfl⟩ [⟨0, 7, 8, 15⟩] ⟨0, 7, 14, 17⟩ [] hTab (fun z hz => Or.inr (by rw [List.mem_singleton.mp hz]; exact ⟨by decide, eIO, hts (.classLink RL 15 "java/lang/IndexOutOfBoundsException") (by decide +kernel), hN _ (List.mem_of_getElem? (i := 0) rfl)⟩)) (by decide) (by decide) (hts (.classLink RL 17 "java/lang/IllegalArgumentException") (by decide +kernel)) (va_Nw.use rfl (hZ.2.2.2 (.castable "java/lang/IllegalArgumentException" "java/lang/IllegalArgumentException") (by decide +kernel))) (fun H locs q9 hP hD hS => ?_)
  refine lv_astore (lv' := [(4, .ref q9), (0, .ref (ob 0)), (1, .int (nI a)), (2, .int (nI s)), (3, .int t)]) hx hcd dL_seat_14 hl (by decide) rfl (fun ls hl => ?_)
  refine lv_sipush (v := (-901)) hx hcd dL_seat_16 (by decide) ?_
  exact kr_iret hx hcd hr hlocks hK hP hD hS rfl rfl dL_seat_19

set_option maxHeartbeats 4000000 in
set_option maxRecDepth 100000 in
theorem c_L_deliver__ok (l : Launch) (hst : l.stackTraces = false) (D : va_G) (cI cB cW cL : ClassId) (ob nw tr : Nat → Nat) (qs : Nat → Nat → Nat) (sc : Nat → Nat) (G : Nat → Option Nat) (N : kM) (S : Nat → kM) (n L : Nat) (T : Nat → Int32) (sz : Nat) (M : kM) (c : Nat) (r : Nat) (hI : kInv M) (hc : c ≤ 1000) (hn : n ≤ 4) (hr : r < 4) : kMg l yL_deliver wsL_deliver ({ frames := 6, cells := 0, slots := 0, locals := 163 }) D vwCl (kT cI cB cW cL) sz [.ref (ob 0), .int (nI c)] (wX cI cB cW ob nw tr qs sc (g_rot qs r) M N S n L T) (wX cI cB cW ob nw tr qs sc (g_rot qs (rj n r)) (g_del c M) N (sset S (pj n r) M) (g_kn n) L T) (nI (g_delC c M)) 0 0 := by
  refine kr_ofh (cc := cL_deliver) (maxL := 3) (ret := (some .int)) (hh := [(0, 5, 6, 17)]) (by decide) rfl (Nat.le_of_ble_eq_true rfl) ?_
  intro pp ee ss mm args below meth cc AA ls hx hcd hr hTab hts hown hlocks hml hZ hN hK hP hD hA hl
  have hS : va_S AA ss.heap ss.heap [] := va_S.rf
  have hown : ss.vm.findClass RL = some mm.cls := hown
  have hl : lv_has ls 3 [(0, .ref (ob 0)), (1, .int (nI c))] := hl
  refine lv_aload_n hx hcd dL_deliver_0 rfl (lv_at hl 0 rfl) ?_
  refine lv_iload_n hx hcd dL_deliver_1 rfl (lv_at hl 1 rfl) ?_
  refine kr_Vi (As := [.int (nI c)]) (rest := []) (ws2 := wX cI cB cW ob nw tr qs sc (g_rot qs (rj n r)) (g_del c M) N (sset S (pj n r) M) (g_kn n) L T) (q := (RX6, TX6, 5)) ⟨hx, hcd, hml, hown, hts⟩ (c_X6_deliver__ok l D cI cB cW cL ob nw tr qs sc (g_rot qs r) N S n L T _ M c r hI hc hn (by omega)) (cwV 1 hts gL_deliver_X6_deliver rfl rfl rfl (by decide +kernel) ⟨Nat.le_of_ble_eq_true rfl, Nat.le_of_ble_eq_true rfl⟩) hK hP hD hS hA [0, 1, 2, 3, 4, 5, 6, 7, 8, 9, 10, 11, 12, 13, 14, 15, 16, 17, 18, 19, 20, 21, 22, 23, 24, 25, 26, 27, 28, 29, 30, 31, 32, 33, 34, 35, 36, 37, 38, 39, 40, 41, 42, 43, 44, 45, 46, 47, 48, 49, 50, 51, 52, 53, 54, 55, 56, 57, 58, 59, 60, 61, 62, 63, 64, 65, 66, 67, 68, 69, 70, 71, 72, 73, 74, 75, 76, 77, 78, 79, 80, 81, 82, 83, 84, 85, 86, 87, 88, 89, 90, 91, 92, 93] wX_allC wX_nd wX_adr wX_all 0 rfl rfl rfl hl.1 rfl (Nat.le_of_ble_eq_true rfl) dL_deliver_2 ⟨Nat.le_of_ble_eq_true rfl, Nat.le_of_ble_eq_true rfl⟩ (fun H locs hP hD hS => ?_)
  exact kr_iret hx hcd hr hlocks hK hP hD hS rfl rfl dL_deliver_5

set_option maxHeartbeats 4000000 in
set_option maxRecDepth 100000 in
theorem c_L_deliver__e1 (l : Launch) (hst : l.stackTraces = false) (D : va_G) (cI cB cW cL : ClassId) (ob nw tr : Nat → Nat) (qs : Nat → Nat → Nat) (sc : Nat → Nat) (G : Nat → Option Nat) (N : kM) (S : Nat → kM) (n L : Nat) (T : Nat → Int32) (sz : Nat) (M : kM) (u : Int32) (hg : g_in u 0 1000 = false) : kMg l yL_deliver wsL_deliver ({ frames := 7, cells := 1, slots := 6, locals := 103 }) D vwCl (kT cI cB cW cL) sz [.ref (ob 0), .int u] (wX cI cB cW ob nw tr qs sc G M N S n L T) (wX cI cB cW ob nw tr qs sc G M N S n L T) (-901) 1 6 := by
  refine kr_ofh (cc := cL_deliver) (maxL := 3) (ret := (some .int)) (hh := [(0, 5, 6, 17)]) (by decide) rfl (Nat.le_of_ble_eq_true rfl) ?_
  intro pp ee ss mm args below meth cc AA ls hx hcd hr hTab hts hown hlocks hml hZ hN hK hP hD hA hl
  have hS : va_S AA ss.heap ss.heap [] := va_S.rf
  have hown : ss.vm.findClass RL = some mm.cls := hown
  have hl : lv_has ls 3 [(0, .ref (ob 0)), (1, .int u)] := hl
  refine lv_aload_n hx hcd dL_deliver_0 rfl (lv_at hl 0 rfl) ?_
  refine lv_iload_n hx hcd dL_deliver_1 rfl (lv_at hl 1 rfl) ?_
  refine kl_V (As := [.int u]) (rest := []) (q := (RX6, TX6, 5)) ⟨hx, hcd, hml, hown, hts⟩ (c_X6_deliver__e1 l D cI cB cW cL  _ M hst u (ob 0) hg) (cwV 1 hts gL_deliver_X6_deliver rfl rfl rfl (by decide +kernel) ⟨Nat.le_of_ble_eq_true rfl, Nat.le_of_ble_eq_true rfl⟩) hZ hK hP hD hS hA [] rfl (by decide) 0 rfl rfl rfl hl.1 rfl (Nat.le_of_ble_eq_true rfl) dL_deliver_2 ⟨Nat.le_of_ble_eq_true rfl, Nat.le_of_ble_eq_true rfl⟩ [] ⟨0, 5, 6, 17⟩ [] hTab (fun z hz => absurd hz List.not_mem_nil) (by decide) (by decide) (hts (.classLink RL 17 "java/lang/IllegalArgumentException") (by decide +kernel)) (va_Nw.use rfl (hZ.2.2.2 (.castable "java/lang/IllegalArgumentException" "java/lang/IllegalArgumentException") (by decide +kernel))) (fun H locs q9 hP hD hS => ?_)
  refine lv_astore_n (lv' := [(2, .ref q9), (0, .ref (ob 0)), (1, .int u)]) hx hcd dL_deliver_6 rfl hl (by decide) rfl (fun ls hl => ?_)
  refine lv_sipush (v := (-901)) hx hcd dL_deliver_7 (by decide) ?_
  exact kr_iret hx hcd hr hlocks hK hP hD hS rfl rfl dL_deliver_10

set_option maxHeartbeats 4000000 in
set_option maxRecDepth 100000 in
theorem c_L_lose__ok (l : Launch) (hst : l.stackTraces = false) (D : va_G) (cI cB cW cL : ClassId) (ob nw tr : Nat → Nat) (qs : Nat → Nat → Nat) (sc : Nat → Nat) (G : Nat → Option Nat) (N : kM) (S : Nat → kM) (n L : Nat) (T : Nat → Int32) (sz : Nat) (M : kM) (i : Nat) (r : Nat) (hI : kInv M) (hi : i < wyN M) (hn : n ≤ 4) (hr : r < 4) : kMg l yL_lose wsL_lose ({ frames := 5, cells := 0, slots := 0, locals := 163 }) D vwCl (kT cI cB cW cL) sz [.ref (ob 0), .int (nI i)] (wX cI cB cW ob nw tr qs sc (g_rot qs r) M N S n L T) (wX cI cB cW ob nw tr qs sc (g_rot qs (rj n r)) (g_drop M i) N (sset S (pj n r) M) (g_kn n) L T) (g_part (g_msg M i) 0) 0 0 := by
  refine kr_ofh (cc := cL_lose) (maxL := 3) (ret := (some .int)) (hh := [(0, 5, 6, 15)]) (by decide) rfl (Nat.le_of_ble_eq_true rfl) ?_
  intro pp ee ss mm args below meth cc AA ls hx hcd hr hTab hts hown hlocks hml hZ hN hK hP hD hA hl
  have hS : va_S AA ss.heap ss.heap [] := va_S.rf
  have hown : ss.vm.findClass RL = some mm.cls := hown
  have hl : lv_has ls 3 [(0, .ref (ob 0)), (1, .int (nI i))] := hl
  refine lv_aload_n hx hcd dL_lose_0 rfl (lv_at hl 0 rfl) ?_
  refine lv_iload_n hx hcd dL_lose_1 rfl (lv_at hl 1 rfl) ?_
  refine kr_Vi (As := [.int (nI i)]) (rest := []) (ws2 := wX cI cB cW ob nw tr qs sc (g_rot qs (rj n r)) (g_drop M i) N (sset S (pj n r) M) (g_kn n) L T) (q := (RX6, TX6, 5)) ⟨hx, hcd, hml, hown, hts⟩ (c_X6_lose__ok l D cI cB cW cL ob nw tr qs sc (g_rot qs r) N S n L T _ M i r hI hi hn (by omega)) (cwV 1 hts gL_lose_X6_lose rfl rfl rfl (by decide +kernel) ⟨Nat.le_of_ble_eq_true rfl, Nat.le_of_ble_eq_true rfl⟩) hK hP hD hS hA [0, 1, 2, 3, 4, 5, 6, 7, 8, 9, 10, 11, 12, 13, 14, 15, 16, 17, 18, 19, 20, 21, 22, 23, 24, 25, 26, 27, 28, 29, 30, 31, 32, 33, 34, 35, 36, 37, 38, 39, 40, 41, 42, 43, 44, 45, 46, 47, 48, 49, 50, 51, 52, 53, 54, 55, 56, 57, 58, 59, 60, 61, 62, 63, 64, 65, 66, 67, 68, 69, 70, 71, 72, 73, 74, 75, 76, 77, 78, 79, 80, 81, 82, 83, 84, 85, 86, 87, 88, 89, 90, 91, 92, 93] wX_allC wX_nd wX_adr wX_all 0 rfl rfl rfl hl.1 rfl (Nat.le_of_ble_eq_true rfl) dL_lose_2 ⟨Nat.le_of_ble_eq_true rfl, Nat.le_of_ble_eq_true rfl⟩ (fun H locs hP hD hS => ?_)
  exact kr_iret hx hcd hr hlocks hK hP hD hS rfl rfl dL_lose_5

set_option maxHeartbeats 4000000 in
set_option maxRecDepth 100000 in
theorem c_L_lose__e1 (l : Launch) (hst : l.stackTraces = false) (D : va_G) (cI cB cW cL : ClassId) (ob nw tr : Nat → Nat) (qs : Nat → Nat → Nat) (sc : Nat → Nat) (G : Nat → Option Nat) (N : kM) (S : Nat → kM) (n L : Nat) (T : Nat → Int32) (sz : Nat) (M : kM) (u : Int32) (hI : kInv M) (hg : g_in u 0 (M 577 - 1) = false) : kMg l yL_lose wsL_lose ({ frames := 8, cells := 1, slots := 6, locals := 124 }) D vwCl (kT cI cB cW cL) sz [.ref (ob 0), .int u] (wX cI cB cW ob nw tr qs sc G M N S n L T) (wX cI cB cW ob nw tr qs sc G M N S n L T) (-903) 1 6 := by
  refine kr_ofh (cc := cL_lose) (maxL := 3) (ret := (some .int)) (hh := [(0, 5, 6, 15)]) (by decide) rfl (Nat.le_of_ble_eq_true rfl) ?_
  intro pp ee ss mm args below meth cc AA ls hx hcd hr hTab hts hown hlocks hml hZ hN hK hP hD hA hl
  have hS : va_S AA ss.heap ss.heap [] := va_S.rf
  have hown : ss.vm.findClass RL = some mm.cls := hown
  have hl : lv_has ls 3 [(0, .ref (ob 0)), (1, .int u)] := hl
  refine lv_aload_n hx hcd dL_lose_0 rfl (lv_at hl 0 rfl) ?_
  refine lv_iload_n hx hcd dL_lose_1 rfl (lv_at hl 1 rfl) ?_
  refine kl_V (As := [.int u]) (rest := []) (q := (RX6, TX6, 5)) ⟨hx, hcd, hml, hown, hts⟩ (c_X6_lose__e1 l D cI cB cW cL ob nw tr qs sc G N S n L T _ M hst u hI hg) (cwV 1 hts gL_lose_X6_lose rfl rfl rfl (by decide +kernel) ⟨Nat.le_of_ble_eq_true rfl, Nat.le_of_ble_eq_true rfl⟩) hZ hK hP hD hS hA [0, 1, 2, 3, 4, 5, 6, 7, 8, 9, 10, 11, 12, 13, 14, 15, 16, 17, 18, 19, 20, 21, 22, 23, 24, 25, 26, 27, 28, 29, 30, 31, 32, 33, 34, 35, 36, 37, 38, 39, 40, 41, 42, 43, 44, 45, 46, 47, 48, 49, 50, 51, 52, 53, 54, 55, 56, 57, 58, 59, 60, 61, 62, 63, 64, 65, 66, 67, 68, 69, 70, 71, 72, 73, 74, 75, 76, 77, 78, 79, 80, 81, 82, 83, 84, 85, 86, 87, 88, 89, 90, 91, 92, 93] wX_allC wX_nd 0 rfl rfl rfl hl.1 rfl (Nat.le_of_ble_eq_true rfl) dL_lose_2 ⟨Nat.le_of_ble_eq_true rfl, Nat.le_of_ble_eq_true rfl⟩ [] ⟨0, 5, 6, 15⟩ [] hTab (fun z hz => absurd hz List.not_mem_nil) (by decide) (by decide) (hts (.classLink RL 15 "java/lang/IndexOutOfBoundsException") (by decide +kernel)) (va_Nw.use rfl (hZ.2.2.2 (.castable "java/lang/IndexOutOfBoundsException" "java/lang/IndexOutOfBoundsException") (by decide +kernel))) (fun H locs q9 hP hD hS => ?_)
  refine lv_astore_n (lv' := [(2, .ref q9), (0, .ref (ob 0)), (1, .int u)]) hx hcd dL_lose_6 rfl hl (by decide) rfl (fun ls hl => ?_)
  refine lv_sipush (v := (-903)) hx hcd dL_lose_7 (by decide) ?_
  exact kr_iret hx hcd hr hlocks hK hP hD hS rfl rfl dL_lose_10

set_option maxHeartbeats 4000000 in
set_option maxRecDepth 100000 in
theorem c_L_message__ok (l : Launch) (hst : l.stackTraces = false) (D : va_G) (cI cB cW cL : ClassId) (ob nw tr : Nat → Nat) (qs : Nat → Nat → Nat) (sc : Nat → Nat) (G : Nat → Option Nat) (N : kM) (S : Nat → kM) (n L : Nat) (T : Nat → Int32) (sz : Nat) (M : kM) (i : Nat) (wh : Nat) (hI : kInv M) (hi : i < wyN M) (hwh : wh < 5) : kMg l yL_message wsL_message ({ frames := 4, cells := 0, slots := 0, locals := 86 }) D vwCl (kT cI cB cW cL) sz [.ref (ob 0), .int (nI i), .int (nI wh)] (wX cI cB cW ob nw tr qs sc G M N S n L T) (wX cI cB cW ob nw tr qs sc G M N S n L T) (g_part (g_msg M i) wh) 0 0 := by
  refine kr_ofh (cc := cL_message) (maxL := 4) (ret := (some .int)) (hh := [(0, 6, 7, 15), (0, 6, 12, 17)]) (by decide) rfl (Nat.le_of_ble_eq_true rfl) ?_
  intro pp ee ss mm args below meth cc AA ls hx hcd hr hTab hts hown hlocks hml hZ hN hK hP hD hA hl
  have hS : va_S AA ss.heap ss.heap [] := va_S.rf
  have hown : ss.vm.findClass RL = some mm.cls := hown
  have hl : lv_has ls 4 [(0, .ref (ob 0)), (1, .int (nI i)), (2, .int (nI wh))] := hl
  refine lv_aload_n hx hcd dL_message_0 rfl (lv_at hl 0 rfl) ?_
  refine lv_iload_n hx hcd dL_message_1 rfl (lv_at hl 1 rfl) ?_
  refine lv_iload_n hx hcd dL_message_2 rfl (lv_at hl 2 rfl) ?_
  refine kr_Vi (As := [.int (nI i), .int (nI wh)]) (rest := []) (ws2 := wX cI cB cW ob nw tr qs sc G M N S n L T) (q := (RX6, TX6, 5)) ⟨hx, hcd, hml, hown, hts⟩ (c_X6_message__ok l D cI cB cW cL ob nw tr qs sc G N S n L T _ M i wh hI hi hwh) (cwV 2 hts gL_message_X6_message rfl rfl rfl (by decide +kernel) ⟨Nat.le_of_ble_eq_true rfl, Nat.le_of_ble_eq_true rfl⟩) hK hP hD hS hA [0, 1, 2, 3, 4, 5, 6, 7, 8, 9, 10, 11, 12, 13, 14, 15, 16, 17, 18, 19, 20, 21, 22, 23, 24, 25, 26, 27, 28, 29, 30, 31, 32, 33, 34, 35, 36, 37, 38, 39, 40, 41, 42, 43, 44, 45, 46, 47, 48, 49, 50, 51, 52, 53, 54, 55, 56, 57, 58, 59, 60, 61, 62, 63, 64, 65, 66, 67, 68, 69, 70, 71, 72, 73, 74, 75, 76, 77, 78, 79, 80, 81, 82, 83, 84, 85, 86, 87, 88, 89, 90, 91, 92, 93] wX_allC wX_nd wX_adr wX_all 0 rfl rfl rfl hl.1 rfl (Nat.le_of_ble_eq_true rfl) dL_message_3 ⟨Nat.le_of_ble_eq_true rfl, Nat.le_of_ble_eq_true rfl⟩ (fun H locs hP hD hS => ?_)
  exact kr_iret hx hcd hr hlocks hK hP hD hS rfl rfl dL_message_6

set_option maxHeartbeats 4000000 in
set_option maxRecDepth 100000 in
theorem c_L_message__e1 (l : Launch) (hst : l.stackTraces = false) (D : va_G) (cI cB cW cL : ClassId) (ob nw tr : Nat → Nat) (qs : Nat → Nat → Nat) (sc : Nat → Nat) (G : Nat → Option Nat) (N : kM) (S : Nat → kM) (n L : Nat) (T : Nat → Int32) (sz : Nat) (M : kM) (u : Int32) (w : Int32) (hI : kInv M) (hg : g_in u 0 (M 577 - 1) = false) : kMg l yL_message wsL_message ({ frames := 8, cells := 1, slots := 6, locals := 125 }) D vwCl (kT cI cB cW cL) sz [.ref (ob 0), .int u, .int w] (wX cI cB cW ob nw tr qs sc G M N S n L T) (wX cI cB cW ob nw tr qs sc G M N S n L T) (-903) 1 6 := by
  refine kr_ofh (cc := cL_message) (maxL := 4) (ret := (some .int)) (hh := [(0, 6, 7, 15), (0, 6, 12, 17)]) (by decide) rfl (Nat.le_of_ble_eq_true rfl) ?_
  intro pp ee ss mm args below meth cc AA ls hx hcd hr hTab hts hown hlocks hml hZ hN hK hP hD hA hl
  have hS : va_S AA ss.heap ss.heap [] := va_S.rf
  have hown : ss.vm.findClass RL = some mm.cls := hown
  have hl : lv_has ls 4 [(0, .ref (ob 0)), (1, .int u), (2, .int w)] := hl
  refine lv_aload_n hx hcd dL_message_0 rfl (lv_at hl 0 rfl) ?_
  refine lv_iload_n hx hcd dL_message_1 rfl (lv_at hl 1 rfl) ?_
  refine lv_iload_n hx hcd dL_message_2 rfl (lv_at hl 2 rfl) ?_
  refine kl_V (As := [.int u, .int w]) (rest := []) (q := (RX6, TX6, 5)) ⟨hx, hcd, hml, hown, hts⟩ (c_X6_message__e1 l D cI cB cW cL ob nw tr qs sc G N S n L T _ M hst u w hI hg) (cwV 2 hts gL_message_X6_message rfl rfl rfl (by decide +kernel) ⟨Nat.le_of_ble_eq_true rfl, Nat.le_of_ble_eq_true rfl⟩) hZ hK hP hD hS hA [0, 1, 2, 3, 4, 5, 6, 7, 8, 9, 10, 11, 12, 13, 14, 15, 16, 17, 18, 19, 20, 21, 22, 23, 24, 25, 26, 27, 28, 29, 30, 31, 32, 33, 34, 35, 36, 37, 38, 39, 40, 41, 42, 43, 44, 45, 46, 47, 48, 49, 50, 51, 52, 53, 54, 55, 56, 57, 58, 59, 60, 61, 62, 63, 64, 65, 66, 67, 68, 69, 70, 71, 72, 73, 74, 75, 76, 77, 78, 79, 80, 81, 82, 83, 84, 85, 86, 87, 88, 89, 90, 91, 92, 93] wX_allC wX_nd 0 rfl rfl rfl hl.1 rfl (Nat.le_of_ble_eq_true rfl) dL_message_3 ⟨Nat.le_of_ble_eq_true rfl, Nat.le_of_ble_eq_true rfl⟩ [] ⟨0, 6, 7, 15⟩ [⟨0, 6, 12, 17⟩] hTab (fun z hz => absurd hz List.not_mem_nil) (by decide) (by decide) (hts (.classLink RL 15 "java/lang/IndexOutOfBoundsException") (by decide +kernel)) (va_Nw.use rfl (hZ.2.2.2 (.castable "java/lang/IndexOutOfBoundsException" "java/lang/IndexOutOfBoundsException") (by decide +kernel))) (fun H locs q9 hP hD hS => ?_)
  refine lv_astore_n (lv' := [(3, .ref q9), (0, .ref (ob 0)), (1, .int u), (2, .int w)]) hx hcd dL_message_7 rfl hl (by decide) rfl (fun ls hl => ?_)
  refine lv_sipush (v := (-903)) hx hcd dL_message_8 (by decide) ?_
  exact kr_iret hx hcd hr hlocks hK hP hD hS rfl rfl dL_message_11

set_option maxHeartbeats 4000000 in
set_option maxRecDepth 100000 in
theorem c_L_count__ok (l : Launch) (hst : l.stackTraces = false) (D : va_G) (cI cB cW cL : ClassId) (ob nw tr : Nat → Nat) (qs : Nat → Nat → Nat) (sc : Nat → Nat) (G : Nat → Option Nat) (N : kM) (S : Nat → kM) (n L : Nat) (T : Nat → Int32) (sz : Nat) (M : kM) (wh : Nat) (hwh : wh < 3) : kMg l yL_count wsL_count ({ frames := 2, cells := 0, slots := 0, locals := 42 }) D vwCl (kT cI cB cW cL) sz [.ref (ob 0), .int (nI wh)] (wX cI cB cW ob nw tr qs sc G M N S n L T) (wX cI cB cW ob nw tr qs sc G M N S n L T) (M (578 + wh)) 0 0 := by
  refine kr_ofh (cc := cL_count) (maxL := 3) (ret := (some .int)) (hh := [(0, 5, 6, 17)]) (by decide) rfl (Nat.le_of_ble_eq_true rfl) ?_
  intro pp ee ss mm args below meth cc AA ls hx hcd hr hTab hts hown hlocks hml hZ hN hK hP hD hA hl
  have hS : va_S AA ss.heap ss.heap [] := va_S.rf
  have hown : ss.vm.findClass RL = some mm.cls := hown
  have hl : lv_has ls 3 [(0, .ref (ob 0)), (1, .int (nI wh))] := hl
  refine lv_aload_n hx hcd dL_count_0 rfl (lv_at hl 0 rfl) ?_
  refine lv_iload_n hx hcd dL_count_1 rfl (lv_at hl 1 rfl) ?_
  refine kr_Vi (As := [.int (nI wh)]) (rest := []) (ws2 := wX cI cB cW ob nw tr qs sc G M N S n L T) (q := (RX6, TX6, 5)) ⟨hx, hcd, hml, hown, hts⟩ (c_X6_count__ok l D cI cB cW cL ob nw tr qs sc G N S n L T _ M wh hwh) (cwV 1 hts gL_count_X6_count rfl rfl rfl (by decide +kernel) ⟨Nat.le_of_ble_eq_true rfl, Nat.le_of_ble_eq_true rfl⟩) hK hP hD hS hA [0, 1, 2, 3, 4, 5, 6, 7, 8, 9, 10, 11, 12, 13, 14, 15, 16, 17, 18, 19, 20, 21, 22, 23, 24, 25, 26, 27, 28, 29, 30, 31, 32, 33, 34, 35, 36, 37, 38, 39, 40, 41, 42, 43, 44, 45, 46, 47, 48, 49, 50, 51, 52, 53, 54, 55, 56, 57, 58, 59, 60, 61, 62, 63, 64, 65, 66, 67, 68, 69, 70, 71, 72, 73, 74, 75, 76, 77, 78, 79, 80, 81, 82, 83, 84, 85, 86, 87, 88, 89, 90, 91, 92, 93] wX_allC wX_nd wX_adr wX_all 0 rfl rfl rfl hl.1 rfl (Nat.le_of_ble_eq_true rfl) dL_count_2 ⟨Nat.le_of_ble_eq_true rfl, Nat.le_of_ble_eq_true rfl⟩ (fun H locs hP hD hS => ?_)
  exact kr_iret hx hcd hr hlocks hK hP hD hS rfl rfl dL_count_5

set_option maxHeartbeats 4000000 in
set_option maxRecDepth 100000 in
theorem c_L_count__e1 (l : Launch) (hst : l.stackTraces = false) (D : va_G) (cI cB cW cL : ClassId) (ob nw tr : Nat → Nat) (qs : Nat → Nat → Nat) (sc : Nat → Nat) (G : Nat → Option Nat) (N : kM) (S : Nat → kM) (n L : Nat) (T : Nat → Int32) (sz : Nat) (M : kM) (u : Int32) (hg : g_in u 0 2 = false) : kMg l yL_count wsL_count ({ frames := 8, cells := 1, slots := 6, locals := 124 }) D vwCl (kT cI cB cW cL) sz [.ref (ob 0), .int u] (wX cI cB cW ob nw tr qs sc G M N S n L T) (wX cI cB cW ob nw tr qs sc G M N S n L T) (-901) 1 6 := by
  refine kr_ofh (cc := cL_count) (maxL := 3) (ret := (some .int)) (hh := [(0, 5, 6, 17)]) (by decide) rfl (Nat.le_of_ble_eq_true rfl) ?_
  intro pp ee ss mm args below meth cc AA ls hx hcd hr hTab hts hown hlocks hml hZ hN hK hP hD hA hl
  have hS : va_S AA ss.heap ss.heap [] := va_S.rf
  have hown : ss.vm.findClass RL = some mm.cls := hown
  have hl : lv_has ls 3 [(0, .ref (ob 0)), (1, .int u)] := hl
  refine lv_aload_n hx hcd dL_count_0 rfl (lv_at hl 0 rfl) ?_
  refine lv_iload_n hx hcd dL_count_1 rfl (lv_at hl 1 rfl) ?_
  refine kl_V (As := [.int u]) (rest := []) (q := (RX6, TX6, 5)) ⟨hx, hcd, hml, hown, hts⟩ (c_X6_count__e1 l D cI cB cW cL  _ M hst u (ob 0) hg) (cwV 1 hts gL_count_X6_count rfl rfl rfl (by decide +kernel) ⟨Nat.le_of_ble_eq_true rfl, Nat.le_of_ble_eq_true rfl⟩) hZ hK hP hD hS hA [] rfl (by decide) 0 rfl rfl rfl hl.1 rfl (Nat.le_of_ble_eq_true rfl) dL_count_2 ⟨Nat.le_of_ble_eq_true rfl, Nat.le_of_ble_eq_true rfl⟩ [] ⟨0, 5, 6, 17⟩ [] hTab (fun z hz => absurd hz List.not_mem_nil) (by decide) (by decide) (hts (.classLink RL 17 "java/lang/IllegalArgumentException") (by decide +kernel)) (va_Nw.use rfl (hZ.2.2.2 (.castable "java/lang/IllegalArgumentException" "java/lang/IllegalArgumentException") (by decide +kernel))) (fun H locs q9 hP hD hS => ?_)
  refine lv_astore_n (lv' := [(2, .ref q9), (0, .ref (ob 0)), (1, .int u)]) hx hcd dL_count_6 rfl hl (by decide) rfl (fun ls hl => ?_)
  refine lv_sipush (v := (-901)) hx hcd dL_count_7 (by decide) ?_
  exact kr_iret hx hcd hr hlocks hK hP hD hS rfl rfl dL_count_10

set_option maxHeartbeats 4000000 in
set_option maxRecDepth 100000 in
theorem c_L_version__ok0 (l : Launch) (hst : l.stackTraces = false) (D : va_G) (cI cB cW cL : ClassId) (ob nw tr : Nat → Nat) (qs : Nat → Nat → Nat) (sc : Nat → Nat) (G : Nat → Option Nat) (N : kM) (S : Nat → kM) (n L : Nat) (T : Nat → Int32) (sz : Nat) (M : kM) (a : Nat) (ha : a < 6) : kMg l yL_version wsL_version ({ frames := 2, cells := 0, slots := 0, locals := 43 }) D vwCl (kT cI cB cW cL) sz [.ref (ob 0), .int (nI a), .int (-1)] (wX cI cB cW ob nw tr qs sc G M N S n L T) (wX cI cB cW ob nw tr qs sc G M N S n L T) (M (126 + a)) 0 0 := by
  refine kr_ofh (cc := cL_version) (maxL := 4) (ret := (some .int)) (hh := [(0, 6, 7, 15), (0, 6, 12, 17)]) (by decide) rfl (Nat.le_of_ble_eq_true rfl) ?_
  intro pp ee ss mm args below meth cc AA ls hx hcd hr hTab hts hown hlocks hml hZ hN hK hP hD hA hl
  have hS : va_S AA ss.heap ss.heap [] := va_S.rf
  have hown : ss.vm.findClass RL = some mm.cls := hown
  have hl : lv_has ls 4 [(0, .ref (ob 0)), (1, .int (nI a)), (2, .int (-1))] := hl
  refine lv_aload_n hx hcd dL_version_0 rfl (lv_at hl 0 rfl) ?_
  refine lv_iload_n hx hcd dL_version_1 rfl (lv_at hl 1 rfl) ?_
  refine lv_iload_n hx hcd dL_version_2 rfl (lv_at hl 2 rfl) ?_
  refine kr_Vi (As := [.int (nI a), .int (-1)]) (rest := []) (ws2 := wX cI cB cW ob nw tr qs sc G M N S n L T) (q := (RX6, TX6, 5)) ⟨hx, hcd, hml, hown, hts⟩ (c_X6_version__ok0 l D cI cB cW cL ob nw tr qs sc G N S n L T _ M a ha) (cwV 2 hts gL_version_X6_version rfl rfl rfl (by decide +kernel) ⟨Nat.le_of_ble_eq_true rfl, Nat.le_of_ble_eq_true rfl⟩) hK hP hD hS hA [0, 1, 2, 3, 4, 5, 6, 7, 8, 9, 10, 11, 12, 13, 14, 15, 16, 17, 18, 19, 20, 21, 22, 23, 24, 25, 26, 27, 28, 29, 30, 31, 32, 33, 34, 35, 36, 37, 38, 39, 40, 41, 42, 43, 44, 45, 46, 47, 48, 49, 50, 51, 52, 53, 54, 55, 56, 57, 58, 59, 60, 61, 62, 63, 64, 65, 66, 67, 68, 69, 70, 71, 72, 73, 74, 75, 76, 77, 78, 79, 80, 81, 82, 83, 84, 85, 86, 87, 88, 89, 90, 91, 92, 93] wX_allC wX_nd wX_adr wX_all 0 rfl rfl rfl hl.1 rfl (Nat.le_of_ble_eq_true rfl) dL_version_3 ⟨Nat.le_of_ble_eq_true rfl, Nat.le_of_ble_eq_true rfl⟩ (fun H locs hP hD hS => ?_)
  exact kr_iret hx hcd hr hlocks hK hP hD hS rfl rfl dL_version_6

set_option maxHeartbeats 4000000 in
set_option maxRecDepth 100000 in
theorem c_L_version__ok1 (l : Launch) (hst : l.stackTraces = false) (D : va_G) (cI cB cW cL : ClassId) (ob nw tr : Nat → Nat) (qs : Nat → Nat → Nat) (sc : Nat → Nat) (G : Nat → Option Nat) (N : kM) (S : Nat → kM) (n L : Nat) (T : Nat → Int32) (sz : Nat) (M : kM) (a : Nat) (b : Nat) (ha : a < 6) (hb : b < 6) (hne : a ≠ b) : kMg l yL_version wsL_version ({ frames := 3, cells := 0, slots := 0, locals := 63 }) D vwCl (kT cI cB cW cL) sz [.ref (ob 0), .int (nI a), .int (nI b)] (wX cI cB cW ob nw tr qs sc G M N S n L T) (wX cI cB cW ob nw tr qs sc G M N S n L T) (M (90 + 6 * a + b)) 0 0 := by
  refine kr_ofh (cc := cL_version) (maxL := 4) (ret := (some .int)) (hh := [(0, 6, 7, 15), (0, 6, 12, 17)]) (by decide) rfl (Nat.le_of_ble_eq_true rfl) ?_
  intro pp ee ss mm args below meth cc AA ls hx hcd hr hTab hts hown hlocks hml hZ hN hK hP hD hA hl
  have hS : va_S AA ss.heap ss.heap [] := va_S.rf
  have hown : ss.vm.findClass RL = some mm.cls := hown
  have hl : lv_has ls 4 [(0, .ref (ob 0)), (1, .int (nI a)), (2, .int (nI b))] := hl
  refine lv_aload_n hx hcd dL_version_0 rfl (lv_at hl 0 rfl) ?_
  refine lv_iload_n hx hcd dL_version_1 rfl (lv_at hl 1 rfl) ?_
  refine lv_iload_n hx hcd dL_version_2 rfl (lv_at hl 2 rfl) ?_
  refine kr_Vi (As := [.int (nI a), .int (nI b)]) (rest := []) (ws2 := wX cI cB cW ob nw tr qs sc G M N S n L T) (q := (RX6, TX6, 5)) ⟨hx, hcd, hml, hown, hts⟩ (c_X6_version__ok1 l D cI cB cW cL ob nw tr qs sc G N S n L T _ M a b ha hb hne) (cwV 2 hts gL_version_X6_version rfl rfl rfl (by decide +kernel) ⟨Nat.le_of_ble_eq_true rfl, Nat.le_of_ble_eq_true rfl⟩) hK hP hD hS hA [0, 1, 2, 3, 4, 5, 6, 7, 8, 9, 10, 11, 12, 13, 14, 15, 16, 17, 18, 19, 20, 21, 22, 23, 24, 25, 26, 27, 28, 29, 30, 31, 32, 33, 34, 35, 36, 37, 38, 39, 40, 41, 42, 43, 44, 45, 46, 47, 48, 49, 50, 51, 52, 53, 54, 55, 56, 57, 58, 59, 60, 61, 62, 63, 64, 65, 66, 67, 68, 69, 70, 71, 72, 73, 74, 75, 76, 77, 78, 79, 80, 81, 82, 83, 84, 85, 86, 87, 88, 89, 90, 91, 92, 93] wX_allC wX_nd wX_adr wX_all 0 rfl rfl rfl hl.1 rfl (Nat.le_of_ble_eq_true rfl) dL_version_3 ⟨Nat.le_of_ble_eq_true rfl, Nat.le_of_ble_eq_true rfl⟩ (fun H locs hP hD hS => ?_)
  exact kr_iret hx hcd hr hlocks hK hP hD hS rfl rfl dL_version_6

set_option maxHeartbeats 4000000 in
set_option maxRecDepth 100000 in
theorem c_L_version__e1a (l : Launch) (hst : l.stackTraces = false) (D : va_G) (cI cB cW cL : ClassId) (ob nw tr : Nat → Nat) (qs : Nat → Nat → Nat) (sc : Nat → Nat) (G : Nat → Option Nat) (N : kM) (S : Nat → kM) (n L : Nat) (T : Nat → Int32) (sz : Nat) (M : kM) (u : Int32) (w : Int32) (hg : g_usr u = false) : kMg l yL_version wsL_version ({ frames := 8, cells := 1, slots := 6, locals := 124 }) D vwCl (kT cI cB cW cL) sz [.ref (ob 0), .int u, .int w] (wX cI cB cW ob nw tr qs sc G M N S n L T) (wX cI cB cW ob nw tr qs sc G M N S n L T) (-903) 1 6 := by
  refine kr_ofh (cc := cL_version) (maxL := 4) (ret := (some .int)) (hh := [(0, 6, 7, 15), (0, 6, 12, 17)]) (by decide) rfl (Nat.le_of_ble_eq_true rfl) ?_
  intro pp ee ss mm args below meth cc AA ls hx hcd hr hTab hts hown hlocks hml hZ hN hK hP hD hA hl
  have hS : va_S AA ss.heap ss.heap [] := va_S.rf
  have hown : ss.vm.findClass RL = some mm.cls := hown
  have hl : lv_has ls 4 [(0, .ref (ob 0)), (1, .int u), (2, .int w)] := hl
  refine lv_aload_n hx hcd dL_version_0 rfl (lv_at hl 0 rfl) ?_
  refine lv_iload_n hx hcd dL_version_1 rfl (lv_at hl 1 rfl) ?_
  refine lv_iload_n hx hcd dL_version_2 rfl (lv_at hl 2 rfl) ?_
  refine kl_V (As := [.int u, .int w]) (rest := []) (q := (RX6, TX6, 5)) ⟨hx, hcd, hml, hown, hts⟩ (c_X6_version__e1a l D cI cB cW cL  _ M hst u w (ob 0) hg) (cwV 2 hts gL_version_X6_version rfl rfl rfl (by decide +kernel) ⟨Nat.le_of_ble_eq_true rfl, Nat.le_of_ble_eq_true rfl⟩) hZ hK hP hD hS hA [] rfl (by decide) 0 rfl rfl rfl hl.1 rfl (Nat.le_of_ble_eq_true rfl) dL_version_3 ⟨Nat.le_of_ble_eq_true rfl, Nat.le_of_ble_eq_true rfl⟩ [] ⟨0, 6, 7, 15⟩ [⟨0, 6, 12, 17⟩] hTab (fun z hz => absurd hz List.not_mem_nil) (by decide) (by decide) (hts (.classLink RL 15 "java/lang/IndexOutOfBoundsException") (by decide +kernel)) (va_Nw.use rfl (hZ.2.2.2 (.castable "java/lang/IndexOutOfBoundsException" "java/lang/IndexOutOfBoundsException") (by decide +kernel))) (fun H locs q9 hP hD hS => ?_)
  refine lv_astore_n (lv' := [(3, .ref q9), (0, .ref (ob 0)), (1, .int u), (2, .int w)]) hx hcd dL_version_7 rfl hl (by decide) rfl (fun ls hl => ?_)
  refine lv_sipush (v := (-903)) hx hcd dL_version_8 (by decide) ?_
  exact kr_iret hx hcd hr hlocks hK hP hD hS rfl rfl dL_version_11

set_option maxHeartbeats 4000000 in
set_option maxRecDepth 100000 in
theorem c_L_version__e1b (l : Launch) (hst : l.stackTraces = false) (D : va_G) (cI cB cW cL : ClassId) (ob nw tr : Nat → Nat) (qs : Nat → Nat → Nat) (sc : Nat → Nat) (G : Nat → Option Nat) (N : kM) (S : Nat → kM) (n L : Nat) (T : Nat → Int32) (sz : Nat) (M : kM) (a : Nat) (w : Int32) (ha : a < 6) (hm : ¬ w = -1) (hg : g_why (nI a) w = nI 1) : kMg l yL_version wsL_version ({ frames := 9, cells := 1, slots := 6, locals := 145 }) D vwCl (kT cI cB cW cL) sz [.ref (ob 0), .int (nI a), .int w] (wX cI cB cW ob nw tr qs sc G M N S n L T) (wX cI cB cW ob nw tr qs sc G M N S n L T) (-903) 1 6 := by
  refine kr_ofh (cc := cL_version) (maxL := 4) (ret := (some .int)) (hh := [(0, 6, 7, 15), (0, 6, 12, 17)]) (by decide) rfl (Nat.le_of_ble_eq_true rfl) ?_
  intro pp ee ss mm args below meth cc AA ls hx hcd hr hTab hts hown hlocks hml hZ hN hK hP hD hA hl
  have hS : va_S AA ss.heap ss.heap [] := va_S.rf
  have hown : ss.vm.findClass RL = some mm.cls := hown
  have hl : lv_has ls 4 [(0, .ref (ob 0)), (1, .int (nI a)), (2, .int w)] := hl
  refine lv_aload_n hx hcd dL_version_0 rfl (lv_at hl 0 rfl) ?_
  refine lv_iload_n hx hcd dL_version_1 rfl (lv_at hl 1 rfl) ?_
  refine lv_iload_n hx hcd dL_version_2 rfl (lv_at hl 2 rfl) ?_
  refine kl_V (As := [.int (nI a), .int w]) (rest := []) (q := (RX6, TX6, 5)) ⟨hx, hcd, hml, hown, hts⟩ (c_X6_version__e1b l D cI cB cW cL  _ M hst a w (ob 0) ha hm hg) (cwV 2 hts gL_version_X6_version rfl rfl rfl (by decide +kernel) ⟨Nat.le_of_ble_eq_true rfl, Nat.le_of_ble_eq_true rfl⟩) hZ hK hP hD hS hA [] rfl (by decide) 0 rfl rfl rfl hl.1 rfl (Nat.le_of_ble_eq_true rfl) dL_version_3 ⟨Nat.le_of_ble_eq_true rfl, Nat.le_of_ble_eq_true rfl⟩ [] ⟨0, 6, 7, 15⟩ [⟨0, 6, 12, 17⟩] hTab (fun z hz => absurd hz List.not_mem_nil) (by decide) (by decide) (hts (.classLink RL 15 "java/lang/IndexOutOfBoundsException") (by decide +kernel)) (va_Nw.use rfl (hZ.2.2.2 (.castable "java/lang/IndexOutOfBoundsException" "java/lang/IndexOutOfBoundsException") (by decide +kernel))) (fun H locs q9 hP hD hS => ?_)
  refine lv_astore_n (lv' := [(3, .ref q9), (0, .ref (ob 0)), (1, .int (nI a)), (2, .int w)]) hx hcd dL_version_7 rfl hl (by decide) rfl (fun ls hl => ?_)
  refine lv_sipush (v := (-903)) hx hcd dL_version_8 (by decide) ?_
  exact kr_iret hx hcd hr hlocks hK hP hD hS rfl rfl dL_version_11

set_option maxHeartbeats 4000000 in
set_option maxRecDepth 100000 in
theorem c_L_version__e2 (l : Launch) (hst : l.stackTraces = false) (D : va_G) (cI cB cW cL : ClassId) (ob nw tr : Nat → Nat) (qs : Nat → Nat → Nat) (sc : Nat → Nat) (G : Nat → Option Nat) (N : kM) (S : Nat → kM) (n L : Nat) (T : Nat → Int32) (sz : Nat) (M : kM) (a : Nat) (w : Int32) (ha : a < 6) (hm : ¬ w = -1) (hg : g_why (nI a) w = nI 2) : kMg l yL_version wsL_version ({ frames := 9, cells := 1, slots := 6, locals := 145 }) D vwCl (kT cI cB cW cL) sz [.ref (ob 0), .int (nI a), .int w] (wX cI cB cW ob nw tr qs sc G M N S n L T) (wX cI cB cW ob nw tr qs sc G M N S n L T) (-901) 1 6 := by
  refine kr_ofh (cc := cL_version) (maxL := 4) (ret := (some .int)) (hh := [(0, 6, 7, 15), (0, 6, 12, 17)]) (by decide) rfl (Nat.le_of_ble_eq_true rfl) ?_
  intro pp ee ss mm args below meth cc AA ls hx hcd hr hTab hts hown hlocks hml hZ hN hK hP hD hA hl
  have hS : va_S AA ss.heap ss.heap [] := va_S.rf
  have hown : ss.vm.findClass RL = some mm.cls := hown
  have hl : lv_has ls 4 [(0, .ref (ob 0)), (1, .int (nI a)), (2, .int w)] := hl
  refine lv_aload_n hx hcd dL_version_0 rfl (lv_at hl 0 rfl) ?_
  refine lv_iload_n hx hcd dL_version_1 rfl (lv_at hl 1 rfl) ?_
  refine lv_iload_n hx hcd dL_version_2 rfl (lv_at hl 2 rfl) ?_
  refine kl_V (As := [.int (nI a), .int w]) (rest := []) (q := (RX6, TX6, 5)) ⟨hx, hcd, hml, hown, hts⟩ (c_X6_version__e2 l D cI cB cW cL  _ M hst a w (ob 0) ha hm hg) (cwV 2 hts gL_version_X6_version rfl rfl rfl (by decide +kernel) ⟨Nat.le_of_ble_eq_true rfl, Nat.le_of_ble_eq_true rfl⟩) hZ hK hP hD hS hA [] rfl (by decide) 0 rfl rfl rfl hl.1 rfl (Nat.le_of_ble_eq_true rfl) dL_version_3 ⟨Nat.le_of_ble_eq_true rfl, Nat.le_of_ble_eq_true rfl⟩ [⟨0, 6, 7, 15⟩] ⟨0, 6, 12, 17⟩ [] hTab (fun z hz => Or.inr (by rw [List.mem_singleton.mp hz]; exact ⟨by decide, eIO, hts (.classLink RL 15 "java/lang/IndexOutOfBoundsException") (by decide +kernel), hN _ (List.mem_of_getElem? (i := 0) rfl)⟩)) (by decide) (by decide) (hts (.classLink RL 17 "java/lang/IllegalArgumentException") (by decide +kernel)) (va_Nw.use rfl (hZ.2.2.2 (.castable "java/lang/IllegalArgumentException" "java/lang/IllegalArgumentException") (by decide +kernel))) (fun H locs q9 hP hD hS => ?_)
  refine lv_astore_n (lv' := [(3, .ref q9), (0, .ref (ob 0)), (1, .int (nI a)), (2, .int w)]) hx hcd dL_version_12 rfl hl (by decide) rfl (fun ls hl => ?_)
  refine lv_sipush (v := (-901)) hx hcd dL_version_13 (by decide) ?_
  exact kr_iret hx hcd hr hlocks hK hP hD hS rfl rfl dL_version_16

set_option maxHeartbeats 4000000 in
set_option maxRecDepth 100000 in
theorem c_L_changedSince__ok (l : Launch) (hst : l.stackTraces = false) (D : va_G) (cI cB cW cL : ClassId) (ob nw tr : Nat → Nat) (qs : Nat → Nat → Nat) (sc : Nat → Nat) (G : Nat → Option Nat) (N : kM) (S : Nat → kM) (n L : Nat) (T : Nat → Int32) (sz : Nat) (M : kM) (a : Nat) (v : Int32) (ha : a < 6) (hv : ¬ v < 0) : kMg l yL_changedSince wsL_changedSince ({ frames := 2, cells := 0, slots := 0, locals := 46 }) D vwCl (kT cI cB cW cL) sz [.ref (ob 0), .int (nI a), .int v] (wX cI cB cW ob nw tr qs sc G M N S n L T) (wX cI cB cW ob nw tr qs sc G M N S n L T) (nI (g_chgN M a v 6)) 0 0 := by
  refine kr_ofh (cc := cL_changedSince) (maxL := 4) (ret := (some .int)) (hh := [(0, 6, 7, 15), (0, 6, 12, 17)]) (by decide) rfl (Nat.le_of_ble_eq_true rfl) ?_
  intro pp ee ss mm args below meth cc AA ls hx hcd hr hTab hts hown hlocks hml hZ hN hK hP hD hA hl
  have hS : va_S AA ss.heap ss.heap [] := va_S.rf
  have hown : ss.vm.findClass RL = some mm.cls := hown
  have hl : lv_has ls 4 [(0, .ref (ob 0)), (1, .int (nI a)), (2, .int v)] := hl
  refine lv_aload_n hx hcd dL_changedSince_0 rfl (lv_at hl 0 rfl) ?_
  refine lv_iload_n hx hcd dL_changedSince_1 rfl (lv_at hl 1 rfl) ?_
  refine lv_iload_n hx hcd dL_changedSince_2 rfl (lv_at hl 2 rfl) ?_
  refine kr_Vi (As := [.int (nI a), .int v]) (rest := []) (ws2 := wX cI cB cW ob nw tr qs sc G M N S n L T) (q := (RX6, TX6, 5)) ⟨hx, hcd, hml, hown, hts⟩ (c_X6_changedSince__ok l D cI cB cW cL ob nw tr qs sc G N S n L T _ M a v ha hv) (cwV 2 hts gL_changedSince_X6_changedSince rfl rfl rfl (by decide +kernel) ⟨Nat.le_of_ble_eq_true rfl, Nat.le_of_ble_eq_true rfl⟩) hK hP hD hS hA [0, 1, 2, 3, 4, 5, 6, 7, 8, 9, 10, 11, 12, 13, 14, 15, 16, 17, 18, 19, 20, 21, 22, 23, 24, 25, 26, 27, 28, 29, 30, 31, 32, 33, 34, 35, 36, 37, 38, 39, 40, 41, 42, 43, 44, 45, 46, 47, 48, 49, 50, 51, 52, 53, 54, 55, 56, 57, 58, 59, 60, 61, 62, 63, 64, 65, 66, 67, 68, 69, 70, 71, 72, 73, 74, 75, 76, 77, 78, 79, 80, 81, 82, 83, 84, 85, 86, 87, 88, 89, 90, 91, 92, 93] wX_allC wX_nd wX_adr wX_all 0 rfl rfl rfl hl.1 rfl (Nat.le_of_ble_eq_true rfl) dL_changedSince_3 ⟨Nat.le_of_ble_eq_true rfl, Nat.le_of_ble_eq_true rfl⟩ (fun H locs hP hD hS => ?_)
  exact kr_iret hx hcd hr hlocks hK hP hD hS rfl rfl dL_changedSince_6

set_option maxHeartbeats 4000000 in
set_option maxRecDepth 100000 in
theorem c_L_changedSince__e2 (l : Launch) (hst : l.stackTraces = false) (D : va_G) (cI cB cW cL : ClassId) (ob nw tr : Nat → Nat) (qs : Nat → Nat → Nat) (sc : Nat → Nat) (G : Nat → Option Nat) (N : kM) (S : Nat → kM) (n L : Nat) (T : Nat → Int32) (sz : Nat) (M : kM) (a : Nat) (w : Int32) (ha : a < 6) (hv : w < 0) : kMg l yL_changedSince wsL_changedSince ({ frames := 7, cells := 1, slots := 6, locals := 104 }) D vwCl (kT cI cB cW cL) sz [.ref (ob 0), .int (nI a), .int w] (wX cI cB cW ob nw tr qs sc G M N S n L T) (wX cI cB cW ob nw tr qs sc G M N S n L T) (-901) 1 6 := by
  refine kr_ofh (cc := cL_changedSince) (maxL := 4) (ret := (some .int)) (hh := [(0, 6, 7, 15), (0, 6, 12, 17)]) (by decide) rfl (Nat.le_of_ble_eq_true rfl) ?_
  intro pp ee ss mm args below meth cc AA ls hx hcd hr hTab hts hown hlocks hml hZ hN hK hP hD hA hl
  have hS : va_S AA ss.heap ss.heap [] := va_S.rf
  have hown : ss.vm.findClass RL = some mm.cls := hown
  have hl : lv_has ls 4 [(0, .ref (ob 0)), (1, .int (nI a)), (2, .int w)] := hl
  refine lv_aload_n hx hcd dL_changedSince_0 rfl (lv_at hl 0 rfl) ?_
  refine lv_iload_n hx hcd dL_changedSince_1 rfl (lv_at hl 1 rfl) ?_
  refine lv_iload_n hx hcd dL_changedSince_2 rfl (lv_at hl 2 rfl) ?_
  refine kl_V (As := [.int (nI a), .int w]) (rest := []) (q := (RX6, TX6, 5)) ⟨hx, hcd, hml, hown, hts⟩ (c_X6_changedSince__e2 l D cI cB cW cL  _ M hst a w (ob 0) ha hv) (cwV 2 hts gL_changedSince_X6_changedSince rfl rfl rfl (by decide +kernel) ⟨Nat.le_of_ble_eq_true rfl, Nat.le_of_ble_eq_true rfl⟩) hZ hK hP hD hS hA [] rfl (by decide) 0 rfl rfl rfl hl.1 rfl (Nat.le_of_ble_eq_true rfl) dL_changedSince_3 ⟨Nat.le_of_ble_eq_true rfl, Nat.le_of_ble_eq_true rfl⟩ [⟨0, 6, 7, 15⟩] ⟨0, 6, 12, 17⟩ [] hTab (fun z hz => Or.inr (by rw [List.mem_singleton.mp hz]; exact ⟨by decide, eIO, hts (.classLink RL 15 "java/lang/IndexOutOfBoundsException") (by decide +kernel), hN _ (List.mem_of_getElem? (i := 0) rfl)⟩)) (by decide) (by decide) (hts (.classLink RL 17 "java/lang/IllegalArgumentException") (by decide +kernel)) (va_Nw.use rfl (hZ.2.2.2 (.castable "java/lang/IllegalArgumentException" "java/lang/IllegalArgumentException") (by decide +kernel))) (fun H locs q9 hP hD hS => ?_)
  refine lv_astore_n (lv' := [(3, .ref q9), (0, .ref (ob 0)), (1, .int (nI a)), (2, .int w)]) hx hcd dL_changedSince_12 rfl hl (by decide) rfl (fun ls hl => ?_)
  refine lv_sipush (v := (-901)) hx hcd dL_changedSince_13 (by decide) ?_
  exact kr_iret hx hcd hr hlocks hK hP hD hS rfl rfl dL_changedSince_16

set_option maxHeartbeats 4000000 in
set_option maxRecDepth 100000 in
theorem c_L_view__ok (l : Launch) (hst : l.stackTraces = false) (D : va_G) (cI cB cW cL : ClassId) (ob nw tr : Nat → Nat) (qs : Nat → Nat → Nat) (sc : Nat → Nat) (G : Nat → Option Nat) (N : kM) (S : Nat → kM) (n L : Nat) (T : Nat → Int32) (sz : Nat) (M : kM) (a : Nat) (b : Nat) (s : Nat) (ha : a < 6) (hb : b < 6) (hs : s < 3) (hne : a ≠ b) : kMg l yL_view wsL_view ({ frames := 3, cells := 0, slots := 0, locals := 64 }) D vwCl (kT cI cB cW cL) sz [.ref (ob 0), .int (nI a), .int (nI b), .int (nI s)] (wX cI cB cW ob nw tr qs sc G M N S n L T) (wX cI cB cW ob nw tr qs sc G M N S n L T) (M (132 + 18 * a + 3 * b + s)) 0 0 := by
  refine kr_ofh (cc := cL_view) (maxL := 5) (ret := (some .int)) (hh := [(0, 7, 8, 15), (0, 7, 14, 17)]) (by decide) rfl (Nat.le_of_ble_eq_true rfl) ?_
  intro pp ee ss mm args below meth cc AA ls hx hcd hr hTab hts hown hlocks hml hZ hN hK hP hD hA hl
  have hS : va_S AA ss.heap ss.heap [] := va_S.rf
  have hown : ss.vm.findClass RL = some mm.cls := hown
  have hl : lv_has ls 5 [(0, .ref (ob 0)), (1, .int (nI a)), (2, .int (nI b)), (3, .int (nI s))] := hl
  refine lv_aload_n hx hcd dL_view_0 rfl (lv_at hl 0 rfl) ?_
  refine lv_iload_n hx hcd dL_view_1 rfl (lv_at hl 1 rfl) ?_
  refine lv_iload_n hx hcd dL_view_2 rfl (lv_at hl 2 rfl) ?_
  refine lv_iload_n hx hcd dL_view_3 rfl (lv_at hl 3 rfl) ?_
  refine kr_Vi (As := [.int (nI a), .int (nI b), .int (nI s)]) (rest := []) (ws2 := wX cI cB cW ob nw tr qs sc G M N S n L T) (q := (RX6, TX6, 5)) ⟨hx, hcd, hml, hown, hts⟩ (c_X6_view__ok l D cI cB cW cL ob nw tr qs sc G N S n L T _ M a b s ha hb hs hne) (cwV 3 hts gL_view_X6_view rfl rfl rfl (by decide +kernel) ⟨Nat.le_of_ble_eq_true rfl, Nat.le_of_ble_eq_true rfl⟩) hK hP hD hS hA [0, 1, 2, 3, 4, 5, 6, 7, 8, 9, 10, 11, 12, 13, 14, 15, 16, 17, 18, 19, 20, 21, 22, 23, 24, 25, 26, 27, 28, 29, 30, 31, 32, 33, 34, 35, 36, 37, 38, 39, 40, 41, 42, 43, 44, 45, 46, 47, 48, 49, 50, 51, 52, 53, 54, 55, 56, 57, 58, 59, 60, 61, 62, 63, 64, 65, 66, 67, 68, 69, 70, 71, 72, 73, 74, 75, 76, 77, 78, 79, 80, 81, 82, 83, 84, 85, 86, 87, 88, 89, 90, 91, 92, 93] wX_allC wX_nd wX_adr wX_all 0 rfl rfl rfl hl.1 rfl (Nat.le_of_ble_eq_true rfl) dL_view_4 ⟨Nat.le_of_ble_eq_true rfl, Nat.le_of_ble_eq_true rfl⟩ (fun H locs hP hD hS => ?_)
  exact kr_iret hx hcd hr hlocks hK hP hD hS rfl rfl dL_view_7

set_option maxHeartbeats 4000000 in
set_option maxRecDepth 100000 in
theorem c_L_view__e1a (l : Launch) (hst : l.stackTraces = false) (D : va_G) (cI cB cW cL : ClassId) (ob nw tr : Nat → Nat) (qs : Nat → Nat → Nat) (sc : Nat → Nat) (G : Nat → Option Nat) (N : kM) (S : Nat → kM) (n L : Nat) (T : Nat → Int32) (sz : Nat) (M : kM) (u : Int32) (w : Int32) (t : Int32) (hg : g_seatok u t = false) : kMg l yL_view wsL_view ({ frames := 9, cells := 1, slots := 6, locals := 146 }) D vwCl (kT cI cB cW cL) sz [.ref (ob 0), .int u, .int w, .int t] (wX cI cB cW ob nw tr qs sc G M N S n L T) (wX cI cB cW ob nw tr qs sc G M N S n L T) (-903) 1 6 := by
  refine kr_ofh (cc := cL_view) (maxL := 5) (ret := (some .int)) (hh := [(0, 7, 8, 15), (0, 7, 14, 17)]) (by decide) rfl (Nat.le_of_ble_eq_true rfl) ?_
  intro pp ee ss mm args below meth cc AA ls hx hcd hr hTab hts hown hlocks hml hZ hN hK hP hD hA hl
  have hS : va_S AA ss.heap ss.heap [] := va_S.rf
  have hown : ss.vm.findClass RL = some mm.cls := hown
  have hl : lv_has ls 5 [(0, .ref (ob 0)), (1, .int u), (2, .int w), (3, .int t)] := hl
  refine lv_aload_n hx hcd dL_view_0 rfl (lv_at hl 0 rfl) ?_
  refine lv_iload_n hx hcd dL_view_1 rfl (lv_at hl 1 rfl) ?_
  refine lv_iload_n hx hcd dL_view_2 rfl (lv_at hl 2 rfl) ?_
  refine lv_iload_n hx hcd dL_view_3 rfl (lv_at hl 3 rfl) ?_
  refine kl_V (As := [.int u, .int w, .int t]) (rest := []) (q := (RX6, TX6, 5)) ⟨hx, hcd, hml, hown, hts⟩ (c_X6_view__e1a l D cI cB cW cL  _ M hst u w t (ob 0) hg) (cwV 3 hts gL_view_X6_view rfl rfl rfl (by decide +kernel) ⟨Nat.le_of_ble_eq_true rfl, Nat.le_of_ble_eq_true rfl⟩) hZ hK hP hD hS hA [] rfl (by decide) 0 rfl rfl rfl hl.1 rfl (Nat.le_of_ble_eq_true rfl) dL_view_4 ⟨Nat.le_of_ble_eq_true rfl, Nat.le_of_ble_eq_true rfl⟩ [] ⟨0, 7, 8, 15⟩ [⟨0, 7, 14, 17⟩] hTab (fun z hz => absurd hz List.not_mem_nil) (by decide) (by decide) (hts (.classLink RL 15 "java/lang/IndexOutOfBoundsException") (by decide +kernel)) (va_Nw.use rfl (hZ.2.2.2 (.castable "java/lang/IndexOutOfBoundsException" "java/lang/IndexOutOfBoundsException") (by decide +kernel))) (fun H locs q9 hP hD hS => ?_)
  refine lv_astore (lv' := [(4, .ref q9), (0, .ref (ob 0)), (1, .int u), (2, .int w), (3, .int t)]) hx hcd dL_view_8 hl (by decide) rfl (fun ls hl => ?_)
  refine lv_sipush (v := (-903)) hx hcd dL_view_10 (by decide) ?_
  exact kr_iret hx hcd hr hlocks hK hP hD hS rfl rfl dL_view_13

set_option maxHeartbeats 4000000 in
set_option maxRecDepth 100000 in
theorem c_L_view__e2 (l : Launch) (hst : l.stackTraces = false) (D : va_G) (cI cB cW cL : ClassId) (ob nw tr : Nat → Nat) (qs : Nat → Nat → Nat) (sc : Nat → Nat) (G : Nat → Option Nat) (N : kM) (S : Nat → kM) (n L : Nat) (T : Nat → Int32) (sz : Nat) (M : kM) (a : Nat) (w : Int32) (s : Nat) (ha : a < 6) (hs : s < 3) (hg : g_why (nI a) w = nI 2) : kMg l yL_view wsL_view ({ frames := 9, cells := 1, slots := 6, locals := 146 }) D vwCl (kT cI cB cW cL) sz [.ref (ob 0), .int (nI a), .int w, .int (nI s)] (wX cI cB cW ob nw tr qs sc G M N S n L T) (wX cI cB cW ob nw tr qs sc G M N S n L T) (-901) 1 6 := by
  refine kr_ofh (cc := cL_view) (maxL := 5) (ret := (some .int)) (hh := [(0, 7, 8, 15), (0, 7, 14, 17)]) (by decide) rfl (Nat.le_of_ble_eq_true rfl) ?_
  intro pp ee ss mm args below meth cc AA ls hx hcd hr hTab hts hown hlocks hml hZ hN hK hP hD hA hl
  have hS : va_S AA ss.heap ss.heap [] := va_S.rf
  have hown : ss.vm.findClass RL = some mm.cls := hown
  have hl : lv_has ls 5 [(0, .ref (ob 0)), (1, .int (nI a)), (2, .int w), (3, .int (nI s))] := hl
  refine lv_aload_n hx hcd dL_view_0 rfl (lv_at hl 0 rfl) ?_
  refine lv_iload_n hx hcd dL_view_1 rfl (lv_at hl 1 rfl) ?_
  refine lv_iload_n hx hcd dL_view_2 rfl (lv_at hl 2 rfl) ?_
  refine lv_iload_n hx hcd dL_view_3 rfl (lv_at hl 3 rfl) ?_
  refine kl_V (As := [.int (nI a), .int w, .int (nI s)]) (rest := []) (q := (RX6, TX6, 5)) ⟨hx, hcd, hml, hown, hts⟩ (c_X6_view__e2 l D cI cB cW cL  _ M hst a w s (ob 0) ha hs hg) (cwV 3 hts gL_view_X6_view rfl rfl rfl (by decide +kernel) ⟨Nat.le_of_ble_eq_true rfl, Nat.le_of_ble_eq_true rfl⟩) hZ hK hP hD hS hA [] rfl (by decide) 0 rfl rfl rfl hl.1 rfl (Nat.le_of_ble_eq_true rfl) dL_view_4 ⟨Nat.le_of_ble_eq_true rfl, Nat.le_of_ble_eq_true rfl⟩ [⟨0, 7, 8, 15⟩] ⟨0, 7, 14, 17⟩ [] hTab (fun z hz => Or.inr (by rw [List.mem_singleton.mp hz]; exact ⟨by decide, eIO, hts (.classLink RL 15 "java/lang/IndexOutOfBoundsException") (by decide +kernel), hN _ (List.mem_of_getElem? (i := 0) rfl)⟩)) (by decide) (by decide) (hts (.classLink RL 17 "java/lang/IllegalArgumentException") (by decide +kernel)) (va_Nw.use rfl (hZ.2.2.2 (.castable "java/lang/IllegalArgumentException" "java/lang/IllegalArgumentException") (by decide +kernel))) (fun H locs q9 hP hD hS => ?_)
  refine lv_astore (lv' := [(4, .ref q9), (0, .ref (ob 0)), (1, .int (nI a)), (2, .int w), (3, .int (nI s))]) hx hcd dL_view_14 hl (by decide) rfl (fun ls hl => ?_)
  refine lv_sipush (v := (-901)) hx hcd dL_view_16 (by decide) ?_
  exact kr_iret hx hcd hr hlocks hK hP hD hS rfl rfl dL_view_19

set_option maxHeartbeats 4000000 in
set_option maxRecDepth 100000 in
theorem c_L_wrongViews__ok (l : Launch) (hst : l.stackTraces = false) (D : va_G) (cI cB cW cL : ClassId) (ob nw tr : Nat → Nat) (qs : Nat → Nat → Nat) (sc : Nat → Nat) (G : Nat → Option Nat) (N : kM) (S : Nat → kM) (n L : Nat) (T : Nat → Int32) (sz : Nat) (M : kM) (a : Nat) (ha : a < 6) : kMg l yL_wrongViews wsL_wrongViews ({ frames := 4, cells := 0, slots := 0, locals := 95 }) D vwCl (kT cI cB cW cL) sz [.ref (ob 0), .int (nI a)] (wX cI cB cW ob nw tr qs sc G M N S n L T) (wX cI cB cW ob nw tr qs sc G M N S n L T) (nI (g_wrA M a 6)) 0 0 := by
  refine kr_ofh (cc := cL_wrongViews) (maxL := 3) (ret := (some .int)) (hh := [(0, 5, 6, 15)]) (by decide) rfl (Nat.le_of_ble_eq_true rfl) ?_
  intro pp ee ss mm args below meth cc AA ls hx hcd hr hTab hts hown hlocks hml hZ hN hK hP hD hA hl
  have hS : va_S AA ss.heap ss.heap [] := va_S.rf
  have hown : ss.vm.findClass RL = some mm.cls := hown
  have hl : lv_has ls 3 [(0, .ref (ob 0)), (1, .int (nI a))] := hl
  refine lv_aload_n hx hcd dL_wrongViews_0 rfl (lv_at hl 0 rfl) ?_
  refine lv_iload_n hx hcd dL_wrongViews_1 rfl (lv_at hl 1 rfl) ?_
  refine kr_Vi (As := [.int (nI a)]) (rest := []) (ws2 := wX cI cB cW ob nw tr qs sc G M N S n L T) (q := (RX6, TX6, 5)) ⟨hx, hcd, hml, hown, hts⟩ (c_X6_wrongViews__ok l D cI cB cW cL ob nw tr qs sc G N S n L T _ M a ha) (cwV 1 hts gL_wrongViews_X6_wrongViews rfl rfl rfl (by decide +kernel) ⟨Nat.le_of_ble_eq_true rfl, Nat.le_of_ble_eq_true rfl⟩) hK hP hD hS hA [0, 1, 2, 3, 4, 5, 6, 7, 8, 9, 10, 11, 12, 13, 14, 15, 16, 17, 18, 19, 20, 21, 22, 23, 24, 25, 26, 27, 28, 29, 30, 31, 32, 33, 34, 35, 36, 37, 38, 39, 40, 41, 42, 43, 44, 45, 46, 47, 48, 49, 50, 51, 52, 53, 54, 55, 56, 57, 58, 59, 60, 61, 62, 63, 64, 65, 66, 67, 68, 69, 70, 71, 72, 73, 74, 75, 76, 77, 78, 79, 80, 81, 82, 83, 84, 85, 86, 87, 88, 89, 90, 91, 92, 93] wX_allC wX_nd wX_adr wX_all 0 rfl rfl rfl hl.1 rfl (Nat.le_of_ble_eq_true rfl) dL_wrongViews_2 ⟨Nat.le_of_ble_eq_true rfl, Nat.le_of_ble_eq_true rfl⟩ (fun H locs hP hD hS => ?_)
  exact kr_iret hx hcd hr hlocks hK hP hD hS rfl rfl dL_wrongViews_5

set_option maxHeartbeats 4000000 in
set_option maxRecDepth 100000 in
theorem c_L_wrongViews__e1 (l : Launch) (hst : l.stackTraces = false) (D : va_G) (cI cB cW cL : ClassId) (ob nw tr : Nat → Nat) (qs : Nat → Nat → Nat) (sc : Nat → Nat) (G : Nat → Option Nat) (N : kM) (S : Nat → kM) (n L : Nat) (T : Nat → Int32) (sz : Nat) (M : kM) (u : Int32) (hg : g_usr u = false) : kMg l yL_wrongViews wsL_wrongViews ({ frames := 8, cells := 1, slots := 6, locals := 123 }) D vwCl (kT cI cB cW cL) sz [.ref (ob 0), .int u] (wX cI cB cW ob nw tr qs sc G M N S n L T) (wX cI cB cW ob nw tr qs sc G M N S n L T) (-903) 1 6 := by
  refine kr_ofh (cc := cL_wrongViews) (maxL := 3) (ret := (some .int)) (hh := [(0, 5, 6, 15)]) (by decide) rfl (Nat.le_of_ble_eq_true rfl) ?_
  intro pp ee ss mm args below meth cc AA ls hx hcd hr hTab hts hown hlocks hml hZ hN hK hP hD hA hl
  have hS : va_S AA ss.heap ss.heap [] := va_S.rf
  have hown : ss.vm.findClass RL = some mm.cls := hown
  have hl : lv_has ls 3 [(0, .ref (ob 0)), (1, .int u)] := hl
  refine lv_aload_n hx hcd dL_wrongViews_0 rfl (lv_at hl 0 rfl) ?_
  refine lv_iload_n hx hcd dL_wrongViews_1 rfl (lv_at hl 1 rfl) ?_
  refine kl_V (As := [.int u]) (rest := []) (q := (RX6, TX6, 5)) ⟨hx, hcd, hml, hown, hts⟩ (c_X6_wrongViews__e1 l D cI cB cW cL  _ M hst u (ob 0) hg) (cwV 1 hts gL_wrongViews_X6_wrongViews rfl rfl rfl (by decide +kernel) ⟨Nat.le_of_ble_eq_true rfl, Nat.le_of_ble_eq_true rfl⟩) hZ hK hP hD hS hA [] rfl (by decide) 0 rfl rfl rfl hl.1 rfl (Nat.le_of_ble_eq_true rfl) dL_wrongViews_2 ⟨Nat.le_of_ble_eq_true rfl, Nat.le_of_ble_eq_true rfl⟩ [] ⟨0, 5, 6, 15⟩ [] hTab (fun z hz => absurd hz List.not_mem_nil) (by decide) (by decide) (hts (.classLink RL 15 "java/lang/IndexOutOfBoundsException") (by decide +kernel)) (va_Nw.use rfl (hZ.2.2.2 (.castable "java/lang/IndexOutOfBoundsException" "java/lang/IndexOutOfBoundsException") (by decide +kernel))) (fun H locs q9 hP hD hS => ?_)
  refine lv_astore_n (lv' := [(2, .ref q9), (0, .ref (ob 0)), (1, .int u)]) hx hcd dL_wrongViews_6 rfl hl (by decide) rfl (fun ls hl => ?_)
  refine lv_sipush (v := (-903)) hx hcd dL_wrongViews_7 (by decide) ?_
  exact kr_iret hx hcd hr hlocks hK hP hD hS rfl rfl dL_wrongViews_10

set_option maxHeartbeats 4000000 in
set_option maxRecDepth 100000 in
theorem c_L_append__e1 (l : Launch) (hst : l.stackTraces = false) (D : va_G) (cI cB cW cL : ClassId) (ob nw tr : Nat → Nat) (qs : Nat → Nat → Nat) (sc : Nat → Nat) (G : Nat → Option Nat) (N : kM) (S : Nat → kM) (n L : Nat) (T : Nat → Int32) (sz : Nat) (M : kM) (u : Int32) (hg : g_in u 0 127 = false) : kMg l yL_append wsL_append ({ frames := 7, cells := 1, slots := 6, locals := 103 }) D vwCl (kT cI cB cW cL) sz [.ref (ob 0), .int u] (wX cI cB cW ob nw tr qs sc G M N S n L T) (wX cI cB cW ob nw tr qs sc G M N S n L T) (-901) 1 6 := by
  refine kr_ofh (cc := cL_append) (maxL := 3) (ret := (some .int)) (hh := [(0, 5, 6, 17), (0, 5, 11, 39)]) (by decide) rfl (Nat.le_of_ble_eq_true rfl) ?_
  intro pp ee ss mm args below meth cc AA ls hx hcd hr hTab hts hown hlocks hml hZ hN hK hP hD hA hl
  have hS : va_S AA ss.heap ss.heap [] := va_S.rf
  have hown : ss.vm.findClass RL = some mm.cls := hown
  have hl : lv_has ls 3 [(0, .ref (ob 0)), (1, .int u)] := hl
  refine lv_aload_n hx hcd dL_append_0 rfl (lv_at hl 0 rfl) ?_
  refine lv_iload_n hx hcd dL_append_1 rfl (lv_at hl 1 rfl) ?_
  refine kl_V (As := [.int u]) (rest := []) (q := (RX6, TX6, 5)) ⟨hx, hcd, hml, hown, hts⟩ (c_X6_append__e1 l D cI cB cW cL  _ M hst u (ob 0) hg) (cwV 1 hts gL_append_X6_append rfl rfl rfl (by decide +kernel) ⟨Nat.le_of_ble_eq_true rfl, Nat.le_of_ble_eq_true rfl⟩) hZ hK hP hD hS hA [] rfl (by decide) 0 rfl rfl rfl hl.1 rfl (Nat.le_of_ble_eq_true rfl) dL_append_2 ⟨Nat.le_of_ble_eq_true rfl, Nat.le_of_ble_eq_true rfl⟩ [] ⟨0, 5, 6, 17⟩ [⟨0, 5, 11, 39⟩] hTab (fun z hz => absurd hz List.not_mem_nil) (by decide) (by decide) (hts (.classLink RL 17 "java/lang/IllegalArgumentException") (by decide +kernel)) (va_Nw.use rfl (hZ.2.2.2 (.castable "java/lang/IllegalArgumentException" "java/lang/IllegalArgumentException") (by decide +kernel))) (fun H locs q9 hP hD hS => ?_)
  refine lv_astore_n (lv' := [(2, .ref q9), (0, .ref (ob 0)), (1, .int u)]) hx hcd dL_append_6 rfl hl (by decide) rfl (fun ls hl => ?_)
  refine lv_sipush (v := (-901)) hx hcd dL_append_7 (by decide) ?_
  exact kr_iret hx hcd hr hlocks hK hP hD hS rfl rfl dL_append_10

set_option maxHeartbeats 4000000 in
set_option maxRecDepth 100000 in
theorem c_L_undo__ok (l : Launch) (hst : l.stackTraces = false) (D : va_G) (cI cB cW cL : ClassId) (ob nw tr : Nat → Nat) (qs : Nat → Nat → Nat) (sc : Nat → Nat) (G : Nat → Option Nat) (N : kM) (S : Nat → kM) (n L : Nat) (T : Nat → Int32) (sz : Nat) (M : kM) (r k : Nat) (hk : k < 4) : kMg l yL_undo wsL_undo ({ frames := 4, cells := 0, slots := 0, locals := 142 }) D vwCl (kT cI cB cW cL) sz [.ref (ob 0)] (wX cI cB cW ob nw tr qs sc (g_rot qs r) M N S (k + 1) L T) (wX cI cB cW ob nw tr qs sc (g_rot qs r) (S ((k + r) % 4)) N S k L T) (nI k) 0 0 := by
  refine kr_ofh (cc := cL_undo) (maxL := 2) (ret := (some .int)) (hh := [(0, 4, 5, 39)]) (by decide) rfl (Nat.le_of_ble_eq_true rfl) ?_
  intro pp ee ss mm args below meth cc AA ls hx hcd hr hTab hts hown hlocks hml hZ hN hK hP hD hA hl
  have hS : va_S AA ss.heap ss.heap [] := va_S.rf
  have hown : ss.vm.findClass RL = some mm.cls := hown
  have hl : lv_has ls 2 [(0, .ref (ob 0))] := hl
  refine lv_aload_n hx hcd dL_undo_0 rfl (lv_at hl 0 rfl) ?_
  refine kr_Vi (As := []) (rest := []) (ws2 := wX cI cB cW ob nw tr qs sc (g_rot qs r) (S ((k + r) % 4)) N S k L T) (q := (RX6, TX6, 5)) ⟨hx, hcd, hml, hown, hts⟩ (c_X6_undo__ok l D cI cB cW cL ob nw tr qs sc (g_rot qs r) N S (k + 1) L T _ M r k hk) (cwV 0 hts gL_undo_X6_undo rfl rfl rfl (by decide +kernel) ⟨Nat.le_of_ble_eq_true rfl, Nat.le_of_ble_eq_true rfl⟩) hK hP hD hS hA [0, 1, 2, 3, 4, 5, 6, 7, 8, 9, 10, 11, 12, 13, 14, 15, 16, 17, 18, 19, 20, 21, 22, 23, 24, 25, 26, 27, 28, 29, 30, 31, 32, 33, 34, 35, 36, 37, 38, 39, 40, 41, 42, 43, 44, 45, 46, 47, 48, 49, 50, 51, 52, 53, 54, 55, 56, 57, 58, 59, 60, 61, 62, 63, 64, 65, 66, 67, 68, 69, 70, 71, 72, 73, 74, 75, 76, 77, 78, 79, 80, 81, 82, 83, 84, 85, 86, 87, 88, 89, 90, 91, 92, 93] wX_allC wX_nd wX_adr wX_all 0 rfl rfl rfl hl.1 rfl (Nat.le_of_ble_eq_true rfl) dL_undo_1 ⟨Nat.le_of_ble_eq_true rfl, Nat.le_of_ble_eq_true rfl⟩ (fun H locs hP hD hS => ?_)
  exact kr_iret hx hcd hr hlocks hK hP hD hS rfl rfl dL_undo_4

set_option maxHeartbeats 4000000 in
set_option maxRecDepth 100000 in
theorem c_L_undo__e1 (l : Launch) (hst : l.stackTraces = false) (D : va_G) (cI cB cW cL : ClassId) (ob nw tr : Nat → Nat) (qs : Nat → Nat → Nat) (sc : Nat → Nat) (G : Nat → Option Nat) (N : kM) (S : Nat → kM) (n L : Nat) (T : Nat → Int32) (sz : Nat) (M : kM)  : kMg l yL_undo wsL_undo ({ frames := 7, cells := 1, slots := 6, locals := 102 }) D vwCl (kT cI cB cW cL) sz [.ref (ob 0)] (wX cI cB cW ob nw tr qs sc G M N S 0 L T) (wX cI cB cW ob nw tr qs sc G M N S 0 L T) (-902) 1 6 := by
  refine kr_ofh (cc := cL_undo) (maxL := 2) (ret := (some .int)) (hh := [(0, 4, 5, 39)]) (by decide) rfl (Nat.le_of_ble_eq_true rfl) ?_
  intro pp ee ss mm args below meth cc AA ls hx hcd hr hTab hts hown hlocks hml hZ hN hK hP hD hA hl
  have hS : va_S AA ss.heap ss.heap [] := va_S.rf
  have hown : ss.vm.findClass RL = some mm.cls := hown
  have hl : lv_has ls 2 [(0, .ref (ob 0))] := hl
  refine lv_aload_n hx hcd dL_undo_0 rfl (lv_at hl 0 rfl) ?_
  refine kl_V (As := []) (rest := []) (q := (RX6, TX6, 5)) ⟨hx, hcd, hml, hown, hts⟩ (c_X6_undo__e1 l D cI cB cW cL ob nw tr qs sc G N S 0 L T _ M hst) (cwV 0 hts gL_undo_X6_undo rfl rfl rfl (by decide +kernel) ⟨Nat.le_of_ble_eq_true rfl, Nat.le_of_ble_eq_true rfl⟩) hZ hK hP hD hS hA [0, 1, 2, 3, 4, 5, 6, 7, 8, 9, 10, 11, 12, 13, 14, 15, 16, 17, 18, 19, 20, 21, 22, 23, 24, 25, 26, 27, 28, 29, 30, 31, 32, 33, 34, 35, 36, 37, 38, 39, 40, 41, 42, 43, 44, 45, 46, 47, 48, 49, 50, 51, 52, 53, 54, 55, 56, 57, 58, 59, 60, 61, 62, 63, 64, 65, 66, 67, 68, 69, 70, 71, 72, 73, 74, 75, 76, 77, 78, 79, 80, 81, 82, 83, 84, 85, 86, 87, 88, 89, 90, 91, 92, 93] wX_allC wX_nd 0 rfl rfl rfl hl.1 rfl (Nat.le_of_ble_eq_true rfl) dL_undo_1 ⟨Nat.le_of_ble_eq_true rfl, Nat.le_of_ble_eq_true rfl⟩ [] ⟨0, 4, 5, 39⟩ [] hTab (fun z hz => absurd hz List.not_mem_nil) (by decide) (by decide) (hts (.classLink RL 39 "java/lang/IllegalStateException") (by decide +kernel)) (va_Nw.use rfl (hZ.2.2.2 (.castable "java/lang/IllegalStateException" "java/lang/IllegalStateException") (by decide +kernel))) (fun H locs q9 hP hD hS => ?_)
  refine lv_astore_n (lv' := [(1, .ref q9), (0, .ref (ob 0))]) hx hcd dL_undo_5 rfl hl (by decide) rfl (fun ls hl => ?_)
  refine lv_sipush (v := (-902)) hx hcd dL_undo_6 (by decide) ?_
  exact kr_iret hx hcd hr hlocks hK hP hD hS rfl rfl dL_undo_9

set_option maxHeartbeats 4000000 in
set_option maxRecDepth 100000 in
theorem c_L_low (l : Launch) (D : va_G) (cI cB cW cL : ClassId)  (sz : Nat) (M : kM) (v : Int32) (n : Nat) (h0 : 0 < n) (h1 : n < 2 ^ 31) : kMi l yL_low wsL_low ({ frames := 0, cells := 0, slots := 0, locals := 0 }) D vwCl (kT cI cB cW cL) sz [.int v, .int (nI n)] ([]) ([]) (nI (g_low v n)) := by
  refine kr_ofi (cc := cL_low) (maxL := 2) (ret := (some .int)) (by decide) rfl (Nat.le_of_ble_eq_true rfl) ?_
  intro pp ee ss mm args below meth cc AA ls hx hcd hr hts hown hlocks hml hK hP hD hA hl
  have hS : va_S AA ss.heap ss.heap [] := va_S.rf
  have hown : ss.vm.findClass RL = some mm.cls := hown
  have hl : lv_has ls 2 [(0, .int v), (1, .int (nI n))] := hl
  have b9 := low_lo (v := v)
  refine lv_iload_n hx hcd dL_low_0 rfl (lv_at hl 0 rfl) ?_
  refine lv_ldc (v := 2147483647) hx hcd hown (hts (.constant RL 8 2147483647) (by decide +kernel)) dL_low_1 ?_
  refine lv_iand hx hcd dL_low_3 ?_
  refine kr_top (w := nI (lowN v)) low_n ?_
  refine lv_iload_n hx hcd dL_low_4 rfl (lv_at hl 1 rfl) ?_
  refine kr_rem hx hcd (by omega) (by omega) (by omega) dL_low_5 ?_
  exact kr_iret hx hcd hr hlocks hK hP hD hS (by rfl) rfl dL_low_6
