/-! the object's checks and its saved states -/
theorem wX_nd : va_nd [0, 1, 2, 3, 4, 5, 6, 7, 8, 9, 10, 11, 12, 13, 14, 15, 16, 17, 18, 19, 20, 21, 22, 23, 24, 25, 26, 27, 28, 29, 30, 31, 32, 33, 34, 35, 36, 37, 38, 39, 40, 41, 42, 43, 44, 45, 46, 47, 48, 49, 50, 51, 52, 53, 54, 55, 56, 57, 58, 59, 60, 61, 62, 63, 64, 65, 66, 67, 68, 69, 70, 71, 72, 73, 74, 75, 76, 77, 78, 79, 80, 81, 82, 83, 84, 85, 86, 87, 88, 89, 90, 91, 92, 93] = true := by decide +kernel
theorem mix_98921 (v : Int32) : (98921 : Int64) + v.toInt64 = g_mix 3191 v := by
  unfold g_mix
  rw [show (31 : Int64) * 3191 = 98921 from by decide]
theorem in_nat {v : Int32} {hi : Nat} (hh : hi < 2 ^ 31) (h : g_in v 0 (nI hi) = true) : ∃ a, a ≤ hi ∧ v = nI a := by
  unfold g_in at h
  simp only [Bool.and_eq_true, decide_eq_true_eq] at h
  obtain ⟨a, ha, rfl⟩ := nI_of h.1
  exact ⟨a, Nat.le_of_not_lt fun q => h.2 (nI_lt q ha), rfl⟩
theorem usr_nat {v : Int32} (h : g_usr v = true) : ∃ a, a < 6 ∧ v = nI a := by
  obtain ⟨a, h1, h2⟩ := in_nat (hi := 5) (by omega) h
  exact ⟨a, by omega, h2⟩
theorem seat_nat {u v : Int32} (h : g_seatok u v = true) : ∃ a s, a < 6 ∧ s < 3 ∧ u = nI a ∧ v = nI s := by
  unfold g_seatok at h
  simp only [Bool.and_eq_true] at h
  obtain ⟨a, h1, h2⟩ := usr_nat h.1
  obtain ⟨s, h3, h4⟩ := in_nat (hi := 2) (by omega) h.2
  exact ⟨a, s, h1, by omega, h2, h4⟩
/-- a value at or over the end isn't in -/
theorem in_off {v : Int32} {hi : Nat} (hh : hi + 1 < 2 ^ 31) (h : g_in v 0 (nI hi) = false) (h1 : ¬ v < 0) : ¬ v < nI (hi + 1) := by
  obtain ⟨a, ha, rfl⟩ := nI_of h1
  intro h2
  have h3 := (nI_ltI ha (by omega)).mp h2
  rw [show (0 : Int32) = nI 0 from rfl, in_ok (lo := 0) (by omega) (show a ≤ hi by omega) (by omega)] at h
  cases h
theorem why_1 {u w : Int32} (h : g_why u w = nI 1) : g_usr u = false ∨ (∃ a, a < 6 ∧ u = nI a ∧ g_usr w = false) := by
  unfold g_why at h
  by_cases hu : g_usr u = true
  · obtain ⟨a, h1, h2⟩ := usr_nat hu
    by_cases hw : g_usr w = true
    · rw [if_pos ⟨hu, hw⟩] at h
      split at h <;> exact absurd h (by decide)
    · exact Or.inr ⟨a, h1, h2, by simpa using hw⟩
  · exact Or.inl (by simpa using hu)
theorem why_2 {u w : Int32} (h : g_why u w = nI 2) : ∃ a, a < 6 ∧ u = nI a ∧ w = nI a := by
  unfold g_why at h
  by_cases hu : g_usr u = true ∧ g_usr w = true
  · rw [if_pos hu] at h
    obtain ⟨a, h1, h2⟩ := usr_nat hu.1
    by_cases e : u = w
    · exact ⟨a, h1, h2, e ▸ h2⟩
    · rw [if_neg e] at h
      exact absurd h (by decide)
  · rw [if_neg hu] at h
    exact absurd h (by decide)
theorem why_same {a : Nat} (ha : a < 6) : g_why (nI a) (nI a) = nI 2 := by
  unfold g_why
  rw [if_pos ⟨usr_ok ha, usr_ok ha⟩, if_pos rfl]
  rfl
theorem why_012 (u w : Int32) : g_why u w = nI 0 ∨ g_why u w = nI 1 ∨ g_why u w = nI 2 := by
  unfold g_why
  split
  · split
    · exact Or.inr (Or.inr rfl)
    · exact Or.inl rfl
  · exact Or.inr (Or.inl rfl)
theorem why_0 {u w : Int32} (h : g_why u w = nI 0) : ∃ a b, a < 6 ∧ b < 6 ∧ a ≠ b ∧ u = nI a ∧ w = nI b := by
  unfold g_why at h
  by_cases hu : g_usr u = true ∧ g_usr w = true
  · rw [if_pos hu] at h
    obtain ⟨a, h1, h2⟩ := usr_nat hu.1
    obtain ⟨b, h3, h4⟩ := usr_nat hu.2
    by_cases e : u = w
    · rw [if_pos e] at h
      exact absurd h (by decide)
    · exact ⟨a, b, h1, h3, fun q => e (by rw [h2, h4, q]), h2, h4⟩
  · rw [if_neg hu] at h
    exact absurd h (by decide)
theorem seat_no {u v : Int32} (h : g_seatok u v = false) : g_usr u = false ∨ (∃ a, a < 6 ∧ u = nI a ∧ g_in v 0 2 = false) := by
  unfold g_seatok at h
  by_cases hu : g_usr u = true
  · obtain ⟨a, h1, h2⟩ := usr_nat hu
    rw [hu, Bool.true_and] at h
    exact Or.inr ⟨a, h1, h2, h⟩
  · exact Or.inl (by simpa using hu)
theorem tn_no {t y : Int32} (h : g_in t (-9) 9 = false ∨ g_in y 0 4 = false) (h1 : ¬ t < -9) (h2 : ¬ 9 < t) (h3 : ¬ y < 0) : ¬ y < 5 := by
  rcases h with h | h
  · unfold g_in at h
    simp [h1, h2] at h
  · exact in_off (hi := 4) (by omega) h h3
theorem le_no {v : Int32} {hi : Nat} (h : g_in v 0 (nI hi) = false) (h1 : ¬ v < 0) : ¬ v ≤ nI hi := by
  intro q
  unfold g_in at h
  have h2 : ¬ nI hi < v := by
    rw [Int32.le_iff_toInt_le] at q
    rw [Int32.lt_iff_toInt_lt]
    omega
  simp [h1, h2] at h
theorem msg_no {M : kM} (hI : kInv M) {v : Int32} (h : g_in v 0 (M 577 - 1) = false) (h1 : ¬ v < 0) : ¬ v < nI (wyN M) := by
  have hw := i_wyle hI
  by_cases h0 : wyN M = 0
  · rw [h0]
    exact h1
  · rw [i_dec hI (by omega)] at h
    have := in_off (hi := wyN M - 1) (by omega) h h1
    rwa [show wyN M - 1 + 1 = wyN M by omega] at this

set_option maxHeartbeats 4000000 in
set_option maxRecDepth 100000 in
theorem c_X6_checkUser__ok (l : Launch) (D : va_G) (cI cB cW cL : ClassId)  (sz : Nat) (M : kM) (a : Nat) (ha : a < 6) : kMv l yX6_checkUser wsX6_checkUser ({ frames := 0, cells := 0, slots := 0, locals := 0 }) D vwCl (kT cI cB cW cL) sz [.int (nI a)] ([]) ([]) := by
  refine kr_ofv (cc := cX6_checkUser) (maxL := 1) (ret := none) (by decide) rfl (Nat.le_of_ble_eq_true rfl) ?_
  intro pp ee ss mm args below meth cc AA ls hx hcd hr hts hown hlocks hml hK hP hD hA hl
  have hS : va_S AA ss.heap ss.heap [] := va_S.rf
  have hown : ss.vm.findClass RX6 = some mm.cls := hown
  have hl : lv_has ls 1 [(0, .int (nI a))] := hl
  refine lv_iload_n hx hcd dX6_checkUser_0 rfl (lv_at hl 0 rfl) ?_
  refine kr_zlt (tgt := 10) hx hcd (by omega) dX6_checkUser_1 (by decide) ?_
  refine lv_iload_n hx hcd dX6_checkUser_4 rfl (lv_at hl 0 rfl) ?_
  refine lv_bipush (v := nI 6) hx hcd dX6_checkUser_5 (by decide) ?_
  refine kr_clt (tgt := 20) hx hcd (by omega) (by omega) dX6_checkUser_7 (by decide) (fun (c_7 : a < 6) => ?_) (fun (c_7 : 6 ≤ a) => absurd c_7 (by omega))
  exact kr_vret hx hcd hr hlocks hK hP hD hS rfl dX6_checkUser_20

set_option maxHeartbeats 4000000 in
set_option maxRecDepth 100000 in
theorem c_X6_checkPair__ok (l : Launch) (D : va_G) (cI cB cW cL : ClassId)  (sz : Nat) (M : kM) (a : Nat) (b : Nat) (ha : a < 6) (hb : b < 6) (hne : a ≠ b) : kMv l yX6_checkPair wsX6_checkPair ({ frames := 1, cells := 0, slots := 0, locals := 20 }) D vwCl (kT cI cB cW cL) sz [.int (nI a), .int (nI b)] ([]) ([]) := by
  refine kr_ofv (cc := cX6_checkPair) (maxL := 2) (ret := none) (by decide) rfl (Nat.le_of_ble_eq_true rfl) ?_
  intro pp ee ss mm args below meth cc AA ls hx hcd hr hts hown hlocks hml hK hP hD hA hl
  have hS : va_S AA ss.heap ss.heap [] := va_S.rf
  have hown : ss.vm.findClass RX6 = some mm.cls := hown
  have hl : lv_has ls 2 [(0, .int (nI a)), (1, .int (nI b))] := hl
  refine lv_iload_n hx hcd dX6_checkPair_0 rfl (lv_at hl 0 rfl) ?_
  refine kr_Sv (As := [.int (nI a)]) (rest := []) (ws2 := []) ⟨hx, hcd, hml, hown, hts⟩ (c_X6_checkUser__ok l D cI cB cW cL  _ M a (by omega)) (va_cwS 1 hts gX6_checkPair_X6_checkUser rfl rfl rfl (by decide +kernel) ⟨Nat.le_of_ble_eq_true rfl, Nat.le_of_ble_eq_true rfl⟩) hK hP hD hS hA [] rfl (by decide) rfl rfl rfl hl.1 rfl (Nat.le_of_ble_eq_true rfl) dX6_checkPair_1 ⟨Nat.zero_le _, Nat.zero_le _⟩ (fun H locs hP hD hS => ?_)
  refine lv_iload_n hx hcd dX6_checkPair_4 rfl (lv_at hl 1 rfl) ?_
  refine kr_Sv (As := [.int (nI b)]) (rest := []) (ws2 := []) ⟨hx, hcd, hml, hown, hts⟩ (c_X6_checkUser__ok l D cI cB cW cL  _ M b (by omega)) (va_cwS 1 hts gX6_checkPair_X6_checkUser rfl rfl rfl (by decide +kernel) ⟨Nat.le_of_ble_eq_true rfl, Nat.le_of_ble_eq_true rfl⟩) hK hP hD hS hA [] rfl (by decide) rfl rfl rfl hl.1 rfl (Nat.le_of_ble_eq_true rfl) dX6_checkPair_5 ⟨Nat.zero_le _, Nat.zero_le _⟩ (fun H locs hP hD hS => ?_)
  refine lv_iload_n hx hcd dX6_checkPair_8 rfl (lv_at hl 0 rfl) ?_
  refine lv_iload_n hx hcd dX6_checkPair_9 rfl (lv_at hl 1 rfl) ?_
  refine kr_cne (tgt := 23) hx hcd (by omega) (by omega) dX6_checkPair_10 (by decide) (fun (c_10 : ¬ a = b) => ?_) (fun (c_10 : a = b) => absurd c_10 (by omega))
  exact kr_vret hx hcd hr hlocks hK hP hD hS rfl dX6_checkPair_23

set_option maxHeartbeats 4000000 in
set_option maxRecDepth 100000 in
theorem c_X6_checkSeat__ok (l : Launch) (D : va_G) (cI cB cW cL : ClassId)  (sz : Nat) (M : kM) (a : Nat) (s : Nat) (ha : a < 6) (hs : s < 3) : kMv l yX6_checkSeat wsX6_checkSeat ({ frames := 1, cells := 0, slots := 0, locals := 20 }) D vwCl (kT cI cB cW cL) sz [.int (nI a), .int (nI s)] ([]) ([]) := by
  refine kr_ofv (cc := cX6_checkSeat) (maxL := 2) (ret := none) (by decide) rfl (Nat.le_of_ble_eq_true rfl) ?_
  intro pp ee ss mm args below meth cc AA ls hx hcd hr hts hown hlocks hml hK hP hD hA hl
  have hS : va_S AA ss.heap ss.heap [] := va_S.rf
  have hown : ss.vm.findClass RX6 = some mm.cls := hown
  have hl : lv_has ls 2 [(0, .int (nI a)), (1, .int (nI s))] := hl
  refine lv_iload_n hx hcd dX6_checkSeat_0 rfl (lv_at hl 0 rfl) ?_
  refine kr_Sv (As := [.int (nI a)]) (rest := []) (ws2 := []) ⟨hx, hcd, hml, hown, hts⟩ (c_X6_checkUser__ok l D cI cB cW cL  _ M a (by omega)) (va_cwS 1 hts gX6_checkSeat_X6_checkUser rfl rfl rfl (by decide +kernel) ⟨Nat.le_of_ble_eq_true rfl, Nat.le_of_ble_eq_true rfl⟩) hK hP hD hS hA [] rfl (by decide) rfl rfl rfl hl.1 rfl (Nat.le_of_ble_eq_true rfl) dX6_checkSeat_1 ⟨Nat.zero_le _, Nat.zero_le _⟩ (fun H locs hP hD hS => ?_)
  refine lv_iload_n hx hcd dX6_checkSeat_4 rfl (lv_at hl 1 rfl) ?_
  refine kr_zlt (tgt := 13) hx hcd (by omega) dX6_checkSeat_5 (by decide) ?_
  refine lv_iload_n hx hcd dX6_checkSeat_8 rfl (lv_at hl 1 rfl) ?_
  refine lv_iconst (v := nI 3) hx hcd dX6_checkSeat_9 (by decide) ?_
  refine kr_clt (tgt := 23) hx hcd (by omega) (by omega) dX6_checkSeat_10 (by decide) (fun (c_10 : s < 3) => ?_) (fun (c_10 : 3 ≤ s) => absurd c_10 (by omega))
  exact kr_vret hx hcd hr hlocks hK hP hD hS rfl dX6_checkSeat_23

set_option maxHeartbeats 4000000 in
set_option maxRecDepth 100000 in
theorem c_X6_checkWhat__ok (l : Launch) (D : va_G) (cI cB cW cL : ClassId)  (sz : Nat) (M : kM) (w : Nat) (m : Nat) (hw : w < m) (hm : m < 1000) : kMv l yX6_checkWhat wsX6_checkWhat ({ frames := 0, cells := 0, slots := 0, locals := 0 }) D vwCl (kT cI cB cW cL) sz [.int (nI w), .int (nI m)] ([]) ([]) := by
  refine kr_ofv (cc := cX6_checkWhat) (maxL := 2) (ret := none) (by decide) rfl (Nat.le_of_ble_eq_true rfl) ?_
  intro pp ee ss mm args below meth cc AA ls hx hcd hr hts hown hlocks hml hK hP hD hA hl
  have hS : va_S AA ss.heap ss.heap [] := va_S.rf
  have hown : ss.vm.findClass RX6 = some mm.cls := hown
  have hl : lv_has ls 2 [(0, .int (nI w)), (1, .int (nI m))] := hl
  refine lv_iload_n hx hcd dX6_checkWhat_0 rfl (lv_at hl 0 rfl) ?_
  refine kr_zlt (tgt := 9) hx hcd (by omega) dX6_checkWhat_1 (by decide) ?_
  refine lv_iload_n hx hcd dX6_checkWhat_4 rfl (lv_at hl 0 rfl) ?_
  refine lv_iload_n hx hcd dX6_checkWhat_5 rfl (lv_at hl 1 rfl) ?_
  refine kr_clt (tgt := 19) hx hcd (by omega) (by omega) dX6_checkWhat_6 (by decide) (fun (c_6 : w < m) => ?_) (fun (c_6 : m ≤ w) => absurd c_6 (by omega))
  exact kr_vret hx hcd hr hlocks hK hP hD hS rfl dX6_checkWhat_19

set_option maxHeartbeats 4000000 in
set_option maxRecDepth 100000 in
theorem c_X6_checkMessage__ok (l : Launch) (D : va_G) (cI cB cW cL : ClassId) (ob nw tr : Nat → Nat) (qs : Nat → Nat → Nat) (sc : Nat → Nat) (G : Nat → Option Nat) (N : kM) (S : Nat → kM) (n L : Nat) (T : Nat → Int32) (sz : Nat) (M : kM) (i : Nat) (hI : kInv M) (hi : i < wyN M) : kMv l yX6_checkMessage wsX6_checkMessage ({ frames := 0, cells := 0, slots := 0, locals := 0 }) D vwCl (kT cI cB cW cL) sz [.ref (ob 0), .int (nI i)] (wX cI cB cW ob nw tr qs sc G M N S n L T) (wX cI cB cW ob nw tr qs sc G M N S n L T) := by
  refine kr_ofv (cc := cX6_checkMessage) (maxL := 2) (ret := none) (by decide) rfl (Nat.le_of_ble_eq_true rfl) ?_
  intro pp ee ss mm args below meth cc AA ls hx hcd hr hts hown hlocks hml hK hP hD hA hl
  have hS : va_S AA ss.heap ss.heap [] := va_S.rf
  have hown : ss.vm.findClass RX6 = some mm.cls := hown
  have hl : lv_has ls 2 [(0, .ref (ob 0)), (1, .int (nI i))] := hl
  have uX0 : ∀ w ∈ u_ws RX0 TX0 4, w ∈ wsX6_checkMessage := by decide +kernel
  have uX5 : ∀ w ∈ u_ws RX5 TX5 5, w ∈ wsX6_checkMessage := by decide +kernel
  have uX6 : ∀ w ∈ u_ws RX6 TX6 5, w ∈ wsX6_checkMessage := by decide +kernel
  have e577 := i_wy hI
  have b577 := i_wyle hI
  refine lv_iload_n hx hcd dX6_checkMessage_0 rfl (lv_at hl 1 rfl) ?_
  refine kr_zlt (tgt := 18) hx hcd (by omega) dX6_checkMessage_1 (by decide) ?_
  refine lv_iload_n hx hcd dX6_checkMessage_4 rfl (lv_at hl 1 rfl) ?_
  refine lv_aload_n hx hcd dX6_checkMessage_5 rfl (lv_at hl 0 rfl) ?_
  refine kr_get hx hcd hts uX6 hown hK hP 0 rfl rfl 0 (by decide) (by decide +kernel) (v := .ref (nw 0)) rfl dX6_checkMessage_6 ?_
  refine kr_get hx hcd hts uX5 hown hK hP 2 rfl rfl 3 (by decide) (by decide +kernel) (v := .ref (nw 11)) rfl dX6_checkMessage_9 ?_
  refine kr_get hx hcd hts uX0 hown hK hP 13 rfl rfl 2 (by decide) (by decide +kernel) (v := .int (M 577)) rfl dX6_checkMessage_12 ?_
  refine kr_top (w := nI (wyN M)) e577 ?_
  refine kr_clt (tgt := 28) hx hcd (by omega) (by omega) dX6_checkMessage_15 (by decide) (fun (c_15 : i < wyN M) => ?_) (fun (c_15 : wyN M ≤ i) => absurd c_15 (by omega))
  exact kr_vret hx hcd hr hlocks hK hP hD hS rfl dX6_checkMessage_28

set_option maxHeartbeats 4000000 in
set_option maxRecDepth 100000 in
theorem c_X6_dropOldestState__r0 (l : Launch) (D : va_G) (cI cB cW cL : ClassId) (ob nw tr : Nat → Nat) (qs : Nat → Nat → Nat) (sc : Nat → Nat) (G : Nat → Option Nat) (N : kM) (S : Nat → kM) (n L : Nat) (T : Nat → Int32) (sz : Nat) (M : kM)  : kMv l yX6_dropOldestState wsX6_dropOldestState ({ frames := 0, cells := 0, slots := 0, locals := 0 }) D vwCl (kT cI cB cW cL) sz [.ref (ob 0)] (wX cI cB cW ob nw tr qs sc (g_rot qs 0) M N S 4 L T) (wX cI cB cW ob nw tr qs sc (g_rot qs 1) M N S 3 L T) := by
  refine kr_ofv (cc := cX6_dropOldestState) (maxL := 3) (ret := none) (by decide) rfl (Nat.le_of_ble_eq_true rfl) ?_
  intro pp ee ss mm args below meth cc AA ls hx hcd hr hts hown hlocks hml hK hP hD hA hl
  have hS : va_S AA ss.heap ss.heap [] := va_S.rf
  have hown : ss.vm.findClass RX6 = some mm.cls := hown
  have hl : lv_has ls 3 [(0, .ref (ob 0))] := hl
  have uX6 : ∀ w ∈ u_ws RX6 TX6 5, w ∈ wsX6_dropOldestState := by decide +kernel
  refine lv_aload_n hx hcd dX6_dropOldestState_0 rfl (lv_at hl 0 rfl) ?_
  refine kr_get hx hcd hts uX6 hown hK hP 0 rfl rfl 2 (by decide) (by decide +kernel) (v := .ref (ob 1)) rfl dX6_dropOldestState_1 ?_
  refine lv_iconst (v := nI 0) hx hcd dX6_dropOldestState_4 (by decide) ?_
  refine kr_aald hx hcd hK hP 1 2 rfl rfl (v := qs 0 0) (by omega) (by decide) rfl dX6_dropOldestState_5 ?_
  refine lv_astore_n (lv' := [(1, .ref (qs 0 0)), (0, .ref (ob 0))]) hx hcd dX6_dropOldestState_6 rfl hl (by decide) rfl (fun ls hl => ?_)
  refine lv_iconst (v := nI 1) hx hcd dX6_dropOldestState_7 (by decide) ?_
  refine lv_istore_n (lv' := [(2, .int (nI 1)), (1, .ref (qs 0 0)), (0, .ref (ob 0))]) hx hcd dX6_dropOldestState_8 rfl hl (by decide) rfl (fun ls hl => ?_)
  refine lv_iload_n hx hcd dX6_dropOldestState_9 rfl (lv_at hl 0 rfl) ?_
  refine lv_iconst (v := nI 4) hx hcd dX6_dropOldestState_10 (by decide) ?_
  refine kr_cge (tgt := 34) hx hcd (by omega) (by omega) dX6_dropOldestState_11 (by decide) (fun (c_11 : 4 ≤ 1) => absurd c_11 (by omega)) (fun (c_11 : 1 < 4) => ?_)
  refine lv_aload_n hx hcd dX6_dropOldestState_14 rfl (lv_at hl 2 rfl) ?_
  refine kr_get hx hcd hts uX6 hown hK hP 0 rfl rfl 2 (by decide) (by decide +kernel) (v := .ref (ob 1)) rfl dX6_dropOldestState_15 ?_
  refine lv_iload_n hx hcd dX6_dropOldestState_18 rfl (lv_at hl 0 rfl) ?_
  refine lv_iconst (v := nI 1) hx hcd dX6_dropOldestState_19 (by decide) ?_
  refine kr_sub hx hcd (by omega) dX6_dropOldestState_20 ?_
  refine kr_top (w := nI 0) rfl ?_
  refine lv_aload_n hx hcd dX6_dropOldestState_21 rfl (lv_at hl 2 rfl) ?_
  refine kr_get hx hcd hts uX6 hown hK hP 0 rfl rfl 2 (by decide) (by decide +kernel) (v := .ref (ob 1)) rfl dX6_dropOldestState_22 ?_
  refine lv_iload_n hx hcd dX6_dropOldestState_25 rfl (lv_at hl 0 rfl) ?_
  refine kr_aald hx hcd hK hP 1 2 rfl rfl (v := qs 1 0) (by omega) (by decide) rfl dX6_dropOldestState_26 ?_
  refine kr_aast hx hcd hK hP hD hS 1 2 47 5 rfl rfl rfl rfl (by omega) (by decide) (ws2 := wX cI cB cW ob nw tr qs sc (va_up (g_rot qs 0) 0 (some (qs 1 0))) M N S 4 L T) rfl dX6_dropOldestState_27 (fun H locs hP hD hS => ?_)
  refine kr_iinc (lv' := [(2, .int (nI 2)), (1, .ref (qs 0 0)), (0, .ref (ob 0))]) hx hcd dX6_dropOldestState_28 hl (k := 0) rfl (by decide) rfl (fun ls hl => ?_)
  refine lv_goto (tgt := 9) hx hcd dX6_dropOldestState_31 (by decide) ?_
  refine lv_iload_n hx hcd dX6_dropOldestState_9 rfl (lv_at hl 0 rfl) ?_
  refine lv_iconst (v := nI 4) hx hcd dX6_dropOldestState_10 (by decide) ?_
  refine kr_cge (tgt := 34) hx hcd (by omega) (by omega) dX6_dropOldestState_11 (by decide) (fun (c_11 : 4 ≤ 2) => absurd c_11 (by omega)) (fun (c_11 : 2 < 4) => ?_)
  refine lv_aload_n hx hcd dX6_dropOldestState_14 rfl (lv_at hl 2 rfl) ?_
  refine kr_get hx hcd hts uX6 hown hK hP 0 rfl rfl 2 (by decide) (by decide +kernel) (v := .ref (ob 1)) rfl dX6_dropOldestState_15 ?_
  refine lv_iload_n hx hcd dX6_dropOldestState_18 rfl (lv_at hl 0 rfl) ?_
  refine lv_iconst (v := nI 1) hx hcd dX6_dropOldestState_19 (by decide) ?_
  refine kr_sub hx hcd (by omega) dX6_dropOldestState_20 ?_
  refine kr_top (w := nI 1) rfl ?_
  refine lv_aload_n hx hcd dX6_dropOldestState_21 rfl (lv_at hl 2 rfl) ?_
  refine kr_get hx hcd hts uX6 hown hK hP 0 rfl rfl 2 (by decide) (by decide +kernel) (v := .ref (ob 1)) rfl dX6_dropOldestState_22 ?_
  refine lv_iload_n hx hcd dX6_dropOldestState_25 rfl (lv_at hl 0 rfl) ?_
  refine kr_aald hx hcd hK hP 1 2 rfl rfl (v := qs 2 0) (by omega) (by decide) rfl dX6_dropOldestState_26 ?_
  refine kr_aast hx hcd hK hP hD hS 1 2 62 5 rfl rfl rfl rfl (by omega) (by decide) (ws2 := wX cI cB cW ob nw tr qs sc (va_up (va_up (g_rot qs 0) 0 (some (qs 1 0))) 1 (some (qs 2 0))) M N S 4 L T) rfl dX6_dropOldestState_27 (fun H locs hP hD hS => ?_)
  refine kr_iinc (lv' := [(2, .int (nI 3)), (1, .ref (qs 0 0)), (0, .ref (ob 0))]) hx hcd dX6_dropOldestState_28 hl (k := 0) rfl (by decide) rfl (fun ls hl => ?_)
  refine lv_goto (tgt := 9) hx hcd dX6_dropOldestState_31 (by decide) ?_
  refine lv_iload_n hx hcd dX6_dropOldestState_9 rfl (lv_at hl 0 rfl) ?_
  refine lv_iconst (v := nI 4) hx hcd dX6_dropOldestState_10 (by decide) ?_
  refine kr_cge (tgt := 34) hx hcd (by omega) (by omega) dX6_dropOldestState_11 (by decide) (fun (c_11 : 4 ≤ 3) => absurd c_11 (by omega)) (fun (c_11 : 3 < 4) => ?_)
  refine lv_aload_n hx hcd dX6_dropOldestState_14 rfl (lv_at hl 2 rfl) ?_
  refine kr_get hx hcd hts uX6 hown hK hP 0 rfl rfl 2 (by decide) (by decide +kernel) (v := .ref (ob 1)) rfl dX6_dropOldestState_15 ?_
  refine lv_iload_n hx hcd dX6_dropOldestState_18 rfl (lv_at hl 0 rfl) ?_
  refine lv_iconst (v := nI 1) hx hcd dX6_dropOldestState_19 (by decide) ?_
  refine kr_sub hx hcd (by omega) dX6_dropOldestState_20 ?_
  refine kr_top (w := nI 2) rfl ?_
  refine lv_aload_n hx hcd dX6_dropOldestState_21 rfl (lv_at hl 2 rfl) ?_
  refine kr_get hx hcd hts uX6 hown hK hP 0 rfl rfl 2 (by decide) (by decide +kernel) (v := .ref (ob 1)) rfl dX6_dropOldestState_22 ?_
  refine lv_iload_n hx hcd dX6_dropOldestState_25 rfl (lv_at hl 0 rfl) ?_
  refine kr_aald hx hcd hK hP 1 2 rfl rfl (v := qs 3 0) (by omega) (by decide) rfl dX6_dropOldestState_26 ?_
  refine kr_aast hx hcd hK hP hD hS 1 2 77 5 rfl rfl rfl rfl (by omega) (by decide) (ws2 := wX cI cB cW ob nw tr qs sc (va_up (va_up (va_up (g_rot qs 0) 0 (some (qs 1 0))) 1 (some (qs 2 0))) 2 (some (qs 3 0))) M N S 4 L T) rfl dX6_dropOldestState_27 (fun H locs hP hD hS => ?_)
  refine kr_iinc (lv' := [(2, .int (nI 4)), (1, .ref (qs 0 0)), (0, .ref (ob 0))]) hx hcd dX6_dropOldestState_28 hl (k := 0) rfl (by decide) rfl (fun ls hl => ?_)
  refine lv_goto (tgt := 9) hx hcd dX6_dropOldestState_31 (by decide) ?_
  refine lv_iload_n hx hcd dX6_dropOldestState_9 rfl (lv_at hl 0 rfl) ?_
  refine lv_iconst (v := nI 4) hx hcd dX6_dropOldestState_10 (by decide) ?_
  refine kr_cge (tgt := 34) hx hcd (by omega) (by omega) dX6_dropOldestState_11 (by decide) (fun (c_11 : 4 ≤ 4) => ?_) (fun (c_11 : 4 < 4) => absurd c_11 (by omega))
  refine lv_aload_n hx hcd dX6_dropOldestState_34 rfl (lv_at hl 2 rfl) ?_
  refine kr_get hx hcd hts uX6 hown hK hP 0 rfl rfl 2 (by decide) (by decide +kernel) (v := .ref (ob 1)) rfl dX6_dropOldestState_35 ?_
  refine lv_iconst (v := nI 3) hx hcd dX6_dropOldestState_38 (by decide) ?_
  refine lv_aload_n hx hcd dX6_dropOldestState_39 rfl (lv_at hl 1 rfl) ?_
  refine kr_aast hx hcd hK hP hD hS 1 2 32 5 rfl rfl rfl rfl (by omega) (by decide) (ws2 := wX cI cB cW ob nw tr qs sc (va_up (va_up (va_up (va_up (g_rot qs 0) 0 (some (qs 1 0))) 1 (some (qs 2 0))) 2 (some (qs 3 0))) 3 (some (qs 0 0))) M N S 4 L T) rfl dX6_dropOldestState_40 (fun H locs hP hD hS => ?_)
  refine lv_aload_n hx hcd dX6_dropOldestState_41 rfl (lv_at hl 2 rfl) ?_
  refine lv_iconst (v := nI 3) hx hcd dX6_dropOldestState_42 (by decide) ?_
  refine kr_put hx hcd hts uX6 tyX6 tyX6_ok nmX6 hown hK hP hD hS 0 rfl rfl 4 (by decide) (by decide +kernel) rfl rfl rfl (ws2 := wX cI cB cW ob nw tr qs sc (va_up (va_up (va_up (va_up (g_rot qs 0) 0 (some (qs 1 0))) 1 (some (qs 2 0))) 2 (some (qs 3 0))) 3 (some (qs 0 0))) M N S 3 L T) rfl dX6_dropOldestState_43 (fun H locs hP hD hS => ?_)
  exact kr_vret hx hcd hr hlocks hK hP hD hS (by rw [show g_rot qs 1 = g_rot qs ((0 + 1) % 4) from rfl, ← rot_up (qs := qs) (r := 0) (a := 0) (b := 1) (c := 2) (d := 3) rfl rfl rfl rfl]) dX6_dropOldestState_46

set_option maxHeartbeats 4000000 in
set_option maxRecDepth 100000 in
theorem c_X6_dropOldestState__r1 (l : Launch) (D : va_G) (cI cB cW cL : ClassId) (ob nw tr : Nat → Nat) (qs : Nat → Nat → Nat) (sc : Nat → Nat) (G : Nat → Option Nat) (N : kM) (S : Nat → kM) (n L : Nat) (T : Nat → Int32) (sz : Nat) (M : kM)  : kMv l yX6_dropOldestState wsX6_dropOldestState ({ frames := 0, cells := 0, slots := 0, locals := 0 }) D vwCl (kT cI cB cW cL) sz [.ref (ob 0)] (wX cI cB cW ob nw tr qs sc (g_rot qs 1) M N S 4 L T) (wX cI cB cW ob nw tr qs sc (g_rot qs 2) M N S 3 L T) := by
  refine kr_ofv (cc := cX6_dropOldestState) (maxL := 3) (ret := none) (by decide) rfl (Nat.le_of_ble_eq_true rfl) ?_
  intro pp ee ss mm args below meth cc AA ls hx hcd hr hts hown hlocks hml hK hP hD hA hl
  have hS : va_S AA ss.heap ss.heap [] := va_S.rf
  have hown : ss.vm.findClass RX6 = some mm.cls := hown
  have hl : lv_has ls 3 [(0, .ref (ob 0))] := hl
  have uX6 : ∀ w ∈ u_ws RX6 TX6 5, w ∈ wsX6_dropOldestState := by decide +kernel
  refine lv_aload_n hx hcd dX6_dropOldestState_0 rfl (lv_at hl 0 rfl) ?_
  refine kr_get hx hcd hts uX6 hown hK hP 0 rfl rfl 2 (by decide) (by decide +kernel) (v := .ref (ob 1)) rfl dX6_dropOldestState_1 ?_
  refine lv_iconst (v := nI 0) hx hcd dX6_dropOldestState_4 (by decide) ?_
  refine kr_aald hx hcd hK hP 1 2 rfl rfl (v := qs 1 0) (by omega) (by decide) rfl dX6_dropOldestState_5 ?_
  refine lv_astore_n (lv' := [(1, .ref (qs 1 0)), (0, .ref (ob 0))]) hx hcd dX6_dropOldestState_6 rfl hl (by decide) rfl (fun ls hl => ?_)
  refine lv_iconst (v := nI 1) hx hcd dX6_dropOldestState_7 (by decide) ?_
  refine lv_istore_n (lv' := [(2, .int (nI 1)), (1, .ref (qs 1 0)), (0, .ref (ob 0))]) hx hcd dX6_dropOldestState_8 rfl hl (by decide) rfl (fun ls hl => ?_)
  refine lv_iload_n hx hcd dX6_dropOldestState_9 rfl (lv_at hl 0 rfl) ?_
  refine lv_iconst (v := nI 4) hx hcd dX6_dropOldestState_10 (by decide) ?_
  refine kr_cge (tgt := 34) hx hcd (by omega) (by omega) dX6_dropOldestState_11 (by decide) (fun (c_11 : 4 ≤ 1) => absurd c_11 (by omega)) (fun (c_11 : 1 < 4) => ?_)
  refine lv_aload_n hx hcd dX6_dropOldestState_14 rfl (lv_at hl 2 rfl) ?_
  refine kr_get hx hcd hts uX6 hown hK hP 0 rfl rfl 2 (by decide) (by decide +kernel) (v := .ref (ob 1)) rfl dX6_dropOldestState_15 ?_
  refine lv_iload_n hx hcd dX6_dropOldestState_18 rfl (lv_at hl 0 rfl) ?_
  refine lv_iconst (v := nI 1) hx hcd dX6_dropOldestState_19 (by decide) ?_
  refine kr_sub hx hcd (by omega) dX6_dropOldestState_20 ?_
  refine kr_top (w := nI 0) rfl ?_
  refine lv_aload_n hx hcd dX6_dropOldestState_21 rfl (lv_at hl 2 rfl) ?_
  refine kr_get hx hcd hts uX6 hown hK hP 0 rfl rfl 2 (by decide) (by decide +kernel) (v := .ref (ob 1)) rfl dX6_dropOldestState_22 ?_
  refine lv_iload_n hx hcd dX6_dropOldestState_25 rfl (lv_at hl 0 rfl) ?_
  refine kr_aald hx hcd hK hP 1 2 rfl rfl (v := qs 2 0) (by omega) (by decide) rfl dX6_dropOldestState_26 ?_
  refine kr_aast hx hcd hK hP hD hS 1 2 62 5 rfl rfl rfl rfl (by omega) (by decide) (ws2 := wX cI cB cW ob nw tr qs sc (va_up (g_rot qs 1) 0 (some (qs 2 0))) M N S 4 L T) rfl dX6_dropOldestState_27 (fun H locs hP hD hS => ?_)
  refine kr_iinc (lv' := [(2, .int (nI 2)), (1, .ref (qs 1 0)), (0, .ref (ob 0))]) hx hcd dX6_dropOldestState_28 hl (k := 0) rfl (by decide) rfl (fun ls hl => ?_)
  refine lv_goto (tgt := 9) hx hcd dX6_dropOldestState_31 (by decide) ?_
  refine lv_iload_n hx hcd dX6_dropOldestState_9 rfl (lv_at hl 0 rfl) ?_
  refine lv_iconst (v := nI 4) hx hcd dX6_dropOldestState_10 (by decide) ?_
  refine kr_cge (tgt := 34) hx hcd (by omega) (by omega) dX6_dropOldestState_11 (by decide) (fun (c_11 : 4 ≤ 2) => absurd c_11 (by omega)) (fun (c_11 : 2 < 4) => ?_)
  refine lv_aload_n hx hcd dX6_dropOldestState_14 rfl (lv_at hl 2 rfl) ?_
  refine kr_get hx hcd hts uX6 hown hK hP 0 rfl rfl 2 (by decide) (by decide +kernel) (v := .ref (ob 1)) rfl dX6_dropOldestState_15 ?_
  refine lv_iload_n hx hcd dX6_dropOldestState_18 rfl (lv_at hl 0 rfl) ?_
  refine lv_iconst (v := nI 1) hx hcd dX6_dropOldestState_19 (by decide) ?_
  refine kr_sub hx hcd (by omega) dX6_dropOldestState_20 ?_
  refine kr_top (w := nI 1) rfl ?_
  refine lv_aload_n hx hcd dX6_dropOldestState_21 rfl (lv_at hl 2 rfl) ?_
  refine kr_get hx hcd hts uX6 hown hK hP 0 rfl rfl 2 (by decide) (by decide +kernel) (v := .ref (ob 1)) rfl dX6_dropOldestState_22 ?_
  refine lv_iload_n hx hcd dX6_dropOldestState_25 rfl (lv_at hl 0 rfl) ?_
  refine kr_aald hx hcd hK hP 1 2 rfl rfl (v := qs 3 0) (by omega) (by decide) rfl dX6_dropOldestState_26 ?_
  refine kr_aast hx hcd hK hP hD hS 1 2 77 5 rfl rfl rfl rfl (by omega) (by decide) (ws2 := wX cI cB cW ob nw tr qs sc (va_up (va_up (g_rot qs 1) 0 (some (qs 2 0))) 1 (some (qs 3 0))) M N S 4 L T) rfl dX6_dropOldestState_27 (fun H locs hP hD hS => ?_)
  refine kr_iinc (lv' := [(2, .int (nI 3)), (1, .ref (qs 1 0)), (0, .ref (ob 0))]) hx hcd dX6_dropOldestState_28 hl (k := 0) rfl (by decide) rfl (fun ls hl => ?_)
  refine lv_goto (tgt := 9) hx hcd dX6_dropOldestState_31 (by decide) ?_
  refine lv_iload_n hx hcd dX6_dropOldestState_9 rfl (lv_at hl 0 rfl) ?_
  refine lv_iconst (v := nI 4) hx hcd dX6_dropOldestState_10 (by decide) ?_
  refine kr_cge (tgt := 34) hx hcd (by omega) (by omega) dX6_dropOldestState_11 (by decide) (fun (c_11 : 4 ≤ 3) => absurd c_11 (by omega)) (fun (c_11 : 3 < 4) => ?_)
  refine lv_aload_n hx hcd dX6_dropOldestState_14 rfl (lv_at hl 2 rfl) ?_
  refine kr_get hx hcd hts uX6 hown hK hP 0 rfl rfl 2 (by decide) (by decide +kernel) (v := .ref (ob 1)) rfl dX6_dropOldestState_15 ?_
  refine lv_iload_n hx hcd dX6_dropOldestState_18 rfl (lv_at hl 0 rfl) ?_
  refine lv_iconst (v := nI 1) hx hcd dX6_dropOldestState_19 (by decide) ?_
  refine kr_sub hx hcd (by omega) dX6_dropOldestState_20 ?_
  refine kr_top (w := nI 2) rfl ?_
  refine lv_aload_n hx hcd dX6_dropOldestState_21 rfl (lv_at hl 2 rfl) ?_
  refine kr_get hx hcd hts uX6 hown hK hP 0 rfl rfl 2 (by decide) (by decide +kernel) (v := .ref (ob 1)) rfl dX6_dropOldestState_22 ?_
  refine lv_iload_n hx hcd dX6_dropOldestState_25 rfl (lv_at hl 0 rfl) ?_
  refine kr_aald hx hcd hK hP 1 2 rfl rfl (v := qs 0 0) (by omega) (by decide) rfl dX6_dropOldestState_26 ?_
  refine kr_aast hx hcd hK hP hD hS 1 2 32 5 rfl rfl rfl rfl (by omega) (by decide) (ws2 := wX cI cB cW ob nw tr qs sc (va_up (va_up (va_up (g_rot qs 1) 0 (some (qs 2 0))) 1 (some (qs 3 0))) 2 (some (qs 0 0))) M N S 4 L T) rfl dX6_dropOldestState_27 (fun H locs hP hD hS => ?_)
  refine kr_iinc (lv' := [(2, .int (nI 4)), (1, .ref (qs 1 0)), (0, .ref (ob 0))]) hx hcd dX6_dropOldestState_28 hl (k := 0) rfl (by decide) rfl (fun ls hl => ?_)
  refine lv_goto (tgt := 9) hx hcd dX6_dropOldestState_31 (by decide) ?_
  refine lv_iload_n hx hcd dX6_dropOldestState_9 rfl (lv_at hl 0 rfl) ?_
  refine lv_iconst (v := nI 4) hx hcd dX6_dropOldestState_10 (by decide) ?_
  refine kr_cge (tgt := 34) hx hcd (by omega) (by omega) dX6_dropOldestState_11 (by decide) (fun (c_11 : 4 ≤ 4) => ?_) (fun (c_11 : 4 < 4) => absurd c_11 (by omega))
  refine lv_aload_n hx hcd dX6_dropOldestState_34 rfl (lv_at hl 2 rfl) ?_
  refine kr_get hx hcd hts uX6 hown hK hP 0 rfl rfl 2 (by decide) (by decide +kernel) (v := .ref (ob 1)) rfl dX6_dropOldestState_35 ?_
  refine lv_iconst (v := nI 3) hx hcd dX6_dropOldestState_38 (by decide) ?_
  refine lv_aload_n hx hcd dX6_dropOldestState_39 rfl (lv_at hl 1 rfl) ?_
  refine kr_aast hx hcd hK hP hD hS 1 2 47 5 rfl rfl rfl rfl (by omega) (by decide) (ws2 := wX cI cB cW ob nw tr qs sc (va_up (va_up (va_up (va_up (g_rot qs 1) 0 (some (qs 2 0))) 1 (some (qs 3 0))) 2 (some (qs 0 0))) 3 (some (qs 1 0))) M N S 4 L T) rfl dX6_dropOldestState_40 (fun H locs hP hD hS => ?_)
  refine lv_aload_n hx hcd dX6_dropOldestState_41 rfl (lv_at hl 2 rfl) ?_
  refine lv_iconst (v := nI 3) hx hcd dX6_dropOldestState_42 (by decide) ?_
  refine kr_put hx hcd hts uX6 tyX6 tyX6_ok nmX6 hown hK hP hD hS 0 rfl rfl 4 (by decide) (by decide +kernel) rfl rfl rfl (ws2 := wX cI cB cW ob nw tr qs sc (va_up (va_up (va_up (va_up (g_rot qs 1) 0 (some (qs 2 0))) 1 (some (qs 3 0))) 2 (some (qs 0 0))) 3 (some (qs 1 0))) M N S 3 L T) rfl dX6_dropOldestState_43 (fun H locs hP hD hS => ?_)
  exact kr_vret hx hcd hr hlocks hK hP hD hS (by rw [show g_rot qs 2 = g_rot qs ((1 + 1) % 4) from rfl, ← rot_up (qs := qs) (r := 1) (a := 1) (b := 2) (c := 3) (d := 0) rfl rfl rfl rfl]) dX6_dropOldestState_46

set_option maxHeartbeats 4000000 in
set_option maxRecDepth 100000 in
theorem c_X6_dropOldestState__r2 (l : Launch) (D : va_G) (cI cB cW cL : ClassId) (ob nw tr : Nat → Nat) (qs : Nat → Nat → Nat) (sc : Nat → Nat) (G : Nat → Option Nat) (N : kM) (S : Nat → kM) (n L : Nat) (T : Nat → Int32) (sz : Nat) (M : kM)  : kMv l yX6_dropOldestState wsX6_dropOldestState ({ frames := 0, cells := 0, slots := 0, locals := 0 }) D vwCl (kT cI cB cW cL) sz [.ref (ob 0)] (wX cI cB cW ob nw tr qs sc (g_rot qs 2) M N S 4 L T) (wX cI cB cW ob nw tr qs sc (g_rot qs 3) M N S 3 L T) := by
  refine kr_ofv (cc := cX6_dropOldestState) (maxL := 3) (ret := none) (by decide) rfl (Nat.le_of_ble_eq_true rfl) ?_
  intro pp ee ss mm args below meth cc AA ls hx hcd hr hts hown hlocks hml hK hP hD hA hl
  have hS : va_S AA ss.heap ss.heap [] := va_S.rf
  have hown : ss.vm.findClass RX6 = some mm.cls := hown
  have hl : lv_has ls 3 [(0, .ref (ob 0))] := hl
  have uX6 : ∀ w ∈ u_ws RX6 TX6 5, w ∈ wsX6_dropOldestState := by decide +kernel
  refine lv_aload_n hx hcd dX6_dropOldestState_0 rfl (lv_at hl 0 rfl) ?_
  refine kr_get hx hcd hts uX6 hown hK hP 0 rfl rfl 2 (by decide) (by decide +kernel) (v := .ref (ob 1)) rfl dX6_dropOldestState_1 ?_
  refine lv_iconst (v := nI 0) hx hcd dX6_dropOldestState_4 (by decide) ?_
  refine kr_aald hx hcd hK hP 1 2 rfl rfl (v := qs 2 0) (by omega) (by decide) rfl dX6_dropOldestState_5 ?_
  refine lv_astore_n (lv' := [(1, .ref (qs 2 0)), (0, .ref (ob 0))]) hx hcd dX6_dropOldestState_6 rfl hl (by decide) rfl (fun ls hl => ?_)
  refine lv_iconst (v := nI 1) hx hcd dX6_dropOldestState_7 (by decide) ?_
  refine lv_istore_n (lv' := [(2, .int (nI 1)), (1, .ref (qs 2 0)), (0, .ref (ob 0))]) hx hcd dX6_dropOldestState_8 rfl hl (by decide) rfl (fun ls hl => ?_)
  refine lv_iload_n hx hcd dX6_dropOldestState_9 rfl (lv_at hl 0 rfl) ?_
  refine lv_iconst (v := nI 4) hx hcd dX6_dropOldestState_10 (by decide) ?_
  refine kr_cge (tgt := 34) hx hcd (by omega) (by omega) dX6_dropOldestState_11 (by decide) (fun (c_11 : 4 ≤ 1) => absurd c_11 (by omega)) (fun (c_11 : 1 < 4) => ?_)
  refine lv_aload_n hx hcd dX6_dropOldestState_14 rfl (lv_at hl 2 rfl) ?_
  refine kr_get hx hcd hts uX6 hown hK hP 0 rfl rfl 2 (by decide) (by decide +kernel) (v := .ref (ob 1)) rfl dX6_dropOldestState_15 ?_
  refine lv_iload_n hx hcd dX6_dropOldestState_18 rfl (lv_at hl 0 rfl) ?_
  refine lv_iconst (v := nI 1) hx hcd dX6_dropOldestState_19 (by decide) ?_
  refine kr_sub hx hcd (by omega) dX6_dropOldestState_20 ?_
  refine kr_top (w := nI 0) rfl ?_
  refine lv_aload_n hx hcd dX6_dropOldestState_21 rfl (lv_at hl 2 rfl) ?_
  refine kr_get hx hcd hts uX6 hown hK hP 0 rfl rfl 2 (by decide) (by decide +kernel) (v := .ref (ob 1)) rfl dX6_dropOldestState_22 ?_
  refine lv_iload_n hx hcd dX6_dropOldestState_25 rfl (lv_at hl 0 rfl) ?_
  refine kr_aald hx hcd hK hP 1 2 rfl rfl (v := qs 3 0) (by omega) (by decide) rfl dX6_dropOldestState_26 ?_
  refine kr_aast hx hcd hK hP hD hS 1 2 77 5 rfl rfl rfl rfl (by omega) (by decide) (ws2 := wX cI cB cW ob nw tr qs sc (va_up (g_rot qs 2) 0 (some (qs 3 0))) M N S 4 L T) rfl dX6_dropOldestState_27 (fun H locs hP hD hS => ?_)
  refine kr_iinc (lv' := [(2, .int (nI 2)), (1, .ref (qs 2 0)), (0, .ref (ob 0))]) hx hcd dX6_dropOldestState_28 hl (k := 0) rfl (by decide) rfl (fun ls hl => ?_)
  refine lv_goto (tgt := 9) hx hcd dX6_dropOldestState_31 (by decide) ?_
  refine lv_iload_n hx hcd dX6_dropOldestState_9 rfl (lv_at hl 0 rfl) ?_
  refine lv_iconst (v := nI 4) hx hcd dX6_dropOldestState_10 (by decide) ?_
  refine kr_cge (tgt := 34) hx hcd (by omega) (by omega) dX6_dropOldestState_11 (by decide) (fun (c_11 : 4 ≤ 2) => absurd c_11 (by omega)) (fun (c_11 : 2 < 4) => ?_)
  refine lv_aload_n hx hcd dX6_dropOldestState_14 rfl (lv_at hl 2 rfl) ?_
  refine kr_get hx hcd hts uX6 hown hK hP 0 rfl rfl 2 (by decide) (by decide +kernel) (v := .ref (ob 1)) rfl dX6_dropOldestState_15 ?_
  refine lv_iload_n hx hcd dX6_dropOldestState_18 rfl (lv_at hl 0 rfl) ?_
  refine lv_iconst (v := nI 1) hx hcd dX6_dropOldestState_19 (by decide) ?_
  refine kr_sub hx hcd (by omega) dX6_dropOldestState_20 ?_
  refine kr_top (w := nI 1) rfl ?_
  refine lv_aload_n hx hcd dX6_dropOldestState_21 rfl (lv_at hl 2 rfl) ?_
  refine kr_get hx hcd hts uX6 hown hK hP 0 rfl rfl 2 (by decide) (by decide +kernel) (v := .ref (ob 1)) rfl dX6_dropOldestState_22 ?_
  refine lv_iload_n hx hcd dX6_dropOldestState_25 rfl (lv_at hl 0 rfl) ?_
  refine kr_aald hx hcd hK hP 1 2 rfl rfl (v := qs 0 0) (by omega) (by decide) rfl dX6_dropOldestState_26 ?_
  refine kr_aast hx hcd hK hP hD hS 1 2 32 5 rfl rfl rfl rfl (by omega) (by decide) (ws2 := wX cI cB cW ob nw tr qs sc (va_up (va_up (g_rot qs 2) 0 (some (qs 3 0))) 1 (some (qs 0 0))) M N S 4 L T) rfl dX6_dropOldestState_27 (fun H locs hP hD hS => ?_)
  refine kr_iinc (lv' := [(2, .int (nI 3)), (1, .ref (qs 2 0)), (0, .ref (ob 0))]) hx hcd dX6_dropOldestState_28 hl (k := 0) rfl (by decide) rfl (fun ls hl => ?_)
  refine lv_goto (tgt := 9) hx hcd dX6_dropOldestState_31 (by decide) ?_
  refine lv_iload_n hx hcd dX6_dropOldestState_9 rfl (lv_at hl 0 rfl) ?_
  refine lv_iconst (v := nI 4) hx hcd dX6_dropOldestState_10 (by decide) ?_
  refine kr_cge (tgt := 34) hx hcd (by omega) (by omega) dX6_dropOldestState_11 (by decide) (fun (c_11 : 4 ≤ 3) => absurd c_11 (by omega)) (fun (c_11 : 3 < 4) => ?_)
  refine lv_aload_n hx hcd dX6_dropOldestState_14 rfl (lv_at hl 2 rfl) ?_
  refine kr_get hx hcd hts uX6 hown hK hP 0 rfl rfl 2 (by decide) (by decide +kernel) (v := .ref (ob 1)) rfl dX6_dropOldestState_15 ?_
  refine lv_iload_n hx hcd dX6_dropOldestState_18 rfl (lv_at hl 0 rfl) ?_
  refine lv_iconst (v := nI 1) hx hcd dX6_dropOldestState_19 (by decide) ?_
  refine kr_sub hx hcd (by omega) dX6_dropOldestState_20 ?_
  refine kr_top (w := nI 2) rfl ?_
  refine lv_aload_n hx hcd dX6_dropOldestState_21 rfl (lv_at hl 2 rfl) ?_
  refine kr_get hx hcd hts uX6 hown hK hP 0 rfl rfl 2 (by decide) (by decide +kernel) (v := .ref (ob 1)) rfl dX6_dropOldestState_22 ?_
  refine lv_iload_n hx hcd dX6_dropOldestState_25 rfl (lv_at hl 0 rfl) ?_
  refine kr_aald hx hcd hK hP 1 2 rfl rfl (v := qs 1 0) (by omega) (by decide) rfl dX6_dropOldestState_26 ?_
  refine kr_aast hx hcd hK hP hD hS 1 2 47 5 rfl rfl rfl rfl (by omega) (by decide) (ws2 := wX cI cB cW ob nw tr qs sc (va_up (va_up (va_up (g_rot qs 2) 0 (some (qs 3 0))) 1 (some (qs 0 0))) 2 (some (qs 1 0))) M N S 4 L T) rfl dX6_dropOldestState_27 (fun H locs hP hD hS => ?_)
  refine kr_iinc (lv' := [(2, .int (nI 4)), (1, .ref (qs 2 0)), (0, .ref (ob 0))]) hx hcd dX6_dropOldestState_28 hl (k := 0) rfl (by decide) rfl (fun ls hl => ?_)
  refine lv_goto (tgt := 9) hx hcd dX6_dropOldestState_31 (by decide) ?_
  refine lv_iload_n hx hcd dX6_dropOldestState_9 rfl (lv_at hl 0 rfl) ?_
  refine lv_iconst (v := nI 4) hx hcd dX6_dropOldestState_10 (by decide) ?_
  refine kr_cge (tgt := 34) hx hcd (by omega) (by omega) dX6_dropOldestState_11 (by decide) (fun (c_11 : 4 ≤ 4) => ?_) (fun (c_11 : 4 < 4) => absurd c_11 (by omega))
  refine lv_aload_n hx hcd dX6_dropOldestState_34 rfl (lv_at hl 2 rfl) ?_
  refine kr_get hx hcd hts uX6 hown hK hP 0 rfl rfl 2 (by decide) (by decide +kernel) (v := .ref (ob 1)) rfl dX6_dropOldestState_35 ?_
  refine lv_iconst (v := nI 3) hx hcd dX6_dropOldestState_38 (by decide) ?_
  refine lv_aload_n hx hcd dX6_dropOldestState_39 rfl (lv_at hl 1 rfl) ?_
  refine kr_aast hx hcd hK hP hD hS 1 2 62 5 rfl rfl rfl rfl (by omega) (by decide) (ws2 := wX cI cB cW ob nw tr qs sc (va_up (va_up (va_up (va_up (g_rot qs 2) 0 (some (qs 3 0))) 1 (some (qs 0 0))) 2 (some (qs 1 0))) 3 (some (qs 2 0))) M N S 4 L T) rfl dX6_dropOldestState_40 (fun H locs hP hD hS => ?_)
  refine lv_aload_n hx hcd dX6_dropOldestState_41 rfl (lv_at hl 2 rfl) ?_
  refine lv_iconst (v := nI 3) hx hcd dX6_dropOldestState_42 (by decide) ?_
  refine kr_put hx hcd hts uX6 tyX6 tyX6_ok nmX6 hown hK hP hD hS 0 rfl rfl 4 (by decide) (by decide +kernel) rfl rfl rfl (ws2 := wX cI cB cW ob nw tr qs sc (va_up (va_up (va_up (va_up (g_rot qs 2) 0 (some (qs 3 0))) 1 (some (qs 0 0))) 2 (some (qs 1 0))) 3 (some (qs 2 0))) M N S 3 L T) rfl dX6_dropOldestState_43 (fun H locs hP hD hS => ?_)
  exact kr_vret hx hcd hr hlocks hK hP hD hS (by rw [show g_rot qs 3 = g_rot qs ((2 + 1) % 4) from rfl, ← rot_up (qs := qs) (r := 2) (a := 2) (b := 3) (c := 0) (d := 1) rfl rfl rfl rfl]) dX6_dropOldestState_46

set_option maxHeartbeats 4000000 in
set_option maxRecDepth 100000 in
theorem c_X6_dropOldestState__r3 (l : Launch) (D : va_G) (cI cB cW cL : ClassId) (ob nw tr : Nat → Nat) (qs : Nat → Nat → Nat) (sc : Nat → Nat) (G : Nat → Option Nat) (N : kM) (S : Nat → kM) (n L : Nat) (T : Nat → Int32) (sz : Nat) (M : kM)  : kMv l yX6_dropOldestState wsX6_dropOldestState ({ frames := 0, cells := 0, slots := 0, locals := 0 }) D vwCl (kT cI cB cW cL) sz [.ref (ob 0)] (wX cI cB cW ob nw tr qs sc (g_rot qs 3) M N S 4 L T) (wX cI cB cW ob nw tr qs sc (g_rot qs 0) M N S 3 L T) := by
  refine kr_ofv (cc := cX6_dropOldestState) (maxL := 3) (ret := none) (by decide) rfl (Nat.le_of_ble_eq_true rfl) ?_
  intro pp ee ss mm args below meth cc AA ls hx hcd hr hts hown hlocks hml hK hP hD hA hl
  have hS : va_S AA ss.heap ss.heap [] := va_S.rf
  have hown : ss.vm.findClass RX6 = some mm.cls := hown
  have hl : lv_has ls 3 [(0, .ref (ob 0))] := hl
  have uX6 : ∀ w ∈ u_ws RX6 TX6 5, w ∈ wsX6_dropOldestState := by decide +kernel
  refine lv_aload_n hx hcd dX6_dropOldestState_0 rfl (lv_at hl 0 rfl) ?_
  refine kr_get hx hcd hts uX6 hown hK hP 0 rfl rfl 2 (by decide) (by decide +kernel) (v := .ref (ob 1)) rfl dX6_dropOldestState_1 ?_
  refine lv_iconst (v := nI 0) hx hcd dX6_dropOldestState_4 (by decide) ?_
  refine kr_aald hx hcd hK hP 1 2 rfl rfl (v := qs 3 0) (by omega) (by decide) rfl dX6_dropOldestState_5 ?_
  refine lv_astore_n (lv' := [(1, .ref (qs 3 0)), (0, .ref (ob 0))]) hx hcd dX6_dropOldestState_6 rfl hl (by decide) rfl (fun ls hl => ?_)
  refine lv_iconst (v := nI 1) hx hcd dX6_dropOldestState_7 (by decide) ?_
  refine lv_istore_n (lv' := [(2, .int (nI 1)), (1, .ref (qs 3 0)), (0, .ref (ob 0))]) hx hcd dX6_dropOldestState_8 rfl hl (by decide) rfl (fun ls hl => ?_)
  refine lv_iload_n hx hcd dX6_dropOldestState_9 rfl (lv_at hl 0 rfl) ?_
  refine lv_iconst (v := nI 4) hx hcd dX6_dropOldestState_10 (by decide) ?_
  refine kr_cge (tgt := 34) hx hcd (by omega) (by omega) dX6_dropOldestState_11 (by decide) (fun (c_11 : 4 ≤ 1) => absurd c_11 (by omega)) (fun (c_11 : 1 < 4) => ?_)
  refine lv_aload_n hx hcd dX6_dropOldestState_14 rfl (lv_at hl 2 rfl) ?_
  refine kr_get hx hcd hts uX6 hown hK hP 0 rfl rfl 2 (by decide) (by decide +kernel) (v := .ref (ob 1)) rfl dX6_dropOldestState_15 ?_
  refine lv_iload_n hx hcd dX6_dropOldestState_18 rfl (lv_at hl 0 rfl) ?_
  refine lv_iconst (v := nI 1) hx hcd dX6_dropOldestState_19 (by decide) ?_
  refine kr_sub hx hcd (by omega) dX6_dropOldestState_20 ?_
  refine kr_top (w := nI 0) rfl ?_
  refine lv_aload_n hx hcd dX6_dropOldestState_21 rfl (lv_at hl 2 rfl) ?_
  refine kr_get hx hcd hts uX6 hown hK hP 0 rfl rfl 2 (by decide) (by decide +kernel) (v := .ref (ob 1)) rfl dX6_dropOldestState_22 ?_
  refine lv_iload_n hx hcd dX6_dropOldestState_25 rfl (lv_at hl 0 rfl) ?_
  refine kr_aald hx hcd hK hP 1 2 rfl rfl (v := qs 0 0) (by omega) (by decide) rfl dX6_dropOldestState_26 ?_
  refine kr_aast hx hcd hK hP hD hS 1 2 32 5 rfl rfl rfl rfl (by omega) (by decide) (ws2 := wX cI cB cW ob nw tr qs sc (va_up (g_rot qs 3) 0 (some (qs 0 0))) M N S 4 L T) rfl dX6_dropOldestState_27 (fun H locs hP hD hS => ?_)
  refine kr_iinc (lv' := [(2, .int (nI 2)), (1, .ref (qs 3 0)), (0, .ref (ob 0))]) hx hcd dX6_dropOldestState_28 hl (k := 0) rfl (by decide) rfl (fun ls hl => ?_)
  refine lv_goto (tgt := 9) hx hcd dX6_dropOldestState_31 (by decide) ?_
  refine lv_iload_n hx hcd dX6_dropOldestState_9 rfl (lv_at hl 0 rfl) ?_
  refine lv_iconst (v := nI 4) hx hcd dX6_dropOldestState_10 (by decide) ?_
  refine kr_cge (tgt := 34) hx hcd (by omega) (by omega) dX6_dropOldestState_11 (by decide) (fun (c_11 : 4 ≤ 2) => absurd c_11 (by omega)) (fun (c_11 : 2 < 4) => ?_)
  refine lv_aload_n hx hcd dX6_dropOldestState_14 rfl (lv_at hl 2 rfl) ?_
  refine kr_get hx hcd hts uX6 hown hK hP 0 rfl rfl 2 (by decide) (by decide +kernel) (v := .ref (ob 1)) rfl dX6_dropOldestState_15 ?_
  refine lv_iload_n hx hcd dX6_dropOldestState_18 rfl (lv_at hl 0 rfl) ?_
  refine lv_iconst (v := nI 1) hx hcd dX6_dropOldestState_19 (by decide) ?_
  refine kr_sub hx hcd (by omega) dX6_dropOldestState_20 ?_
  refine kr_top (w := nI 1) rfl ?_
  refine lv_aload_n hx hcd dX6_dropOldestState_21 rfl (lv_at hl 2 rfl) ?_
  refine kr_get hx hcd hts uX6 hown hK hP 0 rfl rfl 2 (by decide) (by decide +kernel) (v := .ref (ob 1)) rfl dX6_dropOldestState_22 ?_
  refine lv_iload_n hx hcd dX6_dropOldestState_25 rfl (lv_at hl 0 rfl) ?_
  refine kr_aald hx hcd hK hP 1 2 rfl rfl (v := qs 1 0) (by omega) (by decide) rfl dX6_dropOldestState_26 ?_
  refine kr_aast hx hcd hK hP hD hS 1 2 47 5 rfl rfl rfl rfl (by omega) (by decide) (ws2 := wX cI cB cW ob nw tr qs sc (va_up (va_up (g_rot qs 3) 0 (some (qs 0 0))) 1 (some (qs 1 0))) M N S 4 L T) rfl dX6_dropOldestState_27 (fun H locs hP hD hS => ?_)
  refine kr_iinc (lv' := [(2, .int (nI 3)), (1, .ref (qs 3 0)), (0, .ref (ob 0))]) hx hcd dX6_dropOldestState_28 hl (k := 0) rfl (by decide) rfl (fun ls hl => ?_)
  refine lv_goto (tgt := 9) hx hcd dX6_dropOldestState_31 (by decide) ?_
  refine lv_iload_n hx hcd dX6_dropOldestState_9 rfl (lv_at hl 0 rfl) ?_
  refine lv_iconst (v := nI 4) hx hcd dX6_dropOldestState_10 (by decide) ?_
  refine kr_cge (tgt := 34) hx hcd (by omega) (by omega) dX6_dropOldestState_11 (by decide) (fun (c_11 : 4 ≤ 3) => absurd c_11 (by omega)) (fun (c_11 : 3 < 4) => ?_)
  refine lv_aload_n hx hcd dX6_dropOldestState_14 rfl (lv_at hl 2 rfl) ?_
  refine kr_get hx hcd hts uX6 hown hK hP 0 rfl rfl 2 (by decide) (by decide +kernel) (v := .ref (ob 1)) rfl dX6_dropOldestState_15 ?_
  refine lv_iload_n hx hcd dX6_dropOldestState_18 rfl (lv_at hl 0 rfl) ?_
  refine lv_iconst (v := nI 1) hx hcd dX6_dropOldestState_19 (by decide) ?_
  refine kr_sub hx hcd (by omega) dX6_dropOldestState_20 ?_
  refine kr_top (w := nI 2) rfl ?_
  refine lv_aload_n hx hcd dX6_dropOldestState_21 rfl (lv_at hl 2 rfl) ?_
  refine kr_get hx hcd hts uX6 hown hK hP 0 rfl rfl 2 (by decide) (by decide +kernel) (v := .ref (ob 1)) rfl dX6_dropOldestState_22 ?_
  refine lv_iload_n hx hcd dX6_dropOldestState_25 rfl (lv_at hl 0 rfl) ?_
  refine kr_aald hx hcd hK hP 1 2 rfl rfl (v := qs 2 0) (by omega) (by decide) rfl dX6_dropOldestState_26 ?_
  refine kr_aast hx hcd hK hP hD hS 1 2 62 5 rfl rfl rfl rfl (by omega) (by decide) (ws2 := wX cI cB cW ob nw tr qs sc (va_up (va_up (va_up (g_rot qs 3) 0 (some (qs 0 0))) 1 (some (qs 1 0))) 2 (some (qs 2 0))) M N S 4 L T) rfl dX6_dropOldestState_27 (fun H locs hP hD hS => ?_)
  refine kr_iinc (lv' := [(2, .int (nI 4)), (1, .ref (qs 3 0)), (0, .ref (ob 0))]) hx hcd dX6_dropOldestState_28 hl (k := 0) rfl (by decide) rfl (fun ls hl => ?_)
  refine lv_goto (tgt := 9) hx hcd dX6_dropOldestState_31 (by decide) ?_
  refine lv_iload_n hx hcd dX6_dropOldestState_9 rfl (lv_at hl 0 rfl) ?_
  refine lv_iconst (v := nI 4) hx hcd dX6_dropOldestState_10 (by decide) ?_
  refine kr_cge (tgt := 34) hx hcd (by omega) (by omega) dX6_dropOldestState_11 (by decide) (fun (c_11 : 4 ≤ 4) => ?_) (fun (c_11 : 4 < 4) => absurd c_11 (by omega))
  refine lv_aload_n hx hcd dX6_dropOldestState_34 rfl (lv_at hl 2 rfl) ?_
  refine kr_get hx hcd hts uX6 hown hK hP 0 rfl rfl 2 (by decide) (by decide +kernel) (v := .ref (ob 1)) rfl dX6_dropOldestState_35 ?_
  refine lv_iconst (v := nI 3) hx hcd dX6_dropOldestState_38 (by decide) ?_
  refine lv_aload_n hx hcd dX6_dropOldestState_39 rfl (lv_at hl 1 rfl) ?_
  refine kr_aast hx hcd hK hP hD hS 1 2 77 5 rfl rfl rfl rfl (by omega) (by decide) (ws2 := wX cI cB cW ob nw tr qs sc (va_up (va_up (va_up (va_up (g_rot qs 3) 0 (some (qs 0 0))) 1 (some (qs 1 0))) 2 (some (qs 2 0))) 3 (some (qs 3 0))) M N S 4 L T) rfl dX6_dropOldestState_40 (fun H locs hP hD hS => ?_)
  refine lv_aload_n hx hcd dX6_dropOldestState_41 rfl (lv_at hl 2 rfl) ?_
  refine lv_iconst (v := nI 3) hx hcd dX6_dropOldestState_42 (by decide) ?_
  refine kr_put hx hcd hts uX6 tyX6 tyX6_ok nmX6 hown hK hP hD hS 0 rfl rfl 4 (by decide) (by decide +kernel) rfl rfl rfl (ws2 := wX cI cB cW ob nw tr qs sc (va_up (va_up (va_up (va_up (g_rot qs 3) 0 (some (qs 0 0))) 1 (some (qs 1 0))) 2 (some (qs 2 0))) 3 (some (qs 3 0))) M N S 3 L T) rfl dX6_dropOldestState_43 (fun H locs hP hD hS => ?_)
  exact kr_vret hx hcd hr hlocks hK hP hD hS (by rw [show g_rot qs 0 = g_rot qs ((3 + 1) % 4) from rfl, ← rot_up (qs := qs) (r := 3) (a := 3) (b := 0) (c := 1) (d := 2) rfl rfl rfl rfl]) dX6_dropOldestState_46

set_option maxHeartbeats 4000000 in
set_option maxRecDepth 100000 in
theorem c_X6_saveState__j0 (l : Launch) (D : va_G) (cI cB cW cL : ClassId) (ob nw tr : Nat → Nat) (qs : Nat → Nat → Nat) (sc : Nat → Nat) (G : Nat → Option Nat) (N : kM) (S : Nat → kM) (n L : Nat) (T : Nat → Int32) (sz : Nat) (M : kM) (r : Nat) (hn : n < 4) (hj : (n + r) % 4 = 0) : kMv l yX6_saveState wsX6_saveState ({ frames := 3, cells := 0, slots := 0, locals := 122 }) D vwCl (kT cI cB cW cL) sz [.ref (ob 0)] (wX cI cB cW ob nw tr qs sc (g_rot qs r) M N S n L T) (wX cI cB cW ob nw tr qs sc (g_rot qs r) M N (sset S 0 M) (n + 1) L T) := by
  refine kr_ofv (cc := cX6_saveState) (maxL := 1) (ret := none) (by decide) rfl (Nat.le_of_ble_eq_true rfl) ?_
  intro pp ee ss mm args below meth cc AA ls hx hcd hr hts hown hlocks hml hK hP hD hA hl
  have hS : va_S AA ss.heap ss.heap [] := va_S.rf
  have hown : ss.vm.findClass RX6 = some mm.cls := hown
  have hl : lv_has ls 1 [(0, .ref (ob 0))] := hl
  have uX6 : ∀ w ∈ u_ws RX6 TX6 5, w ∈ wsX6_saveState := by decide +kernel
  refine lv_aload_n hx hcd dX6_saveState_0 rfl (lv_at hl 0 rfl) ?_
  refine kr_get hx hcd hts uX6 hown hK hP 0 rfl rfl 4 (by decide) (by decide +kernel) (v := .int (nI n)) rfl dX6_saveState_1 ?_
  refine lv_iconst (v := nI 4) hx hcd dX6_saveState_4 (by decide) ?_
  refine kr_clt (tgt := 12) hx hcd (by omega) (by omega) dX6_saveState_5 (by decide) (fun (c_5 : n < 4) => ?_) (fun (c_5 : 4 ≤ n) => absurd c_5 (by omega))
  refine lv_aload_n hx hcd dX6_saveState_12 rfl (lv_at hl 0 rfl) ?_
  refine kr_get hx hcd hts uX6 hown hK hP 0 rfl rfl 2 (by decide) (by decide +kernel) (v := .ref (ob 1)) rfl dX6_saveState_13 ?_
  refine lv_aload_n hx hcd dX6_saveState_16 rfl (lv_at hl 0 rfl) ?_
  refine kr_get hx hcd hts uX6 hown hK hP 0 rfl rfl 4 (by decide) (by decide +kernel) (v := .int (nI n)) rfl dX6_saveState_17 ?_
  refine kr_aald hx hcd hK hP 1 2 rfl rfl (v := qs 0 0) (by omega) (by decide) (rot_at hn hj) dX6_saveState_20 ?_
  refine lv_aload_n hx hcd dX6_saveState_21 rfl (lv_at hl 0 rfl) ?_
  refine kr_get hx hcd hts uX6 hown hK hP 0 rfl rfl 0 (by decide) (by decide +kernel) (v := .ref (nw 0)) rfl dX6_saveState_22 ?_
  refine kr_Vv (As := [.ref (nw 0)]) (rest := []) (ws2 := wX cI cB cW ob nw tr qs sc (g_rot qs r) M N (sset S 0 M) n L T) (q := (RX5, TX5, 5)) ⟨hx, hcd, hml, hown, hts⟩ (c_X5_copyFrom l D cI cB cW cL (qs 0) nw (S 0) _ M ) (cwV 1 hts gX6_saveState_X5_copyFrom rfl rfl rfl (by decide +kernel) ⟨Nat.le_of_ble_eq_true rfl, Nat.le_of_ble_eq_true rfl⟩) hK hP hD hS hA [32, 33, 34, 35, 36, 37, 38, 39, 40, 41, 42, 43, 44, 45, 46, 2, 3, 4, 5, 6, 7, 8, 9, 10, 11, 12, 13, 14, 15, 16] wX_cp_q0_nwC (by decide) w2W_adr wX_cp_q0_nw 32 rfl rfl rfl hl.1 rfl (Nat.le_of_ble_eq_true rfl) dX6_saveState_25 ⟨Nat.zero_le _, Nat.zero_le _⟩ (fun H locs hP hD hS => ?_)
  refine lv_aload_n hx hcd dX6_saveState_28 rfl (lv_at hl 0 rfl) ?_
  refine lv_dup hx hcd dX6_saveState_29 rfl ?_
  refine kr_get hx hcd hts uX6 hown hK hP 0 rfl rfl 4 (by decide) (by decide +kernel) (v := .int (nI n)) rfl dX6_saveState_30 ?_
  refine lv_iconst (v := nI 1) hx hcd dX6_saveState_33 (by decide) ?_
  refine kr_add hx hcd dX6_saveState_34 ?_
  refine kr_put hx hcd hts uX6 tyX6 tyX6_ok nmX6 hown hK hP hD hS 0 rfl rfl 4 (by decide) (by decide +kernel) rfl rfl rfl (ws2 := wX cI cB cW ob nw tr qs sc (g_rot qs r) M N (sset S 0 M) (n + 1) L T) rfl dX6_saveState_35 (fun H locs hP hD hS => ?_)
  exact kr_vret hx hcd hr hlocks hK hP hD hS rfl dX6_saveState_38

set_option maxHeartbeats 4000000 in
set_option maxRecDepth 100000 in
theorem c_X6_saveState__j1 (l : Launch) (D : va_G) (cI cB cW cL : ClassId) (ob nw tr : Nat → Nat) (qs : Nat → Nat → Nat) (sc : Nat → Nat) (G : Nat → Option Nat) (N : kM) (S : Nat → kM) (n L : Nat) (T : Nat → Int32) (sz : Nat) (M : kM) (r : Nat) (hn : n < 4) (hj : (n + r) % 4 = 1) : kMv l yX6_saveState wsX6_saveState ({ frames := 3, cells := 0, slots := 0, locals := 122 }) D vwCl (kT cI cB cW cL) sz [.ref (ob 0)] (wX cI cB cW ob nw tr qs sc (g_rot qs r) M N S n L T) (wX cI cB cW ob nw tr qs sc (g_rot qs r) M N (sset S 1 M) (n + 1) L T) := by
  refine kr_ofv (cc := cX6_saveState) (maxL := 1) (ret := none) (by decide) rfl (Nat.le_of_ble_eq_true rfl) ?_
  intro pp ee ss mm args below meth cc AA ls hx hcd hr hts hown hlocks hml hK hP hD hA hl
  have hS : va_S AA ss.heap ss.heap [] := va_S.rf
  have hown : ss.vm.findClass RX6 = some mm.cls := hown
  have hl : lv_has ls 1 [(0, .ref (ob 0))] := hl
  have uX6 : ∀ w ∈ u_ws RX6 TX6 5, w ∈ wsX6_saveState := by decide +kernel
  refine lv_aload_n hx hcd dX6_saveState_0 rfl (lv_at hl 0 rfl) ?_
  refine kr_get hx hcd hts uX6 hown hK hP 0 rfl rfl 4 (by decide) (by decide +kernel) (v := .int (nI n)) rfl dX6_saveState_1 ?_
  refine lv_iconst (v := nI 4) hx hcd dX6_saveState_4 (by decide) ?_
  refine kr_clt (tgt := 12) hx hcd (by omega) (by omega) dX6_saveState_5 (by decide) (fun (c_5 : n < 4) => ?_) (fun (c_5 : 4 ≤ n) => absurd c_5 (by omega))
  refine lv_aload_n hx hcd dX6_saveState_12 rfl (lv_at hl 0 rfl) ?_
  refine kr_get hx hcd hts uX6 hown hK hP 0 rfl rfl 2 (by decide) (by decide +kernel) (v := .ref (ob 1)) rfl dX6_saveState_13 ?_
  refine lv_aload_n hx hcd dX6_saveState_16 rfl (lv_at hl 0 rfl) ?_
  refine kr_get hx hcd hts uX6 hown hK hP 0 rfl rfl 4 (by decide) (by decide +kernel) (v := .int (nI n)) rfl dX6_saveState_17 ?_
  refine kr_aald hx hcd hK hP 1 2 rfl rfl (v := qs 1 0) (by omega) (by decide) (rot_at hn hj) dX6_saveState_20 ?_
  refine lv_aload_n hx hcd dX6_saveState_21 rfl (lv_at hl 0 rfl) ?_
  refine kr_get hx hcd hts uX6 hown hK hP 0 rfl rfl 0 (by decide) (by decide +kernel) (v := .ref (nw 0)) rfl dX6_saveState_22 ?_
  refine kr_Vv (As := [.ref (nw 0)]) (rest := []) (ws2 := wX cI cB cW ob nw tr qs sc (g_rot qs r) M N (sset S 1 M) n L T) (q := (RX5, TX5, 5)) ⟨hx, hcd, hml, hown, hts⟩ (c_X5_copyFrom l D cI cB cW cL (qs 1) nw (S 1) _ M ) (cwV 1 hts gX6_saveState_X5_copyFrom rfl rfl rfl (by decide +kernel) ⟨Nat.le_of_ble_eq_true rfl, Nat.le_of_ble_eq_true rfl⟩) hK hP hD hS hA [47, 48, 49, 50, 51, 52, 53, 54, 55, 56, 57, 58, 59, 60, 61, 2, 3, 4, 5, 6, 7, 8, 9, 10, 11, 12, 13, 14, 15, 16] wX_cp_q1_nwC (by decide) w2W_adr wX_cp_q1_nw 47 rfl rfl rfl hl.1 rfl (Nat.le_of_ble_eq_true rfl) dX6_saveState_25 ⟨Nat.zero_le _, Nat.zero_le _⟩ (fun H locs hP hD hS => ?_)
  refine lv_aload_n hx hcd dX6_saveState_28 rfl (lv_at hl 0 rfl) ?_
  refine lv_dup hx hcd dX6_saveState_29 rfl ?_
  refine kr_get hx hcd hts uX6 hown hK hP 0 rfl rfl 4 (by decide) (by decide +kernel) (v := .int (nI n)) rfl dX6_saveState_30 ?_
  refine lv_iconst (v := nI 1) hx hcd dX6_saveState_33 (by decide) ?_
  refine kr_add hx hcd dX6_saveState_34 ?_
  refine kr_put hx hcd hts uX6 tyX6 tyX6_ok nmX6 hown hK hP hD hS 0 rfl rfl 4 (by decide) (by decide +kernel) rfl rfl rfl (ws2 := wX cI cB cW ob nw tr qs sc (g_rot qs r) M N (sset S 1 M) (n + 1) L T) rfl dX6_saveState_35 (fun H locs hP hD hS => ?_)
  exact kr_vret hx hcd hr hlocks hK hP hD hS rfl dX6_saveState_38

set_option maxHeartbeats 4000000 in
set_option maxRecDepth 100000 in
theorem c_X6_saveState__j2 (l : Launch) (D : va_G) (cI cB cW cL : ClassId) (ob nw tr : Nat → Nat) (qs : Nat → Nat → Nat) (sc : Nat → Nat) (G : Nat → Option Nat) (N : kM) (S : Nat → kM) (n L : Nat) (T : Nat → Int32) (sz : Nat) (M : kM) (r : Nat) (hn : n < 4) (hj : (n + r) % 4 = 2) : kMv l yX6_saveState wsX6_saveState ({ frames := 3, cells := 0, slots := 0, locals := 122 }) D vwCl (kT cI cB cW cL) sz [.ref (ob 0)] (wX cI cB cW ob nw tr qs sc (g_rot qs r) M N S n L T) (wX cI cB cW ob nw tr qs sc (g_rot qs r) M N (sset S 2 M) (n + 1) L T) := by
  refine kr_ofv (cc := cX6_saveState) (maxL := 1) (ret := none) (by decide) rfl (Nat.le_of_ble_eq_true rfl) ?_
  intro pp ee ss mm args below meth cc AA ls hx hcd hr hts hown hlocks hml hK hP hD hA hl
  have hS : va_S AA ss.heap ss.heap [] := va_S.rf
  have hown : ss.vm.findClass RX6 = some mm.cls := hown
  have hl : lv_has ls 1 [(0, .ref (ob 0))] := hl
  have uX6 : ∀ w ∈ u_ws RX6 TX6 5, w ∈ wsX6_saveState := by decide +kernel
  refine lv_aload_n hx hcd dX6_saveState_0 rfl (lv_at hl 0 rfl) ?_
  refine kr_get hx hcd hts uX6 hown hK hP 0 rfl rfl 4 (by decide) (by decide +kernel) (v := .int (nI n)) rfl dX6_saveState_1 ?_
  refine lv_iconst (v := nI 4) hx hcd dX6_saveState_4 (by decide) ?_
  refine kr_clt (tgt := 12) hx hcd (by omega) (by omega) dX6_saveState_5 (by decide) (fun (c_5 : n < 4) => ?_) (fun (c_5 : 4 ≤ n) => absurd c_5 (by omega))
  refine lv_aload_n hx hcd dX6_saveState_12 rfl (lv_at hl 0 rfl) ?_
  refine kr_get hx hcd hts uX6 hown hK hP 0 rfl rfl 2 (by decide) (by decide +kernel) (v := .ref (ob 1)) rfl dX6_saveState_13 ?_
  refine lv_aload_n hx hcd dX6_saveState_16 rfl (lv_at hl 0 rfl) ?_
  refine kr_get hx hcd hts uX6 hown hK hP 0 rfl rfl 4 (by decide) (by decide +kernel) (v := .int (nI n)) rfl dX6_saveState_17 ?_
  refine kr_aald hx hcd hK hP 1 2 rfl rfl (v := qs 2 0) (by omega) (by decide) (rot_at hn hj) dX6_saveState_20 ?_
  refine lv_aload_n hx hcd dX6_saveState_21 rfl (lv_at hl 0 rfl) ?_
  refine kr_get hx hcd hts uX6 hown hK hP 0 rfl rfl 0 (by decide) (by decide +kernel) (v := .ref (nw 0)) rfl dX6_saveState_22 ?_
  refine kr_Vv (As := [.ref (nw 0)]) (rest := []) (ws2 := wX cI cB cW ob nw tr qs sc (g_rot qs r) M N (sset S 2 M) n L T) (q := (RX5, TX5, 5)) ⟨hx, hcd, hml, hown, hts⟩ (c_X5_copyFrom l D cI cB cW cL (qs 2) nw (S 2) _ M ) (cwV 1 hts gX6_saveState_X5_copyFrom rfl rfl rfl (by decide +kernel) ⟨Nat.le_of_ble_eq_true rfl, Nat.le_of_ble_eq_true rfl⟩) hK hP hD hS hA [62, 63, 64, 65, 66, 67, 68, 69, 70, 71, 72, 73, 74, 75, 76, 2, 3, 4, 5, 6, 7, 8, 9, 10, 11, 12, 13, 14, 15, 16] wX_cp_q2_nwC (by decide) w2W_adr wX_cp_q2_nw 62 rfl rfl rfl hl.1 rfl (Nat.le_of_ble_eq_true rfl) dX6_saveState_25 ⟨Nat.zero_le _, Nat.zero_le _⟩ (fun H locs hP hD hS => ?_)
  refine lv_aload_n hx hcd dX6_saveState_28 rfl (lv_at hl 0 rfl) ?_
  refine lv_dup hx hcd dX6_saveState_29 rfl ?_
  refine kr_get hx hcd hts uX6 hown hK hP 0 rfl rfl 4 (by decide) (by decide +kernel) (v := .int (nI n)) rfl dX6_saveState_30 ?_
  refine lv_iconst (v := nI 1) hx hcd dX6_saveState_33 (by decide) ?_
  refine kr_add hx hcd dX6_saveState_34 ?_
  refine kr_put hx hcd hts uX6 tyX6 tyX6_ok nmX6 hown hK hP hD hS 0 rfl rfl 4 (by decide) (by decide +kernel) rfl rfl rfl (ws2 := wX cI cB cW ob nw tr qs sc (g_rot qs r) M N (sset S 2 M) (n + 1) L T) rfl dX6_saveState_35 (fun H locs hP hD hS => ?_)
  exact kr_vret hx hcd hr hlocks hK hP hD hS rfl dX6_saveState_38

set_option maxHeartbeats 4000000 in
set_option maxRecDepth 100000 in
theorem c_X6_saveState__j3 (l : Launch) (D : va_G) (cI cB cW cL : ClassId) (ob nw tr : Nat → Nat) (qs : Nat → Nat → Nat) (sc : Nat → Nat) (G : Nat → Option Nat) (N : kM) (S : Nat → kM) (n L : Nat) (T : Nat → Int32) (sz : Nat) (M : kM) (r : Nat) (hn : n < 4) (hj : (n + r) % 4 = 3) : kMv l yX6_saveState wsX6_saveState ({ frames := 3, cells := 0, slots := 0, locals := 122 }) D vwCl (kT cI cB cW cL) sz [.ref (ob 0)] (wX cI cB cW ob nw tr qs sc (g_rot qs r) M N S n L T) (wX cI cB cW ob nw tr qs sc (g_rot qs r) M N (sset S 3 M) (n + 1) L T) := by
  refine kr_ofv (cc := cX6_saveState) (maxL := 1) (ret := none) (by decide) rfl (Nat.le_of_ble_eq_true rfl) ?_
  intro pp ee ss mm args below meth cc AA ls hx hcd hr hts hown hlocks hml hK hP hD hA hl
  have hS : va_S AA ss.heap ss.heap [] := va_S.rf
  have hown : ss.vm.findClass RX6 = some mm.cls := hown
  have hl : lv_has ls 1 [(0, .ref (ob 0))] := hl
  have uX6 : ∀ w ∈ u_ws RX6 TX6 5, w ∈ wsX6_saveState := by decide +kernel
  refine lv_aload_n hx hcd dX6_saveState_0 rfl (lv_at hl 0 rfl) ?_
  refine kr_get hx hcd hts uX6 hown hK hP 0 rfl rfl 4 (by decide) (by decide +kernel) (v := .int (nI n)) rfl dX6_saveState_1 ?_
  refine lv_iconst (v := nI 4) hx hcd dX6_saveState_4 (by decide) ?_
  refine kr_clt (tgt := 12) hx hcd (by omega) (by omega) dX6_saveState_5 (by decide) (fun (c_5 : n < 4) => ?_) (fun (c_5 : 4 ≤ n) => absurd c_5 (by omega))
  refine lv_aload_n hx hcd dX6_saveState_12 rfl (lv_at hl 0 rfl) ?_
  refine kr_get hx hcd hts uX6 hown hK hP 0 rfl rfl 2 (by decide) (by decide +kernel) (v := .ref (ob 1)) rfl dX6_saveState_13 ?_
  refine lv_aload_n hx hcd dX6_saveState_16 rfl (lv_at hl 0 rfl) ?_
  refine kr_get hx hcd hts uX6 hown hK hP 0 rfl rfl 4 (by decide) (by decide +kernel) (v := .int (nI n)) rfl dX6_saveState_17 ?_
  refine kr_aald hx hcd hK hP 1 2 rfl rfl (v := qs 3 0) (by omega) (by decide) (rot_at hn hj) dX6_saveState_20 ?_
  refine lv_aload_n hx hcd dX6_saveState_21 rfl (lv_at hl 0 rfl) ?_
  refine kr_get hx hcd hts uX6 hown hK hP 0 rfl rfl 0 (by decide) (by decide +kernel) (v := .ref (nw 0)) rfl dX6_saveState_22 ?_
  refine kr_Vv (As := [.ref (nw 0)]) (rest := []) (ws2 := wX cI cB cW ob nw tr qs sc (g_rot qs r) M N (sset S 3 M) n L T) (q := (RX5, TX5, 5)) ⟨hx, hcd, hml, hown, hts⟩ (c_X5_copyFrom l D cI cB cW cL (qs 3) nw (S 3) _ M ) (cwV 1 hts gX6_saveState_X5_copyFrom rfl rfl rfl (by decide +kernel) ⟨Nat.le_of_ble_eq_true rfl, Nat.le_of_ble_eq_true rfl⟩) hK hP hD hS hA [77, 78, 79, 80, 81, 82, 83, 84, 85, 86, 87, 88, 89, 90, 91, 2, 3, 4, 5, 6, 7, 8, 9, 10, 11, 12, 13, 14, 15, 16] wX_cp_q3_nwC (by decide) w2W_adr wX_cp_q3_nw 77 rfl rfl rfl hl.1 rfl (Nat.le_of_ble_eq_true rfl) dX6_saveState_25 ⟨Nat.zero_le _, Nat.zero_le _⟩ (fun H locs hP hD hS => ?_)
  refine lv_aload_n hx hcd dX6_saveState_28 rfl (lv_at hl 0 rfl) ?_
  refine lv_dup hx hcd dX6_saveState_29 rfl ?_
  refine kr_get hx hcd hts uX6 hown hK hP 0 rfl rfl 4 (by decide) (by decide +kernel) (v := .int (nI n)) rfl dX6_saveState_30 ?_
  refine lv_iconst (v := nI 1) hx hcd dX6_saveState_33 (by decide) ?_
  refine kr_add hx hcd dX6_saveState_34 ?_
  refine kr_put hx hcd hts uX6 tyX6 tyX6_ok nmX6 hown hK hP hD hS 0 rfl rfl 4 (by decide) (by decide +kernel) rfl rfl rfl (ws2 := wX cI cB cW ob nw tr qs sc (g_rot qs r) M N (sset S 3 M) (n + 1) L T) rfl dX6_saveState_35 (fun H locs hP hD hS => ?_)
  exact kr_vret hx hcd hr hlocks hK hP hD hS rfl dX6_saveState_38

set_option maxHeartbeats 4000000 in
set_option maxRecDepth 100000 in
theorem c_X6_saveState__r0 (l : Launch) (D : va_G) (cI cB cW cL : ClassId) (ob nw tr : Nat → Nat) (qs : Nat → Nat → Nat) (sc : Nat → Nat) (G : Nat → Option Nat) (N : kM) (S : Nat → kM) (n L : Nat) (T : Nat → Int32) (sz : Nat) (M : kM)  : kMv l yX6_saveState wsX6_saveState ({ frames := 3, cells := 0, slots := 0, locals := 122 }) D vwCl (kT cI cB cW cL) sz [.ref (ob 0)] (wX cI cB cW ob nw tr qs sc (g_rot qs 0) M N S 4 L T) (wX cI cB cW ob nw tr qs sc (g_rot qs 1) M N (sset S 0 M) 4 L T) := by
  refine kr_ofv (cc := cX6_saveState) (maxL := 1) (ret := none) (by decide) rfl (Nat.le_of_ble_eq_true rfl) ?_
  intro pp ee ss mm args below meth cc AA ls hx hcd hr hts hown hlocks hml hK hP hD hA hl
  have hS : va_S AA ss.heap ss.heap [] := va_S.rf
  have hown : ss.vm.findClass RX6 = some mm.cls := hown
  have hl : lv_has ls 1 [(0, .ref (ob 0))] := hl
  have uX6 : ∀ w ∈ u_ws RX6 TX6 5, w ∈ wsX6_saveState := by decide +kernel
  refine lv_aload_n hx hcd dX6_saveState_0 rfl (lv_at hl 0 rfl) ?_
  refine kr_get hx hcd hts uX6 hown hK hP 0 rfl rfl 4 (by decide) (by decide +kernel) (v := .int (nI 4)) rfl dX6_saveState_1 ?_
  refine lv_iconst (v := nI 4) hx hcd dX6_saveState_4 (by decide) ?_
  refine kr_clt (tgt := 12) hx hcd (by omega) (by omega) dX6_saveState_5 (by decide) (fun (c_5 : 4 < 4) => absurd c_5 (by omega)) (fun (c_5 : 4 ≤ 4) => ?_)
  refine lv_aload_n hx hcd dX6_saveState_8 rfl (lv_at hl 0 rfl) ?_
  refine kr_Vv (As := []) (rest := []) (ws2 := wX cI cB cW ob nw tr qs sc (g_rot qs 1) M N S 3 L T) (q := (RX6, TX6, 5)) ⟨hx, hcd, hml, hown, hts⟩ (c_X6_dropOldestState__r0 l D cI cB cW cL ob nw tr qs sc (g_rot qs 0) N S 4 L T _ M ) (cwV 0 hts gX6_saveState_X6_dropOldestState rfl rfl rfl (by decide +kernel) ⟨Nat.le_of_ble_eq_true rfl, Nat.le_of_ble_eq_true rfl⟩) hK hP hD hS hA [0, 1, 2, 3, 4, 5, 6, 7, 8, 9, 10, 11, 12, 13, 14, 15, 16, 17, 18, 19, 20, 21, 22, 23, 24, 25, 26, 27, 28, 29, 30, 31, 32, 33, 34, 35, 36, 37, 38, 39, 40, 41, 42, 43, 44, 45, 46, 47, 48, 49, 50, 51, 52, 53, 54, 55, 56, 57, 58, 59, 60, 61, 62, 63, 64, 65, 66, 67, 68, 69, 70, 71, 72, 73, 74, 75, 76, 77, 78, 79, 80, 81, 82, 83, 84, 85, 86, 87, 88, 89, 90, 91, 92, 93] wX_allC wX_nd wX_adr wX_all 0 rfl rfl rfl hl.1 rfl (Nat.le_of_ble_eq_true rfl) dX6_saveState_9 ⟨Nat.zero_le _, Nat.zero_le _⟩ (fun H locs hP hD hS => ?_)
  refine lv_aload_n hx hcd dX6_saveState_12 rfl (lv_at hl 0 rfl) ?_
  refine kr_get hx hcd hts uX6 hown hK hP 0 rfl rfl 2 (by decide) (by decide +kernel) (v := .ref (ob 1)) rfl dX6_saveState_13 ?_
  refine lv_aload_n hx hcd dX6_saveState_16 rfl (lv_at hl 0 rfl) ?_
  refine kr_get hx hcd hts uX6 hown hK hP 0 rfl rfl 4 (by decide) (by decide +kernel) (v := .int (nI 3)) rfl dX6_saveState_17 ?_
  refine kr_aald hx hcd hK hP 1 2 rfl rfl (v := qs 0 0) (by omega) (by decide) rfl dX6_saveState_20 ?_
  refine lv_aload_n hx hcd dX6_saveState_21 rfl (lv_at hl 0 rfl) ?_
  refine kr_get hx hcd hts uX6 hown hK hP 0 rfl rfl 0 (by decide) (by decide +kernel) (v := .ref (nw 0)) rfl dX6_saveState_22 ?_
  refine kr_Vv (As := [.ref (nw 0)]) (rest := []) (ws2 := wX cI cB cW ob nw tr qs sc (g_rot qs 1) M N (sset S 0 M) 3 L T) (q := (RX5, TX5, 5)) ⟨hx, hcd, hml, hown, hts⟩ (c_X5_copyFrom l D cI cB cW cL (qs 0) nw (S 0) _ M ) (cwV 1 hts gX6_saveState_X5_copyFrom rfl rfl rfl (by decide +kernel) ⟨Nat.le_of_ble_eq_true rfl, Nat.le_of_ble_eq_true rfl⟩) hK hP hD hS hA [32, 33, 34, 35, 36, 37, 38, 39, 40, 41, 42, 43, 44, 45, 46, 2, 3, 4, 5, 6, 7, 8, 9, 10, 11, 12, 13, 14, 15, 16] wX_cp_q0_nwC (by decide) w2W_adr wX_cp_q0_nw 32 rfl rfl rfl hl.1 rfl (Nat.le_of_ble_eq_true rfl) dX6_saveState_25 ⟨Nat.zero_le _, Nat.zero_le _⟩ (fun H locs hP hD hS => ?_)
  refine lv_aload_n hx hcd dX6_saveState_28 rfl (lv_at hl 0 rfl) ?_
  refine lv_dup hx hcd dX6_saveState_29 rfl ?_
  refine kr_get hx hcd hts uX6 hown hK hP 0 rfl rfl 4 (by decide) (by decide +kernel) (v := .int (nI 3)) rfl dX6_saveState_30 ?_
  refine lv_iconst (v := nI 1) hx hcd dX6_saveState_33 (by decide) ?_
  refine kr_add hx hcd dX6_saveState_34 ?_
  refine kr_put hx hcd hts uX6 tyX6 tyX6_ok nmX6 hown hK hP hD hS 0 rfl rfl 4 (by decide) (by decide +kernel) rfl rfl rfl (ws2 := wX cI cB cW ob nw tr qs sc (g_rot qs 1) M N (sset S 0 M) (3 + 1) L T) rfl dX6_saveState_35 (fun H locs hP hD hS => ?_)
  exact kr_vret hx hcd hr hlocks hK hP hD hS rfl dX6_saveState_38

set_option maxHeartbeats 4000000 in
set_option maxRecDepth 100000 in
theorem c_X6_saveState__r1 (l : Launch) (D : va_G) (cI cB cW cL : ClassId) (ob nw tr : Nat → Nat) (qs : Nat → Nat → Nat) (sc : Nat → Nat) (G : Nat → Option Nat) (N : kM) (S : Nat → kM) (n L : Nat) (T : Nat → Int32) (sz : Nat) (M : kM)  : kMv l yX6_saveState wsX6_saveState ({ frames := 3, cells := 0, slots := 0, locals := 122 }) D vwCl (kT cI cB cW cL) sz [.ref (ob 0)] (wX cI cB cW ob nw tr qs sc (g_rot qs 1) M N S 4 L T) (wX cI cB cW ob nw tr qs sc (g_rot qs 2) M N (sset S 1 M) 4 L T) := by
  refine kr_ofv (cc := cX6_saveState) (maxL := 1) (ret := none) (by decide) rfl (Nat.le_of_ble_eq_true rfl) ?_
  intro pp ee ss mm args below meth cc AA ls hx hcd hr hts hown hlocks hml hK hP hD hA hl
  have hS : va_S AA ss.heap ss.heap [] := va_S.rf
  have hown : ss.vm.findClass RX6 = some mm.cls := hown
  have hl : lv_has ls 1 [(0, .ref (ob 0))] := hl
  have uX6 : ∀ w ∈ u_ws RX6 TX6 5, w ∈ wsX6_saveState := by decide +kernel
  refine lv_aload_n hx hcd dX6_saveState_0 rfl (lv_at hl 0 rfl) ?_
  refine kr_get hx hcd hts uX6 hown hK hP 0 rfl rfl 4 (by decide) (by decide +kernel) (v := .int (nI 4)) rfl dX6_saveState_1 ?_
  refine lv_iconst (v := nI 4) hx hcd dX6_saveState_4 (by decide) ?_
  refine kr_clt (tgt := 12) hx hcd (by omega) (by omega) dX6_saveState_5 (by decide) (fun (c_5 : 4 < 4) => absurd c_5 (by omega)) (fun (c_5 : 4 ≤ 4) => ?_)
  refine lv_aload_n hx hcd dX6_saveState_8 rfl (lv_at hl 0 rfl) ?_
  refine kr_Vv (As := []) (rest := []) (ws2 := wX cI cB cW ob nw tr qs sc (g_rot qs 2) M N S 3 L T) (q := (RX6, TX6, 5)) ⟨hx, hcd, hml, hown, hts⟩ (c_X6_dropOldestState__r1 l D cI cB cW cL ob nw tr qs sc (g_rot qs 1) N S 4 L T _ M ) (cwV 0 hts gX6_saveState_X6_dropOldestState rfl rfl rfl (by decide +kernel) ⟨Nat.le_of_ble_eq_true rfl, Nat.le_of_ble_eq_true rfl⟩) hK hP hD hS hA [0, 1, 2, 3, 4, 5, 6, 7, 8, 9, 10, 11, 12, 13, 14, 15, 16, 17, 18, 19, 20, 21, 22, 23, 24, 25, 26, 27, 28, 29, 30, 31, 32, 33, 34, 35, 36, 37, 38, 39, 40, 41, 42, 43, 44, 45, 46, 47, 48, 49, 50, 51, 52, 53, 54, 55, 56, 57, 58, 59, 60, 61, 62, 63, 64, 65, 66, 67, 68, 69, 70, 71, 72, 73, 74, 75, 76, 77, 78, 79, 80, 81, 82, 83, 84, 85, 86, 87, 88, 89, 90, 91, 92, 93] wX_allC wX_nd wX_adr wX_all 0 rfl rfl rfl hl.1 rfl (Nat.le_of_ble_eq_true rfl) dX6_saveState_9 ⟨Nat.zero_le _, Nat.zero_le _⟩ (fun H locs hP hD hS => ?_)
  refine lv_aload_n hx hcd dX6_saveState_12 rfl (lv_at hl 0 rfl) ?_
  refine kr_get hx hcd hts uX6 hown hK hP 0 rfl rfl 2 (by decide) (by decide +kernel) (v := .ref (ob 1)) rfl dX6_saveState_13 ?_
  refine lv_aload_n hx hcd dX6_saveState_16 rfl (lv_at hl 0 rfl) ?_
  refine kr_get hx hcd hts uX6 hown hK hP 0 rfl rfl 4 (by decide) (by decide +kernel) (v := .int (nI 3)) rfl dX6_saveState_17 ?_
  refine kr_aald hx hcd hK hP 1 2 rfl rfl (v := qs 1 0) (by omega) (by decide) rfl dX6_saveState_20 ?_
  refine lv_aload_n hx hcd dX6_saveState_21 rfl (lv_at hl 0 rfl) ?_
  refine kr_get hx hcd hts uX6 hown hK hP 0 rfl rfl 0 (by decide) (by decide +kernel) (v := .ref (nw 0)) rfl dX6_saveState_22 ?_
  refine kr_Vv (As := [.ref (nw 0)]) (rest := []) (ws2 := wX cI cB cW ob nw tr qs sc (g_rot qs 2) M N (sset S 1 M) 3 L T) (q := (RX5, TX5, 5)) ⟨hx, hcd, hml, hown, hts⟩ (c_X5_copyFrom l D cI cB cW cL (qs 1) nw (S 1) _ M ) (cwV 1 hts gX6_saveState_X5_copyFrom rfl rfl rfl (by decide +kernel) ⟨Nat.le_of_ble_eq_true rfl, Nat.le_of_ble_eq_true rfl⟩) hK hP hD hS hA [47, 48, 49, 50, 51, 52, 53, 54, 55, 56, 57, 58, 59, 60, 61, 2, 3, 4, 5, 6, 7, 8, 9, 10, 11, 12, 13, 14, 15, 16] wX_cp_q1_nwC (by decide) w2W_adr wX_cp_q1_nw 47 rfl rfl rfl hl.1 rfl (Nat.le_of_ble_eq_true rfl) dX6_saveState_25 ⟨Nat.zero_le _, Nat.zero_le _⟩ (fun H locs hP hD hS => ?_)
  refine lv_aload_n hx hcd dX6_saveState_28 rfl (lv_at hl 0 rfl) ?_
  refine lv_dup hx hcd dX6_saveState_29 rfl ?_
  refine kr_get hx hcd hts uX6 hown hK hP 0 rfl rfl 4 (by decide) (by decide +kernel) (v := .int (nI 3)) rfl dX6_saveState_30 ?_
  refine lv_iconst (v := nI 1) hx hcd dX6_saveState_33 (by decide) ?_
  refine kr_add hx hcd dX6_saveState_34 ?_
  refine kr_put hx hcd hts uX6 tyX6 tyX6_ok nmX6 hown hK hP hD hS 0 rfl rfl 4 (by decide) (by decide +kernel) rfl rfl rfl (ws2 := wX cI cB cW ob nw tr qs sc (g_rot qs 2) M N (sset S 1 M) (3 + 1) L T) rfl dX6_saveState_35 (fun H locs hP hD hS => ?_)
  exact kr_vret hx hcd hr hlocks hK hP hD hS rfl dX6_saveState_38

set_option maxHeartbeats 4000000 in
set_option maxRecDepth 100000 in
theorem c_X6_saveState__r2 (l : Launch) (D : va_G) (cI cB cW cL : ClassId) (ob nw tr : Nat → Nat) (qs : Nat → Nat → Nat) (sc : Nat → Nat) (G : Nat → Option Nat) (N : kM) (S : Nat → kM) (n L : Nat) (T : Nat → Int32) (sz : Nat) (M : kM)  : kMv l yX6_saveState wsX6_saveState ({ frames := 3, cells := 0, slots := 0, locals := 122 }) D vwCl (kT cI cB cW cL) sz [.ref (ob 0)] (wX cI cB cW ob nw tr qs sc (g_rot qs 2) M N S 4 L T) (wX cI cB cW ob nw tr qs sc (g_rot qs 3) M N (sset S 2 M) 4 L T) := by
  refine kr_ofv (cc := cX6_saveState) (maxL := 1) (ret := none) (by decide) rfl (Nat.le_of_ble_eq_true rfl) ?_
  intro pp ee ss mm args below meth cc AA ls hx hcd hr hts hown hlocks hml hK hP hD hA hl
  have hS : va_S AA ss.heap ss.heap [] := va_S.rf
  have hown : ss.vm.findClass RX6 = some mm.cls := hown
  have hl : lv_has ls 1 [(0, .ref (ob 0))] := hl
  have uX6 : ∀ w ∈ u_ws RX6 TX6 5, w ∈ wsX6_saveState := by decide +kernel
  refine lv_aload_n hx hcd dX6_saveState_0 rfl (lv_at hl 0 rfl) ?_
  refine kr_get hx hcd hts uX6 hown hK hP 0 rfl rfl 4 (by decide) (by decide +kernel) (v := .int (nI 4)) rfl dX6_saveState_1 ?_
  refine lv_iconst (v := nI 4) hx hcd dX6_saveState_4 (by decide) ?_
  refine kr_clt (tgt := 12) hx hcd (by omega) (by omega) dX6_saveState_5 (by decide) (fun (c_5 : 4 < 4) => absurd c_5 (by omega)) (fun (c_5 : 4 ≤ 4) => ?_)
  refine lv_aload_n hx hcd dX6_saveState_8 rfl (lv_at hl 0 rfl) ?_
  refine kr_Vv (As := []) (rest := []) (ws2 := wX cI cB cW ob nw tr qs sc (g_rot qs 3) M N S 3 L T) (q := (RX6, TX6, 5)) ⟨hx, hcd, hml, hown, hts⟩ (c_X6_dropOldestState__r2 l D cI cB cW cL ob nw tr qs sc (g_rot qs 2) N S 4 L T _ M ) (cwV 0 hts gX6_saveState_X6_dropOldestState rfl rfl rfl (by decide +kernel) ⟨Nat.le_of_ble_eq_true rfl, Nat.le_of_ble_eq_true rfl⟩) hK hP hD hS hA [0, 1, 2, 3, 4, 5, 6, 7, 8, 9, 10, 11, 12, 13, 14, 15, 16, 17, 18, 19, 20, 21, 22, 23, 24, 25, 26, 27, 28, 29, 30, 31, 32, 33, 34, 35, 36, 37, 38, 39, 40, 41, 42, 43, 44, 45, 46, 47, 48, 49, 50, 51, 52, 53, 54, 55, 56, 57, 58, 59, 60, 61, 62, 63, 64, 65, 66, 67, 68, 69, 70, 71, 72, 73, 74, 75, 76, 77, 78, 79, 80, 81, 82, 83, 84, 85, 86, 87, 88, 89, 90, 91, 92, 93] wX_allC wX_nd wX_adr wX_all 0 rfl rfl rfl hl.1 rfl (Nat.le_of_ble_eq_true rfl) dX6_saveState_9 ⟨Nat.zero_le _, Nat.zero_le _⟩ (fun H locs hP hD hS => ?_)
  refine lv_aload_n hx hcd dX6_saveState_12 rfl (lv_at hl 0 rfl) ?_
  refine kr_get hx hcd hts uX6 hown hK hP 0 rfl rfl 2 (by decide) (by decide +kernel) (v := .ref (ob 1)) rfl dX6_saveState_13 ?_
  refine lv_aload_n hx hcd dX6_saveState_16 rfl (lv_at hl 0 rfl) ?_
  refine kr_get hx hcd hts uX6 hown hK hP 0 rfl rfl 4 (by decide) (by decide +kernel) (v := .int (nI 3)) rfl dX6_saveState_17 ?_
  refine kr_aald hx hcd hK hP 1 2 rfl rfl (v := qs 2 0) (by omega) (by decide) rfl dX6_saveState_20 ?_
  refine lv_aload_n hx hcd dX6_saveState_21 rfl (lv_at hl 0 rfl) ?_
  refine kr_get hx hcd hts uX6 hown hK hP 0 rfl rfl 0 (by decide) (by decide +kernel) (v := .ref (nw 0)) rfl dX6_saveState_22 ?_
  refine kr_Vv (As := [.ref (nw 0)]) (rest := []) (ws2 := wX cI cB cW ob nw tr qs sc (g_rot qs 3) M N (sset S 2 M) 3 L T) (q := (RX5, TX5, 5)) ⟨hx, hcd, hml, hown, hts⟩ (c_X5_copyFrom l D cI cB cW cL (qs 2) nw (S 2) _ M ) (cwV 1 hts gX6_saveState_X5_copyFrom rfl rfl rfl (by decide +kernel) ⟨Nat.le_of_ble_eq_true rfl, Nat.le_of_ble_eq_true rfl⟩) hK hP hD hS hA [62, 63, 64, 65, 66, 67, 68, 69, 70, 71, 72, 73, 74, 75, 76, 2, 3, 4, 5, 6, 7, 8, 9, 10, 11, 12, 13, 14, 15, 16] wX_cp_q2_nwC (by decide) w2W_adr wX_cp_q2_nw 62 rfl rfl rfl hl.1 rfl (Nat.le_of_ble_eq_true rfl) dX6_saveState_25 ⟨Nat.zero_le _, Nat.zero_le _⟩ (fun H locs hP hD hS => ?_)
  refine lv_aload_n hx hcd dX6_saveState_28 rfl (lv_at hl 0 rfl) ?_
  refine lv_dup hx hcd dX6_saveState_29 rfl ?_
  refine kr_get hx hcd hts uX6 hown hK hP 0 rfl rfl 4 (by decide) (by decide +kernel) (v := .int (nI 3)) rfl dX6_saveState_30 ?_
  refine lv_iconst (v := nI 1) hx hcd dX6_saveState_33 (by decide) ?_
  refine kr_add hx hcd dX6_saveState_34 ?_
  refine kr_put hx hcd hts uX6 tyX6 tyX6_ok nmX6 hown hK hP hD hS 0 rfl rfl 4 (by decide) (by decide +kernel) rfl rfl rfl (ws2 := wX cI cB cW ob nw tr qs sc (g_rot qs 3) M N (sset S 2 M) (3 + 1) L T) rfl dX6_saveState_35 (fun H locs hP hD hS => ?_)
  exact kr_vret hx hcd hr hlocks hK hP hD hS rfl dX6_saveState_38

set_option maxHeartbeats 4000000 in
set_option maxRecDepth 100000 in
theorem c_X6_saveState__r3 (l : Launch) (D : va_G) (cI cB cW cL : ClassId) (ob nw tr : Nat → Nat) (qs : Nat → Nat → Nat) (sc : Nat → Nat) (G : Nat → Option Nat) (N : kM) (S : Nat → kM) (n L : Nat) (T : Nat → Int32) (sz : Nat) (M : kM)  : kMv l yX6_saveState wsX6_saveState ({ frames := 3, cells := 0, slots := 0, locals := 122 }) D vwCl (kT cI cB cW cL) sz [.ref (ob 0)] (wX cI cB cW ob nw tr qs sc (g_rot qs 3) M N S 4 L T) (wX cI cB cW ob nw tr qs sc (g_rot qs 0) M N (sset S 3 M) 4 L T) := by
  refine kr_ofv (cc := cX6_saveState) (maxL := 1) (ret := none) (by decide) rfl (Nat.le_of_ble_eq_true rfl) ?_
  intro pp ee ss mm args below meth cc AA ls hx hcd hr hts hown hlocks hml hK hP hD hA hl
  have hS : va_S AA ss.heap ss.heap [] := va_S.rf
  have hown : ss.vm.findClass RX6 = some mm.cls := hown
  have hl : lv_has ls 1 [(0, .ref (ob 0))] := hl
  have uX6 : ∀ w ∈ u_ws RX6 TX6 5, w ∈ wsX6_saveState := by decide +kernel
  refine lv_aload_n hx hcd dX6_saveState_0 rfl (lv_at hl 0 rfl) ?_
  refine kr_get hx hcd hts uX6 hown hK hP 0 rfl rfl 4 (by decide) (by decide +kernel) (v := .int (nI 4)) rfl dX6_saveState_1 ?_
  refine lv_iconst (v := nI 4) hx hcd dX6_saveState_4 (by decide) ?_
  refine kr_clt (tgt := 12) hx hcd (by omega) (by omega) dX6_saveState_5 (by decide) (fun (c_5 : 4 < 4) => absurd c_5 (by omega)) (fun (c_5 : 4 ≤ 4) => ?_)
  refine lv_aload_n hx hcd dX6_saveState_8 rfl (lv_at hl 0 rfl) ?_
  refine kr_Vv (As := []) (rest := []) (ws2 := wX cI cB cW ob nw tr qs sc (g_rot qs 0) M N S 3 L T) (q := (RX6, TX6, 5)) ⟨hx, hcd, hml, hown, hts⟩ (c_X6_dropOldestState__r3 l D cI cB cW cL ob nw tr qs sc (g_rot qs 3) N S 4 L T _ M ) (cwV 0 hts gX6_saveState_X6_dropOldestState rfl rfl rfl (by decide +kernel) ⟨Nat.le_of_ble_eq_true rfl, Nat.le_of_ble_eq_true rfl⟩) hK hP hD hS hA [0, 1, 2, 3, 4, 5, 6, 7, 8, 9, 10, 11, 12, 13, 14, 15, 16, 17, 18, 19, 20, 21, 22, 23, 24, 25, 26, 27, 28, 29, 30, 31, 32, 33, 34, 35, 36, 37, 38, 39, 40, 41, 42, 43, 44, 45, 46, 47, 48, 49, 50, 51, 52, 53, 54, 55, 56, 57, 58, 59, 60, 61, 62, 63, 64, 65, 66, 67, 68, 69, 70, 71, 72, 73, 74, 75, 76, 77, 78, 79, 80, 81, 82, 83, 84, 85, 86, 87, 88, 89, 90, 91, 92, 93] wX_allC wX_nd wX_adr wX_all 0 rfl rfl rfl hl.1 rfl (Nat.le_of_ble_eq_true rfl) dX6_saveState_9 ⟨Nat.zero_le _, Nat.zero_le _⟩ (fun H locs hP hD hS => ?_)
  refine lv_aload_n hx hcd dX6_saveState_12 rfl (lv_at hl 0 rfl) ?_
  refine kr_get hx hcd hts uX6 hown hK hP 0 rfl rfl 2 (by decide) (by decide +kernel) (v := .ref (ob 1)) rfl dX6_saveState_13 ?_
  refine lv_aload_n hx hcd dX6_saveState_16 rfl (lv_at hl 0 rfl) ?_
  refine kr_get hx hcd hts uX6 hown hK hP 0 rfl rfl 4 (by decide) (by decide +kernel) (v := .int (nI 3)) rfl dX6_saveState_17 ?_
  refine kr_aald hx hcd hK hP 1 2 rfl rfl (v := qs 3 0) (by omega) (by decide) rfl dX6_saveState_20 ?_
  refine lv_aload_n hx hcd dX6_saveState_21 rfl (lv_at hl 0 rfl) ?_
  refine kr_get hx hcd hts uX6 hown hK hP 0 rfl rfl 0 (by decide) (by decide +kernel) (v := .ref (nw 0)) rfl dX6_saveState_22 ?_
  refine kr_Vv (As := [.ref (nw 0)]) (rest := []) (ws2 := wX cI cB cW ob nw tr qs sc (g_rot qs 0) M N (sset S 3 M) 3 L T) (q := (RX5, TX5, 5)) ⟨hx, hcd, hml, hown, hts⟩ (c_X5_copyFrom l D cI cB cW cL (qs 3) nw (S 3) _ M ) (cwV 1 hts gX6_saveState_X5_copyFrom rfl rfl rfl (by decide +kernel) ⟨Nat.le_of_ble_eq_true rfl, Nat.le_of_ble_eq_true rfl⟩) hK hP hD hS hA [77, 78, 79, 80, 81, 82, 83, 84, 85, 86, 87, 88, 89, 90, 91, 2, 3, 4, 5, 6, 7, 8, 9, 10, 11, 12, 13, 14, 15, 16] wX_cp_q3_nwC (by decide) w2W_adr wX_cp_q3_nw 77 rfl rfl rfl hl.1 rfl (Nat.le_of_ble_eq_true rfl) dX6_saveState_25 ⟨Nat.zero_le _, Nat.zero_le _⟩ (fun H locs hP hD hS => ?_)
  refine lv_aload_n hx hcd dX6_saveState_28 rfl (lv_at hl 0 rfl) ?_
  refine lv_dup hx hcd dX6_saveState_29 rfl ?_
  refine kr_get hx hcd hts uX6 hown hK hP 0 rfl rfl 4 (by decide) (by decide +kernel) (v := .int (nI 3)) rfl dX6_saveState_30 ?_
  refine lv_iconst (v := nI 1) hx hcd dX6_saveState_33 (by decide) ?_
  refine kr_add hx hcd dX6_saveState_34 ?_
  refine kr_put hx hcd hts uX6 tyX6 tyX6_ok nmX6 hown hK hP hD hS 0 rfl rfl 4 (by decide) (by decide +kernel) rfl rfl rfl (ws2 := wX cI cB cW ob nw tr qs sc (g_rot qs 0) M N (sset S 3 M) (3 + 1) L T) rfl dX6_saveState_35 (fun H locs hP hD hS => ?_)
  exact kr_vret hx hcd hr hlocks hK hP hD hS rfl dX6_saveState_38
theorem c_X6_saveState (l : Launch) (D : va_G) (cI cB cW cL : ClassId) (ob nw tr : Nat → Nat) (qs : Nat → Nat → Nat) (sc : Nat → Nat) (G : Nat → Option Nat) (N : kM) (S : Nat → kM) (n L : Nat) (T : Nat → Int32) (sz : Nat) (M : kM) (r : Nat) (hn : n ≤ 4) (hr : r < 4) : kMv l yX6_saveState wsX6_saveState ({ frames := 3, cells := 0, slots := 0, locals := 122 }) D vwCl (kT cI cB cW cL) sz [.ref (ob 0)] (wX cI cB cW ob nw tr qs sc (g_rot qs r) M N S n L T) (wX cI cB cW ob nw tr qs sc (g_rot qs (rj n r)) M N (sset S (pj n r) M) (g_kn n) L T) := by
  by_cases hn4 : n = 4
  · subst hn4
    rcases (show r = 0 ∨ r = 1 ∨ r = 2 ∨ r = 3 by omega) with rfl | rfl | rfl | rfl
    · exact c_X6_saveState__r0 l D cI cB cW cL ob nw tr qs sc G N S 4 L T sz M
    · exact c_X6_saveState__r1 l D cI cB cW cL ob nw tr qs sc G N S 4 L T sz M
    · exact c_X6_saveState__r2 l D cI cB cW cL ob nw tr qs sc G N S 4 L T sz M
    · exact c_X6_saveState__r3 l D cI cB cW cL ob nw tr qs sc G N S 4 L T sz M
  · rw [rj_n hn4, pj_n hn4, kn_n hn4]
    rcases (show (n + r) % 4 = 0 ∨ (n + r) % 4 = 1 ∨ (n + r) % 4 = 2 ∨ (n + r) % 4 = 3 by omega) with hj | hj | hj | hj
    · rw [hj]
      exact c_X6_saveState__j0 l D cI cB cW cL ob nw tr qs sc G N S n L T sz M r (by omega) hj
    · rw [hj]
      exact c_X6_saveState__j1 l D cI cB cW cL ob nw tr qs sc G N S n L T sz M r (by omega) hj
    · rw [hj]
      exact c_X6_saveState__j2 l D cI cB cW cL ob nw tr qs sc G N S n L T sz M r (by omega) hj
    · rw [hj]
      exact c_X6_saveState__j3 l D cI cB cW cL ob nw tr qs sc G N S n L T sz M r (by omega) hj
