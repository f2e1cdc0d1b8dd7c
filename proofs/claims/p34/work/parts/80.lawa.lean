/-! the law's own methods -/
section CUT
variable {p : Program} {l : Launch} {e : Env} {R : Room} {s : State} {m : MethodId} {args : Array Value} {below : List Frame} {meth : Method} {c : Code} {cc : ByteArray} {H H0 : Heap} {locs : List Loc} {cells slots : Nat} {Q : State → Prop} {pc : Nat} {ls : Array Slot} {rest : List Value} {D : va_G} {cl : List vw_C} {ws : va_W} {A : Nat → Prop}
/-- ways that come together again -/
theorem kr_cut {g g2 : JFrame} (k : (∀ (H1 : Heap) (locs1 : List Loc), va_P D cl ws H1 → va_D A ws → va_S A H0 H1 locs1 → W p l e R s m args below meth c H1 locs1 cells slots Q g) → W p l e R s m args below meth c H locs cells slots Q g2)
    (h : ∀ (H1 : Heap) (locs1 : List Loc), va_P D cl ws H1 → va_D A ws → va_S A H0 H1 locs1 → W p l e R s m args below meth c H1 locs1 cells slots Q g) : W p l e R s m args below meth c H locs cells slots Q g2 := k h
theorem kr_zgt (hx : p.tables.exec = Jvm.exec) (hb : c.code = cc) {a : Nat} (ha : a < 2 ^ 31) {off : Int} {tgt : Nat} (hdg : decode cc pc = .ok (.ifCond .gt off, 3)) (ht : (pc : Int) + off = (tgt : Int)) (kt : 0 < a → W p l e R s m args below meth c H locs cells slots Q (F0 m tgt ls rest)) (kf : a = 0 → W p l e R s m args below meth c H locs cells slots Q (F0 m (pc + 3) ls rest)) : W p l e R s m args below meth c H locs cells slots Q (F0 m pc ls (.int (nI a) :: rest)) := by
  refine lv_if_gt hx hb hdg ht (fun h => kt (Nat.pos_of_ne_zero fun q => ?_)) (fun h => kf ?_)
  · rw [q] at h
    exact absurd h (by decide)
  · rcases Nat.eq_zero_or_pos a with q | q
    · exact q
    · exact absurd (Int32.not_le.mp (nI_nle q ha)) h
theorem kl_lcmp (hx : p.tables.exec = Jvm.exec) (hb : c.code = cc) {x y : Int64} (h : x = y) (hdg : decode cc pc = .ok (.lcmp, 1))
    (kk : W p l e R s m args below meth c H locs cells slots Q (F0 m (pc + 1) ls (.int (nI 0) :: rest))) : W p l e R s m args below meth c H locs cells slots Q (F0 m pc ls (.long y :: .long x :: rest)) := by
  refine W.lcmp hx hb hdg ?_
  rw [(lg_cmp_eq x y).mpr h]
  exact kk
theorem kl_dcmp (hx : p.tables.exec = Jvm.exec) (hb : c.code = cc) {x y : UInt64} {op : CmpOp} {v : Int32} (h : Op.cmpValue (FP.dcmp x y) op = v) (hdg : decode cc pc = .ok (.dcmp op, 1))
    (kk : W p l e R s m args below meth c H locs cells slots Q (F0 m (pc + 1) ls (.int v :: rest))) : W p l e R s m args below meth c H locs cells slots Q (F0 m pc ls (.double y :: .double x :: rest)) := by
  refine lv_dcmp hx hb hdg ?_
  rw [h]
  exact kk
end CUT
theorem kI_pt {P : Prop} {hP : Decidable P} (h : P) : nI 1 = kI (@decide P hP) := by rw [@decide_eq_true P hP h]; rfl
theorem kI_pf {P : Prop} {hP : Decidable P} (h : ¬ P) : nI 0 = kI (@decide P hP) := by rw [@decide_eq_false P hP h]; rfl
theorem kI_bt {b : Bool} (h : b = true) : nI 1 = kI b := by rw [h]; rfl
theorem kI_bf {b : Bool} (h : b = false) : nI 0 = kI b := by rw [h]; rfl
theorem kI_b0 {b : Bool} (h : ¬ b = true) : nI 0 = kI b := by rw [bfalse h]; rfl
theorem msg_300 {M : kM} (h : kInv M) : g_in (nI 300) 0 (M 577 - 1) = false := by
  have hw := i_wyle h
  rw [i_wy h]
  unfold g_in
  by_cases q : wyN M = 0
  · rw [q]
    decide
  · rw [show nI (wyN M) - 1 = nI (wyN M - 1) from pk_sub (a := wyN M) (b := 1) (by omega)]
    have : nI (wyN M - 1) < nI 300 := nI_lt (by omega) (by omega)
    rw [decide_eq_false (not_not_intro this), Bool.and_false]
theorem msg_m1 {M : kM} : g_in (-1) 0 (M 577 - 1) = false := by
  unfold g_in
  rw [decide_eq_false (not_not_intro (show (-1 : Int32) < 0 by decide)), Bool.false_and]
theorem kn_le {n : Nat} (h : n ≤ 4) : 1 ≤ g_kn n ∧ g_kn n ≤ 4 := by
  unfold g_kn
  split <;> omega
theorem kn_back {n : Nat} (h : n ≤ 4) : g_kn n - 1 + 1 = g_kn n := by
  have := kn_le h
  omega
theorem undo_back {S : Nat → kM} {M : kM} {n r : Nat} (hn : n ≤ 4) (hr : r < 4) : sset S (pj n r) M ((g_kn n - 1 + rj n r) % 4) = M := by
  have e : (g_kn n - 1 + rj n r) % 4 = pj n r := by
    unfold g_kn rj pj
    split <;> omega
  rw [e]
  unfold sset
  rw [if_pos rfl]

set_option maxHeartbeats 4000000 in
set_option maxRecDepth 100000 in
theorem c_L_refuses (l : Launch) (hst : l.stackTraces = false) (D : va_G) (cI cB cW cL : ClassId) (ob nw tr : Nat → Nat) (qs : Nat → Nat → Nat) (sc : Nat → Nat) (G : Nat → Option Nat) (N : kM) (S : Nat → kM) (n L : Nat) (T : Nat → Int32) (sz : Nat) (M : kM) (hI : kInv M) : kMg l yL_refuses wsL_refuses ({ frames := 10, cells := 30, slots := 180, locals := 172 }) D vwCl (kT cI cB cW cL) sz [.ref (ob 0)] (wX cI cB cW ob nw tr qs sc G M N S n L T) (wX cI cB cW ob nw tr qs sc G M N S n L T) 1 30 180 := by
  refine kr_ofg (cc := cL_refuses) (maxL := 4) (ret := (some .boolean)) (by decide) rfl (Nat.le_of_ble_eq_true rfl) ?_
  intro pp ee ss mm args below meth cc AA ls hx hcd hr hts hown hlocks hml hZ hN hK hP hD hA hl
  have hS : va_S AA ss.heap ss.heap [] := va_S.rf
  have hown : ss.vm.findClass RL = some mm.cls := hown
  have hl : lv_has ls 4 [(0, .ref (ob 0))] := hl
  refine lv_aload_n hx hcd dL_refuses_0 rfl (lv_at hl 0 rfl) ?_
  refine kr_Vl (As := []) (rest := []) (ws2 := wX cI cB cW ob nw tr qs sc G M N S n L T) (q := (RX6, TX6, 5)) ⟨hx, hcd, hml, hown, hts⟩ (c_X6_digest__ok l D cI cB cW cL ob nw tr qs sc G N S n L T _ M hI) (cwV 0 hts gL_refuses_X6_digest rfl rfl rfl (by decide +kernel) ⟨Nat.le_of_ble_eq_true rfl, Nat.le_of_ble_eq_true rfl⟩) hK hP hD hS hA [0, 1, 2, 3, 4, 5, 6, 7, 8, 9, 10, 11, 12, 13, 14, 15, 16, 17, 18, 19, 20, 21, 22, 23, 24, 25, 26, 27, 28, 29, 30, 31, 32, 33, 34, 35, 36, 37, 38, 39, 40, 41, 42, 43, 44, 45, 46, 47, 48, 49, 50, 51, 52, 53, 54, 55, 56, 57, 58, 59, 60, 61, 62, 63, 64, 65, 66, 67, 68, 69, 70, 71, 72, 73, 74, 75, 76, 77, 78, 79, 80, 81, 82, 83, 84, 85, 86, 87, 88, 89, 90, 91, 92, 93] wX_allC wX_nd wX_adr wX_all 0 rfl rfl rfl hl.1 rfl (Nat.le_of_ble_eq_true rfl) dL_refuses_1 ⟨Nat.le_of_ble_eq_true rfl, Nat.le_of_ble_eq_true rfl⟩ (fun H locs hP hD hS => ?_)
  refine lv_lstore_n (lv' := [(1, .long (g_digest M (nI L) (nI n))), (0, .ref (ob 0))]) hx hcd dL_refuses_4 rfl hl (by decide) rfl (fun ls hl => ?_)
  refine lv_aload_n hx hcd dL_refuses_5 rfl (lv_at hl 1 rfl) ?_
  refine lv_bipush (v := nI 6) hx hcd dL_refuses_6 (by decide) ?_
  refine lv_bipush (v := nI 6) hx hcd dL_refuses_8 (by decide) ?_
  refine kl_S (As := [.ref (ob 0), .int (nI 6), .int (nI 6)]) (rest := []) (ws2 := wX cI cB cW ob nw tr qs sc G M N S n L T) ⟨hx, hcd, hml, hown, hts⟩ (c_L_ask__e1 l hst D cI cB cW cL ob nw tr qs sc G N S n L T _ M (nI 6) (nI 6) (by decide +kernel)) (vx_cwSW 3 hts gL_refuses_L_ask rfl rfl rfl (by decide +kernel) ⟨Nat.le_of_ble_eq_true rfl, Nat.le_of_ble_eq_true rfl⟩) hZ hN hK hP hD hS hA [0, 1, 2, 3, 4, 5, 6, 7, 8, 9, 10, 11, 12, 13, 14, 15, 16, 17, 18, 19, 20, 21, 22, 23, 24, 25, 26, 27, 28, 29, 30, 31, 32, 33, 34, 35, 36, 37, 38, 39, 40, 41, 42, 43, 44, 45, 46, 47, 48, 49, 50, 51, 52, 53, 54, 55, 56, 57, 58, 59, 60, 61, 62, 63, 64, 65, 66, 67, 68, 69, 70, 71, 72, 73, 74, 75, 76, 77, 78, 79, 80, 81, 82, 83, 84, 85, 86, 87, 88, 89, 90, 91, 92, 93] wX_allC wX_nd wX_adr wX_all rfl hl.1 rfl (Nat.le_of_ble_eq_true rfl) dL_refuses_10 ⟨Nat.le_of_ble_eq_true rfl, Nat.le_of_ble_eq_true rfl⟩ (fun H locs hP hD hS => ?_)
  refine lv_sipush (v := (-903)) hx hcd dL_refuses_13 (by decide) ?_
  refine lv_icmp_ne (tgt := 180) hx hcd dL_refuses_16 (by decide) (fun (c_16 : ¬ (-903) = (-903)) => absurd c_16 (not_not_intro rfl)) (fun (c_16 : (-903) = (-903)) => ?_)
  refine lv_aload_n hx hcd dL_refuses_19 rfl (lv_at hl 1 rfl) ?_
  refine lv_iconst (v := nI 1) hx hcd dL_refuses_20 (by decide) ?_
  refine lv_iconst (v := nI 1) hx hcd dL_refuses_21 (by decide) ?_
  refine kl_S (As := [.ref (ob 0), .int (nI 1), .int (nI 1)]) (rest := []) (ws2 := wX cI cB cW ob nw tr qs sc G M N S n L T) ⟨hx, hcd, hml, hown, hts⟩ (c_L_ask__e2 l hst D cI cB cW cL ob nw tr qs sc G N S n L T _ M (nI 1) (nI 1) (by decide +kernel)) (vx_cwSW 3 hts gL_refuses_L_ask rfl rfl rfl (by decide +kernel) ⟨Nat.le_of_ble_eq_true rfl, Nat.le_of_ble_eq_true rfl⟩) hZ hN hK hP hD hS hA [0, 1, 2, 3, 4, 5, 6, 7, 8, 9, 10, 11, 12, 13, 14, 15, 16, 17, 18, 19, 20, 21, 22, 23, 24, 25, 26, 27, 28, 29, 30, 31, 32, 33, 34, 35, 36, 37, 38, 39, 40, 41, 42, 43, 44, 45, 46, 47, 48, 49, 50, 51, 52, 53, 54, 55, 56, 57, 58, 59, 60, 61, 62, 63, 64, 65, 66, 67, 68, 69, 70, 71, 72, 73, 74, 75, 76, 77, 78, 79, 80, 81, 82, 83, 84, 85, 86, 87, 88, 89, 90, 91, 92, 93] wX_allC wX_nd wX_adr wX_all rfl hl.1 rfl (Nat.le_of_ble_eq_true rfl) dL_refuses_22 ⟨Nat.le_of_ble_eq_true rfl, Nat.le_of_ble_eq_true rfl⟩ (fun H locs hP hD hS => ?_)
  refine lv_sipush (v := (-901)) hx hcd dL_refuses_25 (by decide) ?_
  refine lv_icmp_ne (tgt := 180) hx hcd dL_refuses_28 (by decide) (fun (c_28 : ¬ (-901) = (-901)) => absurd c_28 (not_not_intro rfl)) (fun (c_28 : (-901) = (-901)) => ?_)
  refine lv_aload_n hx hcd dL_refuses_31 rfl (lv_at hl 1 rfl) ?_
  refine lv_iconst (v := (-1)) hx hcd dL_refuses_32 (by decide) ?_
  refine lv_iconst (v := nI 0) hx hcd dL_refuses_33 (by decide) ?_
  refine kl_S (As := [.ref (ob 0), .int (-1), .int (nI 0)]) (rest := []) (ws2 := wX cI cB cW ob nw tr qs sc G M N S n L T) ⟨hx, hcd, hml, hown, hts⟩ (c_L_grant__e1 l hst D cI cB cW cL ob nw tr qs sc G N S n L T _ M (-1) (nI 0) (by decide +kernel)) (vx_cwSW 3 hts gL_refuses_L_grant rfl rfl rfl (by decide +kernel) ⟨Nat.le_of_ble_eq_true rfl, Nat.le_of_ble_eq_true rfl⟩) hZ hN hK hP hD hS hA [0, 1, 2, 3, 4, 5, 6, 7, 8, 9, 10, 11, 12, 13, 14, 15, 16, 17, 18, 19, 20, 21, 22, 23, 24, 25, 26, 27, 28, 29, 30, 31, 32, 33, 34, 35, 36, 37, 38, 39, 40, 41, 42, 43, 44, 45, 46, 47, 48, 49, 50, 51, 52, 53, 54, 55, 56, 57, 58, 59, 60, 61, 62, 63, 64, 65, 66, 67, 68, 69, 70, 71, 72, 73, 74, 75, 76, 77, 78, 79, 80, 81, 82, 83, 84, 85, 86, 87, 88, 89, 90, 91, 92, 93] wX_allC wX_nd wX_adr wX_all rfl hl.1 rfl (Nat.le_of_ble_eq_true rfl) dL_refuses_34 ⟨Nat.le_of_ble_eq_true rfl, Nat.le_of_ble_eq_true rfl⟩ (fun H locs hP hD hS => ?_)
  refine lv_sipush (v := (-903)) hx hcd dL_refuses_37 (by decide) ?_
  refine lv_icmp_ne (tgt := 180) hx hcd dL_refuses_40 (by decide) (fun (c_40 : ¬ (-903) = (-903)) => absurd c_40 (not_not_intro rfl)) (fun (c_40 : (-903) = (-903)) => ?_)
  refine lv_aload_n hx hcd dL_refuses_43 rfl (lv_at hl 1 rfl) ?_
  refine lv_iconst (v := nI 0) hx hcd dL_refuses_44 (by decide) ?_
  refine lv_iconst (v := nI 0) hx hcd dL_refuses_45 (by decide) ?_
  refine kl_S (As := [.ref (ob 0), .int (nI 0), .int (nI 0)]) (rest := []) (ws2 := wX cI cB cW ob nw tr qs sc G M N S n L T) ⟨hx, hcd, hml, hown, hts⟩ (c_L_refuse__e2 l hst D cI cB cW cL ob nw tr qs sc G N S n L T _ M (nI 0) (nI 0) (by decide +kernel)) (vx_cwSW 3 hts gL_refuses_L_refuse rfl rfl rfl (by decide +kernel) ⟨Nat.le_of_ble_eq_true rfl, Nat.le_of_ble_eq_true rfl⟩) hZ hN hK hP hD hS hA [0, 1, 2, 3, 4, 5, 6, 7, 8, 9, 10, 11, 12, 13, 14, 15, 16, 17, 18, 19, 20, 21, 22, 23, 24, 25, 26, 27, 28, 29, 30, 31, 32, 33, 34, 35, 36, 37, 38, 39, 40, 41, 42, 43, 44, 45, 46, 47, 48, 49, 50, 51, 52, 53, 54, 55, 56, 57, 58, 59, 60, 61, 62, 63, 64, 65, 66, 67, 68, 69, 70, 71, 72, 73, 74, 75, 76, 77, 78, 79, 80, 81, 82, 83, 84, 85, 86, 87, 88, 89, 90, 91, 92, 93] wX_allC wX_nd wX_adr wX_all rfl hl.1 rfl (Nat.le_of_ble_eq_true rfl) dL_refuses_46 ⟨Nat.le_of_ble_eq_true rfl, Nat.le_of_ble_eq_true rfl⟩ (fun H locs hP hD hS => ?_)
  refine lv_sipush (v := (-901)) hx hcd dL_refuses_49 (by decide) ?_
  refine lv_icmp_ne (tgt := 180) hx hcd dL_refuses_52 (by decide) (fun (c_52 : ¬ (-901) = (-901)) => absurd c_52 (not_not_intro rfl)) (fun (c_52 : (-901) = (-901)) => ?_)
  refine lv_aload_n hx hcd dL_refuses_55 rfl (lv_at hl 1 rfl) ?_
  refine lv_iconst (v := nI 0) hx hcd dL_refuses_56 (by decide) ?_
  refine lv_bipush (v := nI 6) hx hcd dL_refuses_57 (by decide) ?_
  refine kl_S (As := [.ref (ob 0), .int (nI 0), .int (nI 6)]) (rest := []) (ws2 := wX cI cB cW ob nw tr qs sc G M N S n L T) ⟨hx, hcd, hml, hown, hts⟩ (c_L_stop__e1 l hst D cI cB cW cL ob nw tr qs sc G N S n L T _ M (nI 0) (nI 6) (by decide +kernel)) (vx_cwSW 3 hts gL_refuses_L_stop rfl rfl rfl (by decide +kernel) ⟨Nat.le_of_ble_eq_true rfl, Nat.le_of_ble_eq_true rfl⟩) hZ hN hK hP hD hS hA [0, 1, 2, 3, 4, 5, 6, 7, 8, 9, 10, 11, 12, 13, 14, 15, 16, 17, 18, 19, 20, 21, 22, 23, 24, 25, 26, 27, 28, 29, 30, 31, 32, 33, 34, 35, 36, 37, 38, 39, 40, 41, 42, 43, 44, 45, 46, 47, 48, 49, 50, 51, 52, 53, 54, 55, 56, 57, 58, 59, 60, 61, 62, 63, 64, 65, 66, 67, 68, 69, 70, 71, 72, 73, 74, 75, 76, 77, 78, 79, 80, 81, 82, 83, 84, 85, 86, 87, 88, 89, 90, 91, 92, 93] wX_allC wX_nd wX_adr wX_all rfl hl.1 rfl (Nat.le_of_ble_eq_true rfl) dL_refuses_59 ⟨Nat.le_of_ble_eq_true rfl, Nat.le_of_ble_eq_true rfl⟩ (fun H locs hP hD hS => ?_)
  refine lv_sipush (v := (-903)) hx hcd dL_refuses_62 (by decide) ?_
  refine lv_icmp_ne (tgt := 180) hx hcd dL_refuses_65 (by decide) (fun (c_65 : ¬ (-903) = (-903)) => absurd c_65 (not_not_intro rfl)) (fun (c_65 : (-903) = (-903)) => ?_)
  refine lv_aload_n hx hcd dL_refuses_68 rfl (lv_at hl 1 rfl) ?_
  refine lv_iconst (v := nI 2) hx hcd dL_refuses_69 (by decide) ?_
  refine lv_iconst (v := nI 2) hx hcd dL_refuses_70 (by decide) ?_
  refine lv_iconst (v := nI 1) hx hcd dL_refuses_71 (by decide) ?_
  refine kl_S (As := [.ref (ob 0), .int (nI 2), .int (nI 2), .int (nI 1)]) (rest := []) (ws2 := wX cI cB cW ob nw tr qs sc G M N S n L T) ⟨hx, hcd, hml, hown, hts⟩ (c_L_block__e2 l hst D cI cB cW cL ob nw tr qs sc G N S n L T _ M (nI 2) (nI 2) true (by decide +kernel)) (vx_cwSW 4 hts gL_refuses_L_block rfl rfl rfl (by decide +kernel) ⟨Nat.le_of_ble_eq_true rfl, Nat.le_of_ble_eq_true rfl⟩) hZ hN hK hP hD hS hA [0, 1, 2, 3, 4, 5, 6, 7, 8, 9, 10, 11, 12, 13, 14, 15, 16, 17, 18, 19, 20, 21, 22, 23, 24, 25, 26, 27, 28, 29, 30, 31, 32, 33, 34, 35, 36, 37, 38, 39, 40, 41, 42, 43, 44, 45, 46, 47, 48, 49, 50, 51, 52, 53, 54, 55, 56, 57, 58, 59, 60, 61, 62, 63, 64, 65, 66, 67, 68, 69, 70, 71, 72, 73, 74, 75, 76, 77, 78, 79, 80, 81, 82, 83, 84, 85, 86, 87, 88, 89, 90, 91, 92, 93] wX_allC wX_nd wX_adr wX_all rfl hl.1 rfl (Nat.le_of_ble_eq_true rfl) dL_refuses_72 ⟨Nat.le_of_ble_eq_true rfl, Nat.le_of_ble_eq_true rfl⟩ (fun H locs hP hD hS => ?_)
  refine lv_sipush (v := (-901)) hx hcd dL_refuses_75 (by decide) ?_
  refine lv_icmp_ne (tgt := 180) hx hcd dL_refuses_78 (by decide) (fun (c_78 : ¬ (-901) = (-901)) => absurd c_78 (not_not_intro rfl)) (fun (c_78 : (-901) = (-901)) => ?_)
  refine lv_aload_n hx hcd dL_refuses_81 rfl (lv_at hl 1 rfl) ?_
  refine lv_iconst (v := nI 0) hx hcd dL_refuses_82 (by decide) ?_
  refine lv_iconst (v := nI 3) hx hcd dL_refuses_83 (by decide) ?_
  refine lv_bipush (v := nI 10) hx hcd dL_refuses_84 (by decide) ?_
  refine lv_bipush (v := nI 9) hx hcd dL_refuses_86 (by decide) ?_
  refine kl_S (As := [.ref (ob 0), .int (nI 0), .int (nI 3), .int (nI 10), .int (nI 9)]) (rest := []) (ws2 := wX cI cB cW ob nw tr qs sc G M N S n L T) ⟨hx, hcd, hml, hown, hts⟩ (c_L_turnOn__e1 l hst D cI cB cW cL ob nw tr qs sc G N S n L T _ M (nI 0) (nI 3) (nI 10) (nI 9) (by decide +kernel)) (vx_cwSW 5 hts gL_refuses_L_turnOn rfl rfl rfl (by decide +kernel) ⟨Nat.le_of_ble_eq_true rfl, Nat.le_of_ble_eq_true rfl⟩) hZ hN hK hP hD hS hA [0, 1, 2, 3, 4, 5, 6, 7, 8, 9, 10, 11, 12, 13, 14, 15, 16, 17, 18, 19, 20, 21, 22, 23, 24, 25, 26, 27, 28, 29, 30, 31, 32, 33, 34, 35, 36, 37, 38, 39, 40, 41, 42, 43, 44, 45, 46, 47, 48, 49, 50, 51, 52, 53, 54, 55, 56, 57, 58, 59, 60, 61, 62, 63, 64, 65, 66, 67, 68, 69, 70, 71, 72, 73, 74, 75, 76, 77, 78, 79, 80, 81, 82, 83, 84, 85, 86, 87, 88, 89, 90, 91, 92, 93] wX_allC wX_nd wX_adr wX_all rfl hl.1 rfl (Nat.le_of_ble_eq_true rfl) dL_refuses_88 ⟨Nat.le_of_ble_eq_true rfl, Nat.le_of_ble_eq_true rfl⟩ (fun H locs hP hD hS => ?_)
  refine lv_sipush (v := (-903)) hx hcd dL_refuses_91 (by decide) ?_
  refine lv_icmp_ne (tgt := 180) hx hcd dL_refuses_94 (by decide) (fun (c_94 : ¬ (-903) = (-903)) => absurd c_94 (not_not_intro rfl)) (fun (c_94 : (-903) = (-903)) => ?_)
  refine lv_aload_n hx hcd dL_refuses_97 rfl (lv_at hl 1 rfl) ?_
  refine lv_iconst (v := nI 0) hx hcd dL_refuses_98 (by decide) ?_
  refine lv_iconst (v := nI 0) hx hcd dL_refuses_99 (by decide) ?_
  refine lv_bipush (v := (-10)) hx hcd dL_refuses_100 (by decide) ?_
  refine lv_iconst (v := nI 0) hx hcd dL_refuses_102 (by decide) ?_
  refine kl_S (As := [.ref (ob 0), .int (nI 0), .int (nI 0), .int (-10), .int (nI 0)]) (rest := []) (ws2 := wX cI cB cW ob nw tr qs sc G M N S n L T) ⟨hx, hcd, hml, hown, hts⟩ (c_L_turnOn__e2 l hst D cI cB cW cL ob nw tr qs sc G N S n L T _ M 0 0 (-10) (nI 0) (by omega) (by omega) (by decide +kernel)) (vx_cwSW 5 hts gL_refuses_L_turnOn rfl rfl rfl (by decide +kernel) ⟨Nat.le_of_ble_eq_true rfl, Nat.le_of_ble_eq_true rfl⟩) hZ hN hK hP hD hS hA [0, 1, 2, 3, 4, 5, 6, 7, 8, 9, 10, 11, 12, 13, 14, 15, 16, 17, 18, 19, 20, 21, 22, 23, 24, 25, 26, 27, 28, 29, 30, 31, 32, 33, 34, 35, 36, 37, 38, 39, 40, 41, 42, 43, 44, 45, 46, 47, 48, 49, 50, 51, 52, 53, 54, 55, 56, 57, 58, 59, 60, 61, 62, 63, 64, 65, 66, 67, 68, 69, 70, 71, 72, 73, 74, 75, 76, 77, 78, 79, 80, 81, 82, 83, 84, 85, 86, 87, 88, 89, 90, 91, 92, 93] wX_allC wX_nd wX_adr wX_all rfl hl.1 rfl (Nat.le_of_ble_eq_true rfl) dL_refuses_103 ⟨Nat.le_of_ble_eq_true rfl, Nat.le_of_ble_eq_true rfl⟩ (fun H locs hP hD hS => ?_)
  refine lv_sipush (v := (-901)) hx hcd dL_refuses_106 (by decide) ?_
  refine lv_icmp_ne (tgt := 180) hx hcd dL_refuses_109 (by decide) (fun (c_109 : ¬ (-901) = (-901)) => absurd c_109 (not_not_intro rfl)) (fun (c_109 : (-901) = (-901)) => ?_)
  refine lv_aload_n hx hcd dL_refuses_112 rfl (lv_at hl 1 rfl) ?_
  refine lv_iconst (v := nI 0) hx hcd dL_refuses_113 (by decide) ?_
  refine lv_iconst (v := nI 0) hx hcd dL_refuses_114 (by decide) ?_
  refine lv_iconst (v := nI 0) hx hcd dL_refuses_115 (by decide) ?_
  refine lv_iconst (v := (-1)) hx hcd dL_refuses_116 (by decide) ?_
  refine kl_S (As := [.ref (ob 0), .int (nI 0), .int (nI 0), .int (nI 0), .int (-1)]) (rest := []) (ws2 := wX cI cB cW ob nw tr qs sc G M N S n L T) ⟨hx, hcd, hml, hown, hts⟩ (c_L_turnOn__e2 l hst D cI cB cW cL ob nw tr qs sc G N S n L T _ M 0 0 (nI 0) (-1) (by omega) (by omega) (by decide +kernel)) (vx_cwSW 5 hts gL_refuses_L_turnOn rfl rfl rfl (by decide +kernel) ⟨Nat.le_of_ble_eq_true rfl, Nat.le_of_ble_eq_true rfl⟩) hZ hN hK hP hD hS hA [0, 1, 2, 3, 4, 5, 6, 7, 8, 9, 10, 11, 12, 13, 14, 15, 16, 17, 18, 19, 20, 21, 22, 23, 24, 25, 26, 27, 28, 29, 30, 31, 32, 33, 34, 35, 36, 37, 38, 39, 40, 41, 42, 43, 44, 45, 46, 47, 48, 49, 50, 51, 52, 53, 54, 55, 56, 57, 58, 59, 60, 61, 62, 63, 64, 65, 66, 67, 68, 69, 70, 71, 72, 73, 74, 75, 76, 77, 78, 79, 80, 81, 82, 83, 84, 85, 86, 87, 88, 89, 90, 91, 92, 93] wX_allC wX_nd wX_adr wX_all rfl hl.1 rfl (Nat.le_of_ble_eq_true rfl) dL_refuses_117 ⟨Nat.le_of_ble_eq_true rfl, Nat.le_of_ble_eq_true rfl⟩ (fun H locs hP hD hS => ?_)
  refine lv_sipush (v := (-901)) hx hcd dL_refuses_120 (by decide) ?_
  refine lv_icmp_ne (tgt := 180) hx hcd dL_refuses_123 (by decide) (fun (c_123 : ¬ (-901) = (-901)) => absurd c_123 (not_not_intro rfl)) (fun (c_123 : (-901) = (-901)) => ?_)
  refine lv_aload_n hx hcd dL_refuses_126 rfl (lv_at hl 1 rfl) ?_
  refine lv_bipush (v := nI 6) hx hcd dL_refuses_127 (by decide) ?_
  refine lv_iconst (v := nI 0) hx hcd dL_refuses_129 (by decide) ?_
  refine kl_S (As := [.ref (ob 0), .int (nI 6), .int (nI 0)]) (rest := []) (ws2 := wX cI cB cW ob nw tr qs sc G M N S n L T) ⟨hx, hcd, hml, hown, hts⟩ (c_L_turnOff__e1 l hst D cI cB cW cL ob nw tr qs sc G N S n L T _ M (nI 6) (nI 0) (by decide +kernel)) (vx_cwSW 3 hts gL_refuses_L_turnOff rfl rfl rfl (by decide +kernel) ⟨Nat.le_of_ble_eq_true rfl, Nat.le_of_ble_eq_true rfl⟩) hZ hN hK hP hD hS hA [0, 1, 2, 3, 4, 5, 6, 7, 8, 9, 10, 11, 12, 13, 14, 15, 16, 17, 18, 19, 20, 21, 22, 23, 24, 25, 26, 27, 28, 29, 30, 31, 32, 33, 34, 35, 36, 37, 38, 39, 40, 41, 42, 43, 44, 45, 46, 47, 48, 49, 50, 51, 52, 53, 54, 55, 56, 57, 58, 59, 60, 61, 62, 63, 64, 65, 66, 67, 68, 69, 70, 71, 72, 73, 74, 75, 76, 77, 78, 79, 80, 81, 82, 83, 84, 85, 86, 87, 88, 89, 90, 91, 92, 93] wX_allC wX_nd wX_adr wX_all rfl hl.1 rfl (Nat.le_of_ble_eq_true rfl) dL_refuses_130 ⟨Nat.le_of_ble_eq_true rfl, Nat.le_of_ble_eq_true rfl⟩ (fun H locs hP hD hS => ?_)
  refine lv_sipush (v := (-903)) hx hcd dL_refuses_133 (by decide) ?_
  refine lv_icmp_ne (tgt := 180) hx hcd dL_refuses_136 (by decide) (fun (c_136 : ¬ (-903) = (-903)) => absurd c_136 (not_not_intro rfl)) (fun (c_136 : (-903) = (-903)) => ?_)
  refine lv_aload_n hx hcd dL_refuses_139 rfl (lv_at hl 1 rfl) ?_
  refine lv_iconst (v := (-1)) hx hcd dL_refuses_140 (by decide) ?_
  refine kl_S (As := [.ref (ob 0), .int (-1)]) (rest := []) (ws2 := wX cI cB cW ob nw tr qs sc G M N S n L T) ⟨hx, hcd, hml, hown, hts⟩ (c_L_bestSeat__e1 l hst D cI cB cW cL ob nw tr qs sc G N S n L T _ M (-1) (by decide +kernel)) (vx_cwSW 2 hts gL_refuses_L_bestSeat rfl rfl rfl (by decide +kernel) ⟨Nat.le_of_ble_eq_true rfl, Nat.le_of_ble_eq_true rfl⟩) hZ hN hK hP hD hS hA [0, 1, 2, 3, 4, 5, 6, 7, 8, 9, 10, 11, 12, 13, 14, 15, 16, 17, 18, 19, 20, 21, 22, 23, 24, 25, 26, 27, 28, 29, 30, 31, 32, 33, 34, 35, 36, 37, 38, 39, 40, 41, 42, 43, 44, 45, 46, 47, 48, 49, 50, 51, 52, 53, 54, 55, 56, 57, 58, 59, 60, 61, 62, 63, 64, 65, 66, 67, 68, 69, 70, 71, 72, 73, 74, 75, 76, 77, 78, 79, 80, 81, 82, 83, 84, 85, 86, 87, 88, 89, 90, 91, 92, 93] wX_allC wX_nd wX_adr wX_all rfl hl.1 rfl (Nat.le_of_ble_eq_true rfl) dL_refuses_141 ⟨Nat.le_of_ble_eq_true rfl, Nat.le_of_ble_eq_true rfl⟩ (fun H locs hP hD hS => ?_)
  refine lv_sipush (v := (-903)) hx hcd dL_refuses_144 (by decide) ?_
  refine lv_icmp_ne (tgt := 180) hx hcd dL_refuses_147 (by decide) (fun (c_147 : ¬ (-903) = (-903)) => absurd c_147 (not_not_intro rfl)) (fun (c_147 : (-903) = (-903)) => ?_)
  refine lv_aload_n hx hcd dL_refuses_150 rfl (lv_at hl 1 rfl) ?_
  refine lv_iconst (v := nI 0) hx hcd dL_refuses_151 (by decide) ?_
  refine lv_iconst (v := (-1)) hx hcd dL_refuses_152 (by decide) ?_
  refine lv_iconst (v := nI 0) hx hcd dL_refuses_153 (by decide) ?_
  refine kl_S (As := [.ref (ob 0), .int (nI 0), .int (-1), .int (nI 0)]) (rest := []) (ws2 := wX cI cB cW ob nw tr qs sc G M N S n L T) ⟨hx, hcd, hml, hown, hts⟩ (c_L_seat__e1 l hst D cI cB cW cL ob nw tr qs sc G N S n L T _ M (nI 0) (-1) (nI 0) (by decide +kernel)) (vx_cwSW 4 hts gL_refuses_L_seat rfl rfl rfl (by decide +kernel) ⟨Nat.le_of_ble_eq_true rfl, Nat.le_of_ble_eq_true rfl⟩) hZ hN hK hP hD hS hA [0, 1, 2, 3, 4, 5, 6, 7, 8, 9, 10, 11, 12, 13, 14, 15, 16, 17, 18, 19, 20, 21, 22, 23, 24, 25, 26, 27, 28, 29, 30, 31, 32, 33, 34, 35, 36, 37, 38, 39, 40, 41, 42, 43, 44, 45, 46, 47, 48, 49, 50, 51, 52, 53, 54, 55, 56, 57, 58, 59, 60, 61, 62, 63, 64, 65, 66, 67, 68, 69, 70, 71, 72, 73, 74, 75, 76, 77, 78, 79, 80, 81, 82, 83, 84, 85, 86, 87, 88, 89, 90, 91, 92, 93] wX_allC wX_nd wX_adr wX_all rfl hl.1 rfl (Nat.le_of_ble_eq_true rfl) dL_refuses_154 ⟨Nat.le_of_ble_eq_true rfl, Nat.le_of_ble_eq_true rfl⟩ (fun H locs hP hD hS => ?_)
  refine lv_sipush (v := (-903)) hx hcd dL_refuses_157 (by decide) ?_
  refine lv_icmp_ne (tgt := 180) hx hcd dL_refuses_160 (by decide) (fun (c_160 : ¬ (-903) = (-903)) => absurd c_160 (not_not_intro rfl)) (fun (c_160 : (-903) = (-903)) => ?_)
  refine lv_aload_n hx hcd dL_refuses_163 rfl (lv_at hl 1 rfl) ?_
  refine lv_iconst (v := nI 0) hx hcd dL_refuses_164 (by decide) ?_
  refine lv_iconst (v := nI 0) hx hcd dL_refuses_165 (by decide) ?_
  refine lv_iconst (v := nI 3) hx hcd dL_refuses_166 (by decide) ?_
  refine kl_S (As := [.ref (ob 0), .int (nI 0), .int (nI 0), .int (nI 3)]) (rest := []) (ws2 := wX cI cB cW ob nw tr qs sc G M N S n L T) ⟨hx, hcd, hml, hown, hts⟩ (c_L_seat__e2 l hst D cI cB cW cL ob nw tr qs sc G N S n L T _ M 0 0 (nI 3) (by omega) (by omega) (by decide +kernel)) (vx_cwSW 4 hts gL_refuses_L_seat rfl rfl rfl (by decide +kernel) ⟨Nat.le_of_ble_eq_true rfl, Nat.le_of_ble_eq_true rfl⟩) hZ hN hK hP hD hS hA [0, 1, 2, 3, 4, 5, 6, 7, 8, 9, 10, 11, 12, 13, 14, 15, 16, 17, 18, 19, 20, 21, 22, 23, 24, 25, 26, 27, 28, 29, 30, 31, 32, 33, 34, 35, 36, 37, 38, 39, 40, 41, 42, 43, 44, 45, 46, 47, 48, 49, 50, 51, 52, 53, 54, 55, 56, 57, 58, 59, 60, 61, 62, 63, 64, 65, 66, 67, 68, 69, 70, 71, 72, 73, 74, 75, 76, 77, 78, 79, 80, 81, 82, 83, 84, 85, 86, 87, 88, 89, 90, 91, 92, 93] wX_allC wX_nd wX_adr wX_all rfl hl.1 rfl (Nat.le_of_ble_eq_true rfl) dL_refuses_167 ⟨Nat.le_of_ble_eq_true rfl, Nat.le_of_ble_eq_true rfl⟩ (fun H locs hP hD hS => ?_)
  refine lv_sipush (v := (-901)) hx hcd dL_refuses_170 (by decide) ?_
  refine lv_icmp_ne (tgt := 180) hx hcd dL_refuses_173 (by decide) (fun (c_173 : ¬ (-901) = (-901)) => absurd c_173 (not_not_intro rfl)) (fun (c_173 : (-901) = (-901)) => ?_)
  refine lv_iconst (v := nI 1) hx hcd dL_refuses_176 (by decide) ?_
  refine lv_goto (tgt := 181) hx hcd dL_refuses_177 (by decide) ?_
  refine lv_istore_n (lv' := [(3, .int (nI 1)), (1, .long (g_digest M (nI L) (nI n))), (0, .ref (ob 0))]) hx hcd dL_refuses_181 rfl hl (by decide) rfl (fun ls hl => ?_)
  refine lv_iload_n hx hcd dL_refuses_182 rfl (lv_at hl 0 rfl) ?_
  refine kr_zeq (tgt := 400) hx hcd (by omega) dL_refuses_183 (by decide) (fun (c_183 : 1 = 0) => absurd c_183 (by omega)) (fun (c_183 : 0 < 1) => ?_)
  refine lv_aload_n hx hcd dL_refuses_186 rfl (lv_at hl 2 rfl) ?_
  refine lv_iconst (v := (-1)) hx hcd dL_refuses_187 (by decide) ?_
  refine kl_S (As := [.ref (ob 0), .int (-1)]) (rest := []) (ws2 := wX cI cB cW ob nw tr qs sc G M N S n L T) ⟨hx, hcd, hml, hown, hts⟩ (c_L_deliver__e1 l hst D cI cB cW cL ob nw tr qs sc G N S n L T _ M (-1) (by decide +kernel)) (vx_cwSW 2 hts gL_refuses_L_deliver rfl rfl rfl (by decide +kernel) ⟨Nat.le_of_ble_eq_true rfl, Nat.le_of_ble_eq_true rfl⟩) hZ hN hK hP hD hS hA [0, 1, 2, 3, 4, 5, 6, 7, 8, 9, 10, 11, 12, 13, 14, 15, 16, 17, 18, 19, 20, 21, 22, 23, 24, 25, 26, 27, 28, 29, 30, 31, 32, 33, 34, 35, 36, 37, 38, 39, 40, 41, 42, 43, 44, 45, 46, 47, 48, 49, 50, 51, 52, 53, 54, 55, 56, 57, 58, 59, 60, 61, 62, 63, 64, 65, 66, 67, 68, 69, 70, 71, 72, 73, 74, 75, 76, 77, 78, 79, 80, 81, 82, 83, 84, 85, 86, 87, 88, 89, 90, 91, 92, 93] wX_allC wX_nd wX_adr wX_all rfl hl.1 rfl (Nat.le_of_ble_eq_true rfl) dL_refuses_188 ⟨Nat.le_of_ble_eq_true rfl, Nat.le_of_ble_eq_true rfl⟩ (fun H locs hP hD hS => ?_)
  refine lv_sipush (v := (-901)) hx hcd dL_refuses_191 (by decide) ?_
  refine lv_icmp_ne (tgt := 400) hx hcd dL_refuses_194 (by decide) (fun (c_194 : ¬ (-901) = (-901)) => absurd c_194 (not_not_intro rfl)) (fun (c_194 : (-901) = (-901)) => ?_)
  refine lv_aload_n hx hcd dL_refuses_197 rfl (lv_at hl 2 rfl) ?_
  refine lv_sipush (v := nI 1001) hx hcd dL_refuses_198 (by decide) ?_
  refine kl_S (As := [.ref (ob 0), .int (nI 1001)]) (rest := []) (ws2 := wX cI cB cW ob nw tr qs sc G M N S n L T) ⟨hx, hcd, hml, hown, hts⟩ (c_L_deliver__e1 l hst D cI cB cW cL ob nw tr qs sc G N S n L T _ M (nI 1001) (by decide +kernel)) (vx_cwSW 2 hts gL_refuses_L_deliver rfl rfl rfl (by decide +kernel) ⟨Nat.le_of_ble_eq_true rfl, Nat.le_of_ble_eq_true rfl⟩) hZ hN hK hP hD hS hA [0, 1, 2, 3, 4, 5, 6, 7, 8, 9, 10, 11, 12, 13, 14, 15, 16, 17, 18, 19, 20, 21, 22, 23, 24, 25, 26, 27, 28, 29, 30, 31, 32, 33, 34, 35, 36, 37, 38, 39, 40, 41, 42, 43, 44, 45, 46, 47, 48, 49, 50, 51, 52, 53, 54, 55, 56, 57, 58, 59, 60, 61, 62, 63, 64, 65, 66, 67, 68, 69, 70, 71, 72, 73, 74, 75, 76, 77, 78, 79, 80, 81, 82, 83, 84, 85, 86, 87, 88, 89, 90, 91, 92, 93] wX_allC wX_nd wX_adr wX_all rfl hl.1 rfl (Nat.le_of_ble_eq_true rfl) dL_refuses_201 ⟨Nat.le_of_ble_eq_true rfl, Nat.le_of_ble_eq_true rfl⟩ (fun H locs hP hD hS => ?_)
  refine lv_sipush (v := (-901)) hx hcd dL_refuses_204 (by decide) ?_
  refine lv_icmp_ne (tgt := 400) hx hcd dL_refuses_207 (by decide) (fun (c_207 : ¬ (-901) = (-901)) => absurd c_207 (not_not_intro rfl)) (fun (c_207 : (-901) = (-901)) => ?_)
  refine lv_aload_n hx hcd dL_refuses_210 rfl (lv_at hl 2 rfl) ?_
  refine lv_iconst (v := (-1)) hx hcd dL_refuses_211 (by decide) ?_
  refine kl_S (As := [.ref (ob 0), .int (-1)]) (rest := []) (ws2 := wX cI cB cW ob nw tr qs sc G M N S n L T) ⟨hx, hcd, hml, hown, hts⟩ (c_L_lose__e1 l hst D cI cB cW cL ob nw tr qs sc G N S n L T _ M (-1) hI (msg_m1 (M := M))) (vx_cwSW 2 hts gL_refuses_L_lose rfl rfl rfl (by decide +kernel) ⟨Nat.le_of_ble_eq_true rfl, Nat.le_of_ble_eq_true rfl⟩) hZ hN hK hP hD hS hA [0, 1, 2, 3, 4, 5, 6, 7, 8, 9, 10, 11, 12, 13, 14, 15, 16, 17, 18, 19, 20, 21, 22, 23, 24, 25, 26, 27, 28, 29, 30, 31, 32, 33, 34, 35, 36, 37, 38, 39, 40, 41, 42, 43, 44, 45, 46, 47, 48, 49, 50, 51, 52, 53, 54, 55, 56, 57, 58, 59, 60, 61, 62, 63, 64, 65, 66, 67, 68, 69, 70, 71, 72, 73, 74, 75, 76, 77, 78, 79, 80, 81, 82, 83, 84, 85, 86, 87, 88, 89, 90, 91, 92, 93] wX_allC wX_nd wX_adr wX_all rfl hl.1 rfl (Nat.le_of_ble_eq_true rfl) dL_refuses_212 ⟨Nat.le_of_ble_eq_true rfl, Nat.le_of_ble_eq_true rfl⟩ (fun H locs hP hD hS => ?_)
  refine lv_sipush (v := (-903)) hx hcd dL_refuses_215 (by decide) ?_
  refine lv_icmp_ne (tgt := 400) hx hcd dL_refuses_218 (by decide) (fun (c_218 : ¬ (-903) = (-903)) => absurd c_218 (not_not_intro rfl)) (fun (c_218 : (-903) = (-903)) => ?_)
  refine lv_aload_n hx hcd dL_refuses_221 rfl (lv_at hl 2 rfl) ?_
  refine lv_sipush (v := nI 300) hx hcd dL_refuses_222 (by decide) ?_
  refine kl_S (As := [.ref (ob 0), .int (nI 300)]) (rest := []) (ws2 := wX cI cB cW ob nw tr qs sc G M N S n L T) ⟨hx, hcd, hml, hown, hts⟩ (c_L_lose__e1 l hst D cI cB cW cL ob nw tr qs sc G N S n L T _ M (nI 300) hI (msg_300 hI)) (vx_cwSW 2 hts gL_refuses_L_lose rfl rfl rfl (by decide +kernel) ⟨Nat.le_of_ble_eq_true rfl, Nat.le_of_ble_eq_true rfl⟩) hZ hN hK hP hD hS hA [0, 1, 2, 3, 4, 5, 6, 7, 8, 9, 10, 11, 12, 13, 14, 15, 16, 17, 18, 19, 20, 21, 22, 23, 24, 25, 26, 27, 28, 29, 30, 31, 32, 33, 34, 35, 36, 37, 38, 39, 40, 41, 42, 43, 44, 45, 46, 47, 48, 49, 50, 51, 52, 53, 54, 55, 56, 57, 58, 59, 60, 61, 62, 63, 64, 65, 66, 67, 68, 69, 70, 71, 72, 73, 74, 75, 76, 77, 78, 79, 80, 81, 82, 83, 84, 85, 86, 87, 88, 89, 90, 91, 92, 93] wX_allC wX_nd wX_adr wX_all rfl hl.1 rfl (Nat.le_of_ble_eq_true rfl) dL_refuses_225 ⟨Nat.le_of_ble_eq_true rfl, Nat.le_of_ble_eq_true rfl⟩ (fun H locs hP hD hS => ?_)
  refine lv_sipush (v := (-903)) hx hcd dL_refuses_228 (by decide) ?_
  refine lv_icmp_ne (tgt := 400) hx hcd dL_refuses_231 (by decide) (fun (c_231 : ¬ (-903) = (-903)) => absurd c_231 (not_not_intro rfl)) (fun (c_231 : (-903) = (-903)) => ?_)
  refine lv_aload_n hx hcd dL_refuses_234 rfl (lv_at hl 2 rfl) ?_
  refine lv_iconst (v := (-1)) hx hcd dL_refuses_235 (by decide) ?_
  refine lv_iconst (v := nI 0) hx hcd dL_refuses_236 (by decide) ?_
  refine kl_S (As := [.ref (ob 0), .int (-1), .int (nI 0)]) (rest := []) (ws2 := wX cI cB cW ob nw tr qs sc G M N S n L T) ⟨hx, hcd, hml, hown, hts⟩ (c_L_message__e1 l hst D cI cB cW cL ob nw tr qs sc G N S n L T _ M (-1) (nI 0) hI (msg_m1 (M := M))) (vx_cwSW 3 hts gL_refuses_L_message rfl rfl rfl (by decide +kernel) ⟨Nat.le_of_ble_eq_true rfl, Nat.le_of_ble_eq_true rfl⟩) hZ hN hK hP hD hS hA [0, 1, 2, 3, 4, 5, 6, 7, 8, 9, 10, 11, 12, 13, 14, 15, 16, 17, 18, 19, 20, 21, 22, 23, 24, 25, 26, 27, 28, 29, 30, 31, 32, 33, 34, 35, 36, 37, 38, 39, 40, 41, 42, 43, 44, 45, 46, 47, 48, 49, 50, 51, 52, 53, 54, 55, 56, 57, 58, 59, 60, 61, 62, 63, 64, 65, 66, 67, 68, 69, 70, 71, 72, 73, 74, 75, 76, 77, 78, 79, 80, 81, 82, 83, 84, 85, 86, 87, 88, 89, 90, 91, 92, 93] wX_allC wX_nd wX_adr wX_all rfl hl.1 rfl (Nat.le_of_ble_eq_true rfl) dL_refuses_237 ⟨Nat.le_of_ble_eq_true rfl, Nat.le_of_ble_eq_true rfl⟩ (fun H locs hP hD hS => ?_)
  refine lv_sipush (v := (-903)) hx hcd dL_refuses_240 (by decide) ?_
  refine lv_icmp_ne (tgt := 400) hx hcd dL_refuses_243 (by decide) (fun (c_243 : ¬ (-903) = (-903)) => absurd c_243 (not_not_intro rfl)) (fun (c_243 : (-903) = (-903)) => ?_)
  refine lv_aload_n hx hcd dL_refuses_246 rfl (lv_at hl 2 rfl) ?_
  refine lv_iconst (v := nI 3) hx hcd dL_refuses_247 (by decide) ?_
  refine kl_S (As := [.ref (ob 0), .int (nI 3)]) (rest := []) (ws2 := wX cI cB cW ob nw tr qs sc G M N S n L T) ⟨hx, hcd, hml, hown, hts⟩ (c_L_count__e1 l hst D cI cB cW cL ob nw tr qs sc G N S n L T _ M (nI 3) (by decide +kernel)) (vx_cwSW 2 hts gL_refuses_L_count rfl rfl rfl (by decide +kernel) ⟨Nat.le_of_ble_eq_true rfl, Nat.le_of_ble_eq_true rfl⟩) hZ hN hK hP hD hS hA [0, 1, 2, 3, 4, 5, 6, 7, 8, 9, 10, 11, 12, 13, 14, 15, 16, 17, 18, 19, 20, 21, 22, 23, 24, 25, 26, 27, 28, 29, 30, 31, 32, 33, 34, 35, 36, 37, 38, 39, 40, 41, 42, 43, 44, 45, 46, 47, 48, 49, 50, 51, 52, 53, 54, 55, 56, 57, 58, 59, 60, 61, 62, 63, 64, 65, 66, 67, 68, 69, 70, 71, 72, 73, 74, 75, 76, 77, 78, 79, 80, 81, 82, 83, 84, 85, 86, 87, 88, 89, 90, 91, 92, 93] wX_allC wX_nd wX_adr wX_all rfl hl.1 rfl (Nat.le_of_ble_eq_true rfl) dL_refuses_248 ⟨Nat.le_of_ble_eq_true rfl, Nat.le_of_ble_eq_true rfl⟩ (fun H locs hP hD hS => ?_)
  refine lv_sipush (v := (-901)) hx hcd dL_refuses_251 (by decide) ?_
  refine lv_icmp_ne (tgt := 400) hx hcd dL_refuses_254 (by decide) (fun (c_254 : ¬ (-901) = (-901)) => absurd c_254 (not_not_intro rfl)) (fun (c_254 : (-901) = (-901)) => ?_)
  refine lv_aload_n hx hcd dL_refuses_257 rfl (lv_at hl 2 rfl) ?_
  refine lv_iconst (v := nI 0) hx hcd dL_refuses_258 (by decide) ?_
  refine lv_bipush (v := nI 6) hx hcd dL_refuses_259 (by decide) ?_
  refine kl_S (As := [.ref (ob 0), .int (nI 0), .int (nI 6)]) (rest := []) (ws2 := wX cI cB cW ob nw tr qs sc G M N S n L T) ⟨hx, hcd, hml, hown, hts⟩ (c_L_entry__e1 l hst D cI cB cW cL ob nw tr qs sc G N S n L T _ M (nI 0) (nI 6) (by decide +kernel)) (vx_cwSW 3 hts gL_refuses_L_entry rfl rfl rfl (by decide +kernel) ⟨Nat.le_of_ble_eq_true rfl, Nat.le_of_ble_eq_true rfl⟩) hZ hN hK hP hD hS hA [0, 1, 2, 3, 4, 5, 6, 7, 8, 9, 10, 11, 12, 13, 14, 15, 16, 17, 18, 19, 20, 21, 22, 23, 24, 25, 26, 27, 28, 29, 30, 31, 32, 33, 34, 35, 36, 37, 38, 39, 40, 41, 42, 43, 44, 45, 46, 47, 48, 49, 50, 51, 52, 53, 54, 55, 56, 57, 58, 59, 60, 61, 62, 63, 64, 65, 66, 67, 68, 69, 70, 71, 72, 73, 74, 75, 76, 77, 78, 79, 80, 81, 82, 83, 84, 85, 86, 87, 88, 89, 90, 91, 92, 93] wX_allC wX_nd wX_adr wX_all rfl hl.1 rfl (Nat.le_of_ble_eq_true rfl) dL_refuses_261 ⟨Nat.le_of_ble_eq_true rfl, Nat.le_of_ble_eq_true rfl⟩ (fun H locs hP hD hS => ?_)
  refine lv_sipush (v := (-903)) hx hcd dL_refuses_264 (by decide) ?_
  refine lv_icmp_ne (tgt := 400) hx hcd dL_refuses_267 (by decide) (fun (c_267 : ¬ (-903) = (-903)) => absurd c_267 (not_not_intro rfl)) (fun (c_267 : (-903) = (-903)) => ?_)
  refine lv_aload_n hx hcd dL_refuses_270 rfl (lv_at hl 2 rfl) ?_
  refine lv_iconst (v := nI 0) hx hcd dL_refuses_271 (by decide) ?_
  refine lv_iconst (v := nI 0) hx hcd dL_refuses_272 (by decide) ?_
  refine kl_S (As := [.ref (ob 0), .int (nI 0), .int (nI 0)]) (rest := []) (ws2 := wX cI cB cW ob nw tr qs sc G M N S n L T) ⟨hx, hcd, hml, hown, hts⟩ (c_L_version__e2 l hst D cI cB cW cL ob nw tr qs sc G N S n L T _ M 0 (nI 0) (by omega) (by decide) (by decide +kernel)) (vx_cwSW 3 hts gL_refuses_L_version rfl rfl rfl (by decide +kernel) ⟨Nat.le_of_ble_eq_true rfl, Nat.le_of_ble_eq_true rfl⟩) hZ hN hK hP hD hS hA [0, 1, 2, 3, 4, 5, 6, 7, 8, 9, 10, 11, 12, 13, 14, 15, 16, 17, 18, 19, 20, 21, 22, 23, 24, 25, 26, 27, 28, 29, 30, 31, 32, 33, 34, 35, 36, 37, 38, 39, 40, 41, 42, 43, 44, 45, 46, 47, 48, 49, 50, 51, 52, 53, 54, 55, 56, 57, 58, 59, 60, 61, 62, 63, 64, 65, 66, 67, 68, 69, 70, 71, 72, 73, 74, 75, 76, 77, 78, 79, 80, 81, 82, 83, 84, 85, 86, 87, 88, 89, 90, 91, 92, 93] wX_allC wX_nd wX_adr wX_all rfl hl.1 rfl (Nat.le_of_ble_eq_true rfl) dL_refuses_273 ⟨Nat.le_of_ble_eq_true rfl, Nat.le_of_ble_eq_true rfl⟩ (fun H locs hP hD hS => ?_)
  refine lv_sipush (v := (-901)) hx hcd dL_refuses_276 (by decide) ?_
  refine lv_icmp_ne (tgt := 400) hx hcd dL_refuses_279 (by decide) (fun (c_279 : ¬ (-901) = (-901)) => absurd c_279 (not_not_intro rfl)) (fun (c_279 : (-901) = (-901)) => ?_)
  refine lv_aload_n hx hcd dL_refuses_282 rfl (lv_at hl 2 rfl) ?_
  refine lv_bipush (v := nI 6) hx hcd dL_refuses_283 (by decide) ?_
  refine lv_iconst (v := (-1)) hx hcd dL_refuses_285 (by decide) ?_
  refine kl_S (As := [.ref (ob 0), .int (nI 6), .int (-1)]) (rest := []) (ws2 := wX cI cB cW ob nw tr qs sc G M N S n L T) ⟨hx, hcd, hml, hown, hts⟩ (c_L_version__e1a l hst D cI cB cW cL ob nw tr qs sc G N S n L T _ M (nI 6) (-1) (by decide +kernel)) (vx_cwSW 3 hts gL_refuses_L_version rfl rfl rfl (by decide +kernel) ⟨Nat.le_of_ble_eq_true rfl, Nat.le_of_ble_eq_true rfl⟩) hZ hN hK hP hD hS hA [0, 1, 2, 3, 4, 5, 6, 7, 8, 9, 10, 11, 12, 13, 14, 15, 16, 17, 18, 19, 20, 21, 22, 23, 24, 25, 26, 27, 28, 29, 30, 31, 32, 33, 34, 35, 36, 37, 38, 39, 40, 41, 42, 43, 44, 45, 46, 47, 48, 49, 50, 51, 52, 53, 54, 55, 56, 57, 58, 59, 60, 61, 62, 63, 64, 65, 66, 67, 68, 69, 70, 71, 72, 73, 74, 75, 76, 77, 78, 79, 80, 81, 82, 83, 84, 85, 86, 87, 88, 89, 90, 91, 92, 93] wX_allC wX_nd wX_adr wX_all rfl hl.1 rfl (Nat.le_of_ble_eq_true rfl) dL_refuses_286 ⟨Nat.le_of_ble_eq_true rfl, Nat.le_of_ble_eq_true rfl⟩ (fun H locs hP hD hS => ?_)
  refine lv_sipush (v := (-903)) hx hcd dL_refuses_289 (by decide) ?_
  refine lv_icmp_ne (tgt := 400) hx hcd dL_refuses_292 (by decide) (fun (c_292 : ¬ (-903) = (-903)) => absurd c_292 (not_not_intro rfl)) (fun (c_292 : (-903) = (-903)) => ?_)
  refine lv_aload_n hx hcd dL_refuses_295 rfl (lv_at hl 2 rfl) ?_
  refine lv_iconst (v := nI 0) hx hcd dL_refuses_296 (by decide) ?_
  refine lv_bipush (v := (-2)) hx hcd dL_refuses_297 (by decide) ?_
  refine kl_S (As := [.ref (ob 0), .int (nI 0), .int (-2)]) (rest := []) (ws2 := wX cI cB cW ob nw tr qs sc G M N S n L T) ⟨hx, hcd, hml, hown, hts⟩ (c_L_version__e1b l hst D cI cB cW cL ob nw tr qs sc G N S n L T _ M 0 (-2) (by omega) (by decide) (by decide +kernel)) (vx_cwSW 3 hts gL_refuses_L_version rfl rfl rfl (by decide +kernel) ⟨Nat.le_of_ble_eq_true rfl, Nat.le_of_ble_eq_true rfl⟩) hZ hN hK hP hD hS hA [0, 1, 2, 3, 4, 5, 6, 7, 8, 9, 10, 11, 12, 13, 14, 15, 16, 17, 18, 19, 20, 21, 22, 23, 24, 25, 26, 27, 28, 29, 30, 31, 32, 33, 34, 35, 36, 37, 38, 39, 40, 41, 42, 43, 44, 45, 46, 47, 48, 49, 50, 51, 52, 53, 54, 55, 56, 57, 58, 59, 60, 61, 62, 63, 64, 65, 66, 67, 68, 69, 70, 71, 72, 73, 74, 75, 76, 77, 78, 79, 80, 81, 82, 83, 84, 85, 86, 87, 88, 89, 90, 91, 92, 93] wX_allC wX_nd wX_adr wX_all rfl hl.1 rfl (Nat.le_of_ble_eq_true rfl) dL_refuses_299 ⟨Nat.le_of_ble_eq_true rfl, Nat.le_of_ble_eq_true rfl⟩ (fun H locs hP hD hS => ?_)
  refine lv_sipush (v := (-903)) hx hcd dL_refuses_302 (by decide) ?_
  refine lv_icmp_ne (tgt := 400) hx hcd dL_refuses_305 (by decide) (fun (c_305 : ¬ (-903) = (-903)) => absurd c_305 (not_not_intro rfl)) (fun (c_305 : (-903) = (-903)) => ?_)
  refine lv_aload_n hx hcd dL_refuses_308 rfl (lv_at hl 2 rfl) ?_
  refine lv_iconst (v := nI 0) hx hcd dL_refuses_309 (by decide) ?_
  refine lv_iconst (v := (-1)) hx hcd dL_refuses_310 (by decide) ?_
  refine kl_S (As := [.ref (ob 0), .int (nI 0), .int (-1)]) (rest := []) (ws2 := wX cI cB cW ob nw tr qs sc G M N S n L T) ⟨hx, hcd, hml, hown, hts⟩ (c_L_changedSince__e2 l hst D cI cB cW cL ob nw tr qs sc G N S n L T _ M 0 (-1) (by omega) (by decide)) (vx_cwSW 3 hts gL_refuses_L_changedSince rfl rfl rfl (by decide +kernel) ⟨Nat.le_of_ble_eq_true rfl, Nat.le_of_ble_eq_true rfl⟩) hZ hN hK hP hD hS hA [0, 1, 2, 3, 4, 5, 6, 7, 8, 9, 10, 11, 12, 13, 14, 15, 16, 17, 18, 19, 20, 21, 22, 23, 24, 25, 26, 27, 28, 29, 30, 31, 32, 33, 34, 35, 36, 37, 38, 39, 40, 41, 42, 43, 44, 45, 46, 47, 48, 49, 50, 51, 52, 53, 54, 55, 56, 57, 58, 59, 60, 61, 62, 63, 64, 65, 66, 67, 68, 69, 70, 71, 72, 73, 74, 75, 76, 77, 78, 79, 80, 81, 82, 83, 84, 85, 86, 87, 88, 89, 90, 91, 92, 93] wX_allC wX_nd wX_adr wX_all rfl hl.1 rfl (Nat.le_of_ble_eq_true rfl) dL_refuses_311 ⟨Nat.le_of_ble_eq_true rfl, Nat.le_of_ble_eq_true rfl⟩ (fun H locs hP hD hS => ?_)
  refine lv_sipush (v := (-901)) hx hcd dL_refuses_314 (by decide) ?_
  refine lv_icmp_ne (tgt := 400) hx hcd dL_refuses_317 (by decide) (fun (c_317 : ¬ (-901) = (-901)) => absurd c_317 (not_not_intro rfl)) (fun (c_317 : (-901) = (-901)) => ?_)
  refine lv_aload_n hx hcd dL_refuses_320 rfl (lv_at hl 2 rfl) ?_
  refine lv_iconst (v := nI 0) hx hcd dL_refuses_321 (by decide) ?_
  refine lv_iconst (v := nI 1) hx hcd dL_refuses_322 (by decide) ?_
  refine lv_iconst (v := nI 3) hx hcd dL_refuses_323 (by decide) ?_
  refine kl_S (As := [.ref (ob 0), .int (nI 0), .int (nI 1), .int (nI 3)]) (rest := []) (ws2 := wX cI cB cW ob nw tr qs sc G M N S n L T) ⟨hx, hcd, hml, hown, hts⟩ (c_L_view__e1a l hst D cI cB cW cL ob nw tr qs sc G N S n L T _ M (nI 0) (nI 1) (nI 3) (by decide +kernel)) (vx_cwSW 4 hts gL_refuses_L_view rfl rfl rfl (by decide +kernel) ⟨Nat.le_of_ble_eq_true rfl, Nat.le_of_ble_eq_true rfl⟩) hZ hN hK hP hD hS hA [0, 1, 2, 3, 4, 5, 6, 7, 8, 9, 10, 11, 12, 13, 14, 15, 16, 17, 18, 19, 20, 21, 22, 23, 24, 25, 26, 27, 28, 29, 30, 31, 32, 33, 34, 35, 36, 37, 38, 39, 40, 41, 42, 43, 44, 45, 46, 47, 48, 49, 50, 51, 52, 53, 54, 55, 56, 57, 58, 59, 60, 61, 62, 63, 64, 65, 66, 67, 68, 69, 70, 71, 72, 73, 74, 75, 76, 77, 78, 79, 80, 81, 82, 83, 84, 85, 86, 87, 88, 89, 90, 91, 92, 93] wX_allC wX_nd wX_adr wX_all rfl hl.1 rfl (Nat.le_of_ble_eq_true rfl) dL_refuses_324 ⟨Nat.le_of_ble_eq_true rfl, Nat.le_of_ble_eq_true rfl⟩ (fun H locs hP hD hS => ?_)
  refine lv_sipush (v := (-903)) hx hcd dL_refuses_327 (by decide) ?_
  refine lv_icmp_ne (tgt := 400) hx hcd dL_refuses_330 (by decide) (fun (c_330 : ¬ (-903) = (-903)) => absurd c_330 (not_not_intro rfl)) (fun (c_330 : (-903) = (-903)) => ?_)
  refine lv_aload_n hx hcd dL_refuses_333 rfl (lv_at hl 2 rfl) ?_
  refine lv_iconst (v := nI 1) hx hcd dL_refuses_334 (by decide) ?_
  refine lv_iconst (v := nI 1) hx hcd dL_refuses_335 (by decide) ?_
  refine lv_iconst (v := nI 0) hx hcd dL_refuses_336 (by decide) ?_
  refine kl_S (As := [.ref (ob 0), .int (nI 1), .int (nI 1), .int (nI 0)]) (rest := []) (ws2 := wX cI cB cW ob nw tr qs sc G M N S n L T) ⟨hx, hcd, hml, hown, hts⟩ (c_L_view__e2 l hst D cI cB cW cL ob nw tr qs sc G N S n L T _ M 1 (nI 1) 0 (by omega) (by omega) (by decide +kernel)) (vx_cwSW 4 hts gL_refuses_L_view rfl rfl rfl (by decide +kernel) ⟨Nat.le_of_ble_eq_true rfl, Nat.le_of_ble_eq_true rfl⟩) hZ hN hK hP hD hS hA [0, 1, 2, 3, 4, 5, 6, 7, 8, 9, 10, 11, 12, 13, 14, 15, 16, 17, 18, 19, 20, 21, 22, 23, 24, 25, 26, 27, 28, 29, 30, 31, 32, 33, 34, 35, 36, 37, 38, 39, 40, 41, 42, 43, 44, 45, 46, 47, 48, 49, 50, 51, 52, 53, 54, 55, 56, 57, 58, 59, 60, 61, 62, 63, 64, 65, 66, 67, 68, 69, 70, 71, 72, 73, 74, 75, 76, 77, 78, 79, 80, 81, 82, 83, 84, 85, 86, 87, 88, 89, 90, 91, 92, 93] wX_allC wX_nd wX_adr wX_all rfl hl.1 rfl (Nat.le_of_ble_eq_true rfl) dL_refuses_337 ⟨Nat.le_of_ble_eq_true rfl, Nat.le_of_ble_eq_true rfl⟩ (fun H locs hP hD hS => ?_)
  refine lv_sipush (v := (-901)) hx hcd dL_refuses_340 (by decide) ?_
  refine lv_icmp_ne (tgt := 400) hx hcd dL_refuses_343 (by decide) (fun (c_343 : ¬ (-901) = (-901)) => absurd c_343 (not_not_intro rfl)) (fun (c_343 : (-901) = (-901)) => ?_)
  refine lv_aload_n hx hcd dL_refuses_346 rfl (lv_at hl 2 rfl) ?_
  refine lv_iconst (v := nI 3) hx hcd dL_refuses_347 (by decide) ?_
  refine lv_iconst (v := nI 3) hx hcd dL_refuses_348 (by decide) ?_
  refine kl_S (As := [.ref (ob 0), .int (nI 3), .int (nI 3)]) (rest := []) (ws2 := wX cI cB cW ob nw tr qs sc G M N S n L T) ⟨hx, hcd, hml, hown, hts⟩ (c_L_areApart__e2 l hst D cI cB cW cL ob nw tr qs sc G N S n L T _ M (nI 3) (nI 3) (by decide +kernel)) (vx_cwSW 3 hts gL_refuses_L_areApart rfl rfl rfl (by decide +kernel) ⟨Nat.le_of_ble_eq_true rfl, Nat.le_of_ble_eq_true rfl⟩) hZ hN hK hP hD hS hA [0, 1, 2, 3, 4, 5, 6, 7, 8, 9, 10, 11, 12, 13, 14, 15, 16, 17, 18, 19, 20, 21, 22, 23, 24, 25, 26, 27, 28, 29, 30, 31, 32, 33, 34, 35, 36, 37, 38, 39, 40, 41, 42, 43, 44, 45, 46, 47, 48, 49, 50, 51, 52, 53, 54, 55, 56, 57, 58, 59, 60, 61, 62, 63, 64, 65, 66, 67, 68, 69, 70, 71, 72, 73, 74, 75, 76, 77, 78, 79, 80, 81, 82, 83, 84, 85, 86, 87, 88, 89, 90, 91, 92, 93] wX_allC wX_nd wX_adr wX_all rfl hl.1 rfl (Nat.le_of_ble_eq_true rfl) dL_refuses_349 ⟨Nat.le_of_ble_eq_true rfl, Nat.le_of_ble_eq_true rfl⟩ (fun H locs hP hD hS => ?_)
  refine lv_sipush (v := (-901)) hx hcd dL_refuses_352 (by decide) ?_
  refine lv_icmp_ne (tgt := 400) hx hcd dL_refuses_355 (by decide) (fun (c_355 : ¬ (-901) = (-901)) => absurd c_355 (not_not_intro rfl)) (fun (c_355 : (-901) = (-901)) => ?_)
  refine lv_aload_n hx hcd dL_refuses_358 rfl (lv_at hl 2 rfl) ?_
  refine lv_bipush (v := nI 6) hx hcd dL_refuses_359 (by decide) ?_
  refine lv_iconst (v := nI 0) hx hcd dL_refuses_361 (by decide) ?_
  refine kl_S (As := [.ref (ob 0), .int (nI 6), .int (nI 0)]) (rest := []) (ws2 := wX cI cB cW ob nw tr qs sc G M N S n L T) ⟨hx, hcd, hml, hown, hts⟩ (c_L_agree__e1 l hst D cI cB cW cL ob nw tr qs sc G N S n L T _ M (nI 6) (nI 0) (by decide +kernel)) (vx_cwSW 3 hts gL_refuses_L_agree rfl rfl rfl (by decide +kernel) ⟨Nat.le_of_ble_eq_true rfl, Nat.le_of_ble_eq_true rfl⟩) hZ hN hK hP hD hS hA [0, 1, 2, 3, 4, 5, 6, 7, 8, 9, 10, 11, 12, 13, 14, 15, 16, 17, 18, 19, 20, 21, 22, 23, 24, 25, 26, 27, 28, 29, 30, 31, 32, 33, 34, 35, 36, 37, 38, 39, 40, 41, 42, 43, 44, 45, 46, 47, 48, 49, 50, 51, 52, 53, 54, 55, 56, 57, 58, 59, 60, 61, 62, 63, 64, 65, 66, 67, 68, 69, 70, 71, 72, 73, 74, 75, 76, 77, 78, 79, 80, 81, 82, 83, 84, 85, 86, 87, 88, 89, 90, 91, 92, 93] wX_allC wX_nd wX_adr wX_all rfl hl.1 rfl (Nat.le_of_ble_eq_true rfl) dL_refuses_362 ⟨Nat.le_of_ble_eq_true rfl, Nat.le_of_ble_eq_true rfl⟩ (fun H locs hP hD hS => ?_)
  refine lv_sipush (v := (-903)) hx hcd dL_refuses_365 (by decide) ?_
  refine lv_icmp_ne (tgt := 400) hx hcd dL_refuses_368 (by decide) (fun (c_368 : ¬ (-903) = (-903)) => absurd c_368 (not_not_intro rfl)) (fun (c_368 : (-903) = (-903)) => ?_)
  refine lv_aload_n hx hcd dL_refuses_371 rfl (lv_at hl 2 rfl) ?_
  refine lv_bipush (v := nI 6) hx hcd dL_refuses_372 (by decide) ?_
  refine kl_S (As := [.ref (ob 0), .int (nI 6)]) (rest := []) (ws2 := wX cI cB cW ob nw tr qs sc G M N S n L T) ⟨hx, hcd, hml, hown, hts⟩ (c_L_wrongViews__e1 l hst D cI cB cW cL ob nw tr qs sc G N S n L T _ M (nI 6) (by decide +kernel)) (vx_cwSW 2 hts gL_refuses_L_wrongViews rfl rfl rfl (by decide +kernel) ⟨Nat.le_of_ble_eq_true rfl, Nat.le_of_ble_eq_true rfl⟩) hZ hN hK hP hD hS hA [0, 1, 2, 3, 4, 5, 6, 7, 8, 9, 10, 11, 12, 13, 14, 15, 16, 17, 18, 19, 20, 21, 22, 23, 24, 25, 26, 27, 28, 29, 30, 31, 32, 33, 34, 35, 36, 37, 38, 39, 40, 41, 42, 43, 44, 45, 46, 47, 48, 49, 50, 51, 52, 53, 54, 55, 56, 57, 58, 59, 60, 61, 62, 63, 64, 65, 66, 67, 68, 69, 70, 71, 72, 73, 74, 75, 76, 77, 78, 79, 80, 81, 82, 83, 84, 85, 86, 87, 88, 89, 90, 91, 92, 93] wX_allC wX_nd wX_adr wX_all rfl hl.1 rfl (Nat.le_of_ble_eq_true rfl) dL_refuses_374 ⟨Nat.le_of_ble_eq_true rfl, Nat.le_of_ble_eq_true rfl⟩ (fun H locs hP hD hS => ?_)
  refine lv_sipush (v := (-903)) hx hcd dL_refuses_377 (by decide) ?_
  refine lv_icmp_ne (tgt := 400) hx hcd dL_refuses_380 (by decide) (fun (c_380 : ¬ (-903) = (-903)) => absurd c_380 (not_not_intro rfl)) (fun (c_380 : (-903) = (-903)) => ?_)
  refine lv_aload_n hx hcd dL_refuses_383 rfl (lv_at hl 2 rfl) ?_
  refine lv_sipush (v := nI 128) hx hcd dL_refuses_384 (by decide) ?_
  refine kl_S (As := [.ref (ob 0), .int (nI 128)]) (rest := []) (ws2 := wX cI cB cW ob nw tr qs sc G M N S n L T) ⟨hx, hcd, hml, hown, hts⟩ (c_L_append__e1 l hst D cI cB cW cL ob nw tr qs sc G N S n L T _ M (nI 128) (by decide +kernel)) (vx_cwSW 2 hts gL_refuses_L_append rfl rfl rfl (by decide +kernel) ⟨Nat.le_of_ble_eq_true rfl, Nat.le_of_ble_eq_true rfl⟩) hZ hN hK hP hD hS hA [0, 1, 2, 3, 4, 5, 6, 7, 8, 9, 10, 11, 12, 13, 14, 15, 16, 17, 18, 19, 20, 21, 22, 23, 24, 25, 26, 27, 28, 29, 30, 31, 32, 33, 34, 35, 36, 37, 38, 39, 40, 41, 42, 43, 44, 45, 46, 47, 48, 49, 50, 51, 52, 53, 54, 55, 56, 57, 58, 59, 60, 61, 62, 63, 64, 65, 66, 67, 68, 69, 70, 71, 72, 73, 74, 75, 76, 77, 78, 79, 80, 81, 82, 83, 84, 85, 86, 87, 88, 89, 90, 91, 92, 93] wX_allC wX_nd wX_adr wX_all rfl hl.1 rfl (Nat.le_of_ble_eq_true rfl) dL_refuses_387 ⟨Nat.le_of_ble_eq_true rfl, Nat.le_of_ble_eq_true rfl⟩ (fun H locs hP hD hS => ?_)
  refine lv_sipush (v := (-901)) hx hcd dL_refuses_390 (by decide) ?_
  refine lv_icmp_ne (tgt := 400) hx hcd dL_refuses_393 (by decide) (fun (c_393 : ¬ (-901) = (-901)) => absurd c_393 (not_not_intro rfl)) (fun (c_393 : (-901) = (-901)) => ?_)
  refine lv_iconst (v := nI 1) hx hcd dL_refuses_396 (by decide) ?_
  refine lv_goto (tgt := 401) hx hcd dL_refuses_397 (by decide) ?_
  refine lv_istore_n (lv' := [(3, .int (nI 1)), (1, .long (g_digest M (nI L) (nI n))), (0, .ref (ob 0))]) hx hcd dL_refuses_401 rfl hl (by decide) rfl (fun ls hl => ?_)
  refine lv_iload_n hx hcd dL_refuses_402 rfl (lv_at hl 0 rfl) ?_
  refine kr_zeq (tgt := 419) hx hcd (by omega) dL_refuses_403 (by decide) (fun (c_403 : 1 = 0) => absurd c_403 (by omega)) (fun (c_403 : 0 < 1) => ?_)
  refine lv_aload_n hx hcd dL_refuses_406 rfl (lv_at hl 2 rfl) ?_
  refine kr_Vl (As := []) (rest := []) (ws2 := wX cI cB cW ob nw tr qs sc G M N S n L T) (q := (RX6, TX6, 5)) ⟨hx, hcd, hml, hown, hts⟩ (c_X6_digest__ok l D cI cB cW cL ob nw tr qs sc G N S n L T _ M hI) (cwV 0 hts gL_refuses_X6_digest rfl rfl rfl (by decide +kernel) ⟨Nat.le_of_ble_eq_true rfl, Nat.le_of_ble_eq_true rfl⟩) hK hP hD hS hA [0, 1, 2, 3, 4, 5, 6, 7, 8, 9, 10, 11, 12, 13, 14, 15, 16, 17, 18, 19, 20, 21, 22, 23, 24, 25, 26, 27, 28, 29, 30, 31, 32, 33, 34, 35, 36, 37, 38, 39, 40, 41, 42, 43, 44, 45, 46, 47, 48, 49, 50, 51, 52, 53, 54, 55, 56, 57, 58, 59, 60, 61, 62, 63, 64, 65, 66, 67, 68, 69, 70, 71, 72, 73, 74, 75, 76, 77, 78, 79, 80, 81, 82, 83, 84, 85, 86, 87, 88, 89, 90, 91, 92, 93] wX_allC wX_nd wX_adr wX_all 0 rfl rfl rfl hl.1 rfl (Nat.le_of_ble_eq_true rfl) dL_refuses_407 ⟨Nat.le_of_ble_eq_true rfl, Nat.le_of_ble_eq_true rfl⟩ (fun H locs hP hD hS => ?_)
  refine lv_lload_n hx hcd dL_refuses_410 rfl (lv_at hl 1 rfl) ?_
  refine kl_lcmp hx hcd (by rfl) dL_refuses_411 ?_
  refine kr_zne (tgt := 419) hx hcd (by omega) dL_refuses_412 (by decide) (fun (c_412 : 0 < 0) => absurd c_412 (by omega)) (fun (c_412 : 0 = 0) => ?_)
  refine lv_iconst (v := nI 1) hx hcd dL_refuses_415 (by decide) ?_
  refine lv_goto (tgt := 420) hx hcd dL_refuses_416 (by decide) ?_
  exact kr_zret hx hcd hr hlocks hK hP hD hS rfl rfl rfl dL_refuses_420

set_option maxHeartbeats 4000000 in
set_option maxRecDepth 100000 in
theorem c_L_calm (l : Launch) (hst : l.stackTraces = false) (D : va_G) (cI cB cW cL : ClassId) (ob nw tr : Nat → Nat) (qs : Nat → Nat → Nat) (sc : Nat → Nat) (G : Nat → Option Nat) (N : kM) (S : Nat → kM) (n L : Nat) (T : Nat → Int32) (sz : Nat) (M : kM) (hI : kInv M) (hw : ∀ a, a < 6 → g_wrA M a 6 = 0) (hp : g_pairs M = 15) : kMg l yL_calm wsL_calm ({ frames := 5, cells := 0, slots := 0, locals := 117 }) D vwCl (kT cI cB cW cL) sz [.ref (ob 0)] (wX cI cB cW ob nw tr qs sc G M N S n L T) (wX cI cB cW ob nw tr qs sc G M N S n L T) 1 0 0 := by
  refine kr_ofg (cc := cL_calm) (maxL := 2) (ret := (some .boolean)) (by decide) rfl (Nat.le_of_ble_eq_true rfl) ?_
  intro pp ee ss mm args below meth cc AA ls hx hcd hr hts hown hlocks hml hZ hN hK hP hD hA hl
  have hS : va_S AA ss.heap ss.heap [] := va_S.rf
  have hown : ss.vm.findClass RL = some mm.cls := hown
  have hl : lv_has ls 2 [(0, .ref (ob 0))] := hl
  refine lv_iconst (v := nI 0) hx hcd dL_calm_0 (by decide) ?_
  refine lv_istore_n (lv' := [(1, .int (nI 0)), (0, .ref (ob 0))]) hx hcd dL_calm_1 rfl hl (by decide) rfl (fun ls hl => ?_)
  refine kr_up (fun i => wX cI cB cW ob nw tr qs sc G M N S n L T) (fun i => [(0, .ref (ob 0)), (1, .int (nI i))]) 6 (nL := 2) (fun i hi ih_2 H locs ls hP hD hS hl => ?_) (fun H locs ls hP hD hS hl => ?_) 0 (by omega) hP hD hS (lv_sub hl [1, 0] rfl)
  · have hl : lv_has ls 2 [(0, .ref (ob 0)), (1, .int (nI i))] := hl
    have hq := hw i hi
    refine lv_iload_n hx hcd dL_calm_2 rfl (lv_at hl 1 rfl) ?_
    refine lv_bipush (v := nI 6) hx hcd dL_calm_3 (by decide) ?_
    refine kr_cge (tgt := 24) hx hcd (by omega) (by omega) dL_calm_5 (by decide) (fun (c_5 : 6 ≤ i) => absurd c_5 (by omega)) (fun (c_5 : i < 6) => ?_)
    refine lv_aload_n hx hcd dL_calm_8 rfl (lv_at hl 0 rfl) ?_
    refine lv_iload_n hx hcd dL_calm_9 rfl (lv_at hl 1 rfl) ?_
    refine kl_S (As := [.ref (ob 0), .int (nI i)]) (rest := []) (ws2 := wX cI cB cW ob nw tr qs sc G M N S n L T) ⟨hx, hcd, hml, hown, hts⟩ (c_L_wrongViews__ok l hst D cI cB cW cL ob nw tr qs sc G N S n L T _ M i (by omega)) (vx_cwSW 2 hts gL_calm_L_wrongViews rfl rfl rfl (by decide +kernel) ⟨Nat.le_of_ble_eq_true rfl, Nat.le_of_ble_eq_true rfl⟩) hZ hN hK hP hD hS hA [0, 1, 2, 3, 4, 5, 6, 7, 8, 9, 10, 11, 12, 13, 14, 15, 16, 17, 18, 19, 20, 21, 22, 23, 24, 25, 26, 27, 28, 29, 30, 31, 32, 33, 34, 35, 36, 37, 38, 39, 40, 41, 42, 43, 44, 45, 46, 47, 48, 49, 50, 51, 52, 53, 54, 55, 56, 57, 58, 59, 60, 61, 62, 63, 64, 65, 66, 67, 68, 69, 70, 71, 72, 73, 74, 75, 76, 77, 78, 79, 80, 81, 82, 83, 84, 85, 86, 87, 88, 89, 90, 91, 92, 93] wX_allC wX_nd wX_adr wX_all rfl hl.1 rfl (Nat.le_of_ble_eq_true rfl) dL_calm_10 ⟨Nat.le_of_ble_eq_true rfl, Nat.le_of_ble_eq_true rfl⟩ (fun H locs hP hD hS => ?_)
    refine kr_zeq (tgt := 18) hx hcd (by omega) dL_calm_13 (by decide) (fun (c_13 : g_wrA M i 6 = 0) => ?_) (fun (c_13 : 0 < g_wrA M i 6) => absurd c_13 (by have := hw i hi; omega))
    refine kr_iinc (lv' := [(1, .int (nI (i + 1))), (0, .ref (ob 0))]) hx hcd dL_calm_18 hl (k := 1) rfl (by decide) rfl (fun ls hl => ?_)
    refine lv_goto (tgt := 2) hx hcd dL_calm_21 (by decide) ?_
    exact ih_2 H locs ls hP hD hS (lv_sub hl [1, 0] rfl)
  · have hl : lv_has ls 2 [(0, .ref (ob 0)), (1, .int (nI 6))] := hl
    refine lv_iload_n hx hcd dL_calm_2 rfl (lv_at hl 1 rfl) ?_
    refine lv_bipush (v := nI 6) hx hcd dL_calm_3 (by decide) ?_
    refine kr_cge (tgt := 24) hx hcd (by omega) (by omega) dL_calm_5 (by decide) (fun (c_5 : 6 ≤ 6) => ?_) (fun (c_5 : 6 < 6) => absurd c_5 (by omega))
    refine lv_aload_n hx hcd dL_calm_24 rfl (lv_at hl 0 rfl) ?_
    refine kr_Vi (As := []) (rest := []) (ws2 := wX cI cB cW ob nw tr qs sc G M N S n L T) (q := (RX6, TX6, 5)) ⟨hx, hcd, hml, hown, hts⟩ (c_X6_agreeing__ok l D cI cB cW cL ob nw tr qs sc G N S n L T _ M hI) (cwV 0 hts gL_calm_X6_agreeing rfl rfl rfl (by decide +kernel) ⟨Nat.le_of_ble_eq_true rfl, Nat.le_of_ble_eq_true rfl⟩) hK hP hD hS hA [0, 1, 2, 3, 4, 5, 6, 7, 8, 9, 10, 11, 12, 13, 14, 15, 16, 17, 18, 19, 20, 21, 22, 23, 24, 25, 26, 27, 28, 29, 30, 31, 32, 33, 34, 35, 36, 37, 38, 39, 40, 41, 42, 43, 44, 45, 46, 47, 48, 49, 50, 51, 52, 53, 54, 55, 56, 57, 58, 59, 60, 61, 62, 63, 64, 65, 66, 67, 68, 69, 70, 71, 72, 73, 74, 75, 76, 77, 78, 79, 80, 81, 82, 83, 84, 85, 86, 87, 88, 89, 90, 91, 92, 93] wX_allC wX_nd wX_adr wX_all 0 rfl rfl rfl hl.1 rfl (Nat.le_of_ble_eq_true rfl) dL_calm_25 ⟨Nat.le_of_ble_eq_true rfl, Nat.le_of_ble_eq_true rfl⟩ (fun H locs hP hD hS => ?_)
    refine lv_bipush (v := nI 15) hx hcd dL_calm_28 (by decide) ?_
    refine kr_cne (tgt := 37) hx hcd (by omega) (by omega) dL_calm_30 (by decide) (fun (c_30 : ¬ g_pairs M = 15) => absurd c_30 (not_not_intro hp)) (fun (c_30 : g_pairs M = 15) => ?_)
    refine lv_iconst (v := nI 1) hx hcd dL_calm_33 (by decide) ?_
    refine lv_goto (tgt := 38) hx hcd dL_calm_34 (by decide) ?_
    exact kr_zret hx hcd hr hlocks hK hP hD hS rfl rfl rfl dL_calm_38

set_option maxHeartbeats 4000000 in
set_option maxRecDepth 100000 in
theorem c_L_rests (l : Launch) (hst : l.stackTraces = false) (D : va_G) (cI cB cW cL : ClassId) (ob nw tr : Nat → Nat) (qs : Nat → Nat → Nat) (sc : Nat → Nat) (G : Nat → Option Nat) (N : kM) (S : Nat → kM) (n L : Nat) (T : Nat → Int32) (sz : Nat) (M : kM) (r : Nat) (hI : kInv M) (hn : n ≤ 4) (hr : r < 4) : kMg l yL_rests wsL_rests ({ frames := 7, cells := 0, slots := 0, locals := 185 }) D vwCl (kT cI cB cW cL) sz [.ref (ob 0)] (wX cI cB cW ob nw tr qs sc (g_rot qs r) M N S n L T) (wX cI cB cW ob nw tr qs sc (g_rot qs (rj n r)) M (g_del 1000 M) (sset S (pj n r) M) (g_kn n - 1) L T) 1 0 0 := by
  refine kr_ofg (cc := cL_rests) (maxL := 6) (ret := (some .boolean)) (by decide) rfl (Nat.le_of_ble_eq_true rfl) ?_
  intro pp ee ss mm args below meth cc AA ls hx hcd hr hts hown hlocks hml hZ hN hK hP hD hA hl
  have hS : va_S AA ss.heap ss.heap [] := va_S.rf
  have hown : ss.vm.findClass RL = some mm.cls := hown
  have hl : lv_has ls 6 [(0, .ref (ob 0))] := hl
  have b577 := i_wyle hI
  have bd := delC_le 1000 M
  have bp := pairs_le (M := g_del 1000 M)
  have bk := kn_le hn
  have br := rest_ok hI
  refine lv_aload_n hx hcd dL_rests_0 rfl (lv_at hl 0 rfl) ?_
  refine kr_Vi (As := []) (rest := []) (ws2 := wX cI cB cW ob nw tr qs sc (g_rot qs r) M N S n L T) (q := (RX6, TX6, 5)) ⟨hx, hcd, hml, hown, hts⟩ (c_X6_underWay__ok l D cI cB cW cL ob nw tr qs sc (g_rot qs r) N S n L T _ M hI) (cwV 0 hts gL_rests_X6_underWay rfl rfl rfl (by decide +kernel) ⟨Nat.le_of_ble_eq_true rfl, Nat.le_of_ble_eq_true rfl⟩) hK hP hD hS hA [0, 1, 2, 3, 4, 5, 6, 7, 8, 9, 10, 11, 12, 13, 14, 15, 16, 17, 18, 19, 20, 21, 22, 23, 24, 25, 26, 27, 28, 29, 30, 31, 32, 33, 34, 35, 36, 37, 38, 39, 40, 41, 42, 43, 44, 45, 46, 47, 48, 49, 50, 51, 52, 53, 54, 55, 56, 57, 58, 59, 60, 61, 62, 63, 64, 65, 66, 67, 68, 69, 70, 71, 72, 73, 74, 75, 76, 77, 78, 79, 80, 81, 82, 83, 84, 85, 86, 87, 88, 89, 90, 91, 92, 93] wX_allC wX_nd wX_adr wX_all 0 rfl rfl rfl hl.1 rfl (Nat.le_of_ble_eq_true rfl) dL_rests_1 ⟨Nat.le_of_ble_eq_true rfl, Nat.le_of_ble_eq_true rfl⟩ (fun H locs hP hD hS => ?_)
  refine lv_istore_n (lv' := [(1, .int (nI (wyN M))), (0, .ref (ob 0))]) hx hcd dL_rests_4 rfl hl (by decide) rfl (fun ls hl => ?_)
  refine lv_aload_n hx hcd dL_rests_5 rfl (lv_at hl 1 rfl) ?_
  refine kr_Vi (As := []) (rest := []) (ws2 := wX cI cB cW ob nw tr qs sc (g_rot qs r) M (g_del 1000 M) S n L T) (q := (RX6, TX6, 5)) ⟨hx, hcd, hml, hown, hts⟩ (c_X6_untilRest__ok l D cI cB cW cL ob nw tr qs sc (g_rot qs r) N S n L T _ M hI) (cwV 0 hts gL_rests_X6_untilRest rfl rfl rfl (by decide +kernel) ⟨Nat.le_of_ble_eq_true rfl, Nat.le_of_ble_eq_true rfl⟩) hK hP hD hS hA [0, 1, 2, 3, 4, 5, 6, 7, 8, 9, 10, 11, 12, 13, 14, 15, 16, 17, 18, 19, 20, 21, 22, 23, 24, 25, 26, 27, 28, 29, 30, 31, 32, 33, 34, 35, 36, 37, 38, 39, 40, 41, 42, 43, 44, 45, 46, 47, 48, 49, 50, 51, 52, 53, 54, 55, 56, 57, 58, 59, 60, 61, 62, 63, 64, 65, 66, 67, 68, 69, 70, 71, 72, 73, 74, 75, 76, 77, 78, 79, 80, 81, 82, 83, 84, 85, 86, 87, 88, 89, 90, 91, 92, 93] wX_allC wX_nd wX_adr wX_all 0 rfl rfl rfl hl.1 rfl (Nat.le_of_ble_eq_true rfl) dL_rests_6 ⟨Nat.le_of_ble_eq_true rfl, Nat.le_of_ble_eq_true rfl⟩ (fun H locs hP hD hS => ?_)
  refine lv_istore_n (lv' := [(2, .int (nI (g_delC 1000 M))), (1, .int (nI (wyN M))), (0, .ref (ob 0))]) hx hcd dL_rests_9 rfl hl (by decide) rfl (fun ls hl => ?_)
  refine lv_aload_n hx hcd dL_rests_10 rfl (lv_at hl 2 rfl) ?_
  refine kr_Vi (As := []) (rest := []) (ws2 := wX cI cB cW ob nw tr qs sc (g_rot qs r) M (g_del 1000 M) S n L T) (q := (RX6, TX6, 5)) ⟨hx, hcd, hml, hown, hts⟩ (c_X6_agreeingAtRest__ok l D cI cB cW cL ob nw tr qs sc (g_rot qs r) (g_del 1000 M) S n L T _ M hI) (cwV 0 hts gL_rests_X6_agreeingAtRest rfl rfl rfl (by decide +kernel) ⟨Nat.le_of_ble_eq_true rfl, Nat.le_of_ble_eq_true rfl⟩) hK hP hD hS hA [0, 1, 2, 3, 4, 5, 6, 7, 8, 9, 10, 11, 12, 13, 14, 15, 16, 17, 18, 19, 20, 21, 22, 23, 24, 25, 26, 27, 28, 29, 30, 31, 32, 33, 34, 35, 36, 37, 38, 39, 40, 41, 42, 43, 44, 45, 46, 47, 48, 49, 50, 51, 52, 53, 54, 55, 56, 57, 58, 59, 60, 61, 62, 63, 64, 65, 66, 67, 68, 69, 70, 71, 72, 73, 74, 75, 76, 77, 78, 79, 80, 81, 82, 83, 84, 85, 86, 87, 88, 89, 90, 91, 92, 93] wX_allC wX_nd wX_adr wX_all 0 rfl rfl rfl hl.1 rfl (Nat.le_of_ble_eq_true rfl) dL_rests_11 ⟨Nat.le_of_ble_eq_true rfl, Nat.le_of_ble_eq_true rfl⟩ (fun H locs hP hD hS => ?_)
  refine lv_istore_n (lv' := [(3, .int (nI (g_pairs (g_del 1000 M)))), (2, .int (nI (g_delC 1000 M))), (1, .int (nI (wyN M))), (0, .ref (ob 0))]) hx hcd dL_rests_14 rfl hl (by decide) rfl (fun ls hl => ?_)
  refine lv_aload_n hx hcd dL_rests_15 rfl (lv_at hl 3 rfl) ?_
  refine lv_iconst (v := nI 1) hx hcd dL_rests_16 (by decide) ?_
  refine kl_S (As := [.ref (ob 0), .int (nI 1)]) (rest := []) (ws2 := wX cI cB cW ob nw tr qs sc (g_rot qs r) M (g_del 1000 M) S n L T) ⟨hx, hcd, hml, hown, hts⟩ (c_L_count__ok l hst D cI cB cW cL ob nw tr qs sc (g_rot qs r) (g_del 1000 M) S n L T _ M 1 (by omega)) (vx_cwSW 2 hts gL_rests_L_count rfl rfl rfl (by decide +kernel) ⟨Nat.le_of_ble_eq_true rfl, Nat.le_of_ble_eq_true rfl⟩) hZ hN hK hP hD hS hA [0, 1, 2, 3, 4, 5, 6, 7, 8, 9, 10, 11, 12, 13, 14, 15, 16, 17, 18, 19, 20, 21, 22, 23, 24, 25, 26, 27, 28, 29, 30, 31, 32, 33, 34, 35, 36, 37, 38, 39, 40, 41, 42, 43, 44, 45, 46, 47, 48, 49, 50, 51, 52, 53, 54, 55, 56, 57, 58, 59, 60, 61, 62, 63, 64, 65, 66, 67, 68, 69, 70, 71, 72, 73, 74, 75, 76, 77, 78, 79, 80, 81, 82, 83, 84, 85, 86, 87, 88, 89, 90, 91, 92, 93] wX_allC wX_nd wX_adr wX_all rfl hl.1 rfl (Nat.le_of_ble_eq_true rfl) dL_rests_17 ⟨Nat.le_of_ble_eq_true rfl, Nat.le_of_ble_eq_true rfl⟩ (fun H locs hP hD hS => ?_)
  refine kr_top (w := M 579) rfl ?_
  refine lv_istore (lv' := [(4, .int (M 579)), (3, .int (nI (g_pairs (g_del 1000 M)))), (2, .int (nI (g_delC 1000 M))), (1, .int (nI (wyN M))), (0, .ref (ob 0))]) hx hcd dL_rests_20 hl (by decide) rfl (fun ls hl => ?_)
  refine lv_aload_n hx hcd dL_rests_22 rfl (lv_at hl 4 rfl) ?_
  refine lv_sipush (v := nI 1000) hx hcd dL_rests_23 (by decide) ?_
  refine kl_S (As := [.ref (ob 0), .int (nI 1000)]) (rest := []) (ws2 := wX cI cB cW ob nw tr qs sc (g_rot qs (rj n r)) (g_del 1000 M) (g_del 1000 M) (sset S (pj n r) M) (g_kn n) L T) ⟨hx, hcd, hml, hown, hts⟩ (c_L_deliver__ok l hst D cI cB cW cL ob nw tr qs sc (g_rot qs r) (g_del 1000 M) S n L T _ M 1000 r hI (by omega) (by omega) (by omega)) (vx_cwSW 2 hts gL_rests_L_deliver rfl rfl rfl (by decide +kernel) ⟨Nat.le_of_ble_eq_true rfl, Nat.le_of_ble_eq_true rfl⟩) hZ hN hK hP hD hS hA [0, 1, 2, 3, 4, 5, 6, 7, 8, 9, 10, 11, 12, 13, 14, 15, 16, 17, 18, 19, 20, 21, 22, 23, 24, 25, 26, 27, 28, 29, 30, 31, 32, 33, 34, 35, 36, 37, 38, 39, 40, 41, 42, 43, 44, 45, 46, 47, 48, 49, 50, 51, 52, 53, 54, 55, 56, 57, 58, 59, 60, 61, 62, 63, 64, 65, 66, 67, 68, 69, 70, 71, 72, 73, 74, 75, 76, 77, 78, 79, 80, 81, 82, 83, 84, 85, 86, 87, 88, 89, 90, 91, 92, 93] wX_allC wX_nd wX_adr wX_all rfl hl.1 rfl (Nat.le_of_ble_eq_true rfl) dL_rests_26 ⟨Nat.le_of_ble_eq_true rfl, Nat.le_of_ble_eq_true rfl⟩ (fun H locs hP hD hS => ?_)
  have hI_1 : kInv (g_del 1000 M) := i_del 1000 hI
  refine lv_istore (lv' := [(5, .int (nI (g_delC 1000 M))), (4, .int (M 579)), (3, .int (nI (g_pairs (g_del 1000 M)))), (2, .int (nI (g_delC 1000 M))), (1, .int (nI (wyN M))), (0, .ref (ob 0))]) hx hcd dL_rests_29 hl (by decide) rfl (fun ls hl => ?_)
  refine lv_iload_n hx hcd dL_rests_31 rfl (lv_at hl 3 rfl) ?_
  refine kr_zlt (tgt := 56) hx hcd (by omega) dL_rests_32 (by decide) ?_
  refine lv_iload hx hcd dL_rests_35 (lv_at hl 0 rfl) ?_
  refine lv_iload_n hx hcd dL_rests_37 rfl (lv_at hl 3 rfl) ?_
  refine kr_cne (tgt := 81) hx hcd (by omega) (by omega) dL_rests_38 (by decide) (fun (c_38 : ¬ g_delC 1000 M = g_delC 1000 M) => absurd c_38 (not_not_intro rfl)) (fun (c_38 : g_delC 1000 M = g_delC 1000 M) => ?_)
  refine lv_aload_n hx hcd dL_rests_41 rfl (lv_at hl 5 rfl) ?_
  refine kr_Vi (As := []) (rest := []) (ws2 := wX cI cB cW ob nw tr qs sc (g_rot qs (rj n r)) (g_del 1000 M) (g_del 1000 M) (sset S (pj n r) M) (g_kn n) L T) (q := (RX6, TX6, 5)) ⟨hx, hcd, hml, hown, hts⟩ (c_X6_underWay__ok l D cI cB cW cL ob nw tr qs sc (g_rot qs (rj n r)) (g_del 1000 M) (sset S (pj n r) M) (g_kn n) L T _ (g_del 1000 M) hI_1) (cwV 0 hts gL_rests_X6_underWay rfl rfl rfl (by decide +kernel) ⟨Nat.le_of_ble_eq_true rfl, Nat.le_of_ble_eq_true rfl⟩) hK hP hD hS hA [0, 1, 2, 3, 4, 5, 6, 7, 8, 9, 10, 11, 12, 13, 14, 15, 16, 17, 18, 19, 20, 21, 22, 23, 24, 25, 26, 27, 28, 29, 30, 31, 32, 33, 34, 35, 36, 37, 38, 39, 40, 41, 42, 43, 44, 45, 46, 47, 48, 49, 50, 51, 52, 53, 54, 55, 56, 57, 58, 59, 60, 61, 62, 63, 64, 65, 66, 67, 68, 69, 70, 71, 72, 73, 74, 75, 76, 77, 78, 79, 80, 81, 82, 83, 84, 85, 86, 87, 88, 89, 90, 91, 92, 93] wX_allC wX_nd wX_adr wX_all 0 rfl rfl rfl hl.1 rfl (Nat.le_of_ble_eq_true rfl) dL_rests_42 ⟨Nat.le_of_ble_eq_true rfl, Nat.le_of_ble_eq_true rfl⟩ (fun H locs hP hD hS => ?_)
  refine kr_zne (tgt := 81) hx hcd (by omega) dL_rests_45 (by decide) (fun (c_45 : 0 < wyN (g_del 1000 M)) => absurd c_45 (by have := rest_ok hI; omega)) (fun (c_45 : wyN (g_del 1000 M) = 0) => ?_)
  refine lv_aload_n hx hcd dL_rests_48 rfl (lv_at hl 5 rfl) ?_
  refine kr_Vi (As := []) (rest := []) (ws2 := wX cI cB cW ob nw tr qs sc (g_rot qs (rj n r)) (g_del 1000 M) (g_del 1000 M) (sset S (pj n r) M) (g_kn n) L T) (q := (RX6, TX6, 5)) ⟨hx, hcd, hml, hown, hts⟩ (c_X6_agreeing__ok l D cI cB cW cL ob nw tr qs sc (g_rot qs (rj n r)) (g_del 1000 M) (sset S (pj n r) M) (g_kn n) L T _ (g_del 1000 M) hI_1) (cwV 0 hts gL_rests_X6_agreeing rfl rfl rfl (by decide +kernel) ⟨Nat.le_of_ble_eq_true rfl, Nat.le_of_ble_eq_true rfl⟩) hK hP hD hS hA [0, 1, 2, 3, 4, 5, 6, 7, 8, 9, 10, 11, 12, 13, 14, 15, 16, 17, 18, 19, 20, 21, 22, 23, 24, 25, 26, 27, 28, 29, 30, 31, 32, 33, 34, 35, 36, 37, 38, 39, 40, 41, 42, 43, 44, 45, 46, 47, 48, 49, 50, 51, 52, 53, 54, 55, 56, 57, 58, 59, 60, 61, 62, 63, 64, 65, 66, 67, 68, 69, 70, 71, 72, 73, 74, 75, 76, 77, 78, 79, 80, 81, 82, 83, 84, 85, 86, 87, 88, 89, 90, 91, 92, 93] wX_allC wX_nd wX_adr wX_all 0 rfl rfl rfl hl.1 rfl (Nat.le_of_ble_eq_true rfl) dL_rests_49 ⟨Nat.le_of_ble_eq_true rfl, Nat.le_of_ble_eq_true rfl⟩ (fun H locs hP hD hS => ?_)
  refine lv_iload_n hx hcd dL_rests_52 rfl (lv_at hl 2 rfl) ?_
  refine kr_cne (tgt := 81) hx hcd (by omega) (by omega) dL_rests_53 (by decide) (fun (c_53 : ¬ g_pairs (g_del 1000 M) = g_pairs (g_del 1000 M)) => absurd c_53 (not_not_intro rfl)) (fun (c_53 : g_pairs (g_del 1000 M) = g_pairs (g_del 1000 M)) => ?_)
  refine lv_iload_n hx hcd dL_rests_56 rfl (lv_at hl 3 rfl) ?_
  refine kr_zge (tgt := 68) hx hcd (by omega) dL_rests_57 (by decide) ?_
  refine lv_aload_n hx hcd dL_rests_68 rfl (lv_at hl 5 rfl) ?_
  refine lv_iconst (v := nI 1) hx hcd dL_rests_69 (by decide) ?_
  refine kl_S (As := [.ref (ob 0), .int (nI 1)]) (rest := []) (ws2 := wX cI cB cW ob nw tr qs sc (g_rot qs (rj n r)) (g_del 1000 M) (g_del 1000 M) (sset S (pj n r) M) (g_kn n) L T) ⟨hx, hcd, hml, hown, hts⟩ (c_L_count__ok l hst D cI cB cW cL ob nw tr qs sc (g_rot qs (rj n r)) (g_del 1000 M) (sset S (pj n r) M) (g_kn n) L T _ (g_del 1000 M) 1 (by omega)) (vx_cwSW 2 hts gL_rests_L_count rfl rfl rfl (by decide +kernel) ⟨Nat.le_of_ble_eq_true rfl, Nat.le_of_ble_eq_true rfl⟩) hZ hN hK hP hD hS hA [0, 1, 2, 3, 4, 5, 6, 7, 8, 9, 10, 11, 12, 13, 14, 15, 16, 17, 18, 19, 20, 21, 22, 23, 24, 25, 26, 27, 28, 29, 30, 31, 32, 33, 34, 35, 36, 37, 38, 39, 40, 41, 42, 43, 44, 45, 46, 47, 48, 49, 50, 51, 52, 53, 54, 55, 56, 57, 58, 59, 60, 61, 62, 63, 64, 65, 66, 67, 68, 69, 70, 71, 72, 73, 74, 75, 76, 77, 78, 79, 80, 81, 82, 83, 84, 85, 86, 87, 88, 89, 90, 91, 92, 93] wX_allC wX_nd wX_adr wX_all rfl hl.1 rfl (Nat.le_of_ble_eq_true rfl) dL_rests_70 ⟨Nat.le_of_ble_eq_true rfl, Nat.le_of_ble_eq_true rfl⟩ (fun H locs hP hD hS => ?_)
  refine kr_top (w := M 579 + nI (g_delC 1000 M)) (del_579 1000 hI) ?_
  refine lv_iload hx hcd dL_rests_73 (lv_at hl 1 rfl) ?_
  refine lv_iload hx hcd dL_rests_75 (lv_at hl 0 rfl) ?_
  refine lv_iadd hx hcd dL_rests_77 ?_
  refine lv_icmp_eq (tgt := 83) hx hcd dL_rests_78 (by decide) (fun (c_78 : (M 579 + nI (g_delC 1000 M)) = ((M 579) + (nI (g_delC 1000 M)))) => ?_) (fun (c_78 : ¬ (M 579 + nI (g_delC 1000 M)) = ((M 579) + (nI (g_delC 1000 M)))) => absurd c_78 (not_not_intro rfl))
  obtain ⟨hP, hD⟩ := kr_re (ws2 := wX cI cB cW ob nw tr qs sc (g_rot qs (rj n r)) (g_del 1000 M) (g_del 1000 M) (sset S (pj n r) M) (g_kn n - 1 + 1) L T) hP hD (by rw [kn_back hn])
  refine lv_aload_n hx hcd dL_rests_83 rfl (lv_at hl 5 rfl) ?_
  refine kl_S (As := [.ref (ob 0)]) (rest := []) (ws2 := wX cI cB cW ob nw tr qs sc (g_rot qs (rj n r)) ((sset S (pj n r) M) (((g_kn n - 1) + (rj n r)) % 4)) (g_del 1000 M) (sset S (pj n r) M) (g_kn n - 1) L T) ⟨hx, hcd, hml, hown, hts⟩ (c_L_undo__ok l hst D cI cB cW cL ob nw tr qs sc (g_rot qs (rj n r)) (g_del 1000 M) (sset S (pj n r) M) (g_kn n - 1 + 1) L T _ (g_del 1000 M) (rj n r) (g_kn n - 1) (by have := kn_le hn; omega)) (vx_cwSW 1 hts gL_rests_L_undo rfl rfl rfl (by decide +kernel) ⟨Nat.le_of_ble_eq_true rfl, Nat.le_of_ble_eq_true rfl⟩) hZ hN hK hP hD hS hA [0, 1, 2, 3, 4, 5, 6, 7, 8, 9, 10, 11, 12, 13, 14, 15, 16, 17, 18, 19, 20, 21, 22, 23, 24, 25, 26, 27, 28, 29, 30, 31, 32, 33, 34, 35, 36, 37, 38, 39, 40, 41, 42, 43, 44, 45, 46, 47, 48, 49, 50, 51, 52, 53, 54, 55, 56, 57, 58, 59, 60, 61, 62, 63, 64, 65, 66, 67, 68, 69, 70, 71, 72, 73, 74, 75, 76, 77, 78, 79, 80, 81, 82, 83, 84, 85, 86, 87, 88, 89, 90, 91, 92, 93] wX_allC wX_nd wX_adr wX_all rfl hl.1 rfl (Nat.le_of_ble_eq_true rfl) dL_rests_84 ⟨Nat.le_of_ble_eq_true rfl, Nat.le_of_ble_eq_true rfl⟩ (fun H locs hP hD hS => ?_)
  obtain ⟨hP, hD⟩ := kr_re (ws2 := wX cI cB cW ob nw tr qs sc (g_rot qs (rj n r)) M (g_del 1000 M) (sset S (pj n r) M) (g_kn n - 1) L T) hP hD (by rw [undo_back hn (show r < 4 by omega)])
  refine kr_zlt (tgt := 112) hx hcd (by omega) dL_rests_87 (by decide) ?_
  refine lv_aload_n hx hcd dL_rests_90 rfl (lv_at hl 5 rfl) ?_
  refine kr_Vi (As := []) (rest := []) (ws2 := wX cI cB cW ob nw tr qs sc (g_rot qs (rj n r)) M (g_del 1000 M) (sset S (pj n r) M) (g_kn n - 1) L T) (q := (RX6, TX6, 5)) ⟨hx, hcd, hml, hown, hts⟩ (c_X6_underWay__ok l D cI cB cW cL ob nw tr qs sc (g_rot qs (rj n r)) (g_del 1000 M) (sset S (pj n r) M) (g_kn n - 1) L T _ M hI) (cwV 0 hts gL_rests_X6_underWay rfl rfl rfl (by decide +kernel) ⟨Nat.le_of_ble_eq_true rfl, Nat.le_of_ble_eq_true rfl⟩) hK hP hD hS hA [0, 1, 2, 3, 4, 5, 6, 7, 8, 9, 10, 11, 12, 13, 14, 15, 16, 17, 18, 19, 20, 21, 22, 23, 24, 25, 26, 27, 28, 29, 30, 31, 32, 33, 34, 35, 36, 37, 38, 39, 40, 41, 42, 43, 44, 45, 46, 47, 48, 49, 50, 51, 52, 53, 54, 55, 56, 57, 58, 59, 60, 61, 62, 63, 64, 65, 66, 67, 68, 69, 70, 71, 72, 73, 74, 75, 76, 77, 78, 79, 80, 81, 82, 83, 84, 85, 86, 87, 88, 89, 90, 91, 92, 93] wX_allC wX_nd wX_adr wX_all 0 rfl rfl rfl hl.1 rfl (Nat.le_of_ble_eq_true rfl) dL_rests_91 ⟨Nat.le_of_ble_eq_true rfl, Nat.le_of_ble_eq_true rfl⟩ (fun H locs hP hD hS => ?_)
  refine lv_iload_n hx hcd dL_rests_94 rfl (lv_at hl 4 rfl) ?_
  refine kr_cne (tgt := 112) hx hcd (by omega) (by omega) dL_rests_95 (by decide) (fun (c_95 : ¬ wyN M = wyN M) => absurd c_95 (not_not_intro rfl)) (fun (c_95 : wyN M = wyN M) => ?_)
  refine lv_aload_n hx hcd dL_rests_98 rfl (lv_at hl 5 rfl) ?_
  refine lv_iconst (v := nI 1) hx hcd dL_rests_99 (by decide) ?_
  refine kl_S (As := [.ref (ob 0), .int (nI 1)]) (rest := []) (ws2 := wX cI cB cW ob nw tr qs sc (g_rot qs (rj n r)) M (g_del 1000 M) (sset S (pj n r) M) (g_kn n - 1) L T) ⟨hx, hcd, hml, hown, hts⟩ (c_L_count__ok l hst D cI cB cW cL ob nw tr qs sc (g_rot qs (rj n r)) (g_del 1000 M) (sset S (pj n r) M) (g_kn n - 1) L T _ M 1 (by omega)) (vx_cwSW 2 hts gL_rests_L_count rfl rfl rfl (by decide +kernel) ⟨Nat.le_of_ble_eq_true rfl, Nat.le_of_ble_eq_true rfl⟩) hZ hN hK hP hD hS hA [0, 1, 2, 3, 4, 5, 6, 7, 8, 9, 10, 11, 12, 13, 14, 15, 16, 17, 18, 19, 20, 21, 22, 23, 24, 25, 26, 27, 28, 29, 30, 31, 32, 33, 34, 35, 36, 37, 38, 39, 40, 41, 42, 43, 44, 45, 46, 47, 48, 49, 50, 51, 52, 53, 54, 55, 56, 57, 58, 59, 60, 61, 62, 63, 64, 65, 66, 67, 68, 69, 70, 71, 72, 73, 74, 75, 76, 77, 78, 79, 80, 81, 82, 83, 84, 85, 86, 87, 88, 89, 90, 91, 92, 93] wX_allC wX_nd wX_adr wX_all rfl hl.1 rfl (Nat.le_of_ble_eq_true rfl) dL_rests_100 ⟨Nat.le_of_ble_eq_true rfl, Nat.le_of_ble_eq_true rfl⟩ (fun H locs hP hD hS => ?_)
  refine kr_top (w := M 579) rfl ?_
  refine lv_iload hx hcd dL_rests_103 (lv_at hl 1 rfl) ?_
  refine lv_icmp_ne (tgt := 112) hx hcd dL_rests_105 (by decide) (fun (c_105 : ¬ (M 579) = (M 579)) => absurd c_105 (not_not_intro rfl)) (fun (c_105 : (M 579) = (M 579)) => ?_)
  refine lv_iconst (v := nI 1) hx hcd dL_rests_108 (by decide) ?_
  refine lv_goto (tgt := 113) hx hcd dL_rests_109 (by decide) ?_
  exact kr_zret hx hcd hr hlocks hK hP hD hS rfl rfl rfl dL_rests_113
