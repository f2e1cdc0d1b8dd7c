section VD
variable {p : Program} {l : Launch} {e : Env} {R : Room} {s : State} {m : MethodId} {args : Array Value} {below : List Frame} {meth : Method} {c : Code} {cc : ByteArray} {H H0 : Heap} {locs : List Loc} {cells slots : Nat} {Q : State → Prop} {pc : Nat} {ls : Array Slot} {rest st0 : List Value} {D : va_G} {cl : List vw_C} {tys : List (ClassId × FieldType)} {ws : va_W} {A : Nat → Prop}
theorem kr_Vd {cc : ByteArray} {nL : Nat} {Ts : List Cond} {own : String} {index n : Nat} {y : MethodName} {bytes : ByteArray} {maxL : Nat} {ret : Option FieldType} {wsC : List Cond} {rm : Room} {wc w1 ws2 : va_W} {r0 : UInt64} {b : Nat} {As : List Value} {fs : List Value} {ci : Nat} {q : vw_C} (S : CallFix p m c cc nL s args Ts own) (hM : kMd l y wsC rm D cl tys H.size (.ref b :: As) wc w1 r0) (cw : CallW R s args own q.1 index y bytes maxL ret wsC rm 0 0 n)
    (hK : va_K D cl tys s) (hP : va_P D cl ws H) (hD : va_D A ws) (hS : va_S A H0 H locs) (hA : ∀ q, H0.size ≤ q → A q) (is : List Nat) (hC : is.map (fun i => ws[i]?) = wc.map some) (hnd : va_nd is = true) (ha : w1.map (·.1) = wc.map (·.1)) (hw : kset ws is w1 = ws2) (q0 : Nat) (he : ws[q0]? = some (b, .inr (ci, fs))) (hc : cl[ci]? = some q)
    (hn : As.length = n) (hsize : ls.size = nL) (hst : st0 = As.reverse ++ .ref b :: rest) (hW : (rest.map fun v => v.category).sum ≤ 8) (hdg : decode cc pc = .ok (.invokevirtual index, 3)) (hf : cells ≤ R.cells ∧ slots ≤ R.slots)
    (kk : ∀ (H1 : Heap) (locs1 : List Loc), va_P D cl ws2 H1 → va_D A ws2 → va_S A H0 H1 locs1 → W p l e R s m args below meth c H1 locs1 cells slots Q (F0 m (pc + 3) ls (.double r0 :: rest))) : W p l e R s m args below meth c H locs cells slots Q (F0 m pc ls st0) := by
  have hPc := kcut (A := A) hP is hC
  have hDc := hD.sub is hnd hC
  have hFc := va_free (wc := wc) hD hS hA is hC
  refine va_calld (va_runV (As := As) (rest := rest) (b := b) S hM cw ⟨kblind, va_recv hK hP hc he, fun U hU hW => ⟨rfl, by rw [hU], by rw [hU]; exact hPc, va_K.moved hW.alike hK, hDc.weaken (fun _ _ _ _ => trivial)⟩⟩ rfl hn hsize hst (lv_room hW) hdg hf) hS (fun q _ h => hFc q h) hFc (fun r u t H1 locs1 ht hvm hr hB hz1 hk1 hS1 => ?_)
  subst hr
  obtain ⟨h1, h2⟩ := kr_join (l0 := l) hP hD is hC hnd ha hw ht hk1 hB
  exact kk H1 locs1 h1 h2 hS1
end VD
set_option maxHeartbeats 4000000 in
set_option maxRecDepth 100000 in
theorem c_L_views (l : Launch) (hst : l.stackTraces = false) (D : va_G) (cI cB cW cL : ClassId) (ob nw tr : Nat → Nat) (qs : Nat → Nat → Nat) (sc : Nat → Nat) (G : Nat → Option Nat) (N : kM) (S : Nat → kM) (n L : Nat) (T : Nat → Int32) (sz : Nat) (M : kM) (B : Nat) (hI : kInv M) (hX : oX 6 B M) : kMg l yL_views wsL_views ({ frames := 5, cells := 0, slots := 0, locals := 117 }) D vwCl (kT cI cB cW cL) sz [.ref (ob 0)] (wX cI cB cW ob nw tr qs sc G M N S n L T) (wX cI cB cW ob nw tr qs sc G M N S n L T) 1 0 0 := by
  refine kr_ofg (cc := cL_views) (maxL := 9) (ret := (some .boolean)) (by decide) rfl (Nat.le_of_ble_eq_true rfl) ?_
  intro pp ee ss mm args below meth cc AA ls hx hcd hr hts hown hlocks hml hZ hN hK hP hD hA hl
  have hS : va_S AA ss.heap ss.heap [] := va_S.rf
  have hown : ss.vm.findClass RL = some mm.cls := hown
  have hl : lv_has ls 9 [(0, .ref (ob 0))] := hl
  have bv := visA_le (M := M) 6
  refine lv_iconst (v := nI 0) hx hcd dL_views_0 (by decide) ?_
  refine lv_istore_n (lv' := [(1, .int (nI 0)), (0, .ref (ob 0))]) hx hcd dL_views_1 rfl hl (by decide) rfl (fun ls hl => ?_)
  refine lv_iconst (v := nI 0) hx hcd dL_views_2 (by decide) ?_
  refine lv_istore_n (lv' := [(2, .int (nI 0)), (1, .int (nI 0)), (0, .ref (ob 0))]) hx hcd dL_views_3 rfl hl (by decide) rfl (fun ls hl => ?_)
  refine kr_up (fun a => wX cI cB cW ob nw tr qs sc G M N S n L T) (fun a => [(0, .ref (ob 0)), (1, .int (nI (g_visA M a))), (2, .int (nI a))]) 6 (nL := 9) (fun a ha ih_4 H locs ls hP hD hS hl => ?_) (fun H locs ls hP hD hS hl => ?_) 0 (by omega) hP hD hS (lv_sub hl [2, 1, 0] rfl)
  · have hl : lv_has ls 9 [(0, .ref (ob 0)), (1, .int (nI (g_visA M a))), (2, .int (nI a))] := hl
    have bw := wrA_le (M := M) (a := a) 6
    refine lv_iload_n hx hcd dL_views_4 rfl (lv_at hl 2 rfl) ?_
    refine lv_bipush (v := nI 6) hx hcd dL_views_5 (by decide) ?_
    refine kr_cge (tgt := 213) hx hcd (by omega) (by omega) dL_views_7 (by decide) (fun (c_7 : 6 ≤ a) => absurd c_7 (by omega)) (fun (c_7 : a < 6) => ?_)
    refine lv_aload_n hx hcd dL_views_10 rfl (lv_at hl 0 rfl) ?_
    refine lv_iload_n hx hcd dL_views_11 rfl (lv_at hl 2 rfl) ?_
    refine lv_iconst (v := nI 0) hx hcd dL_views_12 (by decide) ?_
    refine lv_iconst (v := nI 0) hx hcd dL_views_13 (by decide) ?_
    refine kl_S (As := [.ref (ob 0), .int (nI a), .int (nI 0), .int (nI 0)]) (rest := []) (ws2 := wX cI cB cW ob nw tr qs sc G M N S n L T) ⟨hx, hcd, hml, hown, hts⟩ (c_L_seat__ok l hst D cI cB cW cL ob nw tr qs sc G N S n L T _ M a 0 0 (by omega) (by omega) (by omega)) (vx_cwSW 4 hts gL_views_L_seat rfl rfl rfl (by decide +kernel) ⟨Nat.le_of_ble_eq_true rfl, Nat.le_of_ble_eq_true rfl⟩) hZ hN hK hP hD hS hA [0, 1, 2, 3, 4, 5, 6, 7, 8, 9, 10, 11, 12, 13, 14, 15, 16, 17, 18, 19, 20, 21, 22, 23, 24, 25, 26, 27, 28, 29, 30, 31, 32, 33, 34, 35, 36, 37, 38, 39, 40, 41, 42, 43, 44, 45, 46, 47, 48, 49, 50, 51, 52, 53, 54, 55, 56, 57, 58, 59, 60, 61, 62, 63, 64, 65, 66, 67, 68, 69, 70, 71, 72, 73, 74, 75, 76, 77, 78, 79, 80, 81, 82, 83, 84, 85, 86, 87, 88, 89, 90, 91, 92, 93] wX_allC wX_nd wX_adr wX_all rfl hl.1 rfl (Nat.le_of_ble_eq_true rfl) dL_views_14 ⟨Nat.le_of_ble_eq_true rfl, Nat.le_of_ble_eq_true rfl⟩ (fun H locs hP hD hS => ?_)
    refine lv_aload_n hx hcd dL_views_17 rfl (lv_at hl 0 rfl) ?_
    refine lv_iload_n hx hcd dL_views_18 rfl (lv_at hl 2 rfl) ?_
    refine lv_iconst (v := nI 1) hx hcd dL_views_19 (by decide) ?_
    refine lv_iconst (v := nI 0) hx hcd dL_views_20 (by decide) ?_
    refine kl_S (As := [.ref (ob 0), .int (nI a), .int (nI 1), .int (nI 0)]) (rest := [.int (M (9 * a + 3 * 0 + 0))]) (ws2 := wX cI cB cW ob nw tr qs sc G M N S n L T) ⟨hx, hcd, hml, hown, hts⟩ (c_L_seat__ok l hst D cI cB cW cL ob nw tr qs sc G N S n L T _ M a 1 0 (by omega) (by omega) (by omega)) (vx_cwSW 4 hts gL_views_L_seat rfl rfl rfl (by decide +kernel) ⟨Nat.le_of_ble_eq_true rfl, Nat.le_of_ble_eq_true rfl⟩) hZ hN hK hP hD hS hA [0, 1, 2, 3, 4, 5, 6, 7, 8, 9, 10, 11, 12, 13, 14, 15, 16, 17, 18, 19, 20, 21, 22, 23, 24, 25, 26, 27, 28, 29, 30, 31, 32, 33, 34, 35, 36, 37, 38, 39, 40, 41, 42, 43, 44, 45, 46, 47, 48, 49, 50, 51, 52, 53, 54, 55, 56, 57, 58, 59, 60, 61, 62, 63, 64, 65, 66, 67, 68, 69, 70, 71, 72, 73, 74, 75, 76, 77, 78, 79, 80, 81, 82, 83, 84, 85, 86, 87, 88, 89, 90, 91, 92, 93] wX_allC wX_nd wX_adr wX_all rfl hl.1 rfl (Nat.le_of_ble_eq_true rfl) dL_views_21 ⟨Nat.le_of_ble_eq_true rfl, Nat.le_of_ble_eq_true rfl⟩ (fun H locs hP hD hS => ?_)
    refine lv_iadd hx hcd dL_views_24 ?_
    refine lv_aload_n hx hcd dL_views_25 rfl (lv_at hl 0 rfl) ?_
    refine lv_iload_n hx hcd dL_views_26 rfl (lv_at hl 2 rfl) ?_
    refine lv_iconst (v := nI 2) hx hcd dL_views_27 (by decide) ?_
    refine lv_iconst (v := nI 0) hx hcd dL_views_28 (by decide) ?_
    refine kl_S (As := [.ref (ob 0), .int (nI a), .int (nI 2), .int (nI 0)]) (rest := [.int ((M (9 * a + 3 * 0 + 0)) + (M (9 * a + 3 * 1 + 0)))]) (ws2 := wX cI cB cW ob nw tr qs sc G M N S n L T) ⟨hx, hcd, hml, hown, hts⟩ (c_L_seat__ok l hst D cI cB cW cL ob nw tr qs sc G N S n L T _ M a 2 0 (by omega) (by omega) (by omega)) (vx_cwSW 4 hts gL_views_L_seat rfl rfl rfl (by decide +kernel) ⟨Nat.le_of_ble_eq_true rfl, Nat.le_of_ble_eq_true rfl⟩) hZ hN hK hP hD hS hA [0, 1, 2, 3, 4, 5, 6, 7, 8, 9, 10, 11, 12, 13, 14, 15, 16, 17, 18, 19, 20, 21, 22, 23, 24, 25, 26, 27, 28, 29, 30, 31, 32, 33, 34, 35, 36, 37, 38, 39, 40, 41, 42, 43, 44, 45, 46, 47, 48, 49, 50, 51, 52, 53, 54, 55, 56, 57, 58, 59, 60, 61, 62, 63, 64, 65, 66, 67, 68, 69, 70, 71, 72, 73, 74, 75, 76, 77, 78, 79, 80, 81, 82, 83, 84, 85, 86, 87, 88, 89, 90, 91, 92, 93] wX_allC wX_nd wX_adr wX_all rfl hl.1 rfl (Nat.le_of_ble_eq_true rfl) dL_views_29 ⟨Nat.le_of_ble_eq_true rfl, Nat.le_of_ble_eq_true rfl⟩ (fun H locs hP hD hS => ?_)
    refine lv_iadd hx hcd dL_views_32 ?_
    refine kr_top (w := g_cnt M a) seat3 ?_
    refine lv_istore_n (lv' := [(3, .int (g_cnt M a)), (0, .ref (ob 0)), (1, .int (nI (g_visA M a))), (2, .int (nI a))]) hx hcd dL_views_33 rfl hl (by decide) rfl (fun ls hl => ?_)
    refine lv_aload_n hx hcd dL_views_34 rfl (lv_at hl 1 rfl) ?_
    refine lv_iload_n hx hcd dL_views_35 rfl (lv_at hl 3 rfl) ?_
    refine kl_S (As := [.ref (ob 0), .int (nI a)]) (rest := []) (ws2 := wX cI cB cW ob nw tr qs sc G M N S n L T) ⟨hx, hcd, hml, hown, hts⟩ (c_L_bestSeat__ok l hst D cI cB cW cL ob nw tr qs sc G N S n L T _ M a (by omega)) (vx_cwSW 2 hts gL_views_L_bestSeat rfl rfl rfl (by decide +kernel) ⟨Nat.le_of_ble_eq_true rfl, Nat.le_of_ble_eq_true rfl⟩) hZ hN hK hP hD hS hA [0, 1, 2, 3, 4, 5, 6, 7, 8, 9, 10, 11, 12, 13, 14, 15, 16, 17, 18, 19, 20, 21, 22, 23, 24, 25, 26, 27, 28, 29, 30, 31, 32, 33, 34, 35, 36, 37, 38, 39, 40, 41, 42, 43, 44, 45, 46, 47, 48, 49, 50, 51, 52, 53, 54, 55, 56, 57, 58, 59, 60, 61, 62, 63, 64, 65, 66, 67, 68, 69, 70, 71, 72, 73, 74, 75, 76, 77, 78, 79, 80, 81, 82, 83, 84, 85, 86, 87, 88, 89, 90, 91, 92, 93] wX_allC wX_nd wX_adr wX_all rfl hl.1 rfl (Nat.le_of_ble_eq_true rfl) dL_views_36 ⟨Nat.le_of_ble_eq_true rfl, Nat.le_of_ble_eq_true rfl⟩ (fun H locs hP hD hS => ?_)
    refine lv_istore (lv' := [(4, .int ((g_bst M a 3).1)), (3, .int (g_cnt M a)), (0, .ref (ob 0)), (1, .int (nI (g_visA M a))), (2, .int (nI a))]) hx hcd dL_views_39 hl (by decide) rfl (fun ls hl => ?_)
    refine lv_iload hx hcd dL_views_41 (lv_at hl 0 rfl) ?_
    refine lv_iconst (v := (-1)) hx hcd dL_views_43 (by decide) ?_
    refine lv_icmp_lt (tgt := 101) hx hcd dL_views_44 (by decide) (fun (c_44 : ((g_bst M a 3).1) < (-1)) => absurd c_44 bst_lo) (fun (c_44 : ¬ ((g_bst M a 3).1) < (-1)) => ?_)
    refine lv_iload hx hcd dL_views_47 (lv_at hl 0 rfl) ?_
    refine lv_iconst (v := nI 2) hx hcd dL_views_49 (by decide) ?_
    refine lv_icmp_gt (tgt := 101) hx hcd dL_views_50 (by decide) (fun (c_50 : 2 < ((g_bst M a 3).1)) => absurd c_50 bst_hi) (fun (c_50 : ¬ 2 < ((g_bst M a 3).1)) => ?_)
    refine kr_cut (D := D) (cl := vwCl) (A := AA) (ws := wX cI cB cW ob nw tr qs sc G M N S n L T) (H0 := ss.heap) (g := F0 mm 81 ls []) (fun kM_53 => ?_) (fun H locs hP hD hS => ?_)
    · refine lv_iload hx hcd dL_views_53 (lv_at hl 0 rfl) ?_
      refine lv_if_lt (tgt := 81) hx hcd dL_views_55 (by decide) (fun (c_55 : ((g_bst M a 3).1) < 0) => ?_) (fun (c_55 : ¬ ((g_bst M a 3).1) < 0) => ?_)
      · exact kM_53 _ _ hP hD hS
      · obtain ⟨z, hz, ez, e1, e2⟩ := bst_get c_55
        refine lv_aload_n hx hcd dL_views_58 rfl (lv_at hl 2 rfl) ?_
        refine lv_iload_n hx hcd dL_views_59 rfl (lv_at hl 4 rfl) ?_
        refine lv_iload hx hcd dL_views_60 (lv_at hl 0 rfl) ?_
        refine kr_top (w := nI z) ez ?_
        refine lv_iconst (v := nI 0) hx hcd dL_views_62 (by decide) ?_
        refine kl_S (As := [.ref (ob 0), .int (nI a), .int (nI z), .int (nI 0)]) (rest := []) (ws2 := wX cI cB cW ob nw tr qs sc G M N S n L T) ⟨hx, hcd, hml, hown, hts⟩ (c_L_seat__ok l hst D cI cB cW cL ob nw tr qs sc G N S n L T _ M a z 0 (by omega) (by omega) (by omega)) (vx_cwSW 4 hts gL_views_L_seat rfl rfl rfl (by decide +kernel) ⟨Nat.le_of_ble_eq_true rfl, Nat.le_of_ble_eq_true rfl⟩) hZ hN hK hP hD hS hA [0, 1, 2, 3, 4, 5, 6, 7, 8, 9, 10, 11, 12, 13, 14, 15, 16, 17, 18, 19, 20, 21, 22, 23, 24, 25, 26, 27, 28, 29, 30, 31, 32, 33, 34, 35, 36, 37, 38, 39, 40, 41, 42, 43, 44, 45, 46, 47, 48, 49, 50, 51, 52, 53, 54, 55, 56, 57, 58, 59, 60, 61, 62, 63, 64, 65, 66, 67, 68, 69, 70, 71, 72, 73, 74, 75, 76, 77, 78, 79, 80, 81, 82, 83, 84, 85, 86, 87, 88, 89, 90, 91, 92, 93] wX_allC wX_nd wX_adr wX_all rfl hl.1 rfl (Nat.le_of_ble_eq_true rfl) dL_views_63 ⟨Nat.le_of_ble_eq_true rfl, Nat.le_of_ble_eq_true rfl⟩ (fun H locs hP hD hS => ?_)
        refine lv_iconst (v := nI 1) hx hcd dL_views_66 (by decide) ?_
        refine lv_icmp_ne (tgt := 101) hx hcd dL_views_67 (by decide) (fun (c_67 : ¬ (M (9 * a + 3 * z + 0)) = 1) => absurd c_67 (not_not_intro e1)) (fun (c_67 : (M (9 * a + 3 * z + 0)) = 1) => ?_)
        refine lv_aload_n hx hcd dL_views_70 rfl (lv_at hl 2 rfl) ?_
        refine lv_iload_n hx hcd dL_views_71 rfl (lv_at hl 4 rfl) ?_
        refine lv_iload hx hcd dL_views_72 (lv_at hl 0 rfl) ?_
        refine kr_top (w := nI z) ez ?_
        refine lv_iconst (v := nI 1) hx hcd dL_views_74 (by decide) ?_
        refine kl_S (As := [.ref (ob 0), .int (nI a), .int (nI z), .int (nI 1)]) (rest := []) (ws2 := wX cI cB cW ob nw tr qs sc G M N S n L T) ⟨hx, hcd, hml, hown, hts⟩ (c_L_seat__ok l hst D cI cB cW cL ob nw tr qs sc G N S n L T _ M a z 1 (by omega) (by omega) (by omega)) (vx_cwSW 4 hts gL_views_L_seat rfl rfl rfl (by decide +kernel) ⟨Nat.le_of_ble_eq_true rfl, Nat.le_of_ble_eq_true rfl⟩) hZ hN hK hP hD hS hA [0, 1, 2, 3, 4, 5, 6, 7, 8, 9, 10, 11, 12, 13, 14, 15, 16, 17, 18, 19, 20, 21, 22, 23, 24, 25, 26, 27, 28, 29, 30, 31, 32, 33, 34, 35, 36, 37, 38, 39, 40, 41, 42, 43, 44, 45, 46, 47, 48, 49, 50, 51, 52, 53, 54, 55, 56, 57, 58, 59, 60, 61, 62, 63, 64, 65, 66, 67, 68, 69, 70, 71, 72, 73, 74, 75, 76, 77, 78, 79, 80, 81, 82, 83, 84, 85, 86, 87, 88, 89, 90, 91, 92, 93] wX_allC wX_nd wX_adr wX_all rfl hl.1 rfl (Nat.le_of_ble_eq_true rfl) dL_views_75 ⟨Nat.le_of_ble_eq_true rfl, Nat.le_of_ble_eq_true rfl⟩ (fun H locs hP hD hS => ?_)
        refine lv_if_lt (tgt := 101) hx hcd dL_views_78 (by decide) (fun (c_78 : (M (9 * a + 3 * z + 1)) < 0) => absurd c_78 e2) (fun (c_78 : ¬ (M (9 * a + 3 * z + 1)) < 0) => ?_)
        exact kM_53 _ _ hP hD hS
    · refine kr_cut (D := D) (cl := vwCl) (A := AA) (ws := wX cI cB cW ob nw tr qs sc G M N S n L T) (H0 := ss.heap) (g := F0 mm 93 ls []) (fun kM_81 => ?_) (fun H locs hP hD hS => ?_)
      · refine lv_iload_n hx hcd dL_views_81 rfl (lv_at hl 1 rfl) ?_
        refine lv_if_ne (tgt := 93) hx hcd dL_views_82 (by decide) (fun (c_82 : ¬ (g_cnt M a) = 0) => ?_) (fun (c_82 : (g_cnt M a) = 0) => ?_)
        · exact kM_81 _ _ hP hD hS
        · refine lv_aload_n hx hcd dL_views_85 rfl (lv_at hl 2 rfl) ?_
          refine lv_iload_n hx hcd dL_views_86 rfl (lv_at hl 4 rfl) ?_
          refine kl_S (As := [.ref (ob 0), .int (nI a)]) (rest := []) (ws2 := wX cI cB cW ob nw tr qs sc G M N S n L T) ⟨hx, hcd, hml, hown, hts⟩ (c_L_wrongViews__ok l hst D cI cB cW cL ob nw tr qs sc G N S n L T _ M a (by omega)) (vx_cwSW 2 hts gL_views_L_wrongViews rfl rfl rfl (by decide +kernel) ⟨Nat.le_of_ble_eq_true rfl, Nat.le_of_ble_eq_true rfl⟩) hZ hN hK hP hD hS hA [0, 1, 2, 3, 4, 5, 6, 7, 8, 9, 10, 11, 12, 13, 14, 15, 16, 17, 18, 19, 20, 21, 22, 23, 24, 25, 26, 27, 28, 29, 30, 31, 32, 33, 34, 35, 36, 37, 38, 39, 40, 41, 42, 43, 44, 45, 46, 47, 48, 49, 50, 51, 52, 53, 54, 55, 56, 57, 58, 59, 60, 61, 62, 63, 64, 65, 66, 67, 68, 69, 70, 71, 72, 73, 74, 75, 76, 77, 78, 79, 80, 81, 82, 83, 84, 85, 86, 87, 88, 89, 90, 91, 92, 93] wX_allC wX_nd wX_adr wX_all rfl hl.1 rfl (Nat.le_of_ble_eq_true rfl) dL_views_87 ⟨Nat.le_of_ble_eq_true rfl, Nat.le_of_ble_eq_true rfl⟩ (fun H locs hP hD hS => ?_)
          refine kr_zne (tgt := 101) hx hcd (by omega) dL_views_90 (by decide) (fun (c_90 : 0 < g_wrA M a 6) => absurd c_90 (by have := wr_z hX ha c_82; omega)) (fun (c_90 : g_wrA M a 6 = 0) => ?_)
          exact kM_81 _ _ hP hD hS
      · refine lv_aload_n hx hcd dL_views_93 rfl (lv_at hl 2 rfl) ?_
        refine lv_iload_n hx hcd dL_views_94 rfl (lv_at hl 4 rfl) ?_
        refine kl_S (As := [.ref (ob 0), .int (nI a)]) (rest := []) (ws2 := wX cI cB cW ob nw tr qs sc G M N S n L T) ⟨hx, hcd, hml, hown, hts⟩ (c_L_wrongViews__ok l hst D cI cB cW cL ob nw tr qs sc G N S n L T _ M a (by omega)) (vx_cwSW 2 hts gL_views_L_wrongViews rfl rfl rfl (by decide +kernel) ⟨Nat.le_of_ble_eq_true rfl, Nat.le_of_ble_eq_true rfl⟩) hZ hN hK hP hD hS hA [0, 1, 2, 3, 4, 5, 6, 7, 8, 9, 10, 11, 12, 13, 14, 15, 16, 17, 18, 19, 20, 21, 22, 23, 24, 25, 26, 27, 28, 29, 30, 31, 32, 33, 34, 35, 36, 37, 38, 39, 40, 41, 42, 43, 44, 45, 46, 47, 48, 49, 50, 51, 52, 53, 54, 55, 56, 57, 58, 59, 60, 61, 62, 63, 64, 65, 66, 67, 68, 69, 70, 71, 72, 73, 74, 75, 76, 77, 78, 79, 80, 81, 82, 83, 84, 85, 86, 87, 88, 89, 90, 91, 92, 93] wX_allC wX_nd wX_adr wX_all rfl hl.1 rfl (Nat.le_of_ble_eq_true rfl) dL_views_95 ⟨Nat.le_of_ble_eq_true rfl, Nat.le_of_ble_eq_true rfl⟩ (fun H locs hP hD hS => ?_)
        refine kr_zge (tgt := 103) hx hcd (by omega) dL_views_98 (by decide) ?_
        refine lv_iconst (v := nI 0) hx hcd dL_views_103 (by decide) ?_
        refine lv_istore (lv' := [(5, .int (nI 0)), (4, .int ((g_bst M a 3).1)), (3, .int (g_cnt M a)), (0, .ref (ob 0)), (1, .int (nI (g_visA M a))), (2, .int (nI a))]) hx hcd dL_views_104 hl (by decide) rfl (fun ls hl => ?_)
        refine kr_up (fun b => wX cI cB cW ob nw tr qs sc G M N S n L T) (fun b => [(0, .ref (ob 0)), (1, .int (nI (g_visA M a + g_visR M a b))), (2, .int (nI a)), (3, .int (g_cnt M a)), (5, .int (nI b))]) 6 (nL := 9) (fun b hb ih_106 H locs ls hP hD hS hl => ?_) (fun H locs ls hP hD hS hl => ?_) 0 (by omega) hP hD hS (lv_sub hl [3, 4, 5, 2, 0] rfl)
        · have hl : lv_has ls 9 [(0, .ref (ob 0)), (1, .int (nI (g_visA M a + g_visR M a b))), (2, .int (nI a)), (3, .int (g_cnt M a)), (5, .int (nI b))] := hl
          refine lv_iload hx hcd dL_views_106 (lv_at hl 4 rfl) ?_
          refine lv_bipush (v := nI 6) hx hcd dL_views_108 (by decide) ?_
          refine kr_cge (tgt := 207) hx hcd (by omega) (by omega) dL_views_110 (by decide) (fun (c_110 : 6 ≤ b) => absurd c_110 (by omega)) (fun (c_110 : b < 6) => ?_)
          by_cases hab : a = b
          · refine lv_iconst (v := nI 0) hx hcd dL_views_113 (by decide) ?_
            refine lv_istore (lv' := [(6, .int (nI 0)), (0, .ref (ob 0)), (1, .int (nI (g_visA M a + g_visR M a b))), (2, .int (nI a)), (3, .int (g_cnt M a)), (5, .int (nI b))]) hx hcd dL_views_114 hl (by decide) rfl (fun ls hl => ?_)
            refine lv_iconst (v := nI 0) hx hcd dL_views_116 (by decide) ?_
            refine lv_istore (lv' := [(7, .int (nI 0)), (6, .int (nI 0)), (0, .ref (ob 0)), (1, .int (nI (g_visA M a + g_visR M a b))), (2, .int (nI a)), (3, .int (g_cnt M a)), (5, .int (nI b))]) hx hcd dL_views_117 hl (by decide) rfl (fun ls hl => ?_)
            refine lv_iload hx hcd dL_views_119 (lv_at hl 0 rfl) ?_
            refine lv_iconst (v := nI 3) hx hcd dL_views_121 (by decide) ?_
            refine kr_cge (tgt := 188) hx hcd (by omega) (by omega) dL_views_122 (by decide) (fun (c_122 : 3 ≤ 0) => absurd c_122 (by omega)) (fun (c_122 : 0 < 3) => ?_)
            refine lv_iload_n hx hcd dL_views_125 rfl (lv_at hl 4 rfl) ?_
            refine lv_iload hx hcd dL_views_126 (lv_at hl 6 rfl) ?_
            refine kr_ceq (tgt := 188) hx hcd (by omega) (by omega) dL_views_128 (by decide) (fun (c_128 : a = b) => ?_) (fun (c_128 : ¬ a = b) => absurd c_128 (not_not_intro hab))
            refine lv_iload_n hx hcd dL_views_188 rfl (lv_at hl 3 rfl) ?_
            refine lv_iload hx hcd dL_views_189 (lv_at hl 1 rfl) ?_
            refine kr_zeq (tgt := 198) hx hcd (by omega) dL_views_191 (by decide) (fun (c_191 : 0 = 0) => ?_) (fun (c_191 : 0 < 0) => absurd c_191 (by omega))
            refine lv_iconst (v := nI 0) hx hcd dL_views_198 (by decide) ?_
            refine kr_add hx hcd dL_views_199 ?_
            refine lv_istore_n (lv' := [(1, .int (nI ((g_visA M a + g_visR M a b) + 0))), (7, .int (nI 0)), (6, .int (nI 0)), (0, .ref (ob 0)), (2, .int (nI a)), (3, .int (g_cnt M a)), (5, .int (nI b))]) hx hcd dL_views_200 rfl hl (by decide) rfl (fun ls hl => ?_)
            refine kr_iinc (lv' := [(5, .int (nI (b + 1))), (1, .int (nI ((g_visA M a + g_visR M a b) + 0))), (7, .int (nI 0)), (6, .int (nI 0)), (0, .ref (ob 0)), (2, .int (nI a)), (3, .int (g_cnt M a))]) hx hcd dL_views_201 hl (k := 6) rfl (by decide) rfl (fun ls hl => ?_)
            refine lv_goto (tgt := 106) hx hcd dL_views_204 (by decide) ?_
            have hl : lv_has ls 9 [(0, .ref (ob 0)), (1, .int (nI ((g_visA M a + g_visR M a b) + 0))), (2, .int (nI a)), (3, .int (g_cnt M a)), (5, .int (nI (b + 1)))] := lv_sub hl [4, 1, 5, 6, 0] rfl
            have e9 : ([(0, .ref (ob 0)), (1, .int (nI ((g_visA M a + g_visR M a b) + 0))), (2, .int (nI a)), (3, .int (g_cnt M a)), (5, .int (nI (b + 1)))] : List (Nat × Value)) = [(0, .ref (ob 0)), (1, .int (nI (g_visA M a + g_visR M a (b + 1)))), (2, .int (nI a)), (3, .int (g_cnt M a)), (5, .int (nI (b + 1)))] := by first | rw [vis_t c_191] | rw [Nat.add_zero, vis_f c_191] | rw [Nat.add_zero, vis_f (by rw [← hab]; exact hv_self hX ha)]
            exact ih_106 H locs ls hP hD hS (e9 ▸ hl)
          · refine lv_iconst (v := nI 0) hx hcd dL_views_113 (by decide) ?_
            refine lv_istore (lv' := [(6, .int (nI 0)), (0, .ref (ob 0)), (1, .int (nI (g_visA M a + g_visR M a b))), (2, .int (nI a)), (3, .int (g_cnt M a)), (5, .int (nI b))]) hx hcd dL_views_114 hl (by decide) rfl (fun ls hl => ?_)
            refine lv_iconst (v := nI 0) hx hcd dL_views_116 (by decide) ?_
            refine lv_istore (lv' := [(7, .int (nI 0)), (6, .int (nI 0)), (0, .ref (ob 0)), (1, .int (nI (g_visA M a + g_visR M a b))), (2, .int (nI a)), (3, .int (g_cnt M a)), (5, .int (nI b))]) hx hcd dL_views_117 hl (by decide) rfl (fun ls hl => ?_)
            refine kr_up (fun z => wX cI cB cW ob nw tr qs sc G M N S n L T) (fun z => [(0, .ref (ob 0)), (1, .int (nI (g_visA M a + g_visR M a b))), (2, .int (nI a)), (3, .int (g_cnt M a)), (5, .int (nI b)), (6, .int (kI (g_hv M a b z))), (7, .int (nI z))]) 3 (nL := 9) (fun z hz ih_119 H locs ls hP hD hS hl => ?_) (fun H locs ls hP hD hS hl => ?_) 0 (by omega) hP hD hS (lv_sub hl [2, 3, 4, 5, 6, 1, 0] rfl)
            · have hl : lv_has ls 9 [(0, .ref (ob 0)), (1, .int (nI (g_visA M a + g_visR M a b))), (2, .int (nI a)), (3, .int (g_cnt M a)), (5, .int (nI b)), (6, .int (kI (g_hv M a b z))), (7, .int (nI z))] := hl
              obtain ⟨v1, v2, v3, v4⟩ := vw_r hX ha hb hz
              refine lv_iload hx hcd dL_views_119 (lv_at hl 6 rfl) ?_
              refine lv_iconst (v := nI 3) hx hcd dL_views_121 (by decide) ?_
              refine kr_cge (tgt := 188) hx hcd (by omega) (by omega) dL_views_122 (by decide) (fun (c_122 : 3 ≤ z) => absurd c_122 (by omega)) (fun (c_122 : z < 3) => ?_)
              refine lv_iload_n hx hcd dL_views_125 rfl (lv_at hl 2 rfl) ?_
              refine lv_iload hx hcd dL_views_126 (lv_at hl 4 rfl) ?_
              refine kr_ceq (tgt := 188) hx hcd (by omega) (by omega) dL_views_128 (by decide) (fun (c_128 : a = b) => absurd c_128 hab) (fun (c_128 : ¬ a = b) => ?_)
              refine lv_aload_n hx hcd dL_views_131 rfl (lv_at hl 0 rfl) ?_
              refine lv_iload_n hx hcd dL_views_132 rfl (lv_at hl 2 rfl) ?_
              refine lv_iload hx hcd dL_views_133 (lv_at hl 4 rfl) ?_
              refine lv_iload hx hcd dL_views_135 (lv_at hl 6 rfl) ?_
              refine kl_S (As := [.ref (ob 0), .int (nI a), .int (nI b), .int (nI z)]) (rest := []) (ws2 := wX cI cB cW ob nw tr qs sc G M N S n L T) ⟨hx, hcd, hml, hown, hts⟩ (c_L_view__ok l hst D cI cB cW cL ob nw tr qs sc G N S n L T _ M a b z (by omega) (by omega) (by omega) (by omega)) (vx_cwSW 4 hts gL_views_L_view rfl rfl rfl (by decide +kernel) ⟨Nat.le_of_ble_eq_true rfl, Nat.le_of_ble_eq_true rfl⟩) hZ hN hK hP hD hS hA [0, 1, 2, 3, 4, 5, 6, 7, 8, 9, 10, 11, 12, 13, 14, 15, 16, 17, 18, 19, 20, 21, 22, 23, 24, 25, 26, 27, 28, 29, 30, 31, 32, 33, 34, 35, 36, 37, 38, 39, 40, 41, 42, 43, 44, 45, 46, 47, 48, 49, 50, 51, 52, 53, 54, 55, 56, 57, 58, 59, 60, 61, 62, 63, 64, 65, 66, 67, 68, 69, 70, 71, 72, 73, 74, 75, 76, 77, 78, 79, 80, 81, 82, 83, 84, 85, 86, 87, 88, 89, 90, 91, 92, 93] wX_allC wX_nd wX_adr wX_all rfl hl.1 rfl (Nat.le_of_ble_eq_true rfl) dL_views_137 ⟨Nat.le_of_ble_eq_true rfl, Nat.le_of_ble_eq_true rfl⟩ (fun H locs hP hD hS => ?_)
              refine lv_istore (lv' := [(8, .int (M (132 + 18 * a + 3 * b + z))), (0, .ref (ob 0)), (1, .int (nI (g_visA M a + g_visR M a b))), (2, .int (nI a)), (3, .int (g_cnt M a)), (5, .int (nI b)), (6, .int (kI (g_hv M a b z))), (7, .int (nI z))]) hx hcd dL_views_140 hl (by decide) rfl (fun ls hl => ?_)
              refine kr_cut (D := D) (cl := vwCl) (A := AA) (ws := wX cI cB cW ob nw tr qs sc G M N S n L T) (H0 := ss.heap) (g := F0 mm 157 ls [.int (kI (g_hv M a b (z + 1)))]) (fun kM_142 => ?_) (fun H locs hP hD hS => ?_)
              · refine lv_iload hx hcd dL_views_142 (lv_at hl 6 rfl) ?_
                refine kr_bne (tgt := 152) hx hcd dL_views_144 (by decide) (fun (c_144 : g_hv M a b z = true) => ?_) (fun (c_144 : g_hv M a b z = false) => ?_)
                · refine lv_iconst (v := nI 1) hx hcd dL_views_152 (by decide) ?_
                  refine lv_goto (tgt := 157) hx hcd dL_views_153 (by decide) ?_
                  refine kr_top (w := kI (g_hv M a b (z + 1))) (by first | exact hv_a c_144 | exact hv_b c_149 | exact hv_c c_144 (v3 c_149)) ?_
                  exact kM_142 _ _ hP hD hS
                · refine lv_iload hx hcd dL_views_147 (lv_at hl 0 rfl) ?_
                  refine lv_if_lt (tgt := 156) hx hcd dL_views_149 (by decide) (fun (c_149 : (M (132 + 18 * a + 3 * b + z)) < 0) => ?_) (fun (c_149 : ¬ (M (132 + 18 * a + 3 * b + z)) < 0) => ?_)
                  · refine lv_iconst (v := nI 0) hx hcd dL_views_156 (by decide) ?_
                    refine kr_top (w := kI (g_hv M a b (z + 1))) (by first | exact hv_a c_144 | exact hv_b c_149 | exact hv_c c_144 (v3 c_149)) ?_
                    exact kM_142 _ _ hP hD hS
                  · refine lv_iconst (v := nI 1) hx hcd dL_views_152 (by decide) ?_
                    refine lv_goto (tgt := 157) hx hcd dL_views_153 (by decide) ?_
                    refine kr_top (w := kI (g_hv M a b (z + 1))) (by first | exact hv_a c_144 | exact hv_b c_149 | exact hv_c c_144 (v3 c_149)) ?_
                    exact kM_142 _ _ hP hD hS
              · refine lv_istore (lv' := [(6, .int (kI (g_hv M a b (z + 1)))), (8, .int (M (132 + 18 * a + 3 * b + z))), (0, .ref (ob 0)), (1, .int (nI (g_visA M a + g_visR M a b))), (2, .int (nI a)), (3, .int (g_cnt M a)), (5, .int (nI b)), (7, .int (nI z))]) hx hcd dL_views_157 hl (by decide) rfl (fun ls hl => ?_)
                refine lv_iload hx hcd dL_views_159 (lv_at hl 1 rfl) ?_
                refine lv_iconst (v := (-1)) hx hcd dL_views_161 (by decide) ?_
                refine lv_icmp_lt (tgt := 180) hx hcd dL_views_162 (by decide) (fun (c_162 : (M (132 + 18 * a + 3 * b + z)) < (-1)) => absurd c_162 v1) (fun (c_162 : ¬ (M (132 + 18 * a + 3 * b + z)) < (-1)) => ?_)
                refine lv_iload hx hcd dL_views_165 (lv_at hl 1 rfl) ?_
                refine lv_iconst (v := nI 4) hx hcd dL_views_167 (by decide) ?_
                refine lv_icmp_gt (tgt := 180) hx hcd dL_views_168 (by decide) (fun (c_168 : 4 < (M (132 + 18 * a + 3 * b + z))) => absurd c_168 v2) (fun (c_168 : ¬ 4 < (M (132 + 18 * a + 3 * b + z))) => ?_)
                refine kr_cut (D := D) (cl := vwCl) (A := AA) (ws := wX cI cB cW ob nw tr qs sc G M N S n L T) (H0 := ss.heap) (g := F0 mm 182 ls []) (fun kM_171 => ?_) (fun H locs hP hD hS => ?_)
                · refine lv_iload_n hx hcd dL_views_171 rfl (lv_at hl 5 rfl) ?_
                  refine lv_if_ne (tgt := 182) hx hcd dL_views_172 (by decide) (fun (c_172 : ¬ (g_cnt M a) = 0) => ?_) (fun (c_172 : (g_cnt M a) = 0) => ?_)
                  · exact kM_171 _ _ hP hD hS
                  · refine lv_iload hx hcd dL_views_175 (lv_at hl 1 rfl) ?_
                    refine lv_if_lt (tgt := 182) hx hcd dL_views_177 (by decide) (fun (c_177 : (M (132 + 18 * a + 3 * b + z)) < 0) => ?_) (fun (c_177 : ¬ (M (132 + 18 * a + 3 * b + z)) < 0) => absurd c_177 (not_not_intro (v4 c_172)))
                    exact kM_171 _ _ hP hD hS
                · refine kr_iinc (lv' := [(7, .int (nI (z + 1))), (6, .int (kI (g_hv M a b (z + 1)))), (8, .int (M (132 + 18 * a + 3 * b + z))), (0, .ref (ob 0)), (1, .int (nI (g_visA M a + g_visR M a b))), (2, .int (nI a)), (3, .int (g_cnt M a)), (5, .int (nI b))]) hx hcd dL_views_182 hl (k := 7) rfl (by decide) rfl (fun ls hl => ?_)
                  refine lv_goto (tgt := 119) hx hcd dL_views_185 (by decide) ?_
                  have hl : lv_has ls 9 [(0, .ref (ob 0)), (1, .int (nI (g_visA M a + g_visR M a b))), (2, .int (nI a)), (3, .int (g_cnt M a)), (5, .int (nI b)), (6, .int (kI (g_hv M a b (z + 1)))), (7, .int (nI (z + 1)))] := lv_sub hl [3, 4, 5, 6, 7, 1, 0] rfl
                  have e9 : ([(0, .ref (ob 0)), (1, .int (nI (g_visA M a + g_visR M a b))), (2, .int (nI a)), (3, .int (g_cnt M a)), (5, .int (nI b)), (6, .int (kI (g_hv M a b (z + 1)))), (7, .int (nI (z + 1)))] : List (Nat × Value)) = [(0, .ref (ob 0)), (1, .int (nI (g_visA M a + g_visR M a b))), (2, .int (nI a)), (3, .int (g_cnt M a)), (5, .int (nI b)), (6, .int (kI (g_hv M a b (z + 1)))), (7, .int (nI (z + 1)))] := by rfl
                  exact ih_119 H locs ls hP hD hS (e9 ▸ hl)
            · have hl : lv_has ls 9 [(0, .ref (ob 0)), (1, .int (nI (g_visA M a + g_visR M a b))), (2, .int (nI a)), (3, .int (g_cnt M a)), (5, .int (nI b)), (6, .int (kI (g_hv M a b 3))), (7, .int (nI 3))] := hl
              refine lv_iload hx hcd dL_views_119 (lv_at hl 6 rfl) ?_
              refine lv_iconst (v := nI 3) hx hcd dL_views_121 (by decide) ?_
              refine kr_cge (tgt := 188) hx hcd (by omega) (by omega) dL_views_122 (by decide) (fun (c_122 : 3 ≤ 3) => ?_) (fun (c_122 : 3 < 3) => absurd c_122 (by omega))
              refine lv_iload_n hx hcd dL_views_188 rfl (lv_at hl 1 rfl) ?_
              refine lv_iload hx hcd dL_views_189 (lv_at hl 5 rfl) ?_
              refine kr_beq (tgt := 198) hx hcd dL_views_191 (by decide) (fun (c_191 : g_hv M a b 3 = false) => ?_) (fun (c_191 : g_hv M a b 3 = true) => ?_)
              · refine lv_iconst (v := nI 0) hx hcd dL_views_198 (by decide) ?_
                refine kr_add hx hcd dL_views_199 ?_
                refine lv_istore_n (lv' := [(1, .int (nI ((g_visA M a + g_visR M a b) + 0))), (0, .ref (ob 0)), (2, .int (nI a)), (3, .int (g_cnt M a)), (5, .int (nI b)), (6, .int (kI (g_hv M a b 3))), (7, .int (nI 3))]) hx hcd dL_views_200 rfl hl (by decide) rfl (fun ls hl => ?_)
                refine kr_iinc (lv' := [(5, .int (nI (b + 1))), (1, .int (nI ((g_visA M a + g_visR M a b) + 0))), (0, .ref (ob 0)), (2, .int (nI a)), (3, .int (g_cnt M a)), (6, .int (kI (g_hv M a b 3))), (7, .int (nI 3))]) hx hcd dL_views_201 hl (k := 4) rfl (by decide) rfl (fun ls hl => ?_)
                refine lv_goto (tgt := 106) hx hcd dL_views_204 (by decide) ?_
                have hl : lv_has ls 9 [(0, .ref (ob 0)), (1, .int (nI ((g_visA M a + g_visR M a b) + 0))), (2, .int (nI a)), (3, .int (g_cnt M a)), (5, .int (nI (b + 1)))] := lv_sub hl [2, 1, 3, 4, 0] rfl
                have e9 : ([(0, .ref (ob 0)), (1, .int (nI ((g_visA M a + g_visR M a b) + 0))), (2, .int (nI a)), (3, .int (g_cnt M a)), (5, .int (nI (b + 1)))] : List (Nat × Value)) = [(0, .ref (ob 0)), (1, .int (nI (g_visA M a + g_visR M a (b + 1)))), (2, .int (nI a)), (3, .int (g_cnt M a)), (5, .int (nI (b + 1)))] := by first | rw [vis_t c_191] | rw [Nat.add_zero, vis_f c_191] | rw [Nat.add_zero, vis_f (by rw [← hab]; exact hv_self hX ha)]
                exact ih_106 H locs ls hP hD hS (e9 ▸ hl)
              · refine lv_iconst (v := nI 1) hx hcd dL_views_194 (by decide) ?_
                refine lv_goto (tgt := 199) hx hcd dL_views_195 (by decide) ?_
                refine kr_add hx hcd dL_views_199 ?_
                refine lv_istore_n (lv' := [(1, .int (nI ((g_visA M a + g_visR M a b) + 1))), (0, .ref (ob 0)), (2, .int (nI a)), (3, .int (g_cnt M a)), (5, .int (nI b)), (6, .int (kI (g_hv M a b 3))), (7, .int (nI 3))]) hx hcd dL_views_200 rfl hl (by decide) rfl (fun ls hl => ?_)
                refine kr_iinc (lv' := [(5, .int (nI (b + 1))), (1, .int (nI ((g_visA M a + g_visR M a b) + 1))), (0, .ref (ob 0)), (2, .int (nI a)), (3, .int (g_cnt M a)), (6, .int (kI (g_hv M a b 3))), (7, .int (nI 3))]) hx hcd dL_views_201 hl (k := 4) rfl (by decide) rfl (fun ls hl => ?_)
                refine lv_goto (tgt := 106) hx hcd dL_views_204 (by decide) ?_
                have hl : lv_has ls 9 [(0, .ref (ob 0)), (1, .int (nI ((g_visA M a + g_visR M a b) + 1))), (2, .int (nI a)), (3, .int (g_cnt M a)), (5, .int (nI (b + 1)))] := lv_sub hl [2, 1, 3, 4, 0] rfl
                have e9 : ([(0, .ref (ob 0)), (1, .int (nI ((g_visA M a + g_visR M a b) + 1))), (2, .int (nI a)), (3, .int (g_cnt M a)), (5, .int (nI (b + 1)))] : List (Nat × Value)) = [(0, .ref (ob 0)), (1, .int (nI (g_visA M a + g_visR M a (b + 1)))), (2, .int (nI a)), (3, .int (g_cnt M a)), (5, .int (nI (b + 1)))] := by first | rw [vis_t c_191] | rw [Nat.add_zero, vis_f c_191] | rw [Nat.add_zero, vis_f (by rw [← hab]; exact hv_self hX ha)]
                exact ih_106 H locs ls hP hD hS (e9 ▸ hl)
        · have hl : lv_has ls 9 [(0, .ref (ob 0)), (1, .int (nI (g_visA M a + g_visR M a 6))), (2, .int (nI a)), (3, .int (g_cnt M a)), (5, .int (nI 6))] := hl
          refine lv_iload hx hcd dL_views_106 (lv_at hl 4 rfl) ?_
          refine lv_bipush (v := nI 6) hx hcd dL_views_108 (by decide) ?_
          refine kr_cge (tgt := 207) hx hcd (by omega) (by omega) dL_views_110 (by decide) (fun (c_110 : 6 ≤ 6) => ?_) (fun (c_110 : 6 < 6) => absurd c_110 (by omega))
          refine kr_iinc (lv' := [(2, .int (nI (a + 1))), (0, .ref (ob 0)), (1, .int (nI (g_visA M a + g_visR M a 6))), (3, .int (g_cnt M a)), (5, .int (nI 6))]) hx hcd dL_views_207 hl (k := 2) rfl (by decide) rfl (fun ls hl => ?_)
          refine lv_goto (tgt := 4) hx hcd dL_views_210 (by decide) ?_
          have hl : lv_has ls 9 [(0, .ref (ob 0)), (1, .int (nI (g_visA M a + g_visR M a 6))), (2, .int (nI (a + 1)))] := lv_sub hl [1, 2, 0] rfl
          have e9 : ([(0, .ref (ob 0)), (1, .int (nI (g_visA M a + g_visR M a 6))), (2, .int (nI (a + 1)))] : List (Nat × Value)) = [(0, .ref (ob 0)), (1, .int (nI (g_visA M (a + 1)))), (2, .int (nI (a + 1)))] := by rfl
          exact ih_4 H locs ls hP hD hS (e9 ▸ hl)
  · have hl : lv_has ls 9 [(0, .ref (ob 0)), (1, .int (nI (g_visA M 6))), (2, .int (nI 6))] := hl
    refine lv_iload_n hx hcd dL_views_4 rfl (lv_at hl 2 rfl) ?_
    refine lv_bipush (v := nI 6) hx hcd dL_views_5 (by decide) ?_
    refine kr_cge (tgt := 213) hx hcd (by omega) (by omega) dL_views_7 (by decide) (fun (c_7 : 6 ≤ 6) => ?_) (fun (c_7 : 6 < 6) => absurd c_7 (by omega))
    refine lv_aload_n hx hcd dL_views_213 rfl (lv_at hl 0 rfl) ?_
    refine kr_Vd (As := []) (rest := []) (ws2 := wX cI cB cW ob nw tr qs sc G M N S n L T) (q := (RX6, TX6, 5)) ⟨hx, hcd, hml, hown, hts⟩ (c_X6_visible__ok l D cI cB cW cL ob nw tr qs sc G N S n L T _ M ) (cwV 0 hts gL_views_X6_visible rfl rfl rfl (by decide +kernel) ⟨Nat.le_of_ble_eq_true rfl, Nat.le_of_ble_eq_true rfl⟩) hK hP hD hS hA [0, 1, 2, 3, 4, 5, 6, 7, 8, 9, 10, 11, 12, 13, 14, 15, 16, 17, 18, 19, 20, 21, 22, 23, 24, 25, 26, 27, 28, 29, 30, 31, 32, 33, 34, 35, 36, 37, 38, 39, 40, 41, 42, 43, 44, 45, 46, 47, 48, 49, 50, 51, 52, 53, 54, 55, 56, 57, 58, 59, 60, 61, 62, 63, 64, 65, 66, 67, 68, 69, 70, 71, 72, 73, 74, 75, 76, 77, 78, 79, 80, 81, 82, 83, 84, 85, 86, 87, 88, 89, 90, 91, 92, 93] wX_allC wX_nd wX_adr wX_all 0 rfl rfl rfl hl.1 rfl (Nat.le_of_ble_eq_true rfl) dL_views_214 ⟨Nat.le_of_ble_eq_true rfl, Nat.le_of_ble_eq_true rfl⟩ (fun H locs hP hD hS => ?_)
    refine lv_iload_n hx hcd dL_views_217 rfl (lv_at hl 1 rfl) ?_
    refine lv_i2d hx hcd dL_views_218 ?_
    refine lv_ldc2d (v := 4629137466983448576) hx hcd hown (hts (.constantDouble RL 123 4629137466983448576) (by decide +kernel)) dL_views_219 ?_
    refine lv_ddiv hx hcd dL_views_222 (share_ok (by have := visA_le (M := M) 6; omega)) ?_
    refine kl_dcmp (v := nI 0) hx hcd (share_cmp _ (by omega)) dL_views_223 ?_
    refine kr_zne (tgt := 249) hx hcd (by omega) dL_views_224 (by decide) (fun (c_224 : 0 < 0) => absurd c_224 (by omega)) (fun (c_224 : 0 = 0) => ?_)
    refine lv_aload_n hx hcd dL_views_227 rfl (lv_at hl 0 rfl) ?_
    refine kr_Vd (As := []) (rest := []) (ws2 := wX cI cB cW ob nw tr qs sc G M N S n L T) (q := (RX6, TX6, 5)) ⟨hx, hcd, hml, hown, hts⟩ (c_X6_visible__ok l D cI cB cW cL ob nw tr qs sc G N S n L T _ M ) (cwV 0 hts gL_views_X6_visible rfl rfl rfl (by decide +kernel) ⟨Nat.le_of_ble_eq_true rfl, Nat.le_of_ble_eq_true rfl⟩) hK hP hD hS hA [0, 1, 2, 3, 4, 5, 6, 7, 8, 9, 10, 11, 12, 13, 14, 15, 16, 17, 18, 19, 20, 21, 22, 23, 24, 25, 26, 27, 28, 29, 30, 31, 32, 33, 34, 35, 36, 37, 38, 39, 40, 41, 42, 43, 44, 45, 46, 47, 48, 49, 50, 51, 52, 53, 54, 55, 56, 57, 58, 59, 60, 61, 62, 63, 64, 65, 66, 67, 68, 69, 70, 71, 72, 73, 74, 75, 76, 77, 78, 79, 80, 81, 82, 83, 84, 85, 86, 87, 88, 89, 90, 91, 92, 93] wX_allC wX_nd wX_adr wX_all 0 rfl rfl rfl hl.1 rfl (Nat.le_of_ble_eq_true rfl) dL_views_228 ⟨Nat.le_of_ble_eq_true rfl, Nat.le_of_ble_eq_true rfl⟩ (fun H locs hP hD hS => ?_)
    refine lv_dconst0 hx hcd dL_views_231 ?_
    refine kl_dcmp (v := Op.cmpValue (FP.dcmp (g_share (g_visA M 6)) FP.dconst0) .l) hx hcd (rfl) dL_views_232 ?_
    refine lv_if_lt (tgt := 249) hx hcd dL_views_233 (by decide) (fun (c_233 : (Op.cmpValue (FP.dcmp (g_share (g_visA M 6)) FP.dconst0) .l) < 0) => absurd c_233 (share_ge _ (by omega))) (fun (c_233 : ¬ (Op.cmpValue (FP.dcmp (g_share (g_visA M 6)) FP.dconst0) .l) < 0) => ?_)
    refine lv_aload_n hx hcd dL_views_236 rfl (lv_at hl 0 rfl) ?_
    refine kr_Vd (As := []) (rest := []) (ws2 := wX cI cB cW ob nw tr qs sc G M N S n L T) (q := (RX6, TX6, 5)) ⟨hx, hcd, hml, hown, hts⟩ (c_X6_visible__ok l D cI cB cW cL ob nw tr qs sc G N S n L T _ M ) (cwV 0 hts gL_views_X6_visible rfl rfl rfl (by decide +kernel) ⟨Nat.le_of_ble_eq_true rfl, Nat.le_of_ble_eq_true rfl⟩) hK hP hD hS hA [0, 1, 2, 3, 4, 5, 6, 7, 8, 9, 10, 11, 12, 13, 14, 15, 16, 17, 18, 19, 20, 21, 22, 23, 24, 25, 26, 27, 28, 29, 30, 31, 32, 33, 34, 35, 36, 37, 38, 39, 40, 41, 42, 43, 44, 45, 46, 47, 48, 49, 50, 51, 52, 53, 54, 55, 56, 57, 58, 59, 60, 61, 62, 63, 64, 65, 66, 67, 68, 69, 70, 71, 72, 73, 74, 75, 76, 77, 78, 79, 80, 81, 82, 83, 84, 85, 86, 87, 88, 89, 90, 91, 92, 93] wX_allC wX_nd wX_adr wX_all 0 rfl rfl rfl hl.1 rfl (Nat.le_of_ble_eq_true rfl) dL_views_237 ⟨Nat.le_of_ble_eq_true rfl, Nat.le_of_ble_eq_true rfl⟩ (fun H locs hP hD hS => ?_)
    refine lv_dconst1 hx hcd dL_views_240 ?_
    refine kl_dcmp (v := Op.cmpValue (FP.dcmp (g_share (g_visA M 6)) FP.dconst1) .g) hx hcd (rfl) dL_views_241 ?_
    refine lv_if_gt (tgt := 249) hx hcd dL_views_242 (by decide) (fun (c_242 : 0 < (Op.cmpValue (FP.dcmp (g_share (g_visA M 6)) FP.dconst1) .g)) => absurd c_242 (share_le _ (by have := vis_30 hX; omega))) (fun (c_242 : ¬ 0 < (Op.cmpValue (FP.dcmp (g_share (g_visA M 6)) FP.dconst1) .g)) => ?_)
    refine lv_iconst (v := nI 1) hx hcd dL_views_245 (by decide) ?_
    refine lv_goto (tgt := 250) hx hcd dL_views_246 (by decide) ?_
    exact kr_zret hx hcd hr hlocks hK hP hD hS rfl rfl rfl dL_views_250
