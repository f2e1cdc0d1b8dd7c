set_option maxHeartbeats 4000000 in
set_option maxRecDepth 100000 in
theorem law_deliver__e1 {pp : Program} {l : Launch} {ee : Env} {ss : State} {mm : MethodId} {below : List Frame} {meth : Method} {cc : Code} {bb Ls : Nat} {xs : Nat → Int32} {D : va_G} {cI cB cW cL : ClassId} (C : LFix pp l ss mm cc bb Ls xs D cI cB cW cL) {o : Nat} {F : Nat → Int64} {ob nw tr : Nat → Nat} {qs : Nat → Nat → Nat} {sc : Nat → Nat} {N : kM} {S : Nat → kM} {n r L : Nat} {T : Nat → Int32} {z : Nat → Nat} {x : Nat → Int32} {hh : Int64} {Sp Ot Sv : Nat → Int32} {M : kM} (hV : LInv M S n r L T Sv x) {i : Nat} (hi : i + 5 ≤ Ls)  (hg : g_in (xs (i + 1)) 0 1000 = false) {H : Heap} {locs : List Loc} {ls : Array Slot} {cells slots : Nat} {Q : State → Prop} (hc : cells + 1 ≤ 601024) (hs : slots + 6 ≤ 7293034) (hP : va_P D vwCl (wLaw cI cB cW cL o F ob nw tr qs sc (g_rot qs r) M N S n L T z x hh M Sp Ot Sv T) H) (hD : va_D (fun q : Nat => ss.heap.size ≤ q) (wLaw cI cB cW cL o F ob nw tr qs sc (g_rot qs r) M N S n L T z x hh M Sp Ot Sv T)) (hS : va_S (fun q : Nat => ss.heap.size ≤ q) ss.heap H locs) (hl : lv_has ls 9 [(0, .ref bb), (1, .ref (ob 0)), (2, .ref (z 0)), (3, .ref o), (4, .int (nI i))]) (kk : LNext pp l ee ss mm below meth cc bb D cI cB cW cL o ob nw tr qs sc z i cells slots Q) : W pp l ee room_1 ss mm #[Value.ref bb] below meth cc H locs cells slots Q (F0 mm 840 ls []) := by
  obtain ⟨hx, hcd, hml, hown, hts, hX, hbl, hst, hZ, hN, hK, hL9⟩ := C
  obtain ⟨hI, hn, hr, hL, hT, hx4, hx6, hsv⟩ := id hV
  have hA : ∀ q : Nat, ss.heap.size ≤ q → (fun q : Nat => ss.heap.size ≤ q) q := fun _ h => h
  have hbA : ¬ (fun q : Nat => ss.heap.size ≤ q) bb := Nat.not_le.mpr hbl
  refine lv_aload_n hx hcd dL_law_840 rfl (lv_at hl 1 rfl) ?_
  refine lv_aload_n hx hcd dL_law_841 rfl (lv_at hl 0 rfl) ?_
  refine lv_iload hx hcd dL_law_842 (lv_at hl 4 rfl) ?_
  refine lv_iconst (v := nI 1) hx hcd dL_law_844 (by decide) ?_
  refine kr_add hx hcd dL_law_845 ?_
  refine kl_sld hx hcd hX hbl hbA hS (k := i + 1) (by omega) hL9 dL_law_846 ?_
  refine lv_aload_n hx hcd dL_law_847 rfl (lv_at hl 3 rfl) ?_
  refine kl_S (As := [.ref (ob 0), .int (xs (i + 1)), .ref o]) (rest := []) (ws2 := wLaw cI cB cW cL o F ob nw tr qs sc (g_rot qs r) M N S n L T z x hh M Sp Ot Sv T) ⟨hx, hcd, hml, hown, hts⟩ (c_L_deliver__e1 l hst D cI cB cW cL o F ob nw tr qs sc (g_rot qs r) N S n L T _ M (xs (i + 1)) hg) (vx_cwSW 3 hts gL_law_L_deliver rfl rfl rfl (by decide +kernel) ⟨Nat.le_of_ble_eq_true rfl, Nat.le_of_ble_eq_true rfl⟩) hZ hN hK hP hD hS hA [0, 1, 2, 3, 4, 5, 6, 7, 8, 9, 10, 11, 12, 13, 14, 15, 16, 17, 18, 19, 20, 21, 22, 23, 24, 25, 26, 27, 28, 29, 30, 31, 32, 33, 34, 35, 36, 37, 38, 39, 40, 41, 42, 43, 44, 45, 46, 47, 48, 49, 50, 51, 52, 53, 54, 55, 56, 57, 58, 59, 60, 61, 62, 63, 64, 65, 66, 67, 68, 69, 70, 71, 72, 73, 74, 75, 76, 77, 78, 79, 80, 81, 82, 83, 84, 85, 86, 87, 88, 89, 90, 91, 92, 93, 94] wLaw_LXC nd_LX wLX_adr wLaw_LX rfl hl.1 rfl (Nat.le_of_ble_eq_true rfl) dL_law_848 ⟨hc, hs⟩ (fun H locs hP hD hS => ?_)
  refine lv_istore (lv' := [(5, .int (nI 1)), (0, .ref bb), (1, .ref (ob 0)), (2, .ref (z 0)), (3, .ref o), (4, .int (nI i))]) hx hcd dL_law_851 hl (by decide) rfl (fun ls hl => ?_)
  refine lv_aload_n hx hcd dL_law_853 rfl (lv_at hl 3 rfl) ?_
  refine lv_aload_n hx hcd dL_law_854 rfl (lv_at hl 1 rfl) ?_
  refine lv_iload hx hcd dL_law_855 (lv_at hl 5 rfl) ?_
  refine lv_iconst (v := nI 1) hx hcd dL_law_857 (by decide) ?_
  refine kr_add hx hcd dL_law_858 ?_
  refine kl_sld hx hcd hX hbl hbA hS (k := i + 1) (by omega) hL9 dL_law_859 ?_
  refine kr_Vi (As := [.int (xs (i + 1))]) (rest := []) (ws2 := wLaw cI cB cW cL o F ob nw tr qs sc (g_rot qs r) M N S n L T z (xu x 7 1) hh M Sp Ot Sv T) (q := (RX7, TX7, 10)) ⟨hx, hcd, hml, hown, hts⟩ (c_X7_deliver__b1 l D cI cB cW cL z x hh Sp Ot Sv T _ M (xs (i + 1)) hg) (cwV 1 hts gL_law_X7_deliver rfl rfl rfl (by decide +kernel) ⟨Nat.le_of_ble_eq_true rfl, Nat.le_of_ble_eq_true rfl⟩) hK hP hD hS hA [95, 96, 97, 98, 99, 100] wLaw_MAC (by decide) wMA_adr wLaw_MA 95 rfl rfl rfl hl.1 rfl (Nat.le_of_ble_eq_true rfl) dL_law_860 ⟨hc, hs⟩ (fun H locs hP hD hS => ?_)
  refine lv_istore (lv' := [(6, .int (nI 0)), (5, .int (nI 1)), (0, .ref bb), (1, .ref (ob 0)), (2, .ref (z 0)), (3, .ref o), (4, .int (nI i))]) hx hcd dL_law_863 hl (by decide) rfl (fun ls hl => ?_)
  refine lv_aload_n hx hcd dL_law_865 rfl (lv_at hl 4 rfl) ?_
  refine kr_Vi (As := []) (rest := []) (ws2 := wLaw cI cB cW cL o F ob nw tr qs sc (g_rot qs r) M N S n L T z (xu x 7 1) hh M Sp Ot Sv T) (q := (RX7, TX7, 10)) ⟨hx, hcd, hml, hown, hts⟩ (c_X7_thrown l D cI cB cW cL z (xu x 7 1) hh _ M ) (cwV 0 hts gL_law_X7_thrown rfl rfl rfl (by decide +kernel) ⟨Nat.le_of_ble_eq_true rfl, Nat.le_of_ble_eq_true rfl⟩) hK hP hD hS hA [95, 96] wLaw_MoC (by decide) wMo_adr2 wLaw_Mo 95 rfl rfl rfl hl.1 rfl (Nat.le_of_ble_eq_true rfl) dL_law_866 ⟨hc, hs⟩ (fun H locs hP hD hS => ?_)
  refine kr_top (w := 1) rfl ?_
  refine kr_top (w := nI 1) rfl ?_
  refine lv_iload hx hcd dL_law_869 (lv_at hl 1 rfl) ?_
  refine kr_ceq (tgt := 876) hx hcd (by omega) (by omega) dL_law_871 (by decide) (fun (c_871 : 1 = 1) => ?_) (fun (c_871 : ¬ 1 = 1) => absurd c_871 (by omega))
  refine lv_iload hx hcd dL_law_876 (lv_at hl 1 rfl) ?_
  refine kr_zne (tgt := 893) hx hcd (by omega) dL_law_878 (by decide) (fun (c_878 : 0 < 1) => ?_) (fun (c_878 : 1 = 0) => absurd c_878 (by omega))
  refine lv_goto (tgt := 1812) hx hcd dL_law_893 (by decide) ?_
  exact kk F N M S n r L T (xu x 7 1) hh Sp Ot Sv (linv_x hV rfl rfl) H locs ls hP hD hS (lv_sub hl [2, 3, 4, 5, 6] rfl)

set_option maxHeartbeats 4000000 in
set_option maxRecDepth 100000 in
theorem law_lose__ok {pp : Program} {l : Launch} {ee : Env} {ss : State} {mm : MethodId} {below : List Frame} {meth : Method} {cc : Code} {bb Ls : Nat} {xs : Nat → Int32} {D : va_G} {cI cB cW cL : ClassId} (C : LFix pp l ss mm cc bb Ls xs D cI cB cW cL) {o : Nat} {F : Nat → Int64} {ob nw tr : Nat → Nat} {qs : Nat → Nat → Nat} {sc : Nat → Nat} {N : kM} {S : Nat → kM} {n r L : Nat} {T : Nat → Int32} {z : Nat → Nat} {x : Nat → Int32} {hh : Int64} {Sp Ot Sv : Nat → Int32} {M : kM} (hV : LInv M S n r L T Sv x) {i : Nat} (hi : i + 5 ≤ Ls) {k : Nat} (h1 : xs (i + 1) = nI k) (hk : k < wyN M)  {H : Heap} {locs : List Loc} {ls : Array Slot} {cells slots : Nat} {Q : State → Prop} (hc : cells + 1 ≤ 601024) (hs : slots + 6 ≤ 7293034) (hP : va_P D vwCl (wLaw cI cB cW cL o F ob nw tr qs sc (g_rot qs r) M N S n L T z x hh M Sp Ot Sv T) H) (hD : va_D (fun q : Nat => ss.heap.size ≤ q) (wLaw cI cB cW cL o F ob nw tr qs sc (g_rot qs r) M N S n L T z x hh M Sp Ot Sv T)) (hS : va_S (fun q : Nat => ss.heap.size ≤ q) ss.heap H locs) (hl : lv_has ls 9 [(0, .ref bb), (1, .ref (ob 0)), (2, .ref (z 0)), (3, .ref o), (4, .int (nI i))]) (kk : LNext pp l ee ss mm below meth cc bb D cI cB cW cL o ob nw tr qs sc z i cells slots Q) : W pp l ee room_1 ss mm #[Value.ref bb] below meth cc H locs cells slots Q (F0 mm 896 ls []) := by
  obtain ⟨hx, hcd, hml, hown, hts, hX, hbl, hst, hZ, hN, hK, hL9⟩ := C
  obtain ⟨hI, hn, hr, hL, hT, hx4, hx6, hsv⟩ := id hV
  have hA : ∀ q : Nat, ss.heap.size ≤ q → (fun q : Nat => ss.heap.size ≤ q) q := fun _ h => h
  have hbA : ¬ (fun q : Nat => ss.heap.size ≤ q) bb := Nat.not_le.mpr hbl
  refine lv_aload_n hx hcd dL_law_896 rfl (lv_at hl 1 rfl) ?_
  refine lv_aload_n hx hcd dL_law_897 rfl (lv_at hl 0 rfl) ?_
  refine lv_iload hx hcd dL_law_898 (lv_at hl 4 rfl) ?_
  refine lv_iconst (v := nI 1) hx hcd dL_law_900 (by decide) ?_
  refine kr_add hx hcd dL_law_901 ?_
  refine kl_sld hx hcd hX hbl hbA hS (k := i + 1) (by omega) hL9 dL_law_902 ?_
  refine kr_top (w := nI k) h1 ?_
  refine lv_aload_n hx hcd dL_law_903 rfl (lv_at hl 3 rfl) ?_
  refine kl_S (As := [.ref (ob 0), .int (nI k), .ref o]) (rest := []) (ws2 := wLaw cI cB cW cL o (vp_updL F 0 (((g_part (g_msg M k) 0) : Int32).toInt64)) ob nw tr qs sc (g_rot qs (rj n r)) (g_drop M k) N (sset S (pj n r) M) (g_kn n) L T z x hh M Sp Ot Sv T) ⟨hx, hcd, hml, hown, hts⟩ (c_L_lose__ok l hst D cI cB cW cL o F ob nw tr qs sc (g_rot qs r) N S n L T _ M k r hI hk hn hr) (vx_cwSW 3 hts gL_law_L_lose rfl rfl rfl (by decide +kernel) ⟨Nat.le_of_ble_eq_true rfl, Nat.le_of_ble_eq_true rfl⟩) hZ hN hK hP hD hS hA [0, 1, 2, 3, 4, 5, 6, 7, 8, 9, 10, 11, 12, 13, 14, 15, 16, 17, 18, 19, 20, 21, 22, 23, 24, 25, 26, 27, 28, 29, 30, 31, 32, 33, 34, 35, 36, 37, 38, 39, 40, 41, 42, 43, 44, 45, 46, 47, 48, 49, 50, 51, 52, 53, 54, 55, 56, 57, 58, 59, 60, 61, 62, 63, 64, 65, 66, 67, 68, 69, 70, 71, 72, 73, 74, 75, 76, 77, 78, 79, 80, 81, 82, 83, 84, 85, 86, 87, 88, 89, 90, 91, 92, 93, 94] wLaw_LXC nd_LX wLX_adr wLaw_LX rfl hl.1 rfl (Nat.le_of_ble_eq_true rfl) dL_law_904 ⟨hc, hs⟩ (fun H locs hP hD hS => ?_)
  refine lv_istore (lv' := [(5, .int (nI 0)), (0, .ref bb), (1, .ref (ob 0)), (2, .ref (z 0)), (3, .ref o), (4, .int (nI i))]) hx hcd dL_law_907 hl (by decide) rfl (fun ls hl => ?_)
  refine lv_aload_n hx hcd dL_law_909 rfl (lv_at hl 3 rfl) ?_
  refine lv_aload_n hx hcd dL_law_910 rfl (lv_at hl 1 rfl) ?_
  refine lv_iload hx hcd dL_law_911 (lv_at hl 5 rfl) ?_
  refine lv_iconst (v := nI 1) hx hcd dL_law_913 (by decide) ?_
  refine kr_add hx hcd dL_law_914 ?_
  refine kl_sld hx hcd hX hbl hbA hS (k := i + 1) (by omega) hL9 dL_law_915 ?_
  refine kr_top (w := nI k) h1 ?_
  refine kr_Vi (As := [.int (nI k)]) (rest := []) (ws2 := wLaw cI cB cW cL o (vp_updL F 0 (((g_part (g_msg M k) 0) : Int32).toInt64)) ob nw tr qs sc (g_rot qs (rj n r)) (g_drop M k) N (sset S (pj n r) M) (g_kn n) L T z (xu (xu x 7 0) 4 (nI (g_kn n))) hh (g_drop M k) Sp Ot (g_keep Sv M n) T) (q := (RX7, TX7, 10)) ⟨hx, hcd, hml, hown, hts⟩ (c_X7_lose__ok l D cI cB cW cL z x hh Sp Ot Sv T _ M k n hI hk hx4 hn) (cwV 1 hts gL_law_X7_lose rfl rfl rfl (by decide +kernel) ⟨Nat.le_of_ble_eq_true rfl, Nat.le_of_ble_eq_true rfl⟩) hK hP hD hS hA [95, 96, 97, 98, 99, 100] wLaw_MAC (by decide) wMA_adr wLaw_MA 95 rfl rfl rfl hl.1 rfl (Nat.le_of_ble_eq_true rfl) dL_law_916 ⟨hc, hs⟩ (fun H locs hP hD hS => ?_)
  refine lv_istore (lv' := [(6, .int (nI (g_msg M k % 8))), (5, .int (nI 0)), (0, .ref bb), (1, .ref (ob 0)), (2, .ref (z 0)), (3, .ref o), (4, .int (nI i))]) hx hcd dL_law_919 hl (by decide) rfl (fun ls hl => ?_)
  refine lv_aload_n hx hcd dL_law_921 rfl (lv_at hl 4 rfl) ?_
  refine kr_Vi (As := []) (rest := []) (ws2 := wLaw cI cB cW cL o (vp_updL F 0 (((g_part (g_msg M k) 0) : Int32).toInt64)) ob nw tr qs sc (g_rot qs (rj n r)) (g_drop M k) N (sset S (pj n r) M) (g_kn n) L T z (xu (xu x 7 0) 4 (nI (g_kn n))) hh (g_drop M k) Sp Ot (g_keep Sv M n) T) (q := (RX7, TX7, 10)) ⟨hx, hcd, hml, hown, hts⟩ (c_X7_thrown l D cI cB cW cL z (xu (xu x 7 0) 4 (nI (g_kn n))) hh _ (g_drop M k) ) (cwV 0 hts gL_law_X7_thrown rfl rfl rfl (by decide +kernel) ⟨Nat.le_of_ble_eq_true rfl, Nat.le_of_ble_eq_true rfl⟩) hK hP hD hS hA [95, 96] wLaw_MoC (by decide) wMo_adr2 wLaw_Mo 95 rfl rfl rfl hl.1 rfl (Nat.le_of_ble_eq_true rfl) dL_law_922 ⟨hc, hs⟩ (fun H locs hP hD hS => ?_)
  refine kr_top (w := 0) rfl ?_
  refine kr_top (w := nI 0) rfl ?_
  refine lv_iload hx hcd dL_law_925 (lv_at hl 1 rfl) ?_
  refine kr_ceq (tgt := 932) hx hcd (by omega) (by omega) dL_law_927 (by decide) (fun (c_927 : 0 = 0) => ?_) (fun (c_927 : ¬ 0 = 0) => absurd c_927 (by omega))
  refine lv_iload hx hcd dL_law_932 (lv_at hl 1 rfl) ?_
  refine kr_zne (tgt := 949) hx hcd (by omega) dL_law_934 (by decide) (fun (c_934 : 0 < 0) => absurd c_934 (by omega)) (fun (c_934 : 0 = 0) => ?_)
  refine lv_aload_n hx hcd dL_law_937 rfl (lv_at hl 5 rfl) ?_
  refine lv_iconst (v := nI 0) hx hcd dL_law_938 (by decide) ?_
  refine kl_lald hx hcd hK hP 0 3 rfl rfl (v := ((g_part (g_msg M k) 0) : Int32).toInt64) (by omega) (by decide) updL_0 dL_law_939 ?_
  refine lv_iload hx hcd dL_law_940 (lv_at hl 0 rfl) ?_
  refine lv_i2l hx hcd dL_law_942 rfl ?_
  refine kl_lcmp hx hcd (rfl) dL_law_943 ?_
  refine kr_zeq (tgt := 949) hx hcd (by omega) dL_law_944 (by decide) (fun (c_944 : 0 = 0) => ?_) (fun (c_944 : 0 < 0) => absurd c_944 (by omega))
  refine lv_goto (tgt := 1812) hx hcd dL_law_949 (by decide) ?_
  exact kk (vp_updL F 0 (((g_part (g_msg M k) 0) : Int32).toInt64)) N (g_drop M k) (sset S (pj n r) M) (g_kn n) (rj n r) L T (xu (xu x 7 0) 4 (nI (g_kn n))) hh Sp Ot (g_keep Sv M n) (linv_keep hV (i_drop hI (by omega)) rfl rfl) H locs ls hP hD hS (lv_sub hl [2, 3, 4, 5, 6] rfl)

set_option maxHeartbeats 4000000 in
set_option maxRecDepth 100000 in
theorem law_lose__e1 {pp : Program} {l : Launch} {ee : Env} {ss : State} {mm : MethodId} {below : List Frame} {meth : Method} {cc : Code} {bb Ls : Nat} {xs : Nat → Int32} {D : va_G} {cI cB cW cL : ClassId} (C : LFix pp l ss mm cc bb Ls xs D cI cB cW cL) {o : Nat} {F : Nat → Int64} {ob nw tr : Nat → Nat} {qs : Nat → Nat → Nat} {sc : Nat → Nat} {N : kM} {S : Nat → kM} {n r L : Nat} {T : Nat → Int32} {z : Nat → Nat} {x : Nat → Int32} {hh : Int64} {Sp Ot Sv : Nat → Int32} {M : kM} (hV : LInv M S n r L T Sv x) {i : Nat} (hi : i + 5 ≤ Ls)  (hg : g_in (xs (i + 1)) 0 (M 577 - 1) = false) {H : Heap} {locs : List Loc} {ls : Array Slot} {cells slots : Nat} {Q : State → Prop} (hc : cells + 1 ≤ 601024) (hs : slots + 6 ≤ 7293034) (hP : va_P D vwCl (wLaw cI cB cW cL o F ob nw tr qs sc (g_rot qs r) M N S n L T z x hh M Sp Ot Sv T) H) (hD : va_D (fun q : Nat => ss.heap.size ≤ q) (wLaw cI cB cW cL o F ob nw tr qs sc (g_rot qs r) M N S n L T z x hh M Sp Ot Sv T)) (hS : va_S (fun q : Nat => ss.heap.size ≤ q) ss.heap H locs) (hl : lv_has ls 9 [(0, .ref bb), (1, .ref (ob 0)), (2, .ref (z 0)), (3, .ref o), (4, .int (nI i))]) (kk : LNext pp l ee ss mm below meth cc bb D cI cB cW cL o ob nw tr qs sc z i cells slots Q) : W pp l ee room_1 ss mm #[Value.ref bb] below meth cc H locs cells slots Q (F0 mm 896 ls []) := by
  obtain ⟨hx, hcd, hml, hown, hts, hX, hbl, hst, hZ, hN, hK, hL9⟩ := C
  obtain ⟨hI, hn, hr, hL, hT, hx4, hx6, hsv⟩ := id hV
  have hA : ∀ q : Nat, ss.heap.size ≤ q → (fun q : Nat => ss.heap.size ≤ q) q := fun _ h => h
  have hbA : ¬ (fun q : Nat => ss.heap.size ≤ q) bb := Nat.not_le.mpr hbl
  refine lv_aload_n hx hcd dL_law_896 rfl (lv_at hl 1 rfl) ?_
  refine lv_aload_n hx hcd dL_law_897 rfl (lv_at hl 0 rfl) ?_
  refine lv_iload hx hcd dL_law_898 (lv_at hl 4 rfl) ?_
  refine lv_iconst (v := nI 1) hx hcd dL_law_900 (by decide) ?_
  refine kr_add hx hcd dL_law_901 ?_
  refine kl_sld hx hcd hX hbl hbA hS (k := i + 1) (by omega) hL9 dL_law_902 ?_
  refine lv_aload_n hx hcd dL_law_903 rfl (lv_at hl 3 rfl) ?_
  refine kl_S (As := [.ref (ob 0), .int (xs (i + 1)), .ref o]) (rest := []) (ws2 := wLaw cI cB cW cL o F ob nw tr qs sc (g_rot qs r) M N S n L T z x hh M Sp Ot Sv T) ⟨hx, hcd, hml, hown, hts⟩ (c_L_lose__e1 l hst D cI cB cW cL o F ob nw tr qs sc (g_rot qs r) N S n L T _ M (xs (i + 1)) hI hg) (vx_cwSW 3 hts gL_law_L_lose rfl rfl rfl (by decide +kernel) ⟨Nat.le_of_ble_eq_true rfl, Nat.le_of_ble_eq_true rfl⟩) hZ hN hK hP hD hS hA [0, 1, 2, 3, 4, 5, 6, 7, 8, 9, 10, 11, 12, 13, 14, 15, 16, 17, 18, 19, 20, 21, 22, 23, 24, 25, 26, 27, 28, 29, 30, 31, 32, 33, 34, 35, 36, 37, 38, 39, 40, 41, 42, 43, 44, 45, 46, 47, 48, 49, 50, 51, 52, 53, 54, 55, 56, 57, 58, 59, 60, 61, 62, 63, 64, 65, 66, 67, 68, 69, 70, 71, 72, 73, 74, 75, 76, 77, 78, 79, 80, 81, 82, 83, 84, 85, 86, 87, 88, 89, 90, 91, 92, 93, 94] wLaw_LXC nd_LX wLX_adr wLaw_LX rfl hl.1 rfl (Nat.le_of_ble_eq_true rfl) dL_law_904 ⟨hc, hs⟩ (fun H locs hP hD hS => ?_)
  refine lv_istore (lv' := [(5, .int (nI 1)), (0, .ref bb), (1, .ref (ob 0)), (2, .ref (z 0)), (3, .ref o), (4, .int (nI i))]) hx hcd dL_law_907 hl (by decide) rfl (fun ls hl => ?_)
  refine lv_aload_n hx hcd dL_law_909 rfl (lv_at hl 3 rfl) ?_
  refine lv_aload_n hx hcd dL_law_910 rfl (lv_at hl 1 rfl) ?_
  refine lv_iload hx hcd dL_law_911 (lv_at hl 5 rfl) ?_
  refine lv_iconst (v := nI 1) hx hcd dL_law_913 (by decide) ?_
  refine kr_add hx hcd dL_law_914 ?_
  refine kl_sld hx hcd hX hbl hbA hS (k := i + 1) (by omega) hL9 dL_law_915 ?_
  refine kr_Vi (As := [.int (xs (i + 1))]) (rest := []) (ws2 := wLaw cI cB cW cL o F ob nw tr qs sc (g_rot qs r) M N S n L T z (xu x 7 1) hh M Sp Ot Sv T) (q := (RX7, TX7, 10)) ⟨hx, hcd, hml, hown, hts⟩ (c_X7_lose__b1 l D cI cB cW cL z x hh Sp Ot Sv T _ M (xs (i + 1)) hg hI) (cwV 1 hts gL_law_X7_lose rfl rfl rfl (by decide +kernel) ⟨Nat.le_of_ble_eq_true rfl, Nat.le_of_ble_eq_true rfl⟩) hK hP hD hS hA [95, 96, 97, 98, 99, 100] wLaw_MAC (by decide) wMA_adr wLaw_MA 95 rfl rfl rfl hl.1 rfl (Nat.le_of_ble_eq_true rfl) dL_law_916 ⟨hc, hs⟩ (fun H locs hP hD hS => ?_)
  refine lv_istore (lv' := [(6, .int (nI 0)), (5, .int (nI 1)), (0, .ref bb), (1, .ref (ob 0)), (2, .ref (z 0)), (3, .ref o), (4, .int (nI i))]) hx hcd dL_law_919 hl (by decide) rfl (fun ls hl => ?_)
  refine lv_aload_n hx hcd dL_law_921 rfl (lv_at hl 4 rfl) ?_
  refine kr_Vi (As := []) (rest := []) (ws2 := wLaw cI cB cW cL o F ob nw tr qs sc (g_rot qs r) M N S n L T z (xu x 7 1) hh M Sp Ot Sv T) (q := (RX7, TX7, 10)) ⟨hx, hcd, hml, hown, hts⟩ (c_X7_thrown l D cI cB cW cL z (xu x 7 1) hh _ M ) (cwV 0 hts gL_law_X7_thrown rfl rfl rfl (by decide +kernel) ⟨Nat.le_of_ble_eq_true rfl, Nat.le_of_ble_eq_true rfl⟩) hK hP hD hS hA [95, 96] wLaw_MoC (by decide) wMo_adr2 wLaw_Mo 95 rfl rfl rfl hl.1 rfl (Nat.le_of_ble_eq_true rfl) dL_law_922 ⟨hc, hs⟩ (fun H locs hP hD hS => ?_)
  refine kr_top (w := 1) rfl ?_
  refine kr_top (w := nI 1) rfl ?_
  refine lv_iload hx hcd dL_law_925 (lv_at hl 1 rfl) ?_
  refine kr_ceq (tgt := 932) hx hcd (by omega) (by omega) dL_law_927 (by decide) (fun (c_927 : 1 = 1) => ?_) (fun (c_927 : ¬ 1 = 1) => absurd c_927 (by omega))
  refine lv_iload hx hcd dL_law_932 (lv_at hl 1 rfl) ?_
  refine kr_zne (tgt := 949) hx hcd (by omega) dL_law_934 (by decide) (fun (c_934 : 0 < 1) => ?_) (fun (c_934 : 1 = 0) => absurd c_934 (by omega))
  refine lv_goto (tgt := 1812) hx hcd dL_law_949 (by decide) ?_
  exact kk F N M S n r L T (xu x 7 1) hh Sp Ot Sv (linv_x hV rfl rfl) H locs ls hP hD hS (lv_sub hl [2, 3, 4, 5, 6] rfl)

set_option maxHeartbeats 4000000 in
set_option maxRecDepth 100000 in
theorem law_message__ok {pp : Program} {l : Launch} {ee : Env} {ss : State} {mm : MethodId} {below : List Frame} {meth : Method} {cc : Code} {bb Ls : Nat} {xs : Nat → Int32} {D : va_G} {cI cB cW cL : ClassId} (C : LFix pp l ss mm cc bb Ls xs D cI cB cW cL) {o : Nat} {F : Nat → Int64} {ob nw tr : Nat → Nat} {qs : Nat → Nat → Nat} {sc : Nat → Nat} {N : kM} {S : Nat → kM} {n r L : Nat} {T : Nat → Int32} {z : Nat → Nat} {x : Nat → Int32} {hh : Int64} {Sp Ot Sv : Nat → Int32} {M : kM} (hV : LInv M S n r L T Sv x) {i : Nat} (hi : i + 5 ≤ Ls) {k : Nat} (h1 : xs (i + 1) = nI k) (hk : k < wyN M) {wh : Nat} (h2 : xs (i + 2) = nI wh) (hwh : wh < 5)  {H : Heap} {locs : List Loc} {ls : Array Slot} {cells slots : Nat} {Q : State → Prop} (hc : cells + 1 ≤ 601024) (hs : slots + 6 ≤ 7293034) (hP : va_P D vwCl (wLaw cI cB cW cL o F ob nw tr qs sc (g_rot qs r) M N S n L T z x hh M Sp Ot Sv T) H) (hD : va_D (fun q : Nat => ss.heap.size ≤ q) (wLaw cI cB cW cL o F ob nw tr qs sc (g_rot qs r) M N S n L T z x hh M Sp Ot Sv T)) (hS : va_S (fun q : Nat => ss.heap.size ≤ q) ss.heap H locs) (hl : lv_has ls 9 [(0, .ref bb), (1, .ref (ob 0)), (2, .ref (z 0)), (3, .ref o), (4, .int (nI i))]) (kk : LNext pp l ee ss mm below meth cc bb D cI cB cW cL o ob nw tr qs sc z i cells slots Q) : W pp l ee room_1 ss mm #[Value.ref bb] below meth cc H locs cells slots Q (F0 mm 965 ls []) := by
  obtain ⟨hx, hcd, hml, hown, hts, hX, hbl, hst, hZ, hN, hK, hL9⟩ := C
  obtain ⟨hI, hn, hr, hL, hT, hx4, hx6, hsv⟩ := id hV
  have hA : ∀ q : Nat, ss.heap.size ≤ q → (fun q : Nat => ss.heap.size ≤ q) q := fun _ h => h
  have hbA : ¬ (fun q : Nat => ss.heap.size ≤ q) bb := Nat.not_le.mpr hbl
  refine lv_aload_n hx hcd dL_law_965 rfl (lv_at hl 1 rfl) ?_
  refine lv_aload_n hx hcd dL_law_966 rfl (lv_at hl 0 rfl) ?_
  refine lv_iload hx hcd dL_law_967 (lv_at hl 4 rfl) ?_
  refine lv_iconst (v := nI 1) hx hcd dL_law_969 (by decide) ?_
  refine kr_add hx hcd dL_law_970 ?_
  refine kl_sld hx hcd hX hbl hbA hS (k := i + 1) (by omega) hL9 dL_law_971 ?_
  refine kr_top (w := nI k) h1 ?_
  refine lv_aload_n hx hcd dL_law_972 rfl (lv_at hl 0 rfl) ?_
  refine lv_iload hx hcd dL_law_973 (lv_at hl 4 rfl) ?_
  refine lv_iconst (v := nI 2) hx hcd dL_law_975 (by decide) ?_
  refine kr_add hx hcd dL_law_976 ?_
  refine kl_sld hx hcd hX hbl hbA hS (k := i + 2) (by omega) hL9 dL_law_977 ?_
  refine kr_top (w := nI wh) h2 ?_
  refine lv_aload_n hx hcd dL_law_978 rfl (lv_at hl 3 rfl) ?_
  refine kl_S (As := [.ref (ob 0), .int (nI k), .int (nI wh), .ref o]) (rest := []) (ws2 := wLaw cI cB cW cL o (vp_updL F 0 (((g_part (g_msg M k) wh) : Int32).toInt64)) ob nw tr qs sc (g_rot qs r) M N S n L T z x hh M Sp Ot Sv T) ⟨hx, hcd, hml, hown, hts⟩ (c_L_message__ok l hst D cI cB cW cL o F ob nw tr qs sc (g_rot qs r) N S n L T _ M k wh hI hk hwh) (vx_cwSW 4 hts gL_law_L_message rfl rfl rfl (by decide +kernel) ⟨Nat.le_of_ble_eq_true rfl, Nat.le_of_ble_eq_true rfl⟩) hZ hN hK hP hD hS hA [0, 1, 2, 3, 4, 5, 6, 7, 8, 9, 10, 11, 12, 13, 14, 15, 16, 17, 18, 19, 20, 21, 22, 23, 24, 25, 26, 27, 28, 29, 30, 31, 32, 33, 34, 35, 36, 37, 38, 39, 40, 41, 42, 43, 44, 45, 46, 47, 48, 49, 50, 51, 52, 53, 54, 55, 56, 57, 58, 59, 60, 61, 62, 63, 64, 65, 66, 67, 68, 69, 70, 71, 72, 73, 74, 75, 76, 77, 78, 79, 80, 81, 82, 83, 84, 85, 86, 87, 88, 89, 90, 91, 92, 93, 94] wLaw_LXC nd_LX wLX_adr wLaw_LX rfl hl.1 rfl (Nat.le_of_ble_eq_true rfl) dL_law_979 ⟨hc, hs⟩ (fun H locs hP hD hS => ?_)
  refine lv_istore (lv' := [(5, .int (nI 0)), (0, .ref bb), (1, .ref (ob 0)), (2, .ref (z 0)), (3, .ref o), (4, .int (nI i))]) hx hcd dL_law_982 hl (by decide) rfl (fun ls hl => ?_)
  refine lv_aload_n hx hcd dL_law_984 rfl (lv_at hl 3 rfl) ?_
  refine lv_aload_n hx hcd dL_law_985 rfl (lv_at hl 1 rfl) ?_
  refine lv_iload hx hcd dL_law_986 (lv_at hl 5 rfl) ?_
  refine lv_iconst (v := nI 1) hx hcd dL_law_988 (by decide) ?_
  refine kr_add hx hcd dL_law_989 ?_
  refine kl_sld hx hcd hX hbl hbA hS (k := i + 1) (by omega) hL9 dL_law_990 ?_
  refine kr_top (w := nI k) h1 ?_
  refine lv_aload_n hx hcd dL_law_991 rfl (lv_at hl 1 rfl) ?_
  refine lv_iload hx hcd dL_law_992 (lv_at hl 5 rfl) ?_
  refine lv_iconst (v := nI 2) hx hcd dL_law_994 (by decide) ?_
  refine kr_add hx hcd dL_law_995 ?_
  refine kl_sld hx hcd hX hbl hbA hS (k := i + 2) (by omega) hL9 dL_law_996 ?_
  refine kr_top (w := nI wh) h2 ?_
  refine kr_Vi (As := [.int (nI k), .int (nI wh)]) (rest := []) (ws2 := wLaw cI cB cW cL o (vp_updL F 0 (((g_part (g_msg M k) wh) : Int32).toInt64)) ob nw tr qs sc (g_rot qs r) M N S n L T z (xu x 7 0) hh M Sp Ot Sv T) (q := (RX7, TX7, 10)) ⟨hx, hcd, hml, hown, hts⟩ (c_X7_message__ok l D cI cB cW cL z x hh _ M k wh hI hk hwh) (cwV 2 hts gL_law_X7_message rfl rfl rfl (by decide +kernel) ⟨Nat.le_of_ble_eq_true rfl, Nat.le_of_ble_eq_true rfl⟩) hK hP hD hS hA [95, 96] wLaw_MoC (by decide) wMo_adr2 wLaw_Mo 95 rfl rfl rfl hl.1 rfl (Nat.le_of_ble_eq_true rfl) dL_law_997 ⟨hc, hs⟩ (fun H locs hP hD hS => ?_)
  refine lv_istore (lv' := [(6, .int (g_part (g_msg M k) wh)), (5, .int (nI 0)), (0, .ref bb), (1, .ref (ob 0)), (2, .ref (z 0)), (3, .ref o), (4, .int (nI i))]) hx hcd dL_law_1000 hl (by decide) rfl (fun ls hl => ?_)
  refine lv_aload_n hx hcd dL_law_1002 rfl (lv_at hl 4 rfl) ?_
  refine kr_Vi (As := []) (rest := []) (ws2 := wLaw cI cB cW cL o (vp_updL F 0 (((g_part (g_msg M k) wh) : Int32).toInt64)) ob nw tr qs sc (g_rot qs r) M N S n L T z (xu x 7 0) hh M Sp Ot Sv T) (q := (RX7, TX7, 10)) ⟨hx, hcd, hml, hown, hts⟩ (c_X7_thrown l D cI cB cW cL z (xu x 7 0) hh _ M ) (cwV 0 hts gL_law_X7_thrown rfl rfl rfl (by decide +kernel) ⟨Nat.le_of_ble_eq_true rfl, Nat.le_of_ble_eq_true rfl⟩) hK hP hD hS hA [95, 96] wLaw_MoC (by decide) wMo_adr2 wLaw_Mo 95 rfl rfl rfl hl.1 rfl (Nat.le_of_ble_eq_true rfl) dL_law_1003 ⟨hc, hs⟩ (fun H locs hP hD hS => ?_)
  refine kr_top (w := 0) rfl ?_
  refine kr_top (w := nI 0) rfl ?_
  refine lv_iload hx hcd dL_law_1006 (lv_at hl 1 rfl) ?_
  refine kr_ceq (tgt := 1013) hx hcd (by omega) (by omega) dL_law_1008 (by decide) (fun (c_1008 : 0 = 0) => ?_) (fun (c_1008 : ¬ 0 = 0) => absurd c_1008 (by omega))
  refine lv_iload hx hcd dL_law_1013 (lv_at hl 1 rfl) ?_
  refine kr_zne (tgt := 1030) hx hcd (by omega) dL_law_1015 (by decide) (fun (c_1015 : 0 < 0) => absurd c_1015 (by omega)) (fun (c_1015 : 0 = 0) => ?_)
  refine lv_aload_n hx hcd dL_law_1018 rfl (lv_at hl 5 rfl) ?_
  refine lv_iconst (v := nI 0) hx hcd dL_law_1019 (by decide) ?_
  refine kl_lald hx hcd hK hP 0 3 rfl rfl (v := ((g_part (g_msg M k) wh) : Int32).toInt64) (by omega) (by decide) updL_0 dL_law_1020 ?_
  refine lv_iload hx hcd dL_law_1021 (lv_at hl 0 rfl) ?_
  refine lv_i2l hx hcd dL_law_1023 rfl ?_
  refine kl_lcmp hx hcd (rfl) dL_law_1024 ?_
  refine kr_zeq (tgt := 1030) hx hcd (by omega) dL_law_1025 (by decide) (fun (c_1025 : 0 = 0) => ?_) (fun (c_1025 : 0 < 0) => absurd c_1025 (by omega))
  refine lv_goto (tgt := 1812) hx hcd dL_law_1030 (by decide) ?_
  exact kk (vp_updL F 0 (((g_part (g_msg M k) wh) : Int32).toInt64)) N M S n r L T (xu x 7 0) hh Sp Ot Sv (linv_x hV rfl rfl) H locs ls hP hD hS (lv_sub hl [2, 3, 4, 5, 6] rfl)

set_option maxHeartbeats 4000000 in
set_option maxRecDepth 100000 in
theorem law_message__e1 {pp : Program} {l : Launch} {ee : Env} {ss : State} {mm : MethodId} {below : List Frame} {meth : Method} {cc : Code} {bb Ls : Nat} {xs : Nat → Int32} {D : va_G} {cI cB cW cL : ClassId} (C : LFix pp l ss mm cc bb Ls xs D cI cB cW cL) {o : Nat} {F : Nat → Int64} {ob nw tr : Nat → Nat} {qs : Nat → Nat → Nat} {sc : Nat → Nat} {N : kM} {S : Nat → kM} {n r L : Nat} {T : Nat → Int32} {z : Nat → Nat} {x : Nat → Int32} {hh : Int64} {Sp Ot Sv : Nat → Int32} {M : kM} (hV : LInv M S n r L T Sv x) {i : Nat} (hi : i + 5 ≤ Ls)  (hg : g_in (xs (i + 1)) 0 (M 577 - 1) = false) {H : Heap} {locs : List Loc} {ls : Array Slot} {cells slots : Nat} {Q : State → Prop} (hc : cells + 1 ≤ 601024) (hs : slots + 6 ≤ 7293034) (hP : va_P D vwCl (wLaw cI cB cW cL o F ob nw tr qs sc (g_rot qs r) M N S n L T z x hh M Sp Ot Sv T) H) (hD : va_D (fun q : Nat => ss.heap.size ≤ q) (wLaw cI cB cW cL o F ob nw tr qs sc (g_rot qs r) M N S n L T z x hh M Sp Ot Sv T)) (hS : va_S (fun q : Nat => ss.heap.size ≤ q) ss.heap H locs) (hl : lv_has ls 9 [(0, .ref bb), (1, .ref (ob 0)), (2, .ref (z 0)), (3, .ref o), (4, .int (nI i))]) (kk : LNext pp l ee ss mm below meth cc bb D cI cB cW cL o ob nw tr qs sc z i cells slots Q) : W pp l ee room_1 ss mm #[Value.ref bb] below meth cc H locs cells slots Q (F0 mm 965 ls []) := by
  obtain ⟨hx, hcd, hml, hown, hts, hX, hbl, hst, hZ, hN, hK, hL9⟩ := C
  obtain ⟨hI, hn, hr, hL, hT, hx4, hx6, hsv⟩ := id hV
  have hA : ∀ q : Nat, ss.heap.size ≤ q → (fun q : Nat => ss.heap.size ≤ q) q := fun _ h => h
  have hbA : ¬ (fun q : Nat => ss.heap.size ≤ q) bb := Nat.not_le.mpr hbl
  refine lv_aload_n hx hcd dL_law_965 rfl (lv_at hl 1 rfl) ?_
  refine lv_aload_n hx hcd dL_law_966 rfl (lv_at hl 0 rfl) ?_
  refine lv_iload hx hcd dL_law_967 (lv_at hl 4 rfl) ?_
  refine lv_iconst (v := nI 1) hx hcd dL_law_969 (by decide) ?_
  refine kr_add hx hcd dL_law_970 ?_
  refine kl_sld hx hcd hX hbl hbA hS (k := i + 1) (by omega) hL9 dL_law_971 ?_
  refine lv_aload_n hx hcd dL_law_972 rfl (lv_at hl 0 rfl) ?_
  refine lv_iload hx hcd dL_law_973 (lv_at hl 4 rfl) ?_
  refine lv_iconst (v := nI 2) hx hcd dL_law_975 (by decide) ?_
  refine kr_add hx hcd dL_law_976 ?_
  refine kl_sld hx hcd hX hbl hbA hS (k := i + 2) (by omega) hL9 dL_law_977 ?_
  refine lv_aload_n hx hcd dL_law_978 rfl (lv_at hl 3 rfl) ?_
  refine kl_S (As := [.ref (ob 0), .int (xs (i + 1)), .int (xs (i + 2)), .ref o]) (rest := []) (ws2 := wLaw cI cB cW cL o F ob nw tr qs sc (g_rot qs r) M N S n L T z x hh M Sp Ot Sv T) ⟨hx, hcd, hml, hown, hts⟩ (c_L_message__e1 l hst D cI cB cW cL o F ob nw tr qs sc (g_rot qs r) N S n L T _ M (xs (i + 1)) (xs (i + 2)) hI hg) (vx_cwSW 4 hts gL_law_L_message rfl rfl rfl (by decide +kernel) ⟨Nat.le_of_ble_eq_true rfl, Nat.le_of_ble_eq_true rfl⟩) hZ hN hK hP hD hS hA [0, 1, 2, 3, 4, 5, 6, 7, 8, 9, 10, 11, 12, 13, 14, 15, 16, 17, 18, 19, 20, 21, 22, 23, 24, 25, 26, 27, 28, 29, 30, 31, 32, 33, 34, 35, 36, 37, 38, 39, 40, 41, 42, 43, 44, 45, 46, 47, 48, 49, 50, 51, 52, 53, 54, 55, 56, 57, 58, 59, 60, 61, 62, 63, 64, 65, 66, 67, 68, 69, 70, 71, 72, 73, 74, 75, 76, 77, 78, 79, 80, 81, 82, 83, 84, 85, 86, 87, 88, 89, 90, 91, 92, 93, 94] wLaw_LXC nd_LX wLX_adr wLaw_LX rfl hl.1 rfl (Nat.le_of_ble_eq_true rfl) dL_law_979 ⟨hc, hs⟩ (fun H locs hP hD hS => ?_)
  refine lv_istore (lv' := [(5, .int (nI 1)), (0, .ref bb), (1, .ref (ob 0)), (2, .ref (z 0)), (3, .ref o), (4, .int (nI i))]) hx hcd dL_law_982 hl (by decide) rfl (fun ls hl => ?_)
  refine lv_aload_n hx hcd dL_law_984 rfl (lv_at hl 3 rfl) ?_
  refine lv_aload_n hx hcd dL_law_985 rfl (lv_at hl 1 rfl) ?_
  refine lv_iload hx hcd dL_law_986 (lv_at hl 5 rfl) ?_
  refine lv_iconst (v := nI 1) hx hcd dL_law_988 (by decide) ?_
  refine kr_add hx hcd dL_law_989 ?_
  refine kl_sld hx hcd hX hbl hbA hS (k := i + 1) (by omega) hL9 dL_law_990 ?_
  refine lv_aload_n hx hcd dL_law_991 rfl (lv_at hl 1 rfl) ?_
  refine lv_iload hx hcd dL_law_992 (lv_at hl 5 rfl) ?_
  refine lv_iconst (v := nI 2) hx hcd dL_law_994 (by decide) ?_
  refine kr_add hx hcd dL_law_995 ?_
  refine kl_sld hx hcd hX hbl hbA hS (k := i + 2) (by omega) hL9 dL_law_996 ?_
  refine kr_Vi (As := [.int (xs (i + 1)), .int (xs (i + 2))]) (rest := []) (ws2 := wLaw cI cB cW cL o F ob nw tr qs sc (g_rot qs r) M N S n L T z (xu x 7 1) hh M Sp Ot Sv T) (q := (RX7, TX7, 10)) ⟨hx, hcd, hml, hown, hts⟩ (c_X7_message__b1 l D cI cB cW cL z x hh _ M (xs (i + 1)) (xs (i + 2)) hg hI) (cwV 2 hts gL_law_X7_message rfl rfl rfl (by decide +kernel) ⟨Nat.le_of_ble_eq_true rfl, Nat.le_of_ble_eq_true rfl⟩) hK hP hD hS hA [95, 96] wLaw_MoC (by decide) wMo_adr2 wLaw_Mo 95 rfl rfl rfl hl.1 rfl (Nat.le_of_ble_eq_true rfl) dL_law_997 ⟨hc, hs⟩ (fun H locs hP hD hS => ?_)
  refine lv_istore (lv' := [(6, .int (nI 0)), (5, .int (nI 1)), (0, .ref bb), (1, .ref (ob 0)), (2, .ref (z 0)), (3, .ref o), (4, .int (nI i))]) hx hcd dL_law_1000 hl (by decide) rfl (fun ls hl => ?_)
  refine lv_aload_n hx hcd dL_law_1002 rfl (lv_at hl 4 rfl) ?_
  refine kr_Vi (As := []) (rest := []) (ws2 := wLaw cI cB cW cL o F ob nw tr qs sc (g_rot qs r) M N S n L T z (xu x 7 1) hh M Sp Ot Sv T) (q := (RX7, TX7, 10)) ⟨hx, hcd, hml, hown, hts⟩ (c_X7_thrown l D cI cB cW cL z (xu x 7 1) hh _ M ) (cwV 0 hts gL_law_X7_thrown rfl rfl rfl (by decide +kernel) ⟨Nat.le_of_ble_eq_true rfl, Nat.le_of_ble_eq_true rfl⟩) hK hP hD hS hA [95, 96] wLaw_MoC (by decide) wMo_adr2 wLaw_Mo 95 rfl rfl rfl hl.1 rfl (Nat.le_of_ble_eq_true rfl) dL_law_1003 ⟨hc, hs⟩ (fun H locs hP hD hS => ?_)
  refine kr_top (w := 1) rfl ?_
  refine kr_top (w := nI 1) rfl ?_
  refine lv_iload hx hcd dL_law_1006 (lv_at hl 1 rfl) ?_
  refine kr_ceq (tgt := 1013) hx hcd (by omega) (by omega) dL_law_1008 (by decide) (fun (c_1008 : 1 = 1) => ?_) (fun (c_1008 : ¬ 1 = 1) => absurd c_1008 (by omega))
  refine lv_iload hx hcd dL_law_1013 (lv_at hl 1 rfl) ?_
  refine kr_zne (tgt := 1030) hx hcd (by omega) dL_law_1015 (by decide) (fun (c_1015 : 0 < 1) => ?_) (fun (c_1015 : 1 = 0) => absurd c_1015 (by omega))
  refine lv_goto (tgt := 1812) hx hcd dL_law_1030 (by decide) ?_
  exact kk F N M S n r L T (xu x 7 1) hh Sp Ot Sv (linv_x hV rfl rfl) H locs ls hP hD hS (lv_sub hl [2, 3, 4, 5, 6] rfl)

set_option maxHeartbeats 4000000 in
set_option maxRecDepth 100000 in
theorem law_message__e2 {pp : Program} {l : Launch} {ee : Env} {ss : State} {mm : MethodId} {below : List Frame} {meth : Method} {cc : Code} {bb Ls : Nat} {xs : Nat → Int32} {D : va_G} {cI cB cW cL : ClassId} (C : LFix pp l ss mm cc bb Ls xs D cI cB cW cL) {o : Nat} {F : Nat → Int64} {ob nw tr : Nat → Nat} {qs : Nat → Nat → Nat} {sc : Nat → Nat} {N : kM} {S : Nat → kM} {n r L : Nat} {T : Nat → Int32} {z : Nat → Nat} {x : Nat → Int32} {hh : Int64} {Sp Ot Sv : Nat → Int32} {M : kM} (hV : LInv M S n r L T Sv x) {i : Nat} (hi : i + 5 ≤ Ls) {k : Nat} (h1 : xs (i + 1) = nI k) (hk : k < wyN M) (hg : g_in (xs (i + 2)) 0 4 = false) {H : Heap} {locs : List Loc} {ls : Array Slot} {cells slots : Nat} {Q : State → Prop} (hc : cells + 1 ≤ 601024) (hs : slots + 6 ≤ 7293034) (hP : va_P D vwCl (wLaw cI cB cW cL o F ob nw tr qs sc (g_rot qs r) M N S n L T z x hh M Sp Ot Sv T) H) (hD : va_D (fun q : Nat => ss.heap.size ≤ q) (wLaw cI cB cW cL o F ob nw tr qs sc (g_rot qs r) M N S n L T z x hh M Sp Ot Sv T)) (hS : va_S (fun q : Nat => ss.heap.size ≤ q) ss.heap H locs) (hl : lv_has ls 9 [(0, .ref bb), (1, .ref (ob 0)), (2, .ref (z 0)), (3, .ref o), (4, .int (nI i))]) (kk : LNext pp l ee ss mm below meth cc bb D cI cB cW cL o ob nw tr qs sc z i cells slots Q) : W pp l ee room_1 ss mm #[Value.ref bb] below meth cc H locs cells slots Q (F0 mm 965 ls []) := by
  obtain ⟨hx, hcd, hml, hown, hts, hX, hbl, hst, hZ, hN, hK, hL9⟩ := C
  obtain ⟨hI, hn, hr, hL, hT, hx4, hx6, hsv⟩ := id hV
  have hA : ∀ q : Nat, ss.heap.size ≤ q → (fun q : Nat => ss.heap.size ≤ q) q := fun _ h => h
  have hbA : ¬ (fun q : Nat => ss.heap.size ≤ q) bb := Nat.not_le.mpr hbl
  refine lv_aload_n hx hcd dL_law_965 rfl (lv_at hl 1 rfl) ?_
  refine lv_aload_n hx hcd dL_law_966 rfl (lv_at hl 0 rfl) ?_
  refine lv_iload hx hcd dL_law_967 (lv_at hl 4 rfl) ?_
  refine lv_iconst (v := nI 1) hx hcd dL_law_969 (by decide) ?_
  refine kr_add hx hcd dL_law_970 ?_
  refine kl_sld hx hcd hX hbl hbA hS (k := i + 1) (by omega) hL9 dL_law_971 ?_
  refine kr_top (w := nI k) h1 ?_
  refine lv_aload_n hx hcd dL_law_972 rfl (lv_at hl 0 rfl) ?_
  refine lv_iload hx hcd dL_law_973 (lv_at hl 4 rfl) ?_
  refine lv_iconst (v := nI 2) hx hcd dL_law_975 (by decide) ?_
  refine kr_add hx hcd dL_law_976 ?_
  refine kl_sld hx hcd hX hbl hbA hS (k := i + 2) (by omega) hL9 dL_law_977 ?_
  refine lv_aload_n hx hcd dL_law_978 rfl (lv_at hl 3 rfl) ?_
  refine kl_S (As := [.ref (ob 0), .int (nI k), .int (xs (i + 2)), .ref o]) (rest := []) (ws2 := wLaw cI cB cW cL o F ob nw tr qs sc (g_rot qs r) M N S n L T z x hh M Sp Ot Sv T) ⟨hx, hcd, hml, hown, hts⟩ (c_L_message__e2 l hst D cI cB cW cL o F ob nw tr qs sc (g_rot qs r) N S n L T _ M k (xs (i + 2)) hI hk hg) (vx_cwSW 4 hts gL_law_L_message rfl rfl rfl (by decide +kernel) ⟨Nat.le_of_ble_eq_true rfl, Nat.le_of_ble_eq_true rfl⟩) hZ hN hK hP hD hS hA [0, 1, 2, 3, 4, 5, 6, 7, 8, 9, 10, 11, 12, 13, 14, 15, 16, 17, 18, 19, 20, 21, 22, 23, 24, 25, 26, 27, 28, 29, 30, 31, 32, 33, 34, 35, 36, 37, 38, 39, 40, 41, 42, 43, 44, 45, 46, 47, 48, 49, 50, 51, 52, 53, 54, 55, 56, 57, 58, 59, 60, 61, 62, 63, 64, 65, 66, 67, 68, 69, 70, 71, 72, 73, 74, 75, 76, 77, 78, 79, 80, 81, 82, 83, 84, 85, 86, 87, 88, 89, 90, 91, 92, 93, 94] wLaw_LXC nd_LX wLX_adr wLaw_LX rfl hl.1 rfl (Nat.le_of_ble_eq_true rfl) dL_law_979 ⟨hc, hs⟩ (fun H locs hP hD hS => ?_)
  refine lv_istore (lv' := [(5, .int (nI 2)), (0, .ref bb), (1, .ref (ob 0)), (2, .ref (z 0)), (3, .ref o), (4, .int (nI i))]) hx hcd dL_law_982 hl (by decide) rfl (fun ls hl => ?_)
  refine lv_aload_n hx hcd dL_law_984 rfl (lv_at hl 3 rfl) ?_
  refine lv_aload_n hx hcd dL_law_985 rfl (lv_at hl 1 rfl) ?_
  refine lv_iload hx hcd dL_law_986 (lv_at hl 5 rfl) ?_
  refine lv_iconst (v := nI 1) hx hcd dL_law_988 (by decide) ?_
  refine kr_add hx hcd dL_law_989 ?_
  refine kl_sld hx hcd hX hbl hbA hS (k := i + 1) (by omega) hL9 dL_law_990 ?_
  refine kr_top (w := nI k) h1 ?_
  refine lv_aload_n hx hcd dL_law_991 rfl (lv_at hl 1 rfl) ?_
  refine lv_iload hx hcd dL_law_992 (lv_at hl 5 rfl) ?_
  refine lv_iconst (v := nI 2) hx hcd dL_law_994 (by decide) ?_
  refine kr_add hx hcd dL_law_995 ?_
  refine kl_sld hx hcd hX hbl hbA hS (k := i + 2) (by omega) hL9 dL_law_996 ?_
  refine kr_Vi (As := [.int (nI k), .int (xs (i + 2))]) (rest := []) (ws2 := wLaw cI cB cW cL o F ob nw tr qs sc (g_rot qs r) M N S n L T z (xu x 7 2) hh M Sp Ot Sv T) (q := (RX7, TX7, 10)) ⟨hx, hcd, hml, hown, hts⟩ (c_X7_message__b2 l D cI cB cW cL z x hh _ M (nI k) (xs (i + 2)) (msg_ok hI hk) hg hI) (cwV 2 hts gL_law_X7_message rfl rfl rfl (by decide +kernel) ⟨Nat.le_of_ble_eq_true rfl, Nat.le_of_ble_eq_true rfl⟩) hK hP hD hS hA [95, 96] wLaw_MoC (by decide) wMo_adr2 wLaw_Mo 95 rfl rfl rfl hl.1 rfl (Nat.le_of_ble_eq_true rfl) dL_law_997 ⟨hc, hs⟩ (fun H locs hP hD hS => ?_)
  refine lv_istore (lv' := [(6, .int (nI 0)), (5, .int (nI 2)), (0, .ref bb), (1, .ref (ob 0)), (2, .ref (z 0)), (3, .ref o), (4, .int (nI i))]) hx hcd dL_law_1000 hl (by decide) rfl (fun ls hl => ?_)
  refine lv_aload_n hx hcd dL_law_1002 rfl (lv_at hl 4 rfl) ?_
  refine kr_Vi (As := []) (rest := []) (ws2 := wLaw cI cB cW cL o F ob nw tr qs sc (g_rot qs r) M N S n L T z (xu x 7 2) hh M Sp Ot Sv T) (q := (RX7, TX7, 10)) ⟨hx, hcd, hml, hown, hts⟩ (c_X7_thrown l D cI cB cW cL z (xu x 7 2) hh _ M ) (cwV 0 hts gL_law_X7_thrown rfl rfl rfl (by decide +kernel) ⟨Nat.le_of_ble_eq_true rfl, Nat.le_of_ble_eq_true rfl⟩) hK hP hD hS hA [95, 96] wLaw_MoC (by decide) wMo_adr2 wLaw_Mo 95 rfl rfl rfl hl.1 rfl (Nat.le_of_ble_eq_true rfl) dL_law_1003 ⟨hc, hs⟩ (fun H locs hP hD hS => ?_)
  refine kr_top (w := 2) rfl ?_
  refine kr_top (w := nI 2) rfl ?_
  refine lv_iload hx hcd dL_law_1006 (lv_at hl 1 rfl) ?_
  refine kr_ceq (tgt := 1013) hx hcd (by omega) (by omega) dL_law_1008 (by decide) (fun (c_1008 : 2 = 2) => ?_) (fun (c_1008 : ¬ 2 = 2) => absurd c_1008 (by omega))
  refine lv_iload hx hcd dL_law_1013 (lv_at hl 1 rfl) ?_
  refine kr_zne (tgt := 1030) hx hcd (by omega) dL_law_1015 (by decide) (fun (c_1015 : 0 < 2) => ?_) (fun (c_1015 : 2 = 0) => absurd c_1015 (by omega))
  refine lv_goto (tgt := 1812) hx hcd dL_law_1030 (by decide) ?_
  exact kk F N M S n r L T (xu x 7 2) hh Sp Ot Sv (linv_x hV rfl rfl) H locs ls hP hD hS (lv_sub hl [2, 3, 4, 5, 6] rfl)

set_option maxHeartbeats 4000000 in
set_option maxRecDepth 100000 in
theorem law_count__ok {pp : Program} {l : Launch} {ee : Env} {ss : State} {mm : MethodId} {below : List Frame} {meth : Method} {cc : Code} {bb Ls : Nat} {xs : Nat → Int32} {D : va_G} {cI cB cW cL : ClassId} (C : LFix pp l ss mm cc bb Ls xs D cI cB cW cL) {o : Nat} {F : Nat → Int64} {ob nw tr : Nat → Nat} {qs : Nat → Nat → Nat} {sc : Nat → Nat} {N : kM} {S : Nat → kM} {n r L : Nat} {T : Nat → Int32} {z : Nat → Nat} {x : Nat → Int32} {hh : Int64} {Sp Ot Sv : Nat → Int32} {M : kM} (hV : LInv M S n r L T Sv x) {i : Nat} (hi : i + 5 ≤ Ls) {wh : Nat} (h1 : xs (i + 1) = nI wh) (hwh : wh < 3)  {H : Heap} {locs : List Loc} {ls : Array Slot} {cells slots : Nat} {Q : State → Prop} (hc : cells + 1 ≤ 601024) (hs : slots + 6 ≤ 7293034) (hP : va_P D vwCl (wLaw cI cB cW cL o F ob nw tr qs sc (g_rot qs r) M N S n L T z x hh M Sp Ot Sv T) H) (hD : va_D (fun q : Nat => ss.heap.size ≤ q) (wLaw cI cB cW cL o F ob nw tr qs sc (g_rot qs r) M N S n L T z x hh M Sp Ot Sv T)) (hS : va_S (fun q : Nat => ss.heap.size ≤ q) ss.heap H locs) (hl : lv_has ls 9 [(0, .ref bb), (1, .ref (ob 0)), (2, .ref (z 0)), (3, .ref o), (4, .int (nI i))]) (kk : LNext pp l ee ss mm below meth cc bb D cI cB cW cL o ob nw tr qs sc z i cells slots Q) : W pp l ee room_1 ss mm #[Value.ref bb] below meth cc H locs cells slots Q (F0 mm 1033 ls []) := by
  obtain ⟨hx, hcd, hml, hown, hts, hX, hbl, hst, hZ, hN, hK, hL9⟩ := C
  obtain ⟨hI, hn, hr, hL, hT, hx4, hx6, hsv⟩ := id hV
  have hA : ∀ q : Nat, ss.heap.size ≤ q → (fun q : Nat => ss.heap.size ≤ q) q := fun _ h => h
  have hbA : ¬ (fun q : Nat => ss.heap.size ≤ q) bb := Nat.not_le.mpr hbl
  refine lv_aload_n hx hcd dL_law_1033 rfl (lv_at hl 1 rfl) ?_
  refine lv_aload_n hx hcd dL_law_1034 rfl (lv_at hl 0 rfl) ?_
  refine lv_iload hx hcd dL_law_1035 (lv_at hl 4 rfl) ?_
  refine lv_iconst (v := nI 1) hx hcd dL_law_1037 (by decide) ?_
  refine kr_add hx hcd dL_law_1038 ?_
  refine kl_sld hx hcd hX hbl hbA hS (k := i + 1) (by omega) hL9 dL_law_1039 ?_
  refine kr_top (w := nI wh) h1 ?_
  refine lv_aload_n hx hcd dL_law_1040 rfl (lv_at hl 3 rfl) ?_
  refine kl_S (As := [.ref (ob 0), .int (nI wh), .ref o]) (rest := []) (ws2 := wLaw cI cB cW cL o (vp_updL F 0 (((M (578 + wh)) : Int32).toInt64)) ob nw tr qs sc (g_rot qs r) M N S n L T z x hh M Sp Ot Sv T) ⟨hx, hcd, hml, hown, hts⟩ (c_L_count__ok l hst D cI cB cW cL o F ob nw tr qs sc (g_rot qs r) N S n L T _ M wh hwh) (vx_cwSW 3 hts gL_law_L_count rfl rfl rfl (by decide +kernel) ⟨Nat.le_of_ble_eq_true rfl, Nat.le_of_ble_eq_true rfl⟩) hZ hN hK hP hD hS hA [0, 1, 2, 3, 4, 5, 6, 7, 8, 9, 10, 11, 12, 13, 14, 15, 16, 17, 18, 19, 20, 21, 22, 23, 24, 25, 26, 27, 28, 29, 30, 31, 32, 33, 34, 35, 36, 37, 38, 39, 40, 41, 42, 43, 44, 45, 46, 47, 48, 49, 50, 51, 52, 53, 54, 55, 56, 57, 58, 59, 60, 61, 62, 63, 64, 65, 66, 67, 68, 69, 70, 71, 72, 73, 74, 75, 76, 77, 78, 79, 80, 81, 82, 83, 84, 85, 86, 87, 88, 89, 90, 91, 92, 93, 94] wLaw_LXC nd_LX wLX_adr wLaw_LX rfl hl.1 rfl (Nat.le_of_ble_eq_true rfl) dL_law_1041 ⟨hc, hs⟩ (fun H locs hP hD hS => ?_)
  refine lv_istore (lv' := [(5, .int (nI 0)), (0, .ref bb), (1, .ref (ob 0)), (2, .ref (z 0)), (3, .ref o), (4, .int (nI i))]) hx hcd dL_law_1044 hl (by decide) rfl (fun ls hl => ?_)
  refine lv_aload_n hx hcd dL_law_1046 rfl (lv_at hl 3 rfl) ?_
  refine lv_aload_n hx hcd dL_law_1047 rfl (lv_at hl 1 rfl) ?_
  refine lv_iload hx hcd dL_law_1048 (lv_at hl 5 rfl) ?_
  refine lv_iconst (v := nI 1) hx hcd dL_law_1050 (by decide) ?_
  refine kr_add hx hcd dL_law_1051 ?_
  refine kl_sld hx hcd hX hbl hbA hS (k := i + 1) (by omega) hL9 dL_law_1052 ?_
  refine kr_top (w := nI wh) h1 ?_
  refine kr_Vi (As := [.int (nI wh)]) (rest := []) (ws2 := wLaw cI cB cW cL o (vp_updL F 0 (((M (578 + wh)) : Int32).toInt64)) ob nw tr qs sc (g_rot qs r) M N S n L T z (xu x 7 0) hh M Sp Ot Sv T) (q := (RX7, TX7, 10)) ⟨hx, hcd, hml, hown, hts⟩ (c_X7_count__ok l D cI cB cW cL z x hh _ M wh hwh) (cwV 1 hts gL_law_X7_count rfl rfl rfl (by decide +kernel) ⟨Nat.le_of_ble_eq_true rfl, Nat.le_of_ble_eq_true rfl⟩) hK hP hD hS hA [95, 96] wLaw_MoC (by decide) wMo_adr2 wLaw_Mo 95 rfl rfl rfl hl.1 rfl (Nat.le_of_ble_eq_true rfl) dL_law_1053 ⟨hc, hs⟩ (fun H locs hP hD hS => ?_)
  refine lv_istore (lv' := [(6, .int (M (578 + wh))), (5, .int (nI 0)), (0, .ref bb), (1, .ref (ob 0)), (2, .ref (z 0)), (3, .ref o), (4, .int (nI i))]) hx hcd dL_law_1056 hl (by decide) rfl (fun ls hl => ?_)
  refine lv_aload_n hx hcd dL_law_1058 rfl (lv_at hl 4 rfl) ?_
  refine kr_Vi (As := []) (rest := []) (ws2 := wLaw cI cB cW cL o (vp_updL F 0 (((M (578 + wh)) : Int32).toInt64)) ob nw tr qs sc (g_rot qs r) M N S n L T z (xu x 7 0) hh M Sp Ot Sv T) (q := (RX7, TX7, 10)) ⟨hx, hcd, hml, hown, hts⟩ (c_X7_thrown l D cI cB cW cL z (xu x 7 0) hh _ M ) (cwV 0 hts gL_law_X7_thrown rfl rfl rfl (by decide +kernel) ⟨Nat.le_of_ble_eq_true rfl, Nat.le_of_ble_eq_true rfl⟩) hK hP hD hS hA [95, 96] wLaw_MoC (by decide) wMo_adr2 wLaw_Mo 95 rfl rfl rfl hl.1 rfl (Nat.le_of_ble_eq_true rfl) dL_law_1059 ⟨hc, hs⟩ (fun H locs hP hD hS => ?_)
  refine kr_top (w := 0) rfl ?_
  refine kr_top (w := nI 0) rfl ?_
  refine lv_iload hx hcd dL_law_1062 (lv_at hl 1 rfl) ?_
  refine kr_ceq (tgt := 1069) hx hcd (by omega) (by omega) dL_law_1064 (by decide) (fun (c_1064 : 0 = 0) => ?_) (fun (c_1064 : ¬ 0 = 0) => absurd c_1064 (by omega))
  refine lv_iload hx hcd dL_law_1069 (lv_at hl 1 rfl) ?_
  refine kr_zne (tgt := 1086) hx hcd (by omega) dL_law_1071 (by decide) (fun (c_1071 : 0 < 0) => absurd c_1071 (by omega)) (fun (c_1071 : 0 = 0) => ?_)
  refine lv_aload_n hx hcd dL_law_1074 rfl (lv_at hl 5 rfl) ?_
  refine lv_iconst (v := nI 0) hx hcd dL_law_1075 (by decide) ?_
  refine kl_lald hx hcd hK hP 0 3 rfl rfl (v := ((M (578 + wh)) : Int32).toInt64) (by omega) (by decide) updL_0 dL_law_1076 ?_
  refine lv_iload hx hcd dL_law_1077 (lv_at hl 0 rfl) ?_
  refine lv_i2l hx hcd dL_law_1079 rfl ?_
  refine kl_lcmp hx hcd (rfl) dL_law_1080 ?_
  refine kr_zeq (tgt := 1086) hx hcd (by omega) dL_law_1081 (by decide) (fun (c_1081 : 0 = 0) => ?_) (fun (c_1081 : 0 < 0) => absurd c_1081 (by omega))
  refine lv_goto (tgt := 1812) hx hcd dL_law_1086 (by decide) ?_
  exact kk (vp_updL F 0 (((M (578 + wh)) : Int32).toInt64)) N M S n r L T (xu x 7 0) hh Sp Ot Sv (linv_x hV rfl rfl) H locs ls hP hD hS (lv_sub hl [2, 3, 4, 5, 6] rfl)

set_option maxHeartbeats 4000000 in
set_option maxRecDepth 100000 in
theorem law_count__e1 {pp : Program} {l : Launch} {ee : Env} {ss : State} {mm : MethodId} {below : List Frame} {meth : Method} {cc : Code} {bb Ls : Nat} {xs : Nat → Int32} {D : va_G} {cI cB cW cL : ClassId} (C : LFix pp l ss mm cc bb Ls xs D cI cB cW cL) {o : Nat} {F : Nat → Int64} {ob nw tr : Nat → Nat} {qs : Nat → Nat → Nat} {sc : Nat → Nat} {N : kM} {S : Nat → kM} {n r L : Nat} {T : Nat → Int32} {z : Nat → Nat} {x : Nat → Int32} {hh : Int64} {Sp Ot Sv : Nat → Int32} {M : kM} (hV : LInv M S n r L T Sv x) {i : Nat} (hi : i + 5 ≤ Ls)  (hg : g_in (xs (i + 1)) 0 2 = false) {H : Heap} {locs : List Loc} {ls : Array Slot} {cells slots : Nat} {Q : State → Prop} (hc : cells + 1 ≤ 601024) (hs : slots + 6 ≤ 7293034) (hP : va_P D vwCl (wLaw cI cB cW cL o F ob nw tr qs sc (g_rot qs r) M N S n L T z x hh M Sp Ot Sv T) H) (hD : va_D (fun q : Nat => ss.heap.size ≤ q) (wLaw cI cB cW cL o F ob nw tr qs sc (g_rot qs r) M N S n L T z x hh M Sp Ot Sv T)) (hS : va_S (fun q : Nat => ss.heap.size ≤ q) ss.heap H locs) (hl : lv_has ls 9 [(0, .ref bb), (1, .ref (ob 0)), (2, .ref (z 0)), (3, .ref o), (4, .int (nI i))]) (kk : LNext pp l ee ss mm below meth cc bb D cI cB cW cL o ob nw tr qs sc z i cells slots Q) : W pp l ee room_1 ss mm #[Value.ref bb] below meth cc H locs cells slots Q (F0 mm 1033 ls []) := by
  obtain ⟨hx, hcd, hml, hown, hts, hX, hbl, hst, hZ, hN, hK, hL9⟩ := C
  obtain ⟨hI, hn, hr, hL, hT, hx4, hx6, hsv⟩ := id hV
  have hA : ∀ q : Nat, ss.heap.size ≤ q → (fun q : Nat => ss.heap.size ≤ q) q := fun _ h => h
  have hbA : ¬ (fun q : Nat => ss.heap.size ≤ q) bb := Nat.not_le.mpr hbl
  refine lv_aload_n hx hcd dL_law_1033 rfl (lv_at hl 1 rfl) ?_
  refine lv_aload_n hx hcd dL_law_1034 rfl (lv_at hl 0 rfl) ?_
  refine lv_iload hx hcd dL_law_1035 (lv_at hl 4 rfl) ?_
  refine lv_iconst (v := nI 1) hx hcd dL_law_1037 (by decide) ?_
  refine kr_add hx hcd dL_law_1038 ?_
  refine kl_sld hx hcd hX hbl hbA hS (k := i + 1) (by omega) hL9 dL_law_1039 ?_
  refine lv_aload_n hx hcd dL_law_1040 rfl (lv_at hl 3 rfl) ?_
  refine kl_S (As := [.ref (ob 0), .int (xs (i + 1)), .ref o]) (rest := []) (ws2 := wLaw cI cB cW cL o F ob nw tr qs sc (g_rot qs r) M N S n L T z x hh M Sp Ot Sv T) ⟨hx, hcd, hml, hown, hts⟩ (c_L_count__e1 l hst D cI cB cW cL o F ob nw tr qs sc (g_rot qs r) N S n L T _ M (xs (i + 1)) hg) (vx_cwSW 3 hts gL_law_L_count rfl rfl rfl (by decide +kernel) ⟨Nat.le_of_ble_eq_true rfl, Nat.le_of_ble_eq_true rfl⟩) hZ hN hK hP hD hS hA [0, 1, 2, 3, 4, 5, 6, 7, 8, 9, 10, 11, 12, 13, 14, 15, 16, 17, 18, 19, 20, 21, 22, 23, 24, 25, 26, 27, 28, 29, 30, 31, 32, 33, 34, 35, 36, 37, 38, 39, 40, 41, 42, 43, 44, 45, 46, 47, 48, 49, 50, 51, 52, 53, 54, 55, 56, 57, 58, 59, 60, 61, 62, 63, 64, 65, 66, 67, 68, 69, 70, 71, 72, 73, 74, 75, 76, 77, 78, 79, 80, 81, 82, 83, 84, 85, 86, 87, 88, 89, 90, 91, 92, 93, 94] wLaw_LXC nd_LX wLX_adr wLaw_LX rfl hl.1 rfl (Nat.le_of_ble_eq_true rfl) dL_law_1041 ⟨hc, hs⟩ (fun H locs hP hD hS => ?_)
  refine lv_istore (lv' := [(5, .int (nI 1)), (0, .ref bb), (1, .ref (ob 0)), (2, .ref (z 0)), (3, .ref o), (4, .int (nI i))]) hx hcd dL_law_1044 hl (by decide) rfl (fun ls hl => ?_)
  refine lv_aload_n hx hcd dL_law_1046 rfl (lv_at hl 3 rfl) ?_
  refine lv_aload_n hx hcd dL_law_1047 rfl (lv_at hl 1 rfl) ?_
  refine lv_iload hx hcd dL_law_1048 (lv_at hl 5 rfl) ?_
  refine lv_iconst (v := nI 1) hx hcd dL_law_1050 (by decide) ?_
  refine kr_add hx hcd dL_law_1051 ?_
  refine kl_sld hx hcd hX hbl hbA hS (k := i + 1) (by omega) hL9 dL_law_1052 ?_
  refine kr_Vi (As := [.int (xs (i + 1))]) (rest := []) (ws2 := wLaw cI cB cW cL o F ob nw tr qs sc (g_rot qs r) M N S n L T z (xu x 7 1) hh M Sp Ot Sv T) (q := (RX7, TX7, 10)) ⟨hx, hcd, hml, hown, hts⟩ (c_X7_count__b1 l D cI cB cW cL z x hh _ M (xs (i + 1)) hg) (cwV 1 hts gL_law_X7_count rfl rfl rfl (by decide +kernel) ⟨Nat.le_of_ble_eq_true rfl, Nat.le_of_ble_eq_true rfl⟩) hK hP hD hS hA [95, 96] wLaw_MoC (by decide) wMo_adr2 wLaw_Mo 95 rfl rfl rfl hl.1 rfl (Nat.le_of_ble_eq_true rfl) dL_law_1053 ⟨hc, hs⟩ (fun H locs hP hD hS => ?_)
  refine lv_istore (lv' := [(6, .int (nI 0)), (5, .int (nI 1)), (0, .ref bb), (1, .ref (ob 0)), (2, .ref (z 0)), (3, .ref o), (4, .int (nI i))]) hx hcd dL_law_1056 hl (by decide) rfl (fun ls hl => ?_)
  refine lv_aload_n hx hcd dL_law_1058 rfl (lv_at hl 4 rfl) ?_
  refine kr_Vi (As := []) (rest := []) (ws2 := wLaw cI cB cW cL o F ob nw tr qs sc (g_rot qs r) M N S n L T z (xu x 7 1) hh M Sp Ot Sv T) (q := (RX7, TX7, 10)) ⟨hx, hcd, hml, hown, hts⟩ (c_X7_thrown l D cI cB cW cL z (xu x 7 1) hh _ M ) (cwV 0 hts gL_law_X7_thrown rfl rfl rfl (by decide +kernel) ⟨Nat.le_of_ble_eq_true rfl, Nat.le_of_ble_eq_true rfl⟩) hK hP hD hS hA [95, 96] wLaw_MoC (by decide) wMo_adr2 wLaw_Mo 95 rfl rfl rfl hl.1 rfl (Nat.le_of_ble_eq_true rfl) dL_law_1059 ⟨hc, hs⟩ (fun H locs hP hD hS => ?_)
  refine kr_top (w := 1) rfl ?_
  refine kr_top (w := nI 1) rfl ?_
  refine lv_iload hx hcd dL_law_1062 (lv_at hl 1 rfl) ?_
  refine kr_ceq (tgt := 1069) hx hcd (by omega) (by omega) dL_law_1064 (by decide) (fun (c_1064 : 1 = 1) => ?_) (fun (c_1064 : ¬ 1 = 1) => absurd c_1064 (by omega))
  refine lv_iload hx hcd dL_law_1069 (lv_at hl 1 rfl) ?_
  refine kr_zne (tgt := 1086) hx hcd (by omega) dL_law_1071 (by decide) (fun (c_1071 : 0 < 1) => ?_) (fun (c_1071 : 1 = 0) => absurd c_1071 (by omega))
  refine lv_goto (tgt := 1812) hx hcd dL_law_1086 (by decide) ?_
  exact kk F N M S n r L T (xu x 7 1) hh Sp Ot Sv (linv_x hV rfl rfl) H locs ls hP hD hS (lv_sub hl [2, 3, 4, 5, 6] rfl)

set_option maxHeartbeats 4000000 in
set_option maxRecDepth 100000 in
theorem law_version__ok0 {pp : Program} {l : Launch} {ee : Env} {ss : State} {mm : MethodId} {below : List Frame} {meth : Method} {cc : Code} {bb Ls : Nat} {xs : Nat → Int32} {D : va_G} {cI cB cW cL : ClassId} (C : LFix pp l ss mm cc bb Ls xs D cI cB cW cL) {o : Nat} {F : Nat → Int64} {ob nw tr : Nat → Nat} {qs : Nat → Nat → Nat} {sc : Nat → Nat} {N : kM} {S : Nat → kM} {n r L : Nat} {T : Nat → Int32} {z : Nat → Nat} {x : Nat → Int32} {hh : Int64} {Sp Ot Sv : Nat → Int32} {M : kM} (hV : LInv M S n r L T Sv x) {i : Nat} (hi : i + 5 ≤ Ls) {a : Nat} (h1 : xs (i + 1) = nI a) (ha : a < 6) (h2 : xs (i + 2) = -1)  {H : Heap} {locs : List Loc} {ls : Array Slot} {cells slots : Nat} {Q : State → Prop} (hc : cells + 1 ≤ 601024) (hs : slots + 6 ≤ 7293034) (hP : va_P D vwCl (wLaw cI cB cW cL o F ob nw tr qs sc (g_rot qs r) M N S n L T z x hh M Sp Ot Sv T) H) (hD : va_D (fun q : Nat => ss.heap.size ≤ q) (wLaw cI cB cW cL o F ob nw tr qs sc (g_rot qs r) M N S n L T z x hh M Sp Ot Sv T)) (hS : va_S (fun q : Nat => ss.heap.size ≤ q) ss.heap H locs) (hl : lv_has ls 9 [(0, .ref bb), (1, .ref (ob 0)), (2, .ref (z 0)), (3, .ref o), (4, .int (nI i))]) (kk : LNext pp l ee ss mm below meth cc bb D cI cB cW cL o ob nw tr qs sc z i cells slots Q) : W pp l ee room_1 ss mm #[Value.ref bb] below meth cc H locs cells slots Q (F0 mm 1157 ls []) := by
  obtain ⟨hx, hcd, hml, hown, hts, hX, hbl, hst, hZ, hN, hK, hL9⟩ := C
  obtain ⟨hI, hn, hr, hL, hT, hx4, hx6, hsv⟩ := id hV
  have hA : ∀ q : Nat, ss.heap.size ≤ q → (fun q : Nat => ss.heap.size ≤ q) q := fun _ h => h
  have hbA : ¬ (fun q : Nat => ss.heap.size ≤ q) bb := Nat.not_le.mpr hbl
  refine lv_aload_n hx hcd dL_law_1157 rfl (lv_at hl 1 rfl) ?_
  refine lv_aload_n hx hcd dL_law_1158 rfl (lv_at hl 0 rfl) ?_
  refine lv_iload hx hcd dL_law_1159 (lv_at hl 4 rfl) ?_
  refine lv_iconst (v := nI 1) hx hcd dL_law_1161 (by decide) ?_
  refine kr_add hx hcd dL_law_1162 ?_
  refine kl_sld hx hcd hX hbl hbA hS (k := i + 1) (by omega) hL9 dL_law_1163 ?_
  refine kr_top (w := nI a) h1 ?_
  refine lv_aload_n hx hcd dL_law_1164 rfl (lv_at hl 0 rfl) ?_
  refine lv_iload hx hcd dL_law_1165 (lv_at hl 4 rfl) ?_
  refine lv_iconst (v := nI 2) hx hcd dL_law_1167 (by decide) ?_
  refine kr_add hx hcd dL_law_1168 ?_
  refine kl_sld hx hcd hX hbl hbA hS (k := i + 2) (by omega) hL9 dL_law_1169 ?_
  refine kr_top (w := (-1)) h2 ?_
  refine lv_aload_n hx hcd dL_law_1170 rfl (lv_at hl 3 rfl) ?_
  refine kl_S (As := [.ref (ob 0), .int (nI a), .int (-1), .ref o]) (rest := []) (ws2 := wLaw cI cB cW cL o (vp_updL F 0 (((M (126 + a)) : Int32).toInt64)) ob nw tr qs sc (g_rot qs r) M N S n L T z x hh M Sp Ot Sv T) ⟨hx, hcd, hml, hown, hts⟩ (c_L_version__ok0 l hst D cI cB cW cL o F ob nw tr qs sc (g_rot qs r) N S n L T _ M a ha) (vx_cwSW 4 hts gL_law_L_version rfl rfl rfl (by decide +kernel) ⟨Nat.le_of_ble_eq_true rfl, Nat.le_of_ble_eq_true rfl⟩) hZ hN hK hP hD hS hA [0, 1, 2, 3, 4, 5, 6, 7, 8, 9, 10, 11, 12, 13, 14, 15, 16, 17, 18, 19, 20, 21, 22, 23, 24, 25, 26, 27, 28, 29, 30, 31, 32, 33, 34, 35, 36, 37, 38, 39, 40, 41, 42, 43, 44, 45, 46, 47, 48, 49, 50, 51, 52, 53, 54, 55, 56, 57, 58, 59, 60, 61, 62, 63, 64, 65, 66, 67, 68, 69, 70, 71, 72, 73, 74, 75, 76, 77, 78, 79, 80, 81, 82, 83, 84, 85, 86, 87, 88, 89, 90, 91, 92, 93, 94] wLaw_LXC nd_LX wLX_adr wLaw_LX rfl hl.1 rfl (Nat.le_of_ble_eq_true rfl) dL_law_1171 ⟨hc, hs⟩ (fun H locs hP hD hS => ?_)
  refine lv_istore (lv' := [(5, .int (nI 0)), (0, .ref bb), (1, .ref (ob 0)), (2, .ref (z 0)), (3, .ref o), (4, .int (nI i))]) hx hcd dL_law_1174 hl (by decide) rfl (fun ls hl => ?_)
  refine lv_aload_n hx hcd dL_law_1176 rfl (lv_at hl 3 rfl) ?_
  refine lv_aload_n hx hcd dL_law_1177 rfl (lv_at hl 1 rfl) ?_
  refine lv_iload hx hcd dL_law_1178 (lv_at hl 5 rfl) ?_
  refine lv_iconst (v := nI 1) hx hcd dL_law_1180 (by decide) ?_
  refine kr_add hx hcd dL_law_1181 ?_
  refine kl_sld hx hcd hX hbl hbA hS (k := i + 1) (by omega) hL9 dL_law_1182 ?_
  refine kr_top (w := nI a) h1 ?_
  refine lv_aload_n hx hcd dL_law_1183 rfl (lv_at hl 1 rfl) ?_
  refine lv_iload hx hcd dL_law_1184 (lv_at hl 5 rfl) ?_
  refine lv_iconst (v := nI 2) hx hcd dL_law_1186 (by decide) ?_
  refine kr_add hx hcd dL_law_1187 ?_
  refine kl_sld hx hcd hX hbl hbA hS (k := i + 2) (by omega) hL9 dL_law_1188 ?_
  refine kr_top (w := (-1)) h2 ?_
  refine kr_Vi (As := [.int (nI a), .int (-1)]) (rest := []) (ws2 := wLaw cI cB cW cL o (vp_updL F 0 (((M (126 + a)) : Int32).toInt64)) ob nw tr qs sc (g_rot qs r) M N S n L T z (xu x 7 0) hh M Sp Ot Sv T) (q := (RX7, TX7, 10)) ⟨hx, hcd, hml, hown, hts⟩ (c_X7_version__ok0 l D cI cB cW cL z x hh _ M a ha) (cwV 2 hts gL_law_X7_version rfl rfl rfl (by decide +kernel) ⟨Nat.le_of_ble_eq_true rfl, Nat.le_of_ble_eq_true rfl⟩) hK hP hD hS hA [95, 96] wLaw_MoC (by decide) wMo_adr2 wLaw_Mo 95 rfl rfl rfl hl.1 rfl (Nat.le_of_ble_eq_true rfl) dL_law_1189 ⟨hc, hs⟩ (fun H locs hP hD hS => ?_)
  refine lv_istore (lv' := [(6, .int (M (126 + a))), (5, .int (nI 0)), (0, .ref bb), (1, .ref (ob 0)), (2, .ref (z 0)), (3, .ref o), (4, .int (nI i))]) hx hcd dL_law_1192 hl (by decide) rfl (fun ls hl => ?_)
  refine lv_aload_n hx hcd dL_law_1194 rfl (lv_at hl 4 rfl) ?_
  refine kr_Vi (As := []) (rest := []) (ws2 := wLaw cI cB cW cL o (vp_updL F 0 (((M (126 + a)) : Int32).toInt64)) ob nw tr qs sc (g_rot qs r) M N S n L T z (xu x 7 0) hh M Sp Ot Sv T) (q := (RX7, TX7, 10)) ⟨hx, hcd, hml, hown, hts⟩ (c_X7_thrown l D cI cB cW cL z (xu x 7 0) hh _ M ) (cwV 0 hts gL_law_X7_thrown rfl rfl rfl (by decide +kernel) ⟨Nat.le_of_ble_eq_true rfl, Nat.le_of_ble_eq_true rfl⟩) hK hP hD hS hA [95, 96] wLaw_MoC (by decide) wMo_adr2 wLaw_Mo 95 rfl rfl rfl hl.1 rfl (Nat.le_of_ble_eq_true rfl) dL_law_1195 ⟨hc, hs⟩ (fun H locs hP hD hS => ?_)
  refine kr_top (w := 0) rfl ?_
  refine kr_top (w := nI 0) rfl ?_
  refine lv_iload hx hcd dL_law_1198 (lv_at hl 1 rfl) ?_
  refine kr_ceq (tgt := 1205) hx hcd (by omega) (by omega) dL_law_1200 (by decide) (fun (c_1200 : 0 = 0) => ?_) (fun (c_1200 : ¬ 0 = 0) => absurd c_1200 (by omega))
  refine lv_iload hx hcd dL_law_1205 (lv_at hl 1 rfl) ?_
  refine kr_zne (tgt := 1222) hx hcd (by omega) dL_law_1207 (by decide) (fun (c_1207 : 0 < 0) => absurd c_1207 (by omega)) (fun (c_1207 : 0 = 0) => ?_)
  refine lv_aload_n hx hcd dL_law_1210 rfl (lv_at hl 5 rfl) ?_
  refine lv_iconst (v := nI 0) hx hcd dL_law_1211 (by decide) ?_
  refine kl_lald hx hcd hK hP 0 3 rfl rfl (v := ((M (126 + a)) : Int32).toInt64) (by omega) (by decide) updL_0 dL_law_1212 ?_
  refine lv_iload hx hcd dL_law_1213 (lv_at hl 0 rfl) ?_
  refine lv_i2l hx hcd dL_law_1215 rfl ?_
  refine kl_lcmp hx hcd (rfl) dL_law_1216 ?_
  refine kr_zeq (tgt := 1222) hx hcd (by omega) dL_law_1217 (by decide) (fun (c_1217 : 0 = 0) => ?_) (fun (c_1217 : 0 < 0) => absurd c_1217 (by omega))
  refine lv_goto (tgt := 1812) hx hcd dL_law_1222 (by decide) ?_
  exact kk (vp_updL F 0 (((M (126 + a)) : Int32).toInt64)) N M S n r L T (xu x 7 0) hh Sp Ot Sv (linv_x hV rfl rfl) H locs ls hP hD hS (lv_sub hl [2, 3, 4, 5, 6] rfl)

set_option maxHeartbeats 4000000 in
set_option maxRecDepth 100000 in
theorem law_version__ok1 {pp : Program} {l : Launch} {ee : Env} {ss : State} {mm : MethodId} {below : List Frame} {meth : Method} {cc : Code} {bb Ls : Nat} {xs : Nat → Int32} {D : va_G} {cI cB cW cL : ClassId} (C : LFix pp l ss mm cc bb Ls xs D cI cB cW cL) {o : Nat} {F : Nat → Int64} {ob nw tr : Nat → Nat} {qs : Nat → Nat → Nat} {sc : Nat → Nat} {N : kM} {S : Nat → kM} {n r L : Nat} {T : Nat → Int32} {z : Nat → Nat} {x : Nat → Int32} {hh : Int64} {Sp Ot Sv : Nat → Int32} {M : kM} (hV : LInv M S n r L T Sv x) {i : Nat} (hi : i + 5 ≤ Ls) {a b : Nat} (h1 : xs (i + 1) = nI a) (h2 : xs (i + 2) = nI b) (ha : a < 6) (hb : b < 6) (hne : a ≠ b)  {H : Heap} {locs : List Loc} {ls : Array Slot} {cells slots : Nat} {Q : State → Prop} (hc : cells + 1 ≤ 601024) (hs : slots + 6 ≤ 7293034) (hP : va_P D vwCl (wLaw cI cB cW cL o F ob nw tr qs sc (g_rot qs r) M N S n L T z x hh M Sp Ot Sv T) H) (hD : va_D (fun q : Nat => ss.heap.size ≤ q) (wLaw cI cB cW cL o F ob nw tr qs sc (g_rot qs r) M N S n L T z x hh M Sp Ot Sv T)) (hS : va_S (fun q : Nat => ss.heap.size ≤ q) ss.heap H locs) (hl : lv_has ls 9 [(0, .ref bb), (1, .ref (ob 0)), (2, .ref (z 0)), (3, .ref o), (4, .int (nI i))]) (kk : LNext pp l ee ss mm below meth cc bb D cI cB cW cL o ob nw tr qs sc z i cells slots Q) : W pp l ee room_1 ss mm #[Value.ref bb] below meth cc H locs cells slots Q (F0 mm 1157 ls []) := by
  obtain ⟨hx, hcd, hml, hown, hts, hX, hbl, hst, hZ, hN, hK, hL9⟩ := C
  obtain ⟨hI, hn, hr, hL, hT, hx4, hx6, hsv⟩ := id hV
  have hA : ∀ q : Nat, ss.heap.size ≤ q → (fun q : Nat => ss.heap.size ≤ q) q := fun _ h => h
  have hbA : ¬ (fun q : Nat => ss.heap.size ≤ q) bb := Nat.not_le.mpr hbl
  refine lv_aload_n hx hcd dL_law_1157 rfl (lv_at hl 1 rfl) ?_
  refine lv_aload_n hx hcd dL_law_1158 rfl (lv_at hl 0 rfl) ?_
  refine lv_iload hx hcd dL_law_1159 (lv_at hl 4 rfl) ?_
  refine lv_iconst (v := nI 1) hx hcd dL_law_1161 (by decide) ?_
  refine kr_add hx hcd dL_law_1162 ?_
  refine kl_sld hx hcd hX hbl hbA hS (k := i + 1) (by omega) hL9 dL_law_1163 ?_
  refine kr_top (w := nI a) h1 ?_
  refine lv_aload_n hx hcd dL_law_1164 rfl (lv_at hl 0 rfl) ?_
  refine lv_iload hx hcd dL_law_1165 (lv_at hl 4 rfl) ?_
  refine lv_iconst (v := nI 2) hx hcd dL_law_1167 (by decide) ?_
  refine kr_add hx hcd dL_law_1168 ?_
  refine kl_sld hx hcd hX hbl hbA hS (k := i + 2) (by omega) hL9 dL_law_1169 ?_
  refine kr_top (w := nI b) h2 ?_
  refine lv_aload_n hx hcd dL_law_1170 rfl (lv_at hl 3 rfl) ?_
  refine kl_S (As := [.ref (ob 0), .int (nI a), .int (nI b), .ref o]) (rest := []) (ws2 := wLaw cI cB cW cL o (vp_updL F 0 (((M (90 + 6 * a + b)) : Int32).toInt64)) ob nw tr qs sc (g_rot qs r) M N S n L T z x hh M Sp Ot Sv T) ⟨hx, hcd, hml, hown, hts⟩ (c_L_version__ok1 l hst D cI cB cW cL o F ob nw tr qs sc (g_rot qs r) N S n L T _ M a b ha hb hne) (vx_cwSW 4 hts gL_law_L_version rfl rfl rfl (by decide +kernel) ⟨Nat.le_of_ble_eq_true rfl, Nat.le_of_ble_eq_true rfl⟩) hZ hN hK hP hD hS hA [0, 1, 2, 3, 4, 5, 6, 7, 8, 9, 10, 11, 12, 13, 14, 15, 16, 17, 18, 19, 20, 21, 22, 23, 24, 25, 26, 27, 28, 29, 30, 31, 32, 33, 34, 35, 36, 37, 38, 39, 40, 41, 42, 43, 44, 45, 46, 47, 48, 49, 50, 51, 52, 53, 54, 55, 56, 57, 58, 59, 60, 61, 62, 63, 64, 65, 66, 67, 68, 69, 70, 71, 72, 73, 74, 75, 76, 77, 78, 79, 80, 81, 82, 83, 84, 85, 86, 87, 88, 89, 90, 91, 92, 93, 94] wLaw_LXC nd_LX wLX_adr wLaw_LX rfl hl.1 rfl (Nat.le_of_ble_eq_true rfl) dL_law_1171 ⟨hc, hs⟩ (fun H locs hP hD hS => ?_)
  refine lv_istore (lv' := [(5, .int (nI 0)), (0, .ref bb), (1, .ref (ob 0)), (2, .ref (z 0)), (3, .ref o), (4, .int (nI i))]) hx hcd dL_law_1174 hl (by decide) rfl (fun ls hl => ?_)
  refine lv_aload_n hx hcd dL_law_1176 rfl (lv_at hl 3 rfl) ?_
  refine lv_aload_n hx hcd dL_law_1177 rfl (lv_at hl 1 rfl) ?_
  refine lv_iload hx hcd dL_law_1178 (lv_at hl 5 rfl) ?_
  refine lv_iconst (v := nI 1) hx hcd dL_law_1180 (by decide) ?_
  refine kr_add hx hcd dL_law_1181 ?_
  refine kl_sld hx hcd hX hbl hbA hS (k := i + 1) (by omega) hL9 dL_law_1182 ?_
  refine kr_top (w := nI a) h1 ?_
  refine lv_aload_n hx hcd dL_law_1183 rfl (lv_at hl 1 rfl) ?_
  refine lv_iload hx hcd dL_law_1184 (lv_at hl 5 rfl) ?_
  refine lv_iconst (v := nI 2) hx hcd dL_law_1186 (by decide) ?_
  refine kr_add hx hcd dL_law_1187 ?_
  refine kl_sld hx hcd hX hbl hbA hS (k := i + 2) (by omega) hL9 dL_law_1188 ?_
  refine kr_top (w := nI b) h2 ?_
  refine kr_Vi (As := [.int (nI a), .int (nI b)]) (rest := []) (ws2 := wLaw cI cB cW cL o (vp_updL F 0 (((M (90 + 6 * a + b)) : Int32).toInt64)) ob nw tr qs sc (g_rot qs r) M N S n L T z (xu x 7 0) hh M Sp Ot Sv T) (q := (RX7, TX7, 10)) ⟨hx, hcd, hml, hown, hts⟩ (c_X7_version__ok1 l D cI cB cW cL z x hh _ M a b ha hb hne) (cwV 2 hts gL_law_X7_version rfl rfl rfl (by decide +kernel) ⟨Nat.le_of_ble_eq_true rfl, Nat.le_of_ble_eq_true rfl⟩) hK hP hD hS hA [95, 96] wLaw_MoC (by decide) wMo_adr2 wLaw_Mo 95 rfl rfl rfl hl.1 rfl (Nat.le_of_ble_eq_true rfl) dL_law_1189 ⟨hc, hs⟩ (fun H locs hP hD hS => ?_)
  refine lv_istore (lv' := [(6, .int (M (90 + 6 * a + b))), (5, .int (nI 0)), (0, .ref bb), (1, .ref (ob 0)), (2, .ref (z 0)), (3, .ref o), (4, .int (nI i))]) hx hcd dL_law_1192 hl (by decide) rfl (fun ls hl => ?_)
  refine lv_aload_n hx hcd dL_law_1194 rfl (lv_at hl 4 rfl) ?_
  refine kr_Vi (As := []) (rest := []) (ws2 := wLaw cI cB cW cL o (vp_updL F 0 (((M (90 + 6 * a + b)) : Int32).toInt64)) ob nw tr qs sc (g_rot qs r) M N S n L T z (xu x 7 0) hh M Sp Ot Sv T) (q := (RX7, TX7, 10)) ⟨hx, hcd, hml, hown, hts⟩ (c_X7_thrown l D cI cB cW cL z (xu x 7 0) hh _ M ) (cwV 0 hts gL_law_X7_thrown rfl rfl rfl (by decide +kernel) ⟨Nat.le_of_ble_eq_true rfl, Nat.le_of_ble_eq_true rfl⟩) hK hP hD hS hA [95, 96] wLaw_MoC (by decide) wMo_adr2 wLaw_Mo 95 rfl rfl rfl hl.1 rfl (Nat.le_of_ble_eq_true rfl) dL_law_1195 ⟨hc, hs⟩ (fun H locs hP hD hS => ?_)
  refine kr_top (w := 0) rfl ?_
  refine kr_top (w := nI 0) rfl ?_
  refine lv_iload hx hcd dL_law_1198 (lv_at hl 1 rfl) ?_
  refine kr_ceq (tgt := 1205) hx hcd (by omega) (by omega) dL_law_1200 (by decide) (fun (c_1200 : 0 = 0) => ?_) (fun (c_1200 : ¬ 0 = 0) => absurd c_1200 (by omega))
  refine lv_iload hx hcd dL_law_1205 (lv_at hl 1 rfl) ?_
  refine kr_zne (tgt := 1222) hx hcd (by omega) dL_law_1207 (by decide) (fun (c_1207 : 0 < 0) => absurd c_1207 (by omega)) (fun (c_1207 : 0 = 0) => ?_)
  refine lv_aload_n hx hcd dL_law_1210 rfl (lv_at hl 5 rfl) ?_
  refine lv_iconst (v := nI 0) hx hcd dL_law_1211 (by decide) ?_
  refine kl_lald hx hcd hK hP 0 3 rfl rfl (v := ((M (90 + 6 * a + b)) : Int32).toInt64) (by omega) (by decide) updL_0 dL_law_1212 ?_
  refine lv_iload hx hcd dL_law_1213 (lv_at hl 0 rfl) ?_
  refine lv_i2l hx hcd dL_law_1215 rfl ?_
  refine kl_lcmp hx hcd (rfl) dL_law_1216 ?_
  refine kr_zeq (tgt := 1222) hx hcd (by omega) dL_law_1217 (by decide) (fun (c_1217 : 0 = 0) => ?_) (fun (c_1217 : 0 < 0) => absurd c_1217 (by omega))
  refine lv_goto (tgt := 1812) hx hcd dL_law_1222 (by decide) ?_
  exact kk (vp_updL F 0 (((M (90 + 6 * a + b)) : Int32).toInt64)) N M S n r L T (xu x 7 0) hh Sp Ot Sv (linv_x hV rfl rfl) H locs ls hP hD hS (lv_sub hl [2, 3, 4, 5, 6] rfl)

set_option maxHeartbeats 4000000 in
set_option maxRecDepth 100000 in
theorem law_version__e1a {pp : Program} {l : Launch} {ee : Env} {ss : State} {mm : MethodId} {below : List Frame} {meth : Method} {cc : Code} {bb Ls : Nat} {xs : Nat → Int32} {D : va_G} {cI cB cW cL : ClassId} (C : LFix pp l ss mm cc bb Ls xs D cI cB cW cL) {o : Nat} {F : Nat → Int64} {ob nw tr : Nat → Nat} {qs : Nat → Nat → Nat} {sc : Nat → Nat} {N : kM} {S : Nat → kM} {n r L : Nat} {T : Nat → Int32} {z : Nat → Nat} {x : Nat → Int32} {hh : Int64} {Sp Ot Sv : Nat → Int32} {M : kM} (hV : LInv M S n r L T Sv x) {i : Nat} (hi : i + 5 ≤ Ls)  (h2 : xs (i + 2) = -1) (hg : g_usr (xs (i + 1)) = false) {H : Heap} {locs : List Loc} {ls : Array Slot} {cells slots : Nat} {Q : State → Prop} (hc : cells + 1 ≤ 601024) (hs : slots + 6 ≤ 7293034) (hP : va_P D vwCl (wLaw cI cB cW cL o F ob nw tr qs sc (g_rot qs r) M N S n L T z x hh M Sp Ot Sv T) H) (hD : va_D (fun q : Nat => ss.heap.size ≤ q) (wLaw cI cB cW cL o F ob nw tr qs sc (g_rot qs r) M N S n L T z x hh M Sp Ot Sv T)) (hS : va_S (fun q : Nat => ss.heap.size ≤ q) ss.heap H locs) (hl : lv_has ls 9 [(0, .ref bb), (1, .ref (ob 0)), (2, .ref (z 0)), (3, .ref o), (4, .int (nI i))]) (kk : LNext pp l ee ss mm below meth cc bb D cI cB cW cL o ob nw tr qs sc z i cells slots Q) : W pp l ee room_1 ss mm #[Value.ref bb] below meth cc H locs cells slots Q (F0 mm 1157 ls []) := by
  obtain ⟨hx, hcd, hml, hown, hts, hX, hbl, hst, hZ, hN, hK, hL9⟩ := C
  obtain ⟨hI, hn, hr, hL, hT, hx4, hx6, hsv⟩ := id hV
  have hA : ∀ q : Nat, ss.heap.size ≤ q → (fun q : Nat => ss.heap.size ≤ q) q := fun _ h => h
  have hbA : ¬ (fun q : Nat => ss.heap.size ≤ q) bb := Nat.not_le.mpr hbl
  refine lv_aload_n hx hcd dL_law_1157 rfl (lv_at hl 1 rfl) ?_
  refine lv_aload_n hx hcd dL_law_1158 rfl (lv_at hl 0 rfl) ?_
  refine lv_iload hx hcd dL_law_1159 (lv_at hl 4 rfl) ?_
  refine lv_iconst (v := nI 1) hx hcd dL_law_1161 (by decide) ?_
  refine kr_add hx hcd dL_law_1162 ?_
  refine kl_sld hx hcd hX hbl hbA hS (k := i + 1) (by omega) hL9 dL_law_1163 ?_
  refine lv_aload_n hx hcd dL_law_1164 rfl (lv_at hl 0 rfl) ?_
  refine lv_iload hx hcd dL_law_1165 (lv_at hl 4 rfl) ?_
  refine lv_iconst (v := nI 2) hx hcd dL_law_1167 (by decide) ?_
  refine kr_add hx hcd dL_law_1168 ?_
  refine kl_sld hx hcd hX hbl hbA hS (k := i + 2) (by omega) hL9 dL_law_1169 ?_
  refine kr_top (w := (-1)) h2 ?_
  refine lv_aload_n hx hcd dL_law_1170 rfl (lv_at hl 3 rfl) ?_
  refine kl_S (As := [.ref (ob 0), .int (xs (i + 1)), .int (-1), .ref o]) (rest := []) (ws2 := wLaw cI cB cW cL o F ob nw tr qs sc (g_rot qs r) M N S n L T z x hh M Sp Ot Sv T) ⟨hx, hcd, hml, hown, hts⟩ (c_L_version__e1a l hst D cI cB cW cL o F ob nw tr qs sc (g_rot qs r) N S n L T _ M (xs (i + 1)) (-1) hg) (vx_cwSW 4 hts gL_law_L_version rfl rfl rfl (by decide +kernel) ⟨Nat.le_of_ble_eq_true rfl, Nat.le_of_ble_eq_true rfl⟩) hZ hN hK hP hD hS hA [0, 1, 2, 3, 4, 5, 6, 7, 8, 9, 10, 11, 12, 13, 14, 15, 16, 17, 18, 19, 20, 21, 22, 23, 24, 25, 26, 27, 28, 29, 30, 31, 32, 33, 34, 35, 36, 37, 38, 39, 40, 41, 42, 43, 44, 45, 46, 47, 48, 49, 50, 51, 52, 53, 54, 55, 56, 57, 58, 59, 60, 61, 62, 63, 64, 65, 66, 67, 68, 69, 70, 71, 72, 73, 74, 75, 76, 77, 78, 79, 80, 81, 82, 83, 84, 85, 86, 87, 88, 89, 90, 91, 92, 93, 94] wLaw_LXC nd_LX wLX_adr wLaw_LX rfl hl.1 rfl (Nat.le_of_ble_eq_true rfl) dL_law_1171 ⟨hc, hs⟩ (fun H locs hP hD hS => ?_)
  refine lv_istore (lv' := [(5, .int (nI 1)), (0, .ref bb), (1, .ref (ob 0)), (2, .ref (z 0)), (3, .ref o), (4, .int (nI i))]) hx hcd dL_law_1174 hl (by decide) rfl (fun ls hl => ?_)
  refine lv_aload_n hx hcd dL_law_1176 rfl (lv_at hl 3 rfl) ?_
  refine lv_aload_n hx hcd dL_law_1177 rfl (lv_at hl 1 rfl) ?_
  refine lv_iload hx hcd dL_law_1178 (lv_at hl 5 rfl) ?_
  refine lv_iconst (v := nI 1) hx hcd dL_law_1180 (by decide) ?_
  refine kr_add hx hcd dL_law_1181 ?_
  refine kl_sld hx hcd hX hbl hbA hS (k := i + 1) (by omega) hL9 dL_law_1182 ?_
  refine lv_aload_n hx hcd dL_law_1183 rfl (lv_at hl 1 rfl) ?_
  refine lv_iload hx hcd dL_law_1184 (lv_at hl 5 rfl) ?_
  refine lv_iconst (v := nI 2) hx hcd dL_law_1186 (by decide) ?_
  refine kr_add hx hcd dL_law_1187 ?_
  refine kl_sld hx hcd hX hbl hbA hS (k := i + 2) (by omega) hL9 dL_law_1188 ?_
  refine kr_top (w := (-1)) h2 ?_
  refine kr_Vi (As := [.int (xs (i + 1)), .int (-1)]) (rest := []) (ws2 := wLaw cI cB cW cL o F ob nw tr qs sc (g_rot qs r) M N S n L T z (xu x 7 (nI 1)) hh M Sp Ot Sv T) (q := (RX7, TX7, 10)) ⟨hx, hcd, hml, hown, hts⟩ (c_X7_version__bad0 l D cI cB cW cL z x hh _ M (xs (i + 1)) 1 (why_u hg) (by omega) hg) (cwV 2 hts gL_law_X7_version rfl rfl rfl (by decide +kernel) ⟨Nat.le_of_ble_eq_true rfl, Nat.le_of_ble_eq_true rfl⟩) hK hP hD hS hA [95, 96] wLaw_MoC (by decide) wMo_adr2 wLaw_Mo 95 rfl rfl rfl hl.1 rfl (Nat.le_of_ble_eq_true rfl) dL_law_1189 ⟨hc, hs⟩ (fun H locs hP hD hS => ?_)
  refine lv_istore (lv' := [(6, .int (nI 0)), (5, .int (nI 1)), (0, .ref bb), (1, .ref (ob 0)), (2, .ref (z 0)), (3, .ref o), (4, .int (nI i))]) hx hcd dL_law_1192 hl (by decide) rfl (fun ls hl => ?_)
  refine lv_aload_n hx hcd dL_law_1194 rfl (lv_at hl 4 rfl) ?_
  refine kr_Vi (As := []) (rest := []) (ws2 := wLaw cI cB cW cL o F ob nw tr qs sc (g_rot qs r) M N S n L T z (xu x 7 (nI 1)) hh M Sp Ot Sv T) (q := (RX7, TX7, 10)) ⟨hx, hcd, hml, hown, hts⟩ (c_X7_thrown l D cI cB cW cL z (xu x 7 (nI 1)) hh _ M ) (cwV 0 hts gL_law_X7_thrown rfl rfl rfl (by decide +kernel) ⟨Nat.le_of_ble_eq_true rfl, Nat.le_of_ble_eq_true rfl⟩) hK hP hD hS hA [95, 96] wLaw_MoC (by decide) wMo_adr2 wLaw_Mo 95 rfl rfl rfl hl.1 rfl (Nat.le_of_ble_eq_true rfl) dL_law_1195 ⟨hc, hs⟩ (fun H locs hP hD hS => ?_)
  refine kr_top (w := nI 1) rfl ?_
  refine lv_iload hx hcd dL_law_1198 (lv_at hl 1 rfl) ?_
  refine kr_ceq (tgt := 1205) hx hcd (by omega) (by omega) dL_law_1200 (by decide) (fun (c_1200 : 1 = 1) => ?_) (fun (c_1200 : ¬ 1 = 1) => absurd c_1200 (by omega))
  refine lv_iload hx hcd dL_law_1205 (lv_at hl 1 rfl) ?_
  refine kr_zne (tgt := 1222) hx hcd (by omega) dL_law_1207 (by decide) (fun (c_1207 : 0 < 1) => ?_) (fun (c_1207 : 1 = 0) => absurd c_1207 (by omega))
  refine lv_goto (tgt := 1812) hx hcd dL_law_1222 (by decide) ?_
  exact kk F N M S n r L T (xu x 7 (nI 1)) hh Sp Ot Sv (linv_x hV rfl rfl) H locs ls hP hD hS (lv_sub hl [2, 3, 4, 5, 6] rfl)

set_option maxHeartbeats 4000000 in
set_option maxRecDepth 100000 in
theorem law_version__e1b {pp : Program} {l : Launch} {ee : Env} {ss : State} {mm : MethodId} {below : List Frame} {meth : Method} {cc : Code} {bb Ls : Nat} {xs : Nat → Int32} {D : va_G} {cI cB cW cL : ClassId} (C : LFix pp l ss mm cc bb Ls xs D cI cB cW cL) {o : Nat} {F : Nat → Int64} {ob nw tr : Nat → Nat} {qs : Nat → Nat → Nat} {sc : Nat → Nat} {N : kM} {S : Nat → kM} {n r L : Nat} {T : Nat → Int32} {z : Nat → Nat} {x : Nat → Int32} {hh : Int64} {Sp Ot Sv : Nat → Int32} {M : kM} (hV : LInv M S n r L T Sv x) {i : Nat} (hi : i + 5 ≤ Ls)  (hm : ¬ xs (i + 2) = -1) (hg : g_usr (xs (i + 1)) = false) {H : Heap} {locs : List Loc} {ls : Array Slot} {cells slots : Nat} {Q : State → Prop} (hc : cells + 1 ≤ 601024) (hs : slots + 6 ≤ 7293034) (hP : va_P D vwCl (wLaw cI cB cW cL o F ob nw tr qs sc (g_rot qs r) M N S n L T z x hh M Sp Ot Sv T) H) (hD : va_D (fun q : Nat => ss.heap.size ≤ q) (wLaw cI cB cW cL o F ob nw tr qs sc (g_rot qs r) M N S n L T z x hh M Sp Ot Sv T)) (hS : va_S (fun q : Nat => ss.heap.size ≤ q) ss.heap H locs) (hl : lv_has ls 9 [(0, .ref bb), (1, .ref (ob 0)), (2, .ref (z 0)), (3, .ref o), (4, .int (nI i))]) (kk : LNext pp l ee ss mm below meth cc bb D cI cB cW cL o ob nw tr qs sc z i cells slots Q) : W pp l ee room_1 ss mm #[Value.ref bb] below meth cc H locs cells slots Q (F0 mm 1157 ls []) := by
  obtain ⟨hx, hcd, hml, hown, hts, hX, hbl, hst, hZ, hN, hK, hL9⟩ := C
  obtain ⟨hI, hn, hr, hL, hT, hx4, hx6, hsv⟩ := id hV
  have hA : ∀ q : Nat, ss.heap.size ≤ q → (fun q : Nat => ss.heap.size ≤ q) q := fun _ h => h
  have hbA : ¬ (fun q : Nat => ss.heap.size ≤ q) bb := Nat.not_le.mpr hbl
  refine lv_aload_n hx hcd dL_law_1157 rfl (lv_at hl 1 rfl) ?_
  refine lv_aload_n hx hcd dL_law_1158 rfl (lv_at hl 0 rfl) ?_
  refine lv_iload hx hcd dL_law_1159 (lv_at hl 4 rfl) ?_
  refine lv_iconst (v := nI 1) hx hcd dL_law_1161 (by decide) ?_
  refine kr_add hx hcd dL_law_1162 ?_
  refine kl_sld hx hcd hX hbl hbA hS (k := i + 1) (by omega) hL9 dL_law_1163 ?_
  refine lv_aload_n hx hcd dL_law_1164 rfl (lv_at hl 0 rfl) ?_
  refine lv_iload hx hcd dL_law_1165 (lv_at hl 4 rfl) ?_
  refine lv_iconst (v := nI 2) hx hcd dL_law_1167 (by decide) ?_
  refine kr_add hx hcd dL_law_1168 ?_
  refine kl_sld hx hcd hX hbl hbA hS (k := i + 2) (by omega) hL9 dL_law_1169 ?_
  refine lv_aload_n hx hcd dL_law_1170 rfl (lv_at hl 3 rfl) ?_
  refine kl_S (As := [.ref (ob 0), .int (xs (i + 1)), .int (xs (i + 2)), .ref o]) (rest := []) (ws2 := wLaw cI cB cW cL o F ob nw tr qs sc (g_rot qs r) M N S n L T z x hh M Sp Ot Sv T) ⟨hx, hcd, hml, hown, hts⟩ (c_L_version__e1a l hst D cI cB cW cL o F ob nw tr qs sc (g_rot qs r) N S n L T _ M (xs (i + 1)) (xs (i + 2)) hg) (vx_cwSW 4 hts gL_law_L_version rfl rfl rfl (by decide +kernel) ⟨Nat.le_of_ble_eq_true rfl, Nat.le_of_ble_eq_true rfl⟩) hZ hN hK hP hD hS hA [0, 1, 2, 3, 4, 5, 6, 7, 8, 9, 10, 11, 12, 13, 14, 15, 16, 17, 18, 19, 20, 21, 22, 23, 24, 25, 26, 27, 28, 29, 30, 31, 32, 33, 34, 35, 36, 37, 38, 39, 40, 41, 42, 43, 44, 45, 46, 47, 48, 49, 50, 51, 52, 53, 54, 55, 56, 57, 58, 59, 60, 61, 62, 63, 64, 65, 66, 67, 68, 69, 70, 71, 72, 73, 74, 75, 76, 77, 78, 79, 80, 81, 82, 83, 84, 85, 86, 87, 88, 89, 90, 91, 92, 93, 94] wLaw_LXC nd_LX wLX_adr wLaw_LX rfl hl.1 rfl (Nat.le_of_ble_eq_true rfl) dL_law_1171 ⟨hc, hs⟩ (fun H locs hP hD hS => ?_)
  refine lv_istore (lv' := [(5, .int (nI 1)), (0, .ref bb), (1, .ref (ob 0)), (2, .ref (z 0)), (3, .ref o), (4, .int (nI i))]) hx hcd dL_law_1174 hl (by decide) rfl (fun ls hl => ?_)
  refine lv_aload_n hx hcd dL_law_1176 rfl (lv_at hl 3 rfl) ?_
  refine lv_aload_n hx hcd dL_law_1177 rfl (lv_at hl 1 rfl) ?_
  refine lv_iload hx hcd dL_law_1178 (lv_at hl 5 rfl) ?_
  refine lv_iconst (v := nI 1) hx hcd dL_law_1180 (by decide) ?_
  refine kr_add hx hcd dL_law_1181 ?_
  refine kl_sld hx hcd hX hbl hbA hS (k := i + 1) (by omega) hL9 dL_law_1182 ?_
  refine lv_aload_n hx hcd dL_law_1183 rfl (lv_at hl 1 rfl) ?_
  refine lv_iload hx hcd dL_law_1184 (lv_at hl 5 rfl) ?_
  refine lv_iconst (v := nI 2) hx hcd dL_law_1186 (by decide) ?_
  refine kr_add hx hcd dL_law_1187 ?_
  refine kl_sld hx hcd hX hbl hbA hS (k := i + 2) (by omega) hL9 dL_law_1188 ?_
  refine kr_Vi (As := [.int (xs (i + 1)), .int (xs (i + 2))]) (rest := []) (ws2 := wLaw cI cB cW cL o F ob nw tr qs sc (g_rot qs r) M N S n L T z (xu x 7 (nI 1)) hh M Sp Ot Sv T) (q := (RX7, TX7, 10)) ⟨hx, hcd, hml, hown, hts⟩ (c_X7_version__bad l D cI cB cW cL z x hh _ M (xs (i + 1)) (xs (i + 2)) 1 (why_u hg) (by omega) hm) (cwV 2 hts gL_law_X7_version rfl rfl rfl (by decide +kernel) ⟨Nat.le_of_ble_eq_true rfl, Nat.le_of_ble_eq_true rfl⟩) hK hP hD hS hA [95, 96] wLaw_MoC (by decide) wMo_adr2 wLaw_Mo 95 rfl rfl rfl hl.1 rfl (Nat.le_of_ble_eq_true rfl) dL_law_1189 ⟨hc, hs⟩ (fun H locs hP hD hS => ?_)
  refine lv_istore (lv' := [(6, .int (nI 0)), (5, .int (nI 1)), (0, .ref bb), (1, .ref (ob 0)), (2, .ref (z 0)), (3, .ref o), (4, .int (nI i))]) hx hcd dL_law_1192 hl (by decide) rfl (fun ls hl => ?_)
  refine lv_aload_n hx hcd dL_law_1194 rfl (lv_at hl 4 rfl) ?_
  refine kr_Vi (As := []) (rest := []) (ws2 := wLaw cI cB cW cL o F ob nw tr qs sc (g_rot qs r) M N S n L T z (xu x 7 (nI 1)) hh M Sp Ot Sv T) (q := (RX7, TX7, 10)) ⟨hx, hcd, hml, hown, hts⟩ (c_X7_thrown l D cI cB cW cL z (xu x 7 (nI 1)) hh _ M ) (cwV 0 hts gL_law_X7_thrown rfl rfl rfl (by decide +kernel) ⟨Nat.le_of_ble_eq_true rfl, Nat.le_of_ble_eq_true rfl⟩) hK hP hD hS hA [95, 96] wLaw_MoC (by decide) wMo_adr2 wLaw_Mo 95 rfl rfl rfl hl.1 rfl (Nat.le_of_ble_eq_true rfl) dL_law_1195 ⟨hc, hs⟩ (fun H locs hP hD hS => ?_)
  refine kr_top (w := nI 1) rfl ?_
  refine lv_iload hx hcd dL_law_1198 (lv_at hl 1 rfl) ?_
  refine kr_ceq (tgt := 1205) hx hcd (by omega) (by omega) dL_law_1200 (by decide) (fun (c_1200 : 1 = 1) => ?_) (fun (c_1200 : ¬ 1 = 1) => absurd c_1200 (by omega))
  refine lv_iload hx hcd dL_law_1205 (lv_at hl 1 rfl) ?_
  refine kr_zne (tgt := 1222) hx hcd (by omega) dL_law_1207 (by decide) (fun (c_1207 : 0 < 1) => ?_) (fun (c_1207 : 1 = 0) => absurd c_1207 (by omega))
  refine lv_goto (tgt := 1812) hx hcd dL_law_1222 (by decide) ?_
  exact kk F N M S n r L T (xu x 7 (nI 1)) hh Sp Ot Sv (linv_x hV rfl rfl) H locs ls hP hD hS (lv_sub hl [2, 3, 4, 5, 6] rfl)

set_option maxHeartbeats 4000000 in
set_option maxRecDepth 100000 in
theorem law_version__f1 {pp : Program} {l : Launch} {ee : Env} {ss : State} {mm : MethodId} {below : List Frame} {meth : Method} {cc : Code} {bb Ls : Nat} {xs : Nat → Int32} {D : va_G} {cI cB cW cL : ClassId} (C : LFix pp l ss mm cc bb Ls xs D cI cB cW cL) {o : Nat} {F : Nat → Int64} {ob nw tr : Nat → Nat} {qs : Nat → Nat → Nat} {sc : Nat → Nat} {N : kM} {S : Nat → kM} {n r L : Nat} {T : Nat → Int32} {z : Nat → Nat} {x : Nat → Int32} {hh : Int64} {Sp Ot Sv : Nat → Int32} {M : kM} (hV : LInv M S n r L T Sv x) {i : Nat} (hi : i + 5 ≤ Ls) {a : Nat} (h1 : xs (i + 1) = nI a) (ha : a < 6) (hm : ¬ xs (i + 2) = -1) (hg : g_why (nI a) (xs (i + 2)) = nI 1) {H : Heap} {locs : List Loc} {ls : Array Slot} {cells slots : Nat} {Q : State → Prop} (hc : cells + 1 ≤ 601024) (hs : slots + 6 ≤ 7293034) (hP : va_P D vwCl (wLaw cI cB cW cL o F ob nw tr qs sc (g_rot qs r) M N S n L T z x hh M Sp Ot Sv T) H) (hD : va_D (fun q : Nat => ss.heap.size ≤ q) (wLaw cI cB cW cL o F ob nw tr qs sc (g_rot qs r) M N S n L T z x hh M Sp Ot Sv T)) (hS : va_S (fun q : Nat => ss.heap.size ≤ q) ss.heap H locs) (hl : lv_has ls 9 [(0, .ref bb), (1, .ref (ob 0)), (2, .ref (z 0)), (3, .ref o), (4, .int (nI i))]) (kk : LNext pp l ee ss mm below meth cc bb D cI cB cW cL o ob nw tr qs sc z i cells slots Q) : W pp l ee room_1 ss mm #[Value.ref bb] below meth cc H locs cells slots Q (F0 mm 1157 ls []) := by
  obtain ⟨hx, hcd, hml, hown, hts, hX, hbl, hst, hZ, hN, hK, hL9⟩ := C
  obtain ⟨hI, hn, hr, hL, hT, hx4, hx6, hsv⟩ := id hV
  have hA : ∀ q : Nat, ss.heap.size ≤ q → (fun q : Nat => ss.heap.size ≤ q) q := fun _ h => h
  have hbA : ¬ (fun q : Nat => ss.heap.size ≤ q) bb := Nat.not_le.mpr hbl
  refine lv_aload_n hx hcd dL_law_1157 rfl (lv_at hl 1 rfl) ?_
  refine lv_aload_n hx hcd dL_law_1158 rfl (lv_at hl 0 rfl) ?_
  refine lv_iload hx hcd dL_law_1159 (lv_at hl 4 rfl) ?_
  refine lv_iconst (v := nI 1) hx hcd dL_law_1161 (by decide) ?_
  refine kr_add hx hcd dL_law_1162 ?_
  refine kl_sld hx hcd hX hbl hbA hS (k := i + 1) (by omega) hL9 dL_law_1163 ?_
  refine kr_top (w := nI a) h1 ?_
  refine lv_aload_n hx hcd dL_law_1164 rfl (lv_at hl 0 rfl) ?_
  refine lv_iload hx hcd dL_law_1165 (lv_at hl 4 rfl) ?_
  refine lv_iconst (v := nI 2) hx hcd dL_law_1167 (by decide) ?_
  refine kr_add hx hcd dL_law_1168 ?_
  refine kl_sld hx hcd hX hbl hbA hS (k := i + 2) (by omega) hL9 dL_law_1169 ?_
  refine lv_aload_n hx hcd dL_law_1170 rfl (lv_at hl 3 rfl) ?_
  refine kl_S (As := [.ref (ob 0), .int (nI a), .int (xs (i + 2)), .ref o]) (rest := []) (ws2 := wLaw cI cB cW cL o F ob nw tr qs sc (g_rot qs r) M N S n L T z x hh M Sp Ot Sv T) ⟨hx, hcd, hml, hown, hts⟩ (c_L_version__e1b l hst D cI cB cW cL o F ob nw tr qs sc (g_rot qs r) N S n L T _ M a (xs (i + 2)) ha hm hg) (vx_cwSW 4 hts gL_law_L_version rfl rfl rfl (by decide +kernel) ⟨Nat.le_of_ble_eq_true rfl, Nat.le_of_ble_eq_true rfl⟩) hZ hN hK hP hD hS hA [0, 1, 2, 3, 4, 5, 6, 7, 8, 9, 10, 11, 12, 13, 14, 15, 16, 17, 18, 19, 20, 21, 22, 23, 24, 25, 26, 27, 28, 29, 30, 31, 32, 33, 34, 35, 36, 37, 38, 39, 40, 41, 42, 43, 44, 45, 46, 47, 48, 49, 50, 51, 52, 53, 54, 55, 56, 57, 58, 59, 60, 61, 62, 63, 64, 65, 66, 67, 68, 69, 70, 71, 72, 73, 74, 75, 76, 77, 78, 79, 80, 81, 82, 83, 84, 85, 86, 87, 88, 89, 90, 91, 92, 93, 94] wLaw_LXC nd_LX wLX_adr wLaw_LX rfl hl.1 rfl (Nat.le_of_ble_eq_true rfl) dL_law_1171 ⟨hc, hs⟩ (fun H locs hP hD hS => ?_)
  refine lv_istore (lv' := [(5, .int (nI 1)), (0, .ref bb), (1, .ref (ob 0)), (2, .ref (z 0)), (3, .ref o), (4, .int (nI i))]) hx hcd dL_law_1174 hl (by decide) rfl (fun ls hl => ?_)
  refine lv_aload_n hx hcd dL_law_1176 rfl (lv_at hl 3 rfl) ?_
  refine lv_aload_n hx hcd dL_law_1177 rfl (lv_at hl 1 rfl) ?_
  refine lv_iload hx hcd dL_law_1178 (lv_at hl 5 rfl) ?_
  refine lv_iconst (v := nI 1) hx hcd dL_law_1180 (by decide) ?_
  refine kr_add hx hcd dL_law_1181 ?_
  refine kl_sld hx hcd hX hbl hbA hS (k := i + 1) (by omega) hL9 dL_law_1182 ?_
  refine kr_top (w := nI a) h1 ?_
  refine lv_aload_n hx hcd dL_law_1183 rfl (lv_at hl 1 rfl) ?_
  refine lv_iload hx hcd dL_law_1184 (lv_at hl 5 rfl) ?_
  refine lv_iconst (v := nI 2) hx hcd dL_law_1186 (by decide) ?_
  refine kr_add hx hcd dL_law_1187 ?_
  refine kl_sld hx hcd hX hbl hbA hS (k := i + 2) (by omega) hL9 dL_law_1188 ?_
  refine kr_Vi (As := [.int (nI a), .int (xs (i + 2))]) (rest := []) (ws2 := wLaw cI cB cW cL o F ob nw tr qs sc (g_rot qs r) M N S n L T z (xu x 7 (nI 1)) hh M Sp Ot Sv T) (q := (RX7, TX7, 10)) ⟨hx, hcd, hml, hown, hts⟩ (c_X7_version__bad l D cI cB cW cL z x hh _ M (nI a) (xs (i + 2)) 1 hg (by omega) hm) (cwV 2 hts gL_law_X7_version rfl rfl rfl (by decide +kernel) ⟨Nat.le_of_ble_eq_true rfl, Nat.le_of_ble_eq_true rfl⟩) hK hP hD hS hA [95, 96] wLaw_MoC (by decide) wMo_adr2 wLaw_Mo 95 rfl rfl rfl hl.1 rfl (Nat.le_of_ble_eq_true rfl) dL_law_1189 ⟨hc, hs⟩ (fun H locs hP hD hS => ?_)
  refine lv_istore (lv' := [(6, .int (nI 0)), (5, .int (nI 1)), (0, .ref bb), (1, .ref (ob 0)), (2, .ref (z 0)), (3, .ref o), (4, .int (nI i))]) hx hcd dL_law_1192 hl (by decide) rfl (fun ls hl => ?_)
  refine lv_aload_n hx hcd dL_law_1194 rfl (lv_at hl 4 rfl) ?_
  refine kr_Vi (As := []) (rest := []) (ws2 := wLaw cI cB cW cL o F ob nw tr qs sc (g_rot qs r) M N S n L T z (xu x 7 (nI 1)) hh M Sp Ot Sv T) (q := (RX7, TX7, 10)) ⟨hx, hcd, hml, hown, hts⟩ (c_X7_thrown l D cI cB cW cL z (xu x 7 (nI 1)) hh _ M ) (cwV 0 hts gL_law_X7_thrown rfl rfl rfl (by decide +kernel) ⟨Nat.le_of_ble_eq_true rfl, Nat.le_of_ble_eq_true rfl⟩) hK hP hD hS hA [95, 96] wLaw_MoC (by decide) wMo_adr2 wLaw_Mo 95 rfl rfl rfl hl.1 rfl (Nat.le_of_ble_eq_true rfl) dL_law_1195 ⟨hc, hs⟩ (fun H locs hP hD hS => ?_)
  refine kr_top (w := nI 1) rfl ?_
  refine lv_iload hx hcd dL_law_1198 (lv_at hl 1 rfl) ?_
  refine kr_ceq (tgt := 1205) hx hcd (by omega) (by omega) dL_law_1200 (by decide) (fun (c_1200 : 1 = 1) => ?_) (fun (c_1200 : ¬ 1 = 1) => absurd c_1200 (by omega))
  refine lv_iload hx hcd dL_law_1205 (lv_at hl 1 rfl) ?_
  refine kr_zne (tgt := 1222) hx hcd (by omega) dL_law_1207 (by decide) (fun (c_1207 : 0 < 1) => ?_) (fun (c_1207 : 1 = 0) => absurd c_1207 (by omega))
  refine lv_goto (tgt := 1812) hx hcd dL_law_1222 (by decide) ?_
  exact kk F N M S n r L T (xu x 7 (nI 1)) hh Sp Ot Sv (linv_x hV rfl rfl) H locs ls hP hD hS (lv_sub hl [2, 3, 4, 5, 6] rfl)

set_option maxHeartbeats 4000000 in
set_option maxRecDepth 100000 in
theorem law_version__f2 {pp : Program} {l : Launch} {ee : Env} {ss : State} {mm : MethodId} {below : List Frame} {meth : Method} {cc : Code} {bb Ls : Nat} {xs : Nat → Int32} {D : va_G} {cI cB cW cL : ClassId} (C : LFix pp l ss mm cc bb Ls xs D cI cB cW cL) {o : Nat} {F : Nat → Int64} {ob nw tr : Nat → Nat} {qs : Nat → Nat → Nat} {sc : Nat → Nat} {N : kM} {S : Nat → kM} {n r L : Nat} {T : Nat → Int32} {z : Nat → Nat} {x : Nat → Int32} {hh : Int64} {Sp Ot Sv : Nat → Int32} {M : kM} (hV : LInv M S n r L T Sv x) {i : Nat} (hi : i + 5 ≤ Ls) {a : Nat} (h1 : xs (i + 1) = nI a) (ha : a < 6) (hm : ¬ xs (i + 2) = -1) (hg : g_why (nI a) (xs (i + 2)) = nI 2) {H : Heap} {locs : List Loc} {ls : Array Slot} {cells slots : Nat} {Q : State → Prop} (hc : cells + 1 ≤ 601024) (hs : slots + 6 ≤ 7293034) (hP : va_P D vwCl (wLaw cI cB cW cL o F ob nw tr qs sc (g_rot qs r) M N S n L T z x hh M Sp Ot Sv T) H) (hD : va_D (fun q : Nat => ss.heap.size ≤ q) (wLaw cI cB cW cL o F ob nw tr qs sc (g_rot qs r) M N S n L T z x hh M Sp Ot Sv T)) (hS : va_S (fun q : Nat => ss.heap.size ≤ q) ss.heap H locs) (hl : lv_has ls 9 [(0, .ref bb), (1, .ref (ob 0)), (2, .ref (z 0)), (3, .ref o), (4, .int (nI i))]) (kk : LNext pp l ee ss mm below meth cc bb D cI cB cW cL o ob nw tr qs sc z i cells slots Q) : W pp l ee room_1 ss mm #[Value.ref bb] below meth cc H locs cells slots Q (F0 mm 1157 ls []) := by
  obtain ⟨hx, hcd, hml, hown, hts, hX, hbl, hst, hZ, hN, hK, hL9⟩ := C
  obtain ⟨hI, hn, hr, hL, hT, hx4, hx6, hsv⟩ := id hV
  have hA : ∀ q : Nat, ss.heap.size ≤ q → (fun q : Nat => ss.heap.size ≤ q) q := fun _ h => h
  have hbA : ¬ (fun q : Nat => ss.heap.size ≤ q) bb := Nat.not_le.mpr hbl
  refine lv_aload_n hx hcd dL_law_1157 rfl (lv_at hl 1 rfl) ?_
  refine lv_aload_n hx hcd dL_law_1158 rfl (lv_at hl 0 rfl) ?_
  refine lv_iload hx hcd dL_law_1159 (lv_at hl 4 rfl) ?_
  refine lv_iconst (v := nI 1) hx hcd dL_law_1161 (by decide) ?_
  refine kr_add hx hcd dL_law_1162 ?_
  refine kl_sld hx hcd hX hbl hbA hS (k := i + 1) (by omega) hL9 dL_law_1163 ?_
  refine kr_top (w := nI a) h1 ?_
  refine lv_aload_n hx hcd dL_law_1164 rfl (lv_at hl 0 rfl) ?_
  refine lv_iload hx hcd dL_law_1165 (lv_at hl 4 rfl) ?_
  refine lv_iconst (v := nI 2) hx hcd dL_law_1167 (by decide) ?_
  refine kr_add hx hcd dL_law_1168 ?_
  refine kl_sld hx hcd hX hbl hbA hS (k := i + 2) (by omega) hL9 dL_law_1169 ?_
  refine lv_aload_n hx hcd dL_law_1170 rfl (lv_at hl 3 rfl) ?_
  refine kl_S (As := [.ref (ob 0), .int (nI a), .int (xs (i + 2)), .ref o]) (rest := []) (ws2 := wLaw cI cB cW cL o F ob nw tr qs sc (g_rot qs r) M N S n L T z x hh M Sp Ot Sv T) ⟨hx, hcd, hml, hown, hts⟩ (c_L_version__e2 l hst D cI cB cW cL o F ob nw tr qs sc (g_rot qs r) N S n L T _ M a (xs (i + 2)) ha hm hg) (vx_cwSW 4 hts gL_law_L_version rfl rfl rfl (by decide +kernel) ⟨Nat.le_of_ble_eq_true rfl, Nat.le_of_ble_eq_true rfl⟩) hZ hN hK hP hD hS hA [0, 1, 2, 3, 4, 5, 6, 7, 8, 9, 10, 11, 12, 13, 14, 15, 16, 17, 18, 19, 20, 21, 22, 23, 24, 25, 26, 27, 28, 29, 30, 31, 32, 33, 34, 35, 36, 37, 38, 39, 40, 41, 42, 43, 44, 45, 46, 47, 48, 49, 50, 51, 52, 53, 54, 55, 56, 57, 58, 59, 60, 61, 62, 63, 64, 65, 66, 67, 68, 69, 70, 71, 72, 73, 74, 75, 76, 77, 78, 79, 80, 81, 82, 83, 84, 85, 86, 87, 88, 89, 90, 91, 92, 93, 94] wLaw_LXC nd_LX wLX_adr wLaw_LX rfl hl.1 rfl (Nat.le_of_ble_eq_true rfl) dL_law_1171 ⟨hc, hs⟩ (fun H locs hP hD hS => ?_)
  refine lv_istore (lv' := [(5, .int (nI 2)), (0, .ref bb), (1, .ref (ob 0)), (2, .ref (z 0)), (3, .ref o), (4, .int (nI i))]) hx hcd dL_law_1174 hl (by decide) rfl (fun ls hl => ?_)
  refine lv_aload_n hx hcd dL_law_1176 rfl (lv_at hl 3 rfl) ?_
  refine lv_aload_n hx hcd dL_law_1177 rfl (lv_at hl 1 rfl) ?_
  refine lv_iload hx hcd dL_law_1178 (lv_at hl 5 rfl) ?_
  refine lv_iconst (v := nI 1) hx hcd dL_law_1180 (by decide) ?_
  refine kr_add hx hcd dL_law_1181 ?_
  refine kl_sld hx hcd hX hbl hbA hS (k := i + 1) (by omega) hL9 dL_law_1182 ?_
  refine kr_top (w := nI a) h1 ?_
  refine lv_aload_n hx hcd dL_law_1183 rfl (lv_at hl 1 rfl) ?_
  refine lv_iload hx hcd dL_law_1184 (lv_at hl 5 rfl) ?_
  refine lv_iconst (v := nI 2) hx hcd dL_law_1186 (by decide) ?_
  refine kr_add hx hcd dL_law_1187 ?_
  refine kl_sld hx hcd hX hbl hbA hS (k := i + 2) (by omega) hL9 dL_law_1188 ?_
  refine kr_Vi (As := [.int (nI a), .int (xs (i + 2))]) (rest := []) (ws2 := wLaw cI cB cW cL o F ob nw tr qs sc (g_rot qs r) M N S n L T z (xu x 7 (nI 2)) hh M Sp Ot Sv T) (q := (RX7, TX7, 10)) ⟨hx, hcd, hml, hown, hts⟩ (c_X7_version__bad l D cI cB cW cL z x hh _ M (nI a) (xs (i + 2)) 2 hg (by omega) hm) (cwV 2 hts gL_law_X7_version rfl rfl rfl (by decide +kernel) ⟨Nat.le_of_ble_eq_true rfl, Nat.le_of_ble_eq_true rfl⟩) hK hP hD hS hA [95, 96] wLaw_MoC (by decide) wMo_adr2 wLaw_Mo 95 rfl rfl rfl hl.1 rfl (Nat.le_of_ble_eq_true rfl) dL_law_1189 ⟨hc, hs⟩ (fun H locs hP hD hS => ?_)
  refine lv_istore (lv' := [(6, .int (nI 0)), (5, .int (nI 2)), (0, .ref bb), (1, .ref (ob 0)), (2, .ref (z 0)), (3, .ref o), (4, .int (nI i))]) hx hcd dL_law_1192 hl (by decide) rfl (fun ls hl => ?_)
  refine lv_aload_n hx hcd dL_law_1194 rfl (lv_at hl 4 rfl) ?_
  refine kr_Vi (As := []) (rest := []) (ws2 := wLaw cI cB cW cL o F ob nw tr qs sc (g_rot qs r) M N S n L T z (xu x 7 (nI 2)) hh M Sp Ot Sv T) (q := (RX7, TX7, 10)) ⟨hx, hcd, hml, hown, hts⟩ (c_X7_thrown l D cI cB cW cL z (xu x 7 (nI 2)) hh _ M ) (cwV 0 hts gL_law_X7_thrown rfl rfl rfl (by decide +kernel) ⟨Nat.le_of_ble_eq_true rfl, Nat.le_of_ble_eq_true rfl⟩) hK hP hD hS hA [95, 96] wLaw_MoC (by decide) wMo_adr2 wLaw_Mo 95 rfl rfl rfl hl.1 rfl (Nat.le_of_ble_eq_true rfl) dL_law_1195 ⟨hc, hs⟩ (fun H locs hP hD hS => ?_)
  refine kr_top (w := nI 2) rfl ?_
  refine lv_iload hx hcd dL_law_1198 (lv_at hl 1 rfl) ?_
  refine kr_ceq (tgt := 1205) hx hcd (by omega) (by omega) dL_law_1200 (by decide) (fun (c_1200 : 2 = 2) => ?_) (fun (c_1200 : ¬ 2 = 2) => absurd c_1200 (by omega))
  refine lv_iload hx hcd dL_law_1205 (lv_at hl 1 rfl) ?_
  refine kr_zne (tgt := 1222) hx hcd (by omega) dL_law_1207 (by decide) (fun (c_1207 : 0 < 2) => ?_) (fun (c_1207 : 2 = 0) => absurd c_1207 (by omega))
  refine lv_goto (tgt := 1812) hx hcd dL_law_1222 (by decide) ?_
  exact kk F N M S n r L T (xu x 7 (nI 2)) hh Sp Ot Sv (linv_x hV rfl rfl) H locs ls hP hD hS (lv_sub hl [2, 3, 4, 5, 6] rfl)

set_option maxHeartbeats 4000000 in
set_option maxRecDepth 100000 in
theorem law_changedSince__ok {pp : Program} {l : Launch} {ee : Env} {ss : State} {mm : MethodId} {below : List Frame} {meth : Method} {cc : Code} {bb Ls : Nat} {xs : Nat → Int32} {D : va_G} {cI cB cW cL : ClassId} (C : LFix pp l ss mm cc bb Ls xs D cI cB cW cL) {o : Nat} {F : Nat → Int64} {ob nw tr : Nat → Nat} {qs : Nat → Nat → Nat} {sc : Nat → Nat} {N : kM} {S : Nat → kM} {n r L : Nat} {T : Nat → Int32} {z : Nat → Nat} {x : Nat → Int32} {hh : Int64} {Sp Ot Sv : Nat → Int32} {M : kM} (hV : LInv M S n r L T Sv x) {i : Nat} (hi : i + 5 ≤ Ls) {a : Nat} (h1 : xs (i + 1) = nI a) (ha : a < 6) (hv : ¬ xs (i + 2) < 0) {H : Heap} {locs : List Loc} {ls : Array Slot} {cells slots : Nat} {Q : State → Prop} (hc : cells + 1 ≤ 601024) (hs : slots + 6 ≤ 7293034) (hP : va_P D vwCl (wLaw cI cB cW cL o F ob nw tr qs sc (g_rot qs r) M N S n L T z x hh M Sp Ot Sv T) H) (hD : va_D (fun q : Nat => ss.heap.size ≤ q) (wLaw cI cB cW cL o F ob nw tr qs sc (g_rot qs r) M N S n L T z x hh M Sp Ot Sv T)) (hS : va_S (fun q : Nat => ss.heap.size ≤ q) ss.heap H locs) (hl : lv_has ls 9 [(0, .ref bb), (1, .ref (ob 0)), (2, .ref (z 0)), (3, .ref o), (4, .int (nI i))]) (kk : LNext pp l ee ss mm below meth cc bb D cI cB cW cL o ob nw tr qs sc z i cells slots Q) : W pp l ee room_1 ss mm #[Value.ref bb] below meth cc H locs cells slots Q (F0 mm 1225 ls []) := by
  obtain ⟨hx, hcd, hml, hown, hts, hX, hbl, hst, hZ, hN, hK, hL9⟩ := C
  obtain ⟨hI, hn, hr, hL, hT, hx4, hx6, hsv⟩ := id hV
  have hA : ∀ q : Nat, ss.heap.size ≤ q → (fun q : Nat => ss.heap.size ≤ q) q := fun _ h => h
  have hbA : ¬ (fun q : Nat => ss.heap.size ≤ q) bb := Nat.not_le.mpr hbl
  refine lv_aload_n hx hcd dL_law_1225 rfl (lv_at hl 1 rfl) ?_
  refine lv_aload_n hx hcd dL_law_1226 rfl (lv_at hl 0 rfl) ?_
  refine lv_iload hx hcd dL_law_1227 (lv_at hl 4 rfl) ?_
  refine lv_iconst (v := nI 1) hx hcd dL_law_1229 (by decide) ?_
  refine kr_add hx hcd dL_law_1230 ?_
  refine kl_sld hx hcd hX hbl hbA hS (k := i + 1) (by omega) hL9 dL_law_1231 ?_
  refine kr_top (w := nI a) h1 ?_
  refine lv_aload_n hx hcd dL_law_1232 rfl (lv_at hl 0 rfl) ?_
  refine lv_iload hx hcd dL_law_1233 (lv_at hl 4 rfl) ?_
  refine lv_iconst (v := nI 2) hx hcd dL_law_1235 (by decide) ?_
  refine kr_add hx hcd dL_law_1236 ?_
  refine kl_sld hx hcd hX hbl hbA hS (k := i + 2) (by omega) hL9 dL_law_1237 ?_
  refine lv_aload_n hx hcd dL_law_1238 rfl (lv_at hl 3 rfl) ?_
  refine kl_S (As := [.ref (ob 0), .int (nI a), .int (xs (i + 2)), .ref o]) (rest := []) (ws2 := wLaw cI cB cW cL o (vp_updL F 0 ((nI (g_chgN M a (xs (i + 2)) 6) : Int32).toInt64)) ob nw tr qs sc (g_rot qs r) M N S n L T z x hh M Sp Ot Sv T) ⟨hx, hcd, hml, hown, hts⟩ (c_L_changedSince__ok l hst D cI cB cW cL o F ob nw tr qs sc (g_rot qs r) N S n L T _ M a (xs (i + 2)) ha hv) (vx_cwSW 4 hts gL_law_L_changedSince rfl rfl rfl (by decide +kernel) ⟨Nat.le_of_ble_eq_true rfl, Nat.le_of_ble_eq_true rfl⟩) hZ hN hK hP hD hS hA [0, 1, 2, 3, 4, 5, 6, 7, 8, 9, 10, 11, 12, 13, 14, 15, 16, 17, 18, 19, 20, 21, 22, 23, 24, 25, 26, 27, 28, 29, 30, 31, 32, 33, 34, 35, 36, 37, 38, 39, 40, 41, 42, 43, 44, 45, 46, 47, 48, 49, 50, 51, 52, 53, 54, 55, 56, 57, 58, 59, 60, 61, 62, 63, 64, 65, 66, 67, 68, 69, 70, 71, 72, 73, 74, 75, 76, 77, 78, 79, 80, 81, 82, 83, 84, 85, 86, 87, 88, 89, 90, 91, 92, 93, 94] wLaw_LXC nd_LX wLX_adr wLaw_LX rfl hl.1 rfl (Nat.le_of_ble_eq_true rfl) dL_law_1239 ⟨hc, hs⟩ (fun H locs hP hD hS => ?_)
  refine lv_istore (lv' := [(5, .int (nI 0)), (0, .ref bb), (1, .ref (ob 0)), (2, .ref (z 0)), (3, .ref o), (4, .int (nI i))]) hx hcd dL_law_1242 hl (by decide) rfl (fun ls hl => ?_)
  refine lv_aload_n hx hcd dL_law_1244 rfl (lv_at hl 3 rfl) ?_
  refine lv_aload_n hx hcd dL_law_1245 rfl (lv_at hl 1 rfl) ?_
  refine lv_iload hx hcd dL_law_1246 (lv_at hl 5 rfl) ?_
  refine lv_iconst (v := nI 1) hx hcd dL_law_1248 (by decide) ?_
  refine kr_add hx hcd dL_law_1249 ?_
  refine kl_sld hx hcd hX hbl hbA hS (k := i + 1) (by omega) hL9 dL_law_1250 ?_
  refine kr_top (w := nI a) h1 ?_
  refine lv_aload_n hx hcd dL_law_1251 rfl (lv_at hl 1 rfl) ?_
  refine lv_iload hx hcd dL_law_1252 (lv_at hl 5 rfl) ?_
  refine lv_iconst (v := nI 2) hx hcd dL_law_1254 (by decide) ?_
  refine kr_add hx hcd dL_law_1255 ?_
  refine kl_sld hx hcd hX hbl hbA hS (k := i + 2) (by omega) hL9 dL_law_1256 ?_
  refine kr_Vi (As := [.int (nI a), .int (xs (i + 2))]) (rest := []) (ws2 := wLaw cI cB cW cL o (vp_updL F 0 ((nI (g_chgN M a (xs (i + 2)) 6) : Int32).toInt64)) ob nw tr qs sc (g_rot qs r) M N S n L T z (xu x 7 0) hh M Sp Ot Sv T) (q := (RX7, TX7, 10)) ⟨hx, hcd, hml, hown, hts⟩ (c_X7_changedSince__ok l D cI cB cW cL z x hh _ M a (xs (i + 2)) ha hv) (cwV 2 hts gL_law_X7_changedSince rfl rfl rfl (by decide +kernel) ⟨Nat.le_of_ble_eq_true rfl, Nat.le_of_ble_eq_true rfl⟩) hK hP hD hS hA [95, 96] wLaw_MoC (by decide) wMo_adr2 wLaw_Mo 95 rfl rfl rfl hl.1 rfl (Nat.le_of_ble_eq_true rfl) dL_law_1257 ⟨hc, hs⟩ (fun H locs hP hD hS => ?_)
  refine lv_istore (lv' := [(6, .int (nI (g_chgN M a (xs (i + 2)) 6))), (5, .int (nI 0)), (0, .ref bb), (1, .ref (ob 0)), (2, .ref (z 0)), (3, .ref o), (4, .int (nI i))]) hx hcd dL_law_1260 hl (by decide) rfl (fun ls hl => ?_)
  refine lv_aload_n hx hcd dL_law_1262 rfl (lv_at hl 4 rfl) ?_
  refine kr_Vi (As := []) (rest := []) (ws2 := wLaw cI cB cW cL o (vp_updL F 0 ((nI (g_chgN M a (xs (i + 2)) 6) : Int32).toInt64)) ob nw tr qs sc (g_rot qs r) M N S n L T z (xu x 7 0) hh M Sp Ot Sv T) (q := (RX7, TX7, 10)) ⟨hx, hcd, hml, hown, hts⟩ (c_X7_thrown l D cI cB cW cL z (xu x 7 0) hh _ M ) (cwV 0 hts gL_law_X7_thrown rfl rfl rfl (by decide +kernel) ⟨Nat.le_of_ble_eq_true rfl, Nat.le_of_ble_eq_true rfl⟩) hK hP hD hS hA [95, 96] wLaw_MoC (by decide) wMo_adr2 wLaw_Mo 95 rfl rfl rfl hl.1 rfl (Nat.le_of_ble_eq_true rfl) dL_law_1263 ⟨hc, hs⟩ (fun H locs hP hD hS => ?_)
  refine kr_top (w := 0) rfl ?_
  refine kr_top (w := nI 0) rfl ?_
  refine lv_iload hx hcd dL_law_1266 (lv_at hl 1 rfl) ?_
  refine kr_ceq (tgt := 1273) hx hcd (by omega) (by omega) dL_law_1268 (by decide) (fun (c_1268 : 0 = 0) => ?_) (fun (c_1268 : ¬ 0 = 0) => absurd c_1268 (by omega))
  refine lv_iload hx hcd dL_law_1273 (lv_at hl 1 rfl) ?_
  refine kr_zne (tgt := 1290) hx hcd (by omega) dL_law_1275 (by decide) (fun (c_1275 : 0 < 0) => absurd c_1275 (by omega)) (fun (c_1275 : 0 = 0) => ?_)
  refine lv_aload_n hx hcd dL_law_1278 rfl (lv_at hl 5 rfl) ?_
  refine lv_iconst (v := nI 0) hx hcd dL_law_1279 (by decide) ?_
  refine kl_lald hx hcd hK hP 0 3 rfl rfl (v := (nI (g_chgN M a (xs (i + 2)) 6) : Int32).toInt64) (by omega) (by decide) updL_0 dL_law_1280 ?_
  refine lv_iload hx hcd dL_law_1281 (lv_at hl 0 rfl) ?_
  refine lv_i2l hx hcd dL_law_1283 rfl ?_
  refine kl_lcmp hx hcd (rfl) dL_law_1284 ?_
  refine kr_zeq (tgt := 1290) hx hcd (by omega) dL_law_1285 (by decide) (fun (c_1285 : 0 = 0) => ?_) (fun (c_1285 : 0 < 0) => absurd c_1285 (by omega))
  refine lv_goto (tgt := 1812) hx hcd dL_law_1290 (by decide) ?_
  exact kk (vp_updL F 0 ((nI (g_chgN M a (xs (i + 2)) 6) : Int32).toInt64)) N M S n r L T (xu x 7 0) hh Sp Ot Sv (linv_x hV rfl rfl) H locs ls hP hD hS (lv_sub hl [2, 3, 4, 5, 6] rfl)

set_option maxHeartbeats 4000000 in
set_option maxRecDepth 100000 in
theorem law_changedSince__e1 {pp : Program} {l : Launch} {ee : Env} {ss : State} {mm : MethodId} {below : List Frame} {meth : Method} {cc : Code} {bb Ls : Nat} {xs : Nat → Int32} {D : va_G} {cI cB cW cL : ClassId} (C : LFix pp l ss mm cc bb Ls xs D cI cB cW cL) {o : Nat} {F : Nat → Int64} {ob nw tr : Nat → Nat} {qs : Nat → Nat → Nat} {sc : Nat → Nat} {N : kM} {S : Nat → kM} {n r L : Nat} {T : Nat → Int32} {z : Nat → Nat} {x : Nat → Int32} {hh : Int64} {Sp Ot Sv : Nat → Int32} {M : kM} (hV : LInv M S n r L T Sv x) {i : Nat} (hi : i + 5 ≤ Ls)  (hg : g_usr (xs (i + 1)) = false) {H : Heap} {locs : List Loc} {ls : Array Slot} {cells slots : Nat} {Q : State → Prop} (hc : cells + 1 ≤ 601024) (hs : slots + 6 ≤ 7293034) (hP : va_P D vwCl (wLaw cI cB cW cL o F ob nw tr qs sc (g_rot qs r) M N S n L T z x hh M Sp Ot Sv T) H) (hD : va_D (fun q : Nat => ss.heap.size ≤ q) (wLaw cI cB cW cL o F ob nw tr qs sc (g_rot qs r) M N S n L T z x hh M Sp Ot Sv T)) (hS : va_S (fun q : Nat => ss.heap.size ≤ q) ss.heap H locs) (hl : lv_has ls 9 [(0, .ref bb), (1, .ref (ob 0)), (2, .ref (z 0)), (3, .ref o), (4, .int (nI i))]) (kk : LNext pp l ee ss mm below meth cc bb D cI cB cW cL o ob nw tr qs sc z i cells slots Q) : W pp l ee room_1 ss mm #[Value.ref bb] below meth cc H locs cells slots Q (F0 mm 1225 ls []) := by
  obtain ⟨hx, hcd, hml, hown, hts, hX, hbl, hst, hZ, hN, hK, hL9⟩ := C
  obtain ⟨hI, hn, hr, hL, hT, hx4, hx6, hsv⟩ := id hV
  have hA : ∀ q : Nat, ss.heap.size ≤ q → (fun q : Nat => ss.heap.size ≤ q) q := fun _ h => h
  have hbA : ¬ (fun q : Nat => ss.heap.size ≤ q) bb := Nat.not_le.mpr hbl
  refine lv_aload_n hx hcd dL_law_1225 rfl (lv_at hl 1 rfl) ?_
  refine lv_aload_n hx hcd dL_law_1226 rfl (lv_at hl 0 rfl) ?_
  refine lv_iload hx hcd dL_law_1227 (lv_at hl 4 rfl) ?_
  refine lv_iconst (v := nI 1) hx hcd dL_law_1229 (by decide) ?_
  refine kr_add hx hcd dL_law_1230 ?_
  refine kl_sld hx hcd hX hbl hbA hS (k := i + 1) (by omega) hL9 dL_law_1231 ?_
  refine lv_aload_n hx hcd dL_law_1232 rfl (lv_at hl 0 rfl) ?_
  refine lv_iload hx hcd dL_law_1233 (lv_at hl 4 rfl) ?_
  refine lv_iconst (v := nI 2) hx hcd dL_law_1235 (by decide) ?_
  refine kr_add hx hcd dL_law_1236 ?_
  refine kl_sld hx hcd hX hbl hbA hS (k := i + 2) (by omega) hL9 dL_law_1237 ?_
  refine lv_aload_n hx hcd dL_law_1238 rfl (lv_at hl 3 rfl) ?_
  refine kl_S (As := [.ref (ob 0), .int (xs (i + 1)), .int (xs (i + 2)), .ref o]) (rest := []) (ws2 := wLaw cI cB cW cL o F ob nw tr qs sc (g_rot qs r) M N S n L T z x hh M Sp Ot Sv T) ⟨hx, hcd, hml, hown, hts⟩ (c_L_changedSince__e1 l hst D cI cB cW cL o F ob nw tr qs sc (g_rot qs r) N S n L T _ M (xs (i + 1)) (xs (i + 2)) hg) (vx_cwSW 4 hts gL_law_L_changedSince rfl rfl rfl (by decide +kernel) ⟨Nat.le_of_ble_eq_true rfl, Nat.le_of_ble_eq_true rfl⟩) hZ hN hK hP hD hS hA [0, 1, 2, 3, 4, 5, 6, 7, 8, 9, 10, 11, 12, 13, 14, 15, 16, 17, 18, 19, 20, 21, 22, 23, 24, 25, 26, 27, 28, 29, 30, 31, 32, 33, 34, 35, 36, 37, 38, 39, 40, 41, 42, 43, 44, 45, 46, 47, 48, 49, 50, 51, 52, 53, 54, 55, 56, 57, 58, 59, 60, 61, 62, 63, 64, 65, 66, 67, 68, 69, 70, 71, 72, 73, 74, 75, 76, 77, 78, 79, 80, 81, 82, 83, 84, 85, 86, 87, 88, 89, 90, 91, 92, 93, 94] wLaw_LXC nd_LX wLX_adr wLaw_LX rfl hl.1 rfl (Nat.le_of_ble_eq_true rfl) dL_law_1239 ⟨hc, hs⟩ (fun H locs hP hD hS => ?_)
  refine lv_istore (lv' := [(5, .int (nI 1)), (0, .ref bb), (1, .ref (ob 0)), (2, .ref (z 0)), (3, .ref o), (4, .int (nI i))]) hx hcd dL_law_1242 hl (by decide) rfl (fun ls hl => ?_)
  refine lv_aload_n hx hcd dL_law_1244 rfl (lv_at hl 3 rfl) ?_
  refine lv_aload_n hx hcd dL_law_1245 rfl (lv_at hl 1 rfl) ?_
  refine lv_iload hx hcd dL_law_1246 (lv_at hl 5 rfl) ?_
  refine lv_iconst (v := nI 1) hx hcd dL_law_1248 (by decide) ?_
  refine kr_add hx hcd dL_law_1249 ?_
  refine kl_sld hx hcd hX hbl hbA hS (k := i + 1) (by omega) hL9 dL_law_1250 ?_
  refine lv_aload_n hx hcd dL_law_1251 rfl (lv_at hl 1 rfl) ?_
  refine lv_iload hx hcd dL_law_1252 (lv_at hl 5 rfl) ?_
  refine lv_iconst (v := nI 2) hx hcd dL_law_1254 (by decide) ?_
  refine kr_add hx hcd dL_law_1255 ?_
  refine kl_sld hx hcd hX hbl hbA hS (k := i + 2) (by omega) hL9 dL_law_1256 ?_
  refine kr_Vi (As := [.int (xs (i + 1)), .int (xs (i + 2))]) (rest := []) (ws2 := wLaw cI cB cW cL o F ob nw tr qs sc (g_rot qs r) M N S n L T z (xu x 7 1) hh M Sp Ot Sv T) (q := (RX7, TX7, 10)) ⟨hx, hcd, hml, hown, hts⟩ (c_X7_changedSince__b1 l D cI cB cW cL z x hh _ M (xs (i + 1)) (xs (i + 2)) hg) (cwV 2 hts gL_law_X7_changedSince rfl rfl rfl (by decide +kernel) ⟨Nat.le_of_ble_eq_true rfl, Nat.le_of_ble_eq_true rfl⟩) hK hP hD hS hA [95, 96] wLaw_MoC (by decide) wMo_adr2 wLaw_Mo 95 rfl rfl rfl hl.1 rfl (Nat.le_of_ble_eq_true rfl) dL_law_1257 ⟨hc, hs⟩ (fun H locs hP hD hS => ?_)
  refine lv_istore (lv' := [(6, .int (nI 0)), (5, .int (nI 1)), (0, .ref bb), (1, .ref (ob 0)), (2, .ref (z 0)), (3, .ref o), (4, .int (nI i))]) hx hcd dL_law_1260 hl (by decide) rfl (fun ls hl => ?_)
  refine lv_aload_n hx hcd dL_law_1262 rfl (lv_at hl 4 rfl) ?_
  refine kr_Vi (As := []) (rest := []) (ws2 := wLaw cI cB cW cL o F ob nw tr qs sc (g_rot qs r) M N S n L T z (xu x 7 1) hh M Sp Ot Sv T) (q := (RX7, TX7, 10)) ⟨hx, hcd, hml, hown, hts⟩ (c_X7_thrown l D cI cB cW cL z (xu x 7 1) hh _ M ) (cwV 0 hts gL_law_X7_thrown rfl rfl rfl (by decide +kernel) ⟨Nat.le_of_ble_eq_true rfl, Nat.le_of_ble_eq_true rfl⟩) hK hP hD hS hA [95, 96] wLaw_MoC (by decide) wMo_adr2 wLaw_Mo 95 rfl rfl rfl hl.1 rfl (Nat.le_of_ble_eq_true rfl) dL_law_1263 ⟨hc, hs⟩ (fun H locs hP hD hS => ?_)
  refine kr_top (w := 1) rfl ?_
  refine kr_top (w := nI 1) rfl ?_
  refine lv_iload hx hcd dL_law_1266 (lv_at hl 1 rfl) ?_
  refine kr_ceq (tgt := 1273) hx hcd (by omega) (by omega) dL_law_1268 (by decide) (fun (c_1268 : 1 = 1) => ?_) (fun (c_1268 : ¬ 1 = 1) => absurd c_1268 (by omega))
  refine lv_iload hx hcd dL_law_1273 (lv_at hl 1 rfl) ?_
  refine kr_zne (tgt := 1290) hx hcd (by omega) dL_law_1275 (by decide) (fun (c_1275 : 0 < 1) => ?_) (fun (c_1275 : 1 = 0) => absurd c_1275 (by omega))
  refine lv_goto (tgt := 1812) hx hcd dL_law_1290 (by decide) ?_
  exact kk F N M S n r L T (xu x 7 1) hh Sp Ot Sv (linv_x hV rfl rfl) H locs ls hP hD hS (lv_sub hl [2, 3, 4, 5, 6] rfl)

set_option maxHeartbeats 4000000 in
set_option maxRecDepth 100000 in
theorem law_changedSince__e2 {pp : Program} {l : Launch} {ee : Env} {ss : State} {mm : MethodId} {below : List Frame} {meth : Method} {cc : Code} {bb Ls : Nat} {xs : Nat → Int32} {D : va_G} {cI cB cW cL : ClassId} (C : LFix pp l ss mm cc bb Ls xs D cI cB cW cL) {o : Nat} {F : Nat → Int64} {ob nw tr : Nat → Nat} {qs : Nat → Nat → Nat} {sc : Nat → Nat} {N : kM} {S : Nat → kM} {n r L : Nat} {T : Nat → Int32} {z : Nat → Nat} {x : Nat → Int32} {hh : Int64} {Sp Ot Sv : Nat → Int32} {M : kM} (hV : LInv M S n r L T Sv x) {i : Nat} (hi : i + 5 ≤ Ls) {a : Nat} (h1 : xs (i + 1) = nI a) (ha : a < 6) (hv : xs (i + 2) < 0) {H : Heap} {locs : List Loc} {ls : Array Slot} {cells slots : Nat} {Q : State → Prop} (hc : cells + 1 ≤ 601024) (hs : slots + 6 ≤ 7293034) (hP : va_P D vwCl (wLaw cI cB cW cL o F ob nw tr qs sc (g_rot qs r) M N S n L T z x hh M Sp Ot Sv T) H) (hD : va_D (fun q : Nat => ss.heap.size ≤ q) (wLaw cI cB cW cL o F ob nw tr qs sc (g_rot qs r) M N S n L T z x hh M Sp Ot Sv T)) (hS : va_S (fun q : Nat => ss.heap.size ≤ q) ss.heap H locs) (hl : lv_has ls 9 [(0, .ref bb), (1, .ref (ob 0)), (2, .ref (z 0)), (3, .ref o), (4, .int (nI i))]) (kk : LNext pp l ee ss mm below meth cc bb D cI cB cW cL o ob nw tr qs sc z i cells slots Q) : W pp l ee room_1 ss mm #[Value.ref bb] below meth cc H locs cells slots Q (F0 mm 1225 ls []) := by
  obtain ⟨hx, hcd, hml, hown, hts, hX, hbl, hst, hZ, hN, hK, hL9⟩ := C
  obtain ⟨hI, hn, hr, hL, hT, hx4, hx6, hsv⟩ := id hV
  have hA : ∀ q : Nat, ss.heap.size ≤ q → (fun q : Nat => ss.heap.size ≤ q) q := fun _ h => h
  have hbA : ¬ (fun q : Nat => ss.heap.size ≤ q) bb := Nat.not_le.mpr hbl
  refine lv_aload_n hx hcd dL_law_1225 rfl (lv_at hl 1 rfl) ?_
  refine lv_aload_n hx hcd dL_law_1226 rfl (lv_at hl 0 rfl) ?_
  refine lv_iload hx hcd dL_law_1227 (lv_at hl 4 rfl) ?_
  refine lv_iconst (v := nI 1) hx hcd dL_law_1229 (by decide) ?_
  refine kr_add hx hcd dL_law_1230 ?_
  refine kl_sld hx hcd hX hbl hbA hS (k := i + 1) (by omega) hL9 dL_law_1231 ?_
  refine kr_top (w := nI a) h1 ?_
  refine lv_aload_n hx hcd dL_law_1232 rfl (lv_at hl 0 rfl) ?_
  refine lv_iload hx hcd dL_law_1233 (lv_at hl 4 rfl) ?_
  refine lv_iconst (v := nI 2) hx hcd dL_law_1235 (by decide) ?_
  refine kr_add hx hcd dL_law_1236 ?_
  refine kl_sld hx hcd hX hbl hbA hS (k := i + 2) (by omega) hL9 dL_law_1237 ?_
  refine lv_aload_n hx hcd dL_law_1238 rfl (lv_at hl 3 rfl) ?_
  refine kl_S (As := [.ref (ob 0), .int (nI a), .int (xs (i + 2)), .ref o]) (rest := []) (ws2 := wLaw cI cB cW cL o F ob nw tr qs sc (g_rot qs r) M N S n L T z x hh M Sp Ot Sv T) ⟨hx, hcd, hml, hown, hts⟩ (c_L_changedSince__e2 l hst D cI cB cW cL o F ob nw tr qs sc (g_rot qs r) N S n L T _ M a (xs (i + 2)) ha hv) (vx_cwSW 4 hts gL_law_L_changedSince rfl rfl rfl (by decide +kernel) ⟨Nat.le_of_ble_eq_true rfl, Nat.le_of_ble_eq_true rfl⟩) hZ hN hK hP hD hS hA [0, 1, 2, 3, 4, 5, 6, 7, 8, 9, 10, 11, 12, 13, 14, 15, 16, 17, 18, 19, 20, 21, 22, 23, 24, 25, 26, 27, 28, 29, 30, 31, 32, 33, 34, 35, 36, 37, 38, 39, 40, 41, 42, 43, 44, 45, 46, 47, 48, 49, 50, 51, 52, 53, 54, 55, 56, 57, 58, 59, 60, 61, 62, 63, 64, 65, 66, 67, 68, 69, 70, 71, 72, 73, 74, 75, 76, 77, 78, 79, 80, 81, 82, 83, 84, 85, 86, 87, 88, 89, 90, 91, 92, 93, 94] wLaw_LXC nd_LX wLX_adr wLaw_LX rfl hl.1 rfl (Nat.le_of_ble_eq_true rfl) dL_law_1239 ⟨hc, hs⟩ (fun H locs hP hD hS => ?_)
  refine lv_istore (lv' := [(5, .int (nI 2)), (0, .ref bb), (1, .ref (ob 0)), (2, .ref (z 0)), (3, .ref o), (4, .int (nI i))]) hx hcd dL_law_1242 hl (by decide) rfl (fun ls hl => ?_)
  refine lv_aload_n hx hcd dL_law_1244 rfl (lv_at hl 3 rfl) ?_
  refine lv_aload_n hx hcd dL_law_1245 rfl (lv_at hl 1 rfl) ?_
  refine lv_iload hx hcd dL_law_1246 (lv_at hl 5 rfl) ?_
  refine lv_iconst (v := nI 1) hx hcd dL_law_1248 (by decide) ?_
  refine kr_add hx hcd dL_law_1249 ?_
  refine kl_sld hx hcd hX hbl hbA hS (k := i + 1) (by omega) hL9 dL_law_1250 ?_
  refine kr_top (w := nI a) h1 ?_
  refine lv_aload_n hx hcd dL_law_1251 rfl (lv_at hl 1 rfl) ?_
  refine lv_iload hx hcd dL_law_1252 (lv_at hl 5 rfl) ?_
  refine lv_iconst (v := nI 2) hx hcd dL_law_1254 (by decide) ?_
  refine kr_add hx hcd dL_law_1255 ?_
  refine kl_sld hx hcd hX hbl hbA hS (k := i + 2) (by omega) hL9 dL_law_1256 ?_
  refine kr_Vi (As := [.int (nI a), .int (xs (i + 2))]) (rest := []) (ws2 := wLaw cI cB cW cL o F ob nw tr qs sc (g_rot qs r) M N S n L T z (xu x 7 2) hh M Sp Ot Sv T) (q := (RX7, TX7, 10)) ⟨hx, hcd, hml, hown, hts⟩ (c_X7_changedSince__b2 l D cI cB cW cL z x hh _ M (nI a) (xs (i + 2)) (usr_ok ha) hv) (cwV 2 hts gL_law_X7_changedSince rfl rfl rfl (by decide +kernel) ⟨Nat.le_of_ble_eq_true rfl, Nat.le_of_ble_eq_true rfl⟩) hK hP hD hS hA [95, 96] wLaw_MoC (by decide) wMo_adr2 wLaw_Mo 95 rfl rfl rfl hl.1 rfl (Nat.le_of_ble_eq_true rfl) dL_law_1257 ⟨hc, hs⟩ (fun H locs hP hD hS => ?_)
  refine lv_istore (lv' := [(6, .int (nI 0)), (5, .int (nI 2)), (0, .ref bb), (1, .ref (ob 0)), (2, .ref (z 0)), (3, .ref o), (4, .int (nI i))]) hx hcd dL_law_1260 hl (by decide) rfl (fun ls hl => ?_)
  refine lv_aload_n hx hcd dL_law_1262 rfl (lv_at hl 4 rfl) ?_
  refine kr_Vi (As := []) (rest := []) (ws2 := wLaw cI cB cW cL o F ob nw tr qs sc (g_rot qs r) M N S n L T z (xu x 7 2) hh M Sp Ot Sv T) (q := (RX7, TX7, 10)) ⟨hx, hcd, hml, hown, hts⟩ (c_X7_thrown l D cI cB cW cL z (xu x 7 2) hh _ M ) (cwV 0 hts gL_law_X7_thrown rfl rfl rfl (by decide +kernel) ⟨Nat.le_of_ble_eq_true rfl, Nat.le_of_ble_eq_true rfl⟩) hK hP hD hS hA [95, 96] wLaw_MoC (by decide) wMo_adr2 wLaw_Mo 95 rfl rfl rfl hl.1 rfl (Nat.le_of_ble_eq_true rfl) dL_law_1263 ⟨hc, hs⟩ (fun H locs hP hD hS => ?_)
  refine kr_top (w := 2) rfl ?_
  refine kr_top (w := nI 2) rfl ?_
  refine lv_iload hx hcd dL_law_1266 (lv_at hl 1 rfl) ?_
  refine kr_ceq (tgt := 1273) hx hcd (by omega) (by omega) dL_law_1268 (by decide) (fun (c_1268 : 2 = 2) => ?_) (fun (c_1268 : ¬ 2 = 2) => absurd c_1268 (by omega))
  refine lv_iload hx hcd dL_law_1273 (lv_at hl 1 rfl) ?_
  refine kr_zne (tgt := 1290) hx hcd (by omega) dL_law_1275 (by decide) (fun (c_1275 : 0 < 2) => ?_) (fun (c_1275 : 2 = 0) => absurd c_1275 (by omega))
  refine lv_goto (tgt := 1812) hx hcd dL_law_1290 (by decide) ?_
  exact kk F N M S n r L T (xu x 7 2) hh Sp Ot Sv (linv_x hV rfl rfl) H locs ls hP hD hS (lv_sub hl [2, 3, 4, 5, 6] rfl)

set_option maxHeartbeats 4000000 in
set_option maxRecDepth 100000 in
theorem law_view__ok {pp : Program} {l : Launch} {ee : Env} {ss : State} {mm : MethodId} {below : List Frame} {meth : Method} {cc : Code} {bb Ls : Nat} {xs : Nat → Int32} {D : va_G} {cI cB cW cL : ClassId} (C : LFix pp l ss mm cc bb Ls xs D cI cB cW cL) {o : Nat} {F : Nat → Int64} {ob nw tr : Nat → Nat} {qs : Nat → Nat → Nat} {sc : Nat → Nat} {N : kM} {S : Nat → kM} {n r L : Nat} {T : Nat → Int32} {z : Nat → Nat} {x : Nat → Int32} {hh : Int64} {Sp Ot Sv : Nat → Int32} {M : kM} (hV : LInv M S n r L T Sv x) {i : Nat} (hi : i + 5 ≤ Ls) {a b s : Nat} (h1 : xs (i + 1) = nI a) (h2 : xs (i + 2) = nI b) (h3 : xs (i + 3) = nI s) (ha : a < 6) (hb : b < 6) (hs3 : s < 3) (hne : a ≠ b)  {H : Heap} {locs : List Loc} {ls : Array Slot} {cells slots : Nat} {Q : State → Prop} (hc : cells + 1 ≤ 601024) (hs : slots + 6 ≤ 7293034) (hP : va_P D vwCl (wLaw cI cB cW cL o F ob nw tr qs sc (g_rot qs r) M N S n L T z x hh M Sp Ot Sv T) H) (hD : va_D (fun q : Nat => ss.heap.size ≤ q) (wLaw cI cB cW cL o F ob nw tr qs sc (g_rot qs r) M N S n L T z x hh M Sp Ot Sv T)) (hS : va_S (fun q : Nat => ss.heap.size ≤ q) ss.heap H locs) (hl : lv_has ls 9 [(0, .ref bb), (1, .ref (ob 0)), (2, .ref (z 0)), (3, .ref o), (4, .int (nI i))]) (kk : LNext pp l ee ss mm below meth cc bb D cI cB cW cL o ob nw tr qs sc z i cells slots Q) : W pp l ee room_1 ss mm #[Value.ref bb] below meth cc H locs cells slots Q (F0 mm 1293 ls []) := by
  obtain ⟨hx, hcd, hml, hown, hts, hX, hbl, hst, hZ, hN, hK, hL9⟩ := C
  obtain ⟨hI, hn, hr, hL, hT, hx4, hx6, hsv⟩ := id hV
  have hA : ∀ q : Nat, ss.heap.size ≤ q → (fun q : Nat => ss.heap.size ≤ q) q := fun _ h => h
  have hbA : ¬ (fun q : Nat => ss.heap.size ≤ q) bb := Nat.not_le.mpr hbl
  refine lv_aload_n hx hcd dL_law_1293 rfl (lv_at hl 1 rfl) ?_
  refine lv_aload_n hx hcd dL_law_1294 rfl (lv_at hl 0 rfl) ?_
  refine lv_iload hx hcd dL_law_1295 (lv_at hl 4 rfl) ?_
  refine lv_iconst (v := nI 1) hx hcd dL_law_1297 (by decide) ?_
  refine kr_add hx hcd dL_law_1298 ?_
  refine kl_sld hx hcd hX hbl hbA hS (k := i + 1) (by omega) hL9 dL_law_1299 ?_
  refine kr_top (w := nI a) h1 ?_
  refine lv_aload_n hx hcd dL_law_1300 rfl (lv_at hl 0 rfl) ?_
  refine lv_iload hx hcd dL_law_1301 (lv_at hl 4 rfl) ?_
  refine lv_iconst (v := nI 2) hx hcd dL_law_1303 (by decide) ?_
  refine kr_add hx hcd dL_law_1304 ?_
  refine kl_sld hx hcd hX hbl hbA hS (k := i + 2) (by omega) hL9 dL_law_1305 ?_
  refine kr_top (w := nI b) h2 ?_
  refine lv_aload_n hx hcd dL_law_1306 rfl (lv_at hl 0 rfl) ?_
  refine lv_iload hx hcd dL_law_1307 (lv_at hl 4 rfl) ?_
  refine lv_iconst (v := nI 3) hx hcd dL_law_1309 (by decide) ?_
  refine kr_add hx hcd dL_law_1310 ?_
  refine kl_sld hx hcd hX hbl hbA hS (k := i + 3) (by omega) hL9 dL_law_1311 ?_
  refine kr_top (w := nI s) h3 ?_
  refine lv_aload_n hx hcd dL_law_1312 rfl (lv_at hl 3 rfl) ?_
  refine kl_S (As := [.ref (ob 0), .int (nI a), .int (nI b), .int (nI s), .ref o]) (rest := []) (ws2 := wLaw cI cB cW cL o (vp_updL F 0 (((M (132 + 18 * a + 3 * b + s)) : Int32).toInt64)) ob nw tr qs sc (g_rot qs r) M N S n L T z x hh M Sp Ot Sv T) ⟨hx, hcd, hml, hown, hts⟩ (c_L_view__ok l hst D cI cB cW cL o F ob nw tr qs sc (g_rot qs r) N S n L T _ M a b s ha hb hs3 hne) (vx_cwSW 5 hts gL_law_L_view rfl rfl rfl (by decide +kernel) ⟨Nat.le_of_ble_eq_true rfl, Nat.le_of_ble_eq_true rfl⟩) hZ hN hK hP hD hS hA [0, 1, 2, 3, 4, 5, 6, 7, 8, 9, 10, 11, 12, 13, 14, 15, 16, 17, 18, 19, 20, 21, 22, 23, 24, 25, 26, 27, 28, 29, 30, 31, 32, 33, 34, 35, 36, 37, 38, 39, 40, 41, 42, 43, 44, 45, 46, 47, 48, 49, 50, 51, 52, 53, 54, 55, 56, 57, 58, 59, 60, 61, 62, 63, 64, 65, 66, 67, 68, 69, 70, 71, 72, 73, 74, 75, 76, 77, 78, 79, 80, 81, 82, 83, 84, 85, 86, 87, 88, 89, 90, 91, 92, 93, 94] wLaw_LXC nd_LX wLX_adr wLaw_LX rfl hl.1 rfl (Nat.le_of_ble_eq_true rfl) dL_law_1313 ⟨hc, hs⟩ (fun H locs hP hD hS => ?_)
  refine lv_istore (lv' := [(5, .int (nI 0)), (0, .ref bb), (1, .ref (ob 0)), (2, .ref (z 0)), (3, .ref o), (4, .int (nI i))]) hx hcd dL_law_1316 hl (by decide) rfl (fun ls hl => ?_)
  refine lv_aload_n hx hcd dL_law_1318 rfl (lv_at hl 3 rfl) ?_
  refine lv_aload_n hx hcd dL_law_1319 rfl (lv_at hl 1 rfl) ?_
  refine lv_iload hx hcd dL_law_1320 (lv_at hl 5 rfl) ?_
  refine lv_iconst (v := nI 1) hx hcd dL_law_1322 (by decide) ?_
  refine kr_add hx hcd dL_law_1323 ?_
  refine kl_sld hx hcd hX hbl hbA hS (k := i + 1) (by omega) hL9 dL_law_1324 ?_
  refine kr_top (w := nI a) h1 ?_
  refine lv_aload_n hx hcd dL_law_1325 rfl (lv_at hl 1 rfl) ?_
  refine lv_iload hx hcd dL_law_1326 (lv_at hl 5 rfl) ?_
  refine lv_iconst (v := nI 2) hx hcd dL_law_1328 (by decide) ?_
  refine kr_add hx hcd dL_law_1329 ?_
  refine kl_sld hx hcd hX hbl hbA hS (k := i + 2) (by omega) hL9 dL_law_1330 ?_
  refine kr_top (w := nI b) h2 ?_
  refine lv_aload_n hx hcd dL_law_1331 rfl (lv_at hl 1 rfl) ?_
  refine lv_iload hx hcd dL_law_1332 (lv_at hl 5 rfl) ?_
  refine lv_iconst (v := nI 3) hx hcd dL_law_1334 (by decide) ?_
  refine kr_add hx hcd dL_law_1335 ?_
  refine kl_sld hx hcd hX hbl hbA hS (k := i + 3) (by omega) hL9 dL_law_1336 ?_
  refine kr_top (w := nI s) h3 ?_
  refine kr_Vi (As := [.int (nI a), .int (nI b), .int (nI s)]) (rest := []) (ws2 := wLaw cI cB cW cL o (vp_updL F 0 (((M (132 + 18 * a + 3 * b + s)) : Int32).toInt64)) ob nw tr qs sc (g_rot qs r) M N S n L T z (xu x 7 0) hh M Sp Ot Sv T) (q := (RX7, TX7, 10)) ⟨hx, hcd, hml, hown, hts⟩ (c_X7_view__ok l D cI cB cW cL z x hh _ M a b s ha hb hs3 hne) (cwV 3 hts gL_law_X7_view rfl rfl rfl (by decide +kernel) ⟨Nat.le_of_ble_eq_true rfl, Nat.le_of_ble_eq_true rfl⟩) hK hP hD hS hA [95, 96] wLaw_MoC (by decide) wMo_adr2 wLaw_Mo 95 rfl rfl rfl hl.1 rfl (Nat.le_of_ble_eq_true rfl) dL_law_1337 ⟨hc, hs⟩ (fun H locs hP hD hS => ?_)
  refine lv_istore (lv' := [(6, .int (M (132 + 18 * a + 3 * b + s))), (5, .int (nI 0)), (0, .ref bb), (1, .ref (ob 0)), (2, .ref (z 0)), (3, .ref o), (4, .int (nI i))]) hx hcd dL_law_1340 hl (by decide) rfl (fun ls hl => ?_)
  refine lv_aload_n hx hcd dL_law_1342 rfl (lv_at hl 4 rfl) ?_
  refine kr_Vi (As := []) (rest := []) (ws2 := wLaw cI cB cW cL o (vp_updL F 0 (((M (132 + 18 * a + 3 * b + s)) : Int32).toInt64)) ob nw tr qs sc (g_rot qs r) M N S n L T z (xu x 7 0) hh M Sp Ot Sv T) (q := (RX7, TX7, 10)) ⟨hx, hcd, hml, hown, hts⟩ (c_X7_thrown l D cI cB cW cL z (xu x 7 0) hh _ M ) (cwV 0 hts gL_law_X7_thrown rfl rfl rfl (by decide +kernel) ⟨Nat.le_of_ble_eq_true rfl, Nat.le_of_ble_eq_true rfl⟩) hK hP hD hS hA [95, 96] wLaw_MoC (by decide) wMo_adr2 wLaw_Mo 95 rfl rfl rfl hl.1 rfl (Nat.le_of_ble_eq_true rfl) dL_law_1343 ⟨hc, hs⟩ (fun H locs hP hD hS => ?_)
  refine kr_top (w := 0) rfl ?_
  refine kr_top (w := nI 0) rfl ?_
  refine lv_iload hx hcd dL_law_1346 (lv_at hl 1 rfl) ?_
  refine kr_ceq (tgt := 1353) hx hcd (by omega) (by omega) dL_law_1348 (by decide) (fun (c_1348 : 0 = 0) => ?_) (fun (c_1348 : ¬ 0 = 0) => absurd c_1348 (by omega))
  refine lv_iload hx hcd dL_law_1353 (lv_at hl 1 rfl) ?_
  refine kr_zne (tgt := 1370) hx hcd (by omega) dL_law_1355 (by decide) (fun (c_1355 : 0 < 0) => absurd c_1355 (by omega)) (fun (c_1355 : 0 = 0) => ?_)
  refine lv_aload_n hx hcd dL_law_1358 rfl (lv_at hl 5 rfl) ?_
  refine lv_iconst (v := nI 0) hx hcd dL_law_1359 (by decide) ?_
  refine kl_lald hx hcd hK hP 0 3 rfl rfl (v := ((M (132 + 18 * a + 3 * b + s)) : Int32).toInt64) (by omega) (by decide) updL_0 dL_law_1360 ?_
  refine lv_iload hx hcd dL_law_1361 (lv_at hl 0 rfl) ?_
  refine lv_i2l hx hcd dL_law_1363 rfl ?_
  refine kl_lcmp hx hcd (rfl) dL_law_1364 ?_
  refine kr_zeq (tgt := 1370) hx hcd (by omega) dL_law_1365 (by decide) (fun (c_1365 : 0 = 0) => ?_) (fun (c_1365 : 0 < 0) => absurd c_1365 (by omega))
  refine lv_goto (tgt := 1812) hx hcd dL_law_1370 (by decide) ?_
  exact kk (vp_updL F 0 (((M (132 + 18 * a + 3 * b + s)) : Int32).toInt64)) N M S n r L T (xu x 7 0) hh Sp Ot Sv (linv_x hV rfl rfl) H locs ls hP hD hS (lv_sub hl [2, 3, 4, 5, 6] rfl)

set_option maxHeartbeats 4000000 in
set_option maxRecDepth 100000 in
theorem law_view__e1a {pp : Program} {l : Launch} {ee : Env} {ss : State} {mm : MethodId} {below : List Frame} {meth : Method} {cc : Code} {bb Ls : Nat} {xs : Nat → Int32} {D : va_G} {cI cB cW cL : ClassId} (C : LFix pp l ss mm cc bb Ls xs D cI cB cW cL) {o : Nat} {F : Nat → Int64} {ob nw tr : Nat → Nat} {qs : Nat → Nat → Nat} {sc : Nat → Nat} {N : kM} {S : Nat → kM} {n r L : Nat} {T : Nat → Int32} {z : Nat → Nat} {x : Nat → Int32} {hh : Int64} {Sp Ot Sv : Nat → Int32} {M : kM} (hV : LInv M S n r L T Sv x) {i : Nat} (hi : i + 5 ≤ Ls)  (hg : g_usr (xs (i + 1)) = false) {H : Heap} {locs : List Loc} {ls : Array Slot} {cells slots : Nat} {Q : State → Prop} (hc : cells + 1 ≤ 601024) (hs : slots + 6 ≤ 7293034) (hP : va_P D vwCl (wLaw cI cB cW cL o F ob nw tr qs sc (g_rot qs r) M N S n L T z x hh M Sp Ot Sv T) H) (hD : va_D (fun q : Nat => ss.heap.size ≤ q) (wLaw cI cB cW cL o F ob nw tr qs sc (g_rot qs r) M N S n L T z x hh M Sp Ot Sv T)) (hS : va_S (fun q : Nat => ss.heap.size ≤ q) ss.heap H locs) (hl : lv_has ls 9 [(0, .ref bb), (1, .ref (ob 0)), (2, .ref (z 0)), (3, .ref o), (4, .int (nI i))]) (kk : LNext pp l ee ss mm below meth cc bb D cI cB cW cL o ob nw tr qs sc z i cells slots Q) : W pp l ee room_1 ss mm #[Value.ref bb] below meth cc H locs cells slots Q (F0 mm 1293 ls []) := by
  obtain ⟨hx, hcd, hml, hown, hts, hX, hbl, hst, hZ, hN, hK, hL9⟩ := C
  obtain ⟨hI, hn, hr, hL, hT, hx4, hx6, hsv⟩ := id hV
  have hA : ∀ q : Nat, ss.heap.size ≤ q → (fun q : Nat => ss.heap.size ≤ q) q := fun _ h => h
  have hbA : ¬ (fun q : Nat => ss.heap.size ≤ q) bb := Nat.not_le.mpr hbl
  refine lv_aload_n hx hcd dL_law_1293 rfl (lv_at hl 1 rfl) ?_
  refine lv_aload_n hx hcd dL_law_1294 rfl (lv_at hl 0 rfl) ?_
  refine lv_iload hx hcd dL_law_1295 (lv_at hl 4 rfl) ?_
  refine lv_iconst (v := nI 1) hx hcd dL_law_1297 (by decide) ?_
  refine kr_add hx hcd dL_law_1298 ?_
  refine kl_sld hx hcd hX hbl hbA hS (k := i + 1) (by omega) hL9 dL_law_1299 ?_
  refine lv_aload_n hx hcd dL_law_1300 rfl (lv_at hl 0 rfl) ?_
  refine lv_iload hx hcd dL_law_1301 (lv_at hl 4 rfl) ?_
  refine lv_iconst (v := nI 2) hx hcd dL_law_1303 (by decide) ?_
  refine kr_add hx hcd dL_law_1304 ?_
  refine kl_sld hx hcd hX hbl hbA hS (k := i + 2) (by omega) hL9 dL_law_1305 ?_
  refine lv_aload_n hx hcd dL_law_1306 rfl (lv_at hl 0 rfl) ?_
  refine lv_iload hx hcd dL_law_1307 (lv_at hl 4 rfl) ?_
  refine lv_iconst (v := nI 3) hx hcd dL_law_1309 (by decide) ?_
  refine kr_add hx hcd dL_law_1310 ?_
  refine kl_sld hx hcd hX hbl hbA hS (k := i + 3) (by omega) hL9 dL_law_1311 ?_
  refine lv_aload_n hx hcd dL_law_1312 rfl (lv_at hl 3 rfl) ?_
  refine kl_S (As := [.ref (ob 0), .int (xs (i + 1)), .int (xs (i + 2)), .int (xs (i + 3)), .ref o]) (rest := []) (ws2 := wLaw cI cB cW cL o F ob nw tr qs sc (g_rot qs r) M N S n L T z x hh M Sp Ot Sv T) ⟨hx, hcd, hml, hown, hts⟩ (c_L_view__e1a l hst D cI cB cW cL o F ob nw tr qs sc (g_rot qs r) N S n L T _ M (xs (i + 1)) (xs (i + 2)) (xs (i + 3)) (seat_u hg)) (vx_cwSW 5 hts gL_law_L_view rfl rfl rfl (by decide +kernel) ⟨Nat.le_of_ble_eq_true rfl, Nat.le_of_ble_eq_true rfl⟩) hZ hN hK hP hD hS hA [0, 1, 2, 3, 4, 5, 6, 7, 8, 9, 10, 11, 12, 13, 14, 15, 16, 17, 18, 19, 20, 21, 22, 23, 24, 25, 26, 27, 28, 29, 30, 31, 32, 33, 34, 35, 36, 37, 38, 39, 40, 41, 42, 43, 44, 45, 46, 47, 48, 49, 50, 51, 52, 53, 54, 55, 56, 57, 58, 59, 60, 61, 62, 63, 64, 65, 66, 67, 68, 69, 70, 71, 72, 73, 74, 75, 76, 77, 78, 79, 80, 81, 82, 83, 84, 85, 86, 87, 88, 89, 90, 91, 92, 93, 94] wLaw_LXC nd_LX wLX_adr wLaw_LX rfl hl.1 rfl (Nat.le_of_ble_eq_true rfl) dL_law_1313 ⟨hc, hs⟩ (fun H locs hP hD hS => ?_)
  refine lv_istore (lv' := [(5, .int (nI 1)), (0, .ref bb), (1, .ref (ob 0)), (2, .ref (z 0)), (3, .ref o), (4, .int (nI i))]) hx hcd dL_law_1316 hl (by decide) rfl (fun ls hl => ?_)
  refine lv_aload_n hx hcd dL_law_1318 rfl (lv_at hl 3 rfl) ?_
  refine lv_aload_n hx hcd dL_law_1319 rfl (lv_at hl 1 rfl) ?_
  refine lv_iload hx hcd dL_law_1320 (lv_at hl 5 rfl) ?_
  refine lv_iconst (v := nI 1) hx hcd dL_law_1322 (by decide) ?_
  refine kr_add hx hcd dL_law_1323 ?_
  refine kl_sld hx hcd hX hbl hbA hS (k := i + 1) (by omega) hL9 dL_law_1324 ?_
  refine lv_aload_n hx hcd dL_law_1325 rfl (lv_at hl 1 rfl) ?_
  refine lv_iload hx hcd dL_law_1326 (lv_at hl 5 rfl) ?_
  refine lv_iconst (v := nI 2) hx hcd dL_law_1328 (by decide) ?_
  refine kr_add hx hcd dL_law_1329 ?_
  refine kl_sld hx hcd hX hbl hbA hS (k := i + 2) (by omega) hL9 dL_law_1330 ?_
  refine lv_aload_n hx hcd dL_law_1331 rfl (lv_at hl 1 rfl) ?_
  refine lv_iload hx hcd dL_law_1332 (lv_at hl 5 rfl) ?_
  refine lv_iconst (v := nI 3) hx hcd dL_law_1334 (by decide) ?_
  refine kr_add hx hcd dL_law_1335 ?_
  refine kl_sld hx hcd hX hbl hbA hS (k := i + 3) (by omega) hL9 dL_law_1336 ?_
  refine kr_Vi (As := [.int (xs (i + 1)), .int (xs (i + 2)), .int (xs (i + 3))]) (rest := []) (ws2 := wLaw cI cB cW cL o F ob nw tr qs sc (g_rot qs r) M N S n L T z (xu x 7 1) hh M Sp Ot Sv T) (q := (RX7, TX7, 10)) ⟨hx, hcd, hml, hown, hts⟩ (c_X7_view__b1a l D cI cB cW cL z x hh _ M (xs (i + 1)) (xs (i + 2)) (xs (i + 3)) hg) (cwV 3 hts gL_law_X7_view rfl rfl rfl (by decide +kernel) ⟨Nat.le_of_ble_eq_true rfl, Nat.le_of_ble_eq_true rfl⟩) hK hP hD hS hA [95, 96] wLaw_MoC (by decide) wMo_adr2 wLaw_Mo 95 rfl rfl rfl hl.1 rfl (Nat.le_of_ble_eq_true rfl) dL_law_1337 ⟨hc, hs⟩ (fun H locs hP hD hS => ?_)
  refine lv_istore (lv' := [(6, .int (nI 0)), (5, .int (nI 1)), (0, .ref bb), (1, .ref (ob 0)), (2, .ref (z 0)), (3, .ref o), (4, .int (nI i))]) hx hcd dL_law_1340 hl (by decide) rfl (fun ls hl => ?_)
  refine lv_aload_n hx hcd dL_law_1342 rfl (lv_at hl 4 rfl) ?_
  refine kr_Vi (As := []) (rest := []) (ws2 := wLaw cI cB cW cL o F ob nw tr qs sc (g_rot qs r) M N S n L T z (xu x 7 1) hh M Sp Ot Sv T) (q := (RX7, TX7, 10)) ⟨hx, hcd, hml, hown, hts⟩ (c_X7_thrown l D cI cB cW cL z (xu x 7 1) hh _ M ) (cwV 0 hts gL_law_X7_thrown rfl rfl rfl (by decide +kernel) ⟨Nat.le_of_ble_eq_true rfl, Nat.le_of_ble_eq_true rfl⟩) hK hP hD hS hA [95, 96] wLaw_MoC (by decide) wMo_adr2 wLaw_Mo 95 rfl rfl rfl hl.1 rfl (Nat.le_of_ble_eq_true rfl) dL_law_1343 ⟨hc, hs⟩ (fun H locs hP hD hS => ?_)
  refine kr_top (w := 1) rfl ?_
  refine kr_top (w := nI 1) rfl ?_
  refine lv_iload hx hcd dL_law_1346 (lv_at hl 1 rfl) ?_
  refine kr_ceq (tgt := 1353) hx hcd (by omega) (by omega) dL_law_1348 (by decide) (fun (c_1348 : 1 = 1) => ?_) (fun (c_1348 : ¬ 1 = 1) => absurd c_1348 (by omega))
  refine lv_iload hx hcd dL_law_1353 (lv_at hl 1 rfl) ?_
  refine kr_zne (tgt := 1370) hx hcd (by omega) dL_law_1355 (by decide) (fun (c_1355 : 0 < 1) => ?_) (fun (c_1355 : 1 = 0) => absurd c_1355 (by omega))
  refine lv_goto (tgt := 1812) hx hcd dL_law_1370 (by decide) ?_
  exact kk F N M S n r L T (xu x 7 1) hh Sp Ot Sv (linv_x hV rfl rfl) H locs ls hP hD hS (lv_sub hl [2, 3, 4, 5, 6] rfl)

set_option maxHeartbeats 4000000 in
set_option maxRecDepth 100000 in
theorem law_view__e1b {pp : Program} {l : Launch} {ee : Env} {ss : State} {mm : MethodId} {below : List Frame} {meth : Method} {cc : Code} {bb Ls : Nat} {xs : Nat → Int32} {D : va_G} {cI cB cW cL : ClassId} (C : LFix pp l ss mm cc bb Ls xs D cI cB cW cL) {o : Nat} {F : Nat → Int64} {ob nw tr : Nat → Nat} {qs : Nat → Nat → Nat} {sc : Nat → Nat} {N : kM} {S : Nat → kM} {n r L : Nat} {T : Nat → Int32} {z : Nat → Nat} {x : Nat → Int32} {hh : Int64} {Sp Ot Sv : Nat → Int32} {M : kM} (hV : LInv M S n r L T Sv x) {i : Nat} (hi : i + 5 ≤ Ls) {a : Nat} (h1 : xs (i + 1) = nI a) (ha : a < 6) (hg : g_in (xs (i + 3)) 0 2 = false) {H : Heap} {locs : List Loc} {ls : Array Slot} {cells slots : Nat} {Q : State → Prop} (hc : cells + 1 ≤ 601024) (hs : slots + 6 ≤ 7293034) (hP : va_P D vwCl (wLaw cI cB cW cL o F ob nw tr qs sc (g_rot qs r) M N S n L T z x hh M Sp Ot Sv T) H) (hD : va_D (fun q : Nat => ss.heap.size ≤ q) (wLaw cI cB cW cL o F ob nw tr qs sc (g_rot qs r) M N S n L T z x hh M Sp Ot Sv T)) (hS : va_S (fun q : Nat => ss.heap.size ≤ q) ss.heap H locs) (hl : lv_has ls 9 [(0, .ref bb), (1, .ref (ob 0)), (2, .ref (z 0)), (3, .ref o), (4, .int (nI i))]) (kk : LNext pp l ee ss mm below meth cc bb D cI cB cW cL o ob nw tr qs sc z i cells slots Q) : W pp l ee room_1 ss mm #[Value.ref bb] below meth cc H locs cells slots Q (F0 mm 1293 ls []) := by
  obtain ⟨hx, hcd, hml, hown, hts, hX, hbl, hst, hZ, hN, hK, hL9⟩ := C
  obtain ⟨hI, hn, hr, hL, hT, hx4, hx6, hsv⟩ := id hV
  have hA : ∀ q : Nat, ss.heap.size ≤ q → (fun q : Nat => ss.heap.size ≤ q) q := fun _ h => h
  have hbA : ¬ (fun q : Nat => ss.heap.size ≤ q) bb := Nat.not_le.mpr hbl
  refine lv_aload_n hx hcd dL_law_1293 rfl (lv_at hl 1 rfl) ?_
  refine lv_aload_n hx hcd dL_law_1294 rfl (lv_at hl 0 rfl) ?_
  refine lv_iload hx hcd dL_law_1295 (lv_at hl 4 rfl) ?_
  refine lv_iconst (v := nI 1) hx hcd dL_law_1297 (by decide) ?_
  refine kr_add hx hcd dL_law_1298 ?_
  refine kl_sld hx hcd hX hbl hbA hS (k := i + 1) (by omega) hL9 dL_law_1299 ?_
  refine kr_top (w := nI a) h1 ?_
  refine lv_aload_n hx hcd dL_law_1300 rfl (lv_at hl 0 rfl) ?_
  refine lv_iload hx hcd dL_law_1301 (lv_at hl 4 rfl) ?_
  refine lv_iconst (v := nI 2) hx hcd dL_law_1303 (by decide) ?_
  refine kr_add hx hcd dL_law_1304 ?_
  refine kl_sld hx hcd hX hbl hbA hS (k := i + 2) (by omega) hL9 dL_law_1305 ?_
  refine lv_aload_n hx hcd dL_law_1306 rfl (lv_at hl 0 rfl) ?_
  refine lv_iload hx hcd dL_law_1307 (lv_at hl 4 rfl) ?_
  refine lv_iconst (v := nI 3) hx hcd dL_law_1309 (by decide) ?_
  refine kr_add hx hcd dL_law_1310 ?_
  refine kl_sld hx hcd hX hbl hbA hS (k := i + 3) (by omega) hL9 dL_law_1311 ?_
  refine lv_aload_n hx hcd dL_law_1312 rfl (lv_at hl 3 rfl) ?_
  refine kl_S (As := [.ref (ob 0), .int (nI a), .int (xs (i + 2)), .int (xs (i + 3)), .ref o]) (rest := []) (ws2 := wLaw cI cB cW cL o F ob nw tr qs sc (g_rot qs r) M N S n L T z x hh M Sp Ot Sv T) ⟨hx, hcd, hml, hown, hts⟩ (c_L_view__e1a l hst D cI cB cW cL o F ob nw tr qs sc (g_rot qs r) N S n L T _ M (nI a) (xs (i + 2)) (xs (i + 3)) (seat_s hg)) (vx_cwSW 5 hts gL_law_L_view rfl rfl rfl (by decide +kernel) ⟨Nat.le_of_ble_eq_true rfl, Nat.le_of_ble_eq_true rfl⟩) hZ hN hK hP hD hS hA [0, 1, 2, 3, 4, 5, 6, 7, 8, 9, 10, 11, 12, 13, 14, 15, 16, 17, 18, 19, 20, 21, 22, 23, 24, 25, 26, 27, 28, 29, 30, 31, 32, 33, 34, 35, 36, 37, 38, 39, 40, 41, 42, 43, 44, 45, 46, 47, 48, 49, 50, 51, 52, 53, 54, 55, 56, 57, 58, 59, 60, 61, 62, 63, 64, 65, 66, 67, 68, 69, 70, 71, 72, 73, 74, 75, 76, 77, 78, 79, 80, 81, 82, 83, 84, 85, 86, 87, 88, 89, 90, 91, 92, 93, 94] wLaw_LXC nd_LX wLX_adr wLaw_LX rfl hl.1 rfl (Nat.le_of_ble_eq_true rfl) dL_law_1313 ⟨hc, hs⟩ (fun H locs hP hD hS => ?_)
  refine lv_istore (lv' := [(5, .int (nI 1)), (0, .ref bb), (1, .ref (ob 0)), (2, .ref (z 0)), (3, .ref o), (4, .int (nI i))]) hx hcd dL_law_1316 hl (by decide) rfl (fun ls hl => ?_)
  refine lv_aload_n hx hcd dL_law_1318 rfl (lv_at hl 3 rfl) ?_
  refine lv_aload_n hx hcd dL_law_1319 rfl (lv_at hl 1 rfl) ?_
  refine lv_iload hx hcd dL_law_1320 (lv_at hl 5 rfl) ?_
  refine lv_iconst (v := nI 1) hx hcd dL_law_1322 (by decide) ?_
  refine kr_add hx hcd dL_law_1323 ?_
  refine kl_sld hx hcd hX hbl hbA hS (k := i + 1) (by omega) hL9 dL_law_1324 ?_
  refine kr_top (w := nI a) h1 ?_
  refine lv_aload_n hx hcd dL_law_1325 rfl (lv_at hl 1 rfl) ?_
  refine lv_iload hx hcd dL_law_1326 (lv_at hl 5 rfl) ?_
  refine lv_iconst (v := nI 2) hx hcd dL_law_1328 (by decide) ?_
  refine kr_add hx hcd dL_law_1329 ?_
  refine kl_sld hx hcd hX hbl hbA hS (k := i + 2) (by omega) hL9 dL_law_1330 ?_
  refine lv_aload_n hx hcd dL_law_1331 rfl (lv_at hl 1 rfl) ?_
  refine lv_iload hx hcd dL_law_1332 (lv_at hl 5 rfl) ?_
  refine lv_iconst (v := nI 3) hx hcd dL_law_1334 (by decide) ?_
  refine kr_add hx hcd dL_law_1335 ?_
  refine kl_sld hx hcd hX hbl hbA hS (k := i + 3) (by omega) hL9 dL_law_1336 ?_
  refine kr_Vi (As := [.int (nI a), .int (xs (i + 2)), .int (xs (i + 3))]) (rest := []) (ws2 := wLaw cI cB cW cL o F ob nw tr qs sc (g_rot qs r) M N S n L T z (xu x 7 1) hh M Sp Ot Sv T) (q := (RX7, TX7, 10)) ⟨hx, hcd, hml, hown, hts⟩ (c_X7_view__b1b l D cI cB cW cL z x hh _ M (nI a) (xs (i + 2)) (xs (i + 3)) (usr_ok ha) (seat_s hg)) (cwV 3 hts gL_law_X7_view rfl rfl rfl (by decide +kernel) ⟨Nat.le_of_ble_eq_true rfl, Nat.le_of_ble_eq_true rfl⟩) hK hP hD hS hA [95, 96] wLaw_MoC (by decide) wMo_adr2 wLaw_Mo 95 rfl rfl rfl hl.1 rfl (Nat.le_of_ble_eq_true rfl) dL_law_1337 ⟨hc, hs⟩ (fun H locs hP hD hS => ?_)
  refine lv_istore (lv' := [(6, .int (nI 0)), (5, .int (nI 1)), (0, .ref bb), (1, .ref (ob 0)), (2, .ref (z 0)), (3, .ref o), (4, .int (nI i))]) hx hcd dL_law_1340 hl (by decide) rfl (fun ls hl => ?_)
  refine lv_aload_n hx hcd dL_law_1342 rfl (lv_at hl 4 rfl) ?_
  refine kr_Vi (As := []) (rest := []) (ws2 := wLaw cI cB cW cL o F ob nw tr qs sc (g_rot qs r) M N S n L T z (xu x 7 1) hh M Sp Ot Sv T) (q := (RX7, TX7, 10)) ⟨hx, hcd, hml, hown, hts⟩ (c_X7_thrown l D cI cB cW cL z (xu x 7 1) hh _ M ) (cwV 0 hts gL_law_X7_thrown rfl rfl rfl (by decide +kernel) ⟨Nat.le_of_ble_eq_true rfl, Nat.le_of_ble_eq_true rfl⟩) hK hP hD hS hA [95, 96] wLaw_MoC (by decide) wMo_adr2 wLaw_Mo 95 rfl rfl rfl hl.1 rfl (Nat.le_of_ble_eq_true rfl) dL_law_1343 ⟨hc, hs⟩ (fun H locs hP hD hS => ?_)
  refine kr_top (w := 1) rfl ?_
  refine kr_top (w := nI 1) rfl ?_
  refine lv_iload hx hcd dL_law_1346 (lv_at hl 1 rfl) ?_
  refine kr_ceq (tgt := 1353) hx hcd (by omega) (by omega) dL_law_1348 (by decide) (fun (c_1348 : 1 = 1) => ?_) (fun (c_1348 : ¬ 1 = 1) => absurd c_1348 (by omega))
  refine lv_iload hx hcd dL_law_1353 (lv_at hl 1 rfl) ?_
  refine kr_zne (tgt := 1370) hx hcd (by omega) dL_law_1355 (by decide) (fun (c_1355 : 0 < 1) => ?_) (fun (c_1355 : 1 = 0) => absurd c_1355 (by omega))
  refine lv_goto (tgt := 1812) hx hcd dL_law_1370 (by decide) ?_
  exact kk F N M S n r L T (xu x 7 1) hh Sp Ot Sv (linv_x hV rfl rfl) H locs ls hP hD hS (lv_sub hl [2, 3, 4, 5, 6] rfl)
