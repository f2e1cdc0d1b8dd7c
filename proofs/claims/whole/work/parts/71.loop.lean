theorem len_5 {Ls i : Nat} (h1 : Ls ≤ 2560) (h2 : i ≤ 2560) : nI Ls - 5 < nI i ↔ Ls < i + 5 := by
  by_cases h : 5 ≤ Ls
  · rw [show nI Ls - 5 = nI (Ls - 5) from pk_sub (a := Ls) (b := 5) h, nI_ltI (by omega) (by omega)]
    omega
  · have e : (nI Ls - 5).toInt = (Ls : Int) - 5 := by
      rcases (show Ls = 0 ∨ Ls = 1 ∨ Ls = 2 ∨ Ls = 3 ∨ Ls = 4 by omega) with rfl | rfl | rfl | rfl | rfl <;> decide
    rw [Int32.lt_iff_toInt_lt, e, nI_toInt (by omega)]
    omega
set_option maxHeartbeats 4000000 in
set_option maxRecDepth 100000 in
theorem law_loop {pp : Program} {l : Launch} {ee : Env} {ss : State} {mm : MethodId} {below : List Frame} {meth : Method} {cc : Code} {bb Ls : Nat} {xs : Nat → Int32} {D : va_G} {cI cB cW cL : ClassId} (C : LFix pp l ss mm cc bb Ls xs D cI cB cW cL) {o : Nat} {ob nw tr : Nat → Nat} {qs : Nat → Nat → Nat} {sc z : Nat → Nat} {Q : State → Prop}
    (hE : ∀ (H : Heap) (locs : List Loc) (ls : Array Slot) (cells slots : Nat), cells ≤ 601024 → slots ≤ 7293034 → va_S (fun q : Nat => ss.heap.size ≤ q) ss.heap H locs → lv_has ls 9 [(0, .ref bb)] → W pp l ee room_1 ss mm #[Value.ref bb] below meth cc H locs cells slots Q (F0 mm 1818 ls [])) :
    ∀ (f i : Nat), i ≤ Ls → Ls < i + f → ∀ (F : Nat → Int64) (N : kM) (S : Nat → kM) (n r L : Nat) (T : Nat → Int32) (x : Nat → Int32) (hh : Int64) (Sp Ot Sv : Nat → Int32) (M : kM), LInv M S n r L T Sv x → ∀ {H : Heap} {locs : List Loc} {ls : Array Slot} {cells slots : Nat}, cells ≤ 1000 + i → slots ≤ 20000 + 6 * i → va_P D vwCl (wLaw cI cB cW cL o F ob nw tr qs sc (g_rot qs r) M N S n L T z x hh M Sp Ot Sv T) H → va_D (fun q : Nat => ss.heap.size ≤ q) (wLaw cI cB cW cL o F ob nw tr qs sc (g_rot qs r) M N S n L T z x hh M Sp Ot Sv T) → va_S (fun q : Nat => ss.heap.size ≤ q) ss.heap H locs → lv_has ls 9 [(0, .ref bb), (1, .ref (ob 0)), (2, .ref (z 0)), (3, .ref o), (4, .int (nI i))] → W pp l ee room_1 ss mm #[Value.ref bb] below meth cc H locs cells slots Q (F0 mm 23 ls [])
  | 0, i, h1, h2 => by omega
  | f + 1, i, h1, h2 => by
    intro F N S n r L T x hh Sp Ot Sv M hV H locs ls cells slots hc0 hs0 hP hD hS hl
    obtain ⟨hx, hcd, hml, hown, hts, hX, hbl, hst, hZ, hN, hK, hL9⟩ := id C
    have hbA : ¬ (fun q : Nat => ss.heap.size ≤ q) bb := Nat.not_le.mpr hbl
    refine lv_iload hx hcd dL_law_23 (lv_at hl 4 rfl) ?_
    refine lv_aload_n hx hcd dL_law_25 rfl (lv_at hl 0 rfl) ?_
    refine va_slen hx hcd hX hbl hbA hS dL_law_26 ?_
    refine lv_iconst (v := nI 5) hx hcd dL_law_27 (by decide) ?_
    refine lv_isub hx hcd dL_law_28 ?_
    refine lv_icmp_gt (tgt := 1818) hx hcd dL_law_29 (by decide) (fun (c_29 : nI Ls - 5 < nI i) => ?_) (fun (c_29 : ¬ nI Ls - 5 < nI i) => ?_)
    · exact hE H locs ls cells slots (by omega) (by omega) hS (lv_sub hl [0] rfl)
    · have hi : i + 5 ≤ Ls := by
        rw [len_5 hL9 (by omega)] at c_29
        omega
      have hc : cells + 1 ≤ 601024 := by omega
      have hs : slots + 6 ≤ 7293034 := by omega
      have kk : LNext pp l ee ss mm below meth cc bb D cI cB cW cL o ob nw tr qs sc z i cells slots Q := by
        intro F' N' M' S' n' r' L' T' x' hh' Sp' Ot' Sv' hV' H' locs' ls' hP' hD' hS' hl'
        refine lv_iinc (v := nI (i + 5)) (lv' := [(4, .int (nI (i + 5))), (0, .ref bb), (1, .ref (ob 0)), (2, .ref (z 0)), (3, .ref o)]) hx hcd dL_law_1812 hl' (k := 4) rfl (nI_add i 5) (by decide) rfl (fun ls' hl' => ?_)
        refine lv_goto (tgt := 23) hx hcd dL_law_1815 (by decide) ?_
        exact law_loop C hE f (i + 5) hi (by omega) _ _ _ _ _ _ _ _ _ _ _ _ _ hV' (by omega) (by omega) hP' hD' hS' (lv_sub hl' [1, 2, 3, 4, 0] rfl)
      refine lv_aload_n hx hcd dL_law_32 rfl (lv_at hl 0 rfl) ?_
      refine lv_iload hx hcd dL_law_33 (lv_at hl 4 rfl) ?_
      refine kl_sld hx hcd hX hbl hbA hS (k := i) (by omega) hL9 dL_law_35 ?_
      refine lv_bipush (v := 31) hx hcd dL_law_36 (by decide) ?_
      refine lv_iand hx hcd dL_law_38 ?_
      obtain ⟨k, hk, ek⟩ := and_31 (xs i)
      refine kr_top (w := nI k) ek ?_
      rcases (show k = 0 ∨ k = 1 ∨ k = 2 ∨ k = 3 ∨ k = 4 ∨ k = 5 ∨ k = 6 ∨ k = 7 ∨ k = 8 ∨ k = 9 ∨ k = 10 ∨ k = 11 ∨ k = 12 ∨ k = 13 ∨ k = 14 ∨ k = 15 ∨ k = 16 ∨ k = 17 ∨ k = 18 ∨ k = 19 ∨ k = 20 ∨ k = 21 ∨ k = 22 ∨ k = 23 ∨ k = 24 ∨ k = 25 ∨ k = 26 ∨ k = 27 ∨ k = 28 ∨ k = 29 ∨ k = 30 ∨ k = 31 by omega) with rfl | rfl | rfl | rfl | rfl | rfl | rfl | rfl | rfl | rfl | rfl | rfl | rfl | rfl | rfl | rfl | rfl | rfl | rfl | rfl | rfl | rfl | rfl | rfl | rfl | rfl | rfl | rfl | rfl | rfl | rfl | rfl
      · refine lv_tableIn (x := nI 0) (off := 137) (tgt := 176) hx hcd dL_law_39 (by decide) (by decide) (by decide) (by decide) ?_
        exact law_ask C hV hi hc hs hP hD hS hl kk
      · refine lv_tableIn (x := nI 1) (off := 205) (tgt := 244) hx hcd dL_law_39 (by decide) (by decide) (by decide) (by decide) ?_
        exact law_grant C hV hi hc hs hP hD hS hl kk
      · refine lv_tableIn (x := nI 2) (off := 273) (tgt := 312) hx hcd dL_law_39 (by decide) (by decide) (by decide) (by decide) ?_
        exact law_refuse C hV hi hc hs hP hD hS hl kk
      · refine lv_tableIn (x := nI 3) (off := 341) (tgt := 380) hx hcd dL_law_39 (by decide) (by decide) (by decide) (by decide) ?_
        exact law_stop C hV hi hc hs hP hD hS hl kk
      · refine lv_tableIn (x := nI 4) (off := 409) (tgt := 448) hx hcd dL_law_39 (by decide) (by decide) (by decide) (by decide) ?_
        exact law_block C hV hi hc hs hP hD hS hl kk
      · refine lv_tableIn (x := nI 5) (off := 505) (tgt := 544) hx hcd dL_law_39 (by decide) (by decide) (by decide) (by decide) ?_
        exact law_turnOn C hV hi hc hs hP hD hS hl kk
      · refine lv_tableIn (x := nI 6) (off := 597) (tgt := 636) hx hcd dL_law_39 (by decide) (by decide) (by decide) (by decide) ?_
        exact law_turnOff C hV hi hc hs hP hD hS hl kk
      · refine lv_tableIn (x := nI 7) (off := 665) (tgt := 704) hx hcd dL_law_39 (by decide) (by decide) (by decide) (by decide) ?_
        exact law_bestSeat C hV hi hc hs hP hD hS hl kk
      · refine lv_tableIn (x := nI 8) (off := 721) (tgt := 760) hx hcd dL_law_39 (by decide) (by decide) (by decide) (by decide) ?_
        exact law_seat C hV hi hc hs hP hD hS hl kk
      · refine lv_tableIn (x := nI 9) (off := 801) (tgt := 840) hx hcd dL_law_39 (by decide) (by decide) (by decide) (by decide) ?_
        exact law_deliver C hV hi hc hs hP hD hS hl kk
      · refine lv_tableIn (x := nI 10) (off := 857) (tgt := 896) hx hcd dL_law_39 (by decide) (by decide) (by decide) (by decide) ?_
        exact law_lose C hV hi hc hs hP hD hS hl kk
      · refine lv_tableIn (x := nI 11) (off := 913) (tgt := 952) hx hcd dL_law_39 (by decide) (by decide) (by decide) (by decide) ?_
        exact law_underWay C hV hi hc hs hP hD hS hl kk
      · refine lv_tableIn (x := nI 12) (off := 926) (tgt := 965) hx hcd dL_law_39 (by decide) (by decide) (by decide) (by decide) ?_
        exact law_message C hV hi hc hs hP hD hS hl kk
      · refine lv_tableIn (x := nI 13) (off := 994) (tgt := 1033) hx hcd dL_law_39 (by decide) (by decide) (by decide) (by decide) ?_
        exact law_count C hV hi hc hs hP hD hS hl kk
      · refine lv_tableIn (x := nI 14) (off := 1050) (tgt := 1089) hx hcd dL_law_39 (by decide) (by decide) (by decide) (by decide) ?_
        exact law_entry C hV hi hc hs hP hD hS hl kk
      · refine lv_tableIn (x := nI 15) (off := 1118) (tgt := 1157) hx hcd dL_law_39 (by decide) (by decide) (by decide) (by decide) ?_
        exact law_version C hV hi hc hs hP hD hS hl kk
      · refine lv_tableIn (x := nI 16) (off := 1186) (tgt := 1225) hx hcd dL_law_39 (by decide) (by decide) (by decide) (by decide) ?_
        exact law_changedSince C hV hi hc hs hP hD hS hl kk
      · refine lv_tableIn (x := nI 17) (off := 1254) (tgt := 1293) hx hcd dL_law_39 (by decide) (by decide) (by decide) (by decide) ?_
        exact law_view C hV hi hc hs hP hD hS hl kk
      · refine lv_tableIn (x := nI 18) (off := 1334) (tgt := 1373) hx hcd dL_law_39 (by decide) (by decide) (by decide) (by decide) ?_
        exact law_areApart C hV hi hc hs hP hD hS hl kk
      · refine lv_tableIn (x := nI 19) (off := 1409) (tgt := 1448) hx hcd dL_law_39 (by decide) (by decide) (by decide) (by decide) ?_
        exact law_agree C hV hi hc hs hP hD hS hl kk
      · refine lv_tableIn (x := nI 20) (off := 1484) (tgt := 1523) hx hcd dL_law_39 (by decide) (by decide) (by decide) (by decide) ?_
        exact law_agreeing C hV hi hc hs hP hD hS hl kk
      · refine lv_tableIn (x := nI 21) (off := 1497) (tgt := 1536) hx hcd dL_law_39 (by decide) (by decide) (by decide) (by decide) ?_
        exact law_wrongViews C hV hi hc hs hP hD hS hl kk
      · refine lv_tableIn (x := nI 22) (off := 1553) (tgt := 1592) hx hcd dL_law_39 (by decide) (by decide) (by decide) (by decide) ?_
        exact law_untilRest C hV hi hc hs hP hD hS hl kk
      · refine lv_tableIn (x := nI 23) (off := 1566) (tgt := 1605) hx hcd dL_law_39 (by decide) (by decide) (by decide) (by decide) ?_
        exact law_agreeingAtRest C hV hi hc hs hP hD hS hl kk
      · refine lv_tableIn (x := nI 24) (off := 1579) (tgt := 1618) hx hcd dL_law_39 (by decide) (by decide) (by decide) (by decide) ?_
        exact law_mostNeeded C hV hi hc hs hP hD hS hl kk
      · refine lv_tableIn (x := nI 25) (off := 1592) (tgt := 1631) hx hcd dL_law_39 (by decide) (by decide) (by decide) (by decide) ?_
        exact law_visible C hV hi hc hs hP hD hS hl kk
      · refine lv_tableIn (x := nI 26) (off := 1633) (tgt := 1672) hx hcd dL_law_39 (by decide) (by decide) (by decide) (by decide) ?_
        exact law_append C hV hi hc hs hP hD hS hl kk
      · refine lv_tableIn (x := nI 27) (off := 1689) (tgt := 1728) hx hcd dL_law_39 (by decide) (by decide) (by decide) (by decide) ?_
        exact law_clearText C hV hi hc hs hP hD hS hl kk
      · refine lv_tableIn (x := nI 28) (off := 1702) (tgt := 1741) hx hcd dL_law_39 (by decide) (by decide) (by decide) (by decide) ?_
        exact law_carryOut C hV hi hc hs hP hD hS hl kk
      · refine lv_tableIn (x := nI 29) (off := 1715) (tgt := 1754) hx hcd dL_law_39 (by decide) (by decide) (by decide) (by decide) ?_
        exact law_undo C hV hi hc hs hP hD hS hl kk
      · refine lv_tableIn (x := nI 30) (off := 1759) (tgt := 1798) hx hcd dL_law_39 (by decide) (by decide) (by decide) (by decide) ?_
        exact law_digest C hV hi hc hs hP hD hS hl kk
      · refine lv_tableOut (x := nI 31) (tgt := 1812) hx hcd dL_law_39 (by decide) (by decide) ?_
        refine W.widen (k := cells + 1) (n := slots + 6) (Nat.le_add_right _ _) (Nat.le_add_right _ _) ?_
        exact kk F N M S n r L T x hh Sp Ot Sv hV H locs ls hP hD hS hl
